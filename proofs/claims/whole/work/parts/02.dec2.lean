theorem dX3_leaver_41 : decode cX3_leaver 41 = .ok (.iaload, 1) := by decide +kernel
theorem dX3_leaver_42 : decode cX3_leaver 42 = .ok (.aload_n 0, 1) := by decide +kernel
theorem dX3_leaver_43 : decode cX3_leaver 43 = .ok (.getfield 25, 3) := by decide +kernel
theorem dX3_leaver_46 : decode cX3_leaver 46 = .ok (.iload 4, 2) := by decide +kernel
theorem dX3_leaver_48 : decode cX3_leaver 48 = .ok (.aaload, 1) := by decide +kernel
theorem dX3_leaver_49 : decode cX3_leaver 49 = .ok (.getfield 150, 3) := by decide +kernel
theorem dX3_leaver_52 : decode cX3_leaver 52 = .ok (.if_icmp .le 34, 3) := by decide +kernel
theorem dX3_leaver_55 : decode cX3_leaver 55 = .ok (.aload_n 0, 1) := by decide +kernel
theorem dX3_leaver_56 : decode cX3_leaver 56 = .ok (.getfield 25, 3) := by decide +kernel
theorem dX3_leaver_59 : decode cX3_leaver 59 = .ok (.iload 4, 2) := by decide +kernel
theorem dX3_leaver_61 : decode cX3_leaver 61 = .ok (.aaload, 1) := by decide +kernel
theorem dX3_leaver_62 : decode cX3_leaver 62 = .ok (.aload_n 0, 1) := by decide +kernel
theorem dX3_leaver_63 : decode cX3_leaver 63 = .ok (.getfield 14, 3) := by decide +kernel
theorem dX3_leaver_66 : decode cX3_leaver 66 = .ok (.getfield 105, 3) := by decide +kernel
theorem dX3_leaver_69 : decode cX3_leaver 69 = .ok (.iload_n 3, 1) := by decide +kernel
theorem dX3_leaver_70 : decode cX3_leaver 70 = .ok (.iaload, 1) := by decide +kernel
theorem dX3_leaver_71 : decode cX3_leaver 71 = .ok (.invokevirtual 153, 3) := by decide +kernel
theorem dX3_leaver_74 : decode cX3_leaver 74 = .ok (.ifCond .eq 5, 3) := by decide +kernel
theorem dX3_leaver_77 : decode cX3_leaver 77 = .ok (.iload_n 3, 1) := by decide +kernel
theorem dX3_leaver_78 : decode cX3_leaver 78 = .ok (.ireturn, 1) := by decide +kernel
theorem dX3_leaver_79 : decode cX3_leaver 79 = .ok (.iload_n 2, 1) := by decide +kernel
theorem dX3_leaver_80 : decode cX3_leaver 80 = .ok (.iconst (-1), 1) := by decide +kernel
theorem dX3_leaver_81 : decode cX3_leaver 81 = .ok (.if_icmp .ne 5, 3) := by decide +kernel
theorem dX3_leaver_84 : decode cX3_leaver 84 = .ok (.iload_n 3, 1) := by decide +kernel
theorem dX3_leaver_85 : decode cX3_leaver 85 = .ok (.istore_n 2, 1) := by decide +kernel
theorem dX3_leaver_86 : decode cX3_leaver 86 = .ok (.iinc 3 1, 3) := by decide +kernel
theorem dX3_leaver_89 : decode cX3_leaver 89 = .ok (.goto (-85), 3) := by decide +kernel
theorem dX3_leaver_92 : decode cX3_leaver 92 = .ok (.iload_n 2, 1) := by decide +kernel
theorem dX3_leaver_93 : decode cX3_leaver 93 = .ok (.ireturn, 1) := by decide +kernel
theorem dX3_letGo_0 : decode cX3_letGo 0 = .ok (.aload_n 0, 1) := by decide +kernel
theorem dX3_letGo_1 : decode cX3_letGo 1 = .ok (.getfield 14, 3) := by decide +kernel
theorem dX3_letGo_4 : decode cX3_letGo 4 = .ok (.getfield 111, 3) := by decide +kernel
theorem dX3_letGo_7 : decode cX3_letGo 7 = .ok (.iload_n 1, 1) := by decide +kernel
theorem dX3_letGo_8 : decode cX3_letGo 8 = .ok (.iaload, 1) := by decide +kernel
theorem dX3_letGo_9 : decode cX3_letGo 9 = .ok (.iconst 1, 1) := by decide +kernel
theorem dX3_letGo_10 : decode cX3_letGo 10 = .ok (.if_icmp .ne 20, 3) := by decide +kernel
theorem dX3_letGo_13 : decode cX3_letGo 13 = .ok (.aload_n 0, 1) := by decide +kernel
theorem dX3_letGo_14 : decode cX3_letGo 14 = .ok (.getfield 25, 3) := by decide +kernel
theorem dX3_letGo_17 : decode cX3_letGo 17 = .ok (.aload_n 0, 1) := by decide +kernel
theorem dX3_letGo_18 : decode cX3_letGo 18 = .ok (.getfield 14, 3) := by decide +kernel
theorem dX3_letGo_21 : decode cX3_letGo 21 = .ok (.getfield 108, 3) := by decide +kernel
theorem dX3_letGo_24 : decode cX3_letGo 24 = .ok (.iload_n 1, 1) := by decide +kernel
theorem dX3_letGo_25 : decode cX3_letGo 25 = .ok (.iaload, 1) := by decide +kernel
theorem dX3_letGo_26 : decode cX3_letGo 26 = .ok (.aaload, 1) := by decide +kernel
theorem dX3_letGo_27 : decode cX3_letGo 27 = .ok (.invokevirtual 157, 3) := by decide +kernel
theorem dX3_letGo_30 : decode cX3_letGo 30 = .ok (.aload_n 0, 1) := by decide +kernel
theorem dX3_letGo_31 : decode cX3_letGo 31 = .ok (.getfield 14, 3) := by decide +kernel
theorem dX3_letGo_34 : decode cX3_letGo 34 = .ok (.iload_n 1, 1) := by decide +kernel
theorem dX3_letGo_35 : decode cX3_letGo 35 = .ok (.invokevirtual 117, 3) := by decide +kernel
theorem dX3_letGo_38 : decode cX3_letGo 38 = .ok (.return_, 1) := by decide +kernel
theorem dX3_turnAway_0 : decode cX3_turnAway 0 = .ok (.iload_n 2, 1) := by decide +kernel
theorem dX3_turnAway_1 : decode cX3_turnAway 1 = .ok (.iconst 1, 1) := by decide +kernel
theorem dX3_turnAway_2 : decode cX3_turnAway 2 = .ok (.if_icmp .ne 15, 3) := by decide +kernel
theorem dX3_turnAway_5 : decode cX3_turnAway 5 = .ok (.aload_n 0, 1) := by decide +kernel
theorem dX3_turnAway_6 : decode cX3_turnAway 6 = .ok (.getfield 25, 3) := by decide +kernel
theorem dX3_turnAway_9 : decode cX3_turnAway 9 = .ok (.iload_n 1, 1) := by decide +kernel
theorem dX3_turnAway_10 : decode cX3_turnAway 10 = .ok (.aaload, 1) := by decide +kernel
theorem dX3_turnAway_11 : decode cX3_turnAway 11 = .ok (.invokevirtual 157, 3) := by decide +kernel
theorem dX3_turnAway_14 : decode cX3_turnAway 14 = .ok (.goto 19, 3) := by decide +kernel
theorem dX3_turnAway_17 : decode cX3_turnAway 17 = .ok (.aload_n 0, 1) := by decide +kernel
theorem dX3_turnAway_18 : decode cX3_turnAway 18 = .ok (.getfield 25, 3) := by decide +kernel
theorem dX3_turnAway_21 : decode cX3_turnAway 21 = .ok (.iload_n 1, 1) := by decide +kernel
theorem dX3_turnAway_22 : decode cX3_turnAway 22 = .ok (.aaload, 1) := by decide +kernel
theorem dX3_turnAway_23 : decode cX3_turnAway 23 = .ok (.getfield 82, 3) := by decide +kernel
theorem dX3_turnAway_26 : decode cX3_turnAway 26 = .ok (.bipush 6, 2) := by decide +kernel
theorem dX3_turnAway_28 : decode cX3_turnAway 28 = .ok (.dup2, 1) := by decide +kernel
theorem dX3_turnAway_29 : decode cX3_turnAway 29 = .ok (.iaload, 1) := by decide +kernel
theorem dX3_turnAway_30 : decode cX3_turnAway 30 = .ok (.iconst 1, 1) := by decide +kernel
theorem dX3_turnAway_31 : decode cX3_turnAway 31 = .ok (.iadd, 1) := by decide +kernel
theorem dX3_turnAway_32 : decode cX3_turnAway 32 = .ok (.iastore, 1) := by decide +kernel
theorem dX3_turnAway_33 : decode cX3_turnAway 33 = .ok (.return_, 1) := by decide +kernel
theorem dX3_wish_0 : decode cX3_wish 0 = .ok (.aload_n 0, 1) := by decide +kernel
theorem dX3_wish_1 : decode cX3_wish 1 = .ok (.getfield 25, 3) := by decide +kernel
theorem dX3_wish_4 : decode cX3_wish 4 = .ok (.iload_n 1, 1) := by decide +kernel
theorem dX3_wish_5 : decode cX3_wish 5 = .ok (.aaload, 1) := by decide +kernel
theorem dX3_wish_6 : decode cX3_wish 6 = .ok (.astore_n 3, 1) := by decide +kernel
theorem dX3_wish_7 : decode cX3_wish 7 = .ok (.aload_n 3, 1) := by decide +kernel
theorem dX3_wish_8 : decode cX3_wish 8 = .ok (.getfield 160, 3) := by decide +kernel
theorem dX3_wish_11 : decode cX3_wish 11 = .ok (.tableswitch 111 1 5 #[33, 47, 71, 80, 33], 33) := by decide +kernel
theorem dX3_wish_44 : decode cX3_wish 44 = .ok (.aload_n 0, 1) := by decide +kernel
theorem dX3_wish_45 : decode cX3_wish 45 = .ok (.iload_n 1, 1) := by decide +kernel
theorem dX3_wish_46 : decode cX3_wish 46 = .ok (.iload_n 2, 1) := by decide +kernel
theorem dX3_wish_47 : decode cX3_wish 47 = .ok (.iconst 1, 1) := by decide +kernel
theorem dX3_wish_48 : decode cX3_wish 48 = .ok (.aload_n 3, 1) := by decide +kernel
theorem dX3_wish_49 : decode cX3_wish 49 = .ok (.getfield 163, 3) := by decide +kernel
theorem dX3_wish_52 : decode cX3_wish 52 = .ok (.invokevirtual 166, 3) := by decide +kernel
theorem dX3_wish_55 : decode cX3_wish 55 = .ok (.goto 67, 3) := by decide +kernel
theorem dX3_wish_58 : decode cX3_wish 58 = .ok (.aload_n 3, 1) := by decide +kernel
theorem dX3_wish_59 : decode cX3_wish 59 = .ok (.invokevirtual 170, 3) := by decide +kernel
theorem dX3_wish_62 : decode cX3_wish 62 = .ok (.ifCond .eq 60, 3) := by decide +kernel
theorem dX3_wish_65 : decode cX3_wish 65 = .ok (.aload_n 0, 1) := by decide +kernel
theorem dX3_wish_66 : decode cX3_wish 66 = .ok (.iload_n 1, 1) := by decide +kernel
theorem dX3_wish_67 : decode cX3_wish 67 = .ok (.iload_n 2, 1) := by decide +kernel
theorem dX3_wish_68 : decode cX3_wish 68 = .ok (.aload_n 3, 1) := by decide +kernel
theorem dX3_wish_69 : decode cX3_wish 69 = .ok (.getfield 174, 3) := by decide +kernel
theorem dX3_wish_72 : decode cX3_wish 72 = .ok (.aload_n 3, 1) := by decide +kernel
theorem dX3_wish_73 : decode cX3_wish 73 = .ok (.getfield 163, 3) := by decide +kernel
theorem dX3_wish_76 : decode cX3_wish 76 = .ok (.invokevirtual 166, 3) := by decide +kernel
theorem dX3_wish_79 : decode cX3_wish 79 = .ok (.goto 43, 3) := by decide +kernel
theorem dX3_wish_82 : decode cX3_wish 82 = .ok (.aload_n 0, 1) := by decide +kernel
theorem dX3_wish_83 : decode cX3_wish 83 = .ok (.iload_n 1, 1) := by decide +kernel
theorem dX3_wish_84 : decode cX3_wish 84 = .ok (.iload_n 2, 1) := by decide +kernel
theorem dX3_wish_85 : decode cX3_wish 85 = .ok (.invokevirtual 177, 3) := by decide +kernel
theorem dX3_wish_88 : decode cX3_wish 88 = .ok (.goto 34, 3) := by decide +kernel
theorem dX3_wish_91 : decode cX3_wish 91 = .ok (.aload_n 3, 1) := by decide +kernel
theorem dX3_wish_92 : decode cX3_wish 92 = .ok (.iload_n 2, 1) := by decide +kernel
theorem dX3_wish_93 : decode cX3_wish 93 = .ok (.invokevirtual 180, 3) := by decide +kernel
theorem dX3_wish_96 : decode cX3_wish 96 = .ok (.ifCond .eq 26, 3) := by decide +kernel
theorem dX3_wish_99 : decode cX3_wish 99 = .ok (.aload_n 0, 1) := by decide +kernel
theorem dX3_wish_100 : decode cX3_wish 100 = .ok (.iload_n 1, 1) := by decide +kernel
theorem dX3_wish_101 : decode cX3_wish 101 = .ok (.iload_n 2, 1) := by decide +kernel
theorem dX3_wish_102 : decode cX3_wish 102 = .ok (.iconst 1, 1) := by decide +kernel
theorem dX3_wish_103 : decode cX3_wish 103 = .ok (.aload_n 3, 1) := by decide +kernel
theorem dX3_wish_104 : decode cX3_wish 104 = .ok (.getfield 163, 3) := by decide +kernel
theorem dX3_wish_107 : decode cX3_wish 107 = .ok (.aload_n 3, 1) := by decide +kernel
theorem dX3_wish_108 : decode cX3_wish 108 = .ok (.getfield 183, 3) := by decide +kernel
theorem dX3_wish_111 : decode cX3_wish 111 = .ok (.iload_n 2, 1) := by decide +kernel
theorem dX3_wish_112 : decode cX3_wish 112 = .ok (.isub, 1) := by decide +kernel
theorem dX3_wish_113 : decode cX3_wish 113 = .ok (.invokestatic 186, 3) := by decide +kernel
theorem dX3_wish_116 : decode cX3_wish 116 = .ok (.invokevirtual 166, 3) := by decide +kernel
theorem dX3_wish_119 : decode cX3_wish 119 = .ok (.goto 3, 3) := by decide +kernel
theorem dX3_wish_122 : decode cX3_wish 122 = .ok (.return_, 1) := by decide +kernel
theorem dX3_wishBySteps_0 : decode cX3_wishBySteps 0 = .ok (.iconst 1, 1) := by decide +kernel
theorem dX3_wishBySteps_1 : decode cX3_wishBySteps 1 = .ok (.istore 5, 2) := by decide +kernel
theorem dX3_wishBySteps_3 : decode cX3_wishBySteps 3 = .ok (.iload 5, 2) := by decide +kernel
theorem dX3_wishBySteps_5 : decode cX3_wishBySteps 5 = .ok (.iload 4, 2) := by decide +kernel
theorem dX3_wishBySteps_7 : decode cX3_wishBySteps 7 = .ok (.if_icmp .gt 20, 3) := by decide +kernel
theorem dX3_wishBySteps_10 : decode cX3_wishBySteps 10 = .ok (.aload_n 0, 1) := by decide +kernel
theorem dX3_wishBySteps_11 : decode cX3_wishBySteps 11 = .ok (.iload_n 1, 1) := by decide +kernel
theorem dX3_wishBySteps_12 : decode cX3_wishBySteps 12 = .ok (.iload_n 2, 1) := by decide +kernel
theorem dX3_wishBySteps_13 : decode cX3_wishBySteps 13 = .ok (.iload 5, 2) := by decide +kernel
theorem dX3_wishBySteps_15 : decode cX3_wishBySteps 15 = .ok (.iload_n 3, 1) := by decide +kernel
theorem dX3_wishBySteps_16 : decode cX3_wishBySteps 16 = .ok (.imul, 1) := by decide +kernel
theorem dX3_wishBySteps_17 : decode cX3_wishBySteps 17 = .ok (.iadd, 1) := by decide +kernel
theorem dX3_wishBySteps_18 : decode cX3_wishBySteps 18 = .ok (.invokevirtual 189, 3) := by decide +kernel
theorem dX3_wishBySteps_21 : decode cX3_wishBySteps 21 = .ok (.iinc 5 1, 3) := by decide +kernel
theorem dX3_wishBySteps_24 : decode cX3_wishBySteps 24 = .ok (.goto (-21), 3) := by decide +kernel
theorem dX3_wishBySteps_27 : decode cX3_wishBySteps 27 = .ok (.return_, 1) := by decide +kernel
theorem dX3_wishWhatFollowed_0 : decode cX3_wishWhatFollowed 0 = .ok (.aload_n 0, 1) := by decide +kernel
theorem dX3_wishWhatFollowed_1 : decode cX3_wishWhatFollowed 1 = .ok (.getfield 25, 3) := by decide +kernel
theorem dX3_wishWhatFollowed_4 : decode cX3_wishWhatFollowed 4 = .ok (.iload_n 1, 1) := by decide +kernel
theorem dX3_wishWhatFollowed_5 : decode cX3_wishWhatFollowed 5 = .ok (.aaload, 1) := by decide +kernel
theorem dX3_wishWhatFollowed_6 : decode cX3_wishWhatFollowed 6 = .ok (.astore_n 3, 1) := by decide +kernel
theorem dX3_wishWhatFollowed_7 : decode cX3_wishWhatFollowed 7 = .ok (.aload_n 3, 1) := by decide +kernel
theorem dX3_wishWhatFollowed_8 : decode cX3_wishWhatFollowed 8 = .ok (.getfield 192, 3) := by decide +kernel
theorem dX3_wishWhatFollowed_11 : decode cX3_wishWhatFollowed 11 = .ok (.iload_n 2, 1) := by decide +kernel
theorem dX3_wishWhatFollowed_12 : decode cX3_wishWhatFollowed 12 = .ok (.iaload, 1) := by decide +kernel
theorem dX3_wishWhatFollowed_13 : decode cX3_wishWhatFollowed 13 = .ok (.istore 4, 2) := by decide +kernel
theorem dX3_wishWhatFollowed_15 : decode cX3_wishWhatFollowed 15 = .ok (.iconst 0, 1) := by decide +kernel
theorem dX3_wishWhatFollowed_16 : decode cX3_wishWhatFollowed 16 = .ok (.istore 5, 2) := by decide +kernel
theorem dX3_wishWhatFollowed_18 : decode cX3_wishWhatFollowed 18 = .ok (.iload 5, 2) := by decide +kernel
theorem dX3_wishWhatFollowed_20 : decode cX3_wishWhatFollowed 20 = .ok (.aload_n 3, 1) := by decide +kernel
theorem dX3_wishWhatFollowed_21 : decode cX3_wishWhatFollowed 21 = .ok (.getfield 163, 3) := by decide +kernel
theorem dX3_wishWhatFollowed_24 : decode cX3_wishWhatFollowed 24 = .ok (.if_icmp .ge 31, 3) := by decide +kernel
theorem dX3_wishWhatFollowed_27 : decode cX3_wishWhatFollowed 27 = .ok (.iload 4, 2) := by decide +kernel
theorem dX3_wishWhatFollowed_29 : decode cX3_wishWhatFollowed 29 = .ok (.iconst (-1), 1) := by decide +kernel
theorem dX3_wishWhatFollowed_30 : decode cX3_wishWhatFollowed 30 = .ok (.if_icmp .eq 25, 3) := by decide +kernel
theorem dX3_wishWhatFollowed_33 : decode cX3_wishWhatFollowed 33 = .ok (.aload_n 0, 1) := by decide +kernel
theorem dX3_wishWhatFollowed_34 : decode cX3_wishWhatFollowed 34 = .ok (.iload_n 1, 1) := by decide +kernel
theorem dX3_wishWhatFollowed_35 : decode cX3_wishWhatFollowed 35 = .ok (.iload 4, 2) := by decide +kernel
theorem dX3_wishWhatFollowed_37 : decode cX3_wishWhatFollowed 37 = .ok (.invokevirtual 189, 3) := by decide +kernel
theorem dX3_wishWhatFollowed_40 : decode cX3_wishWhatFollowed 40 = .ok (.aload_n 3, 1) := by decide +kernel
theorem dX3_wishWhatFollowed_41 : decode cX3_wishWhatFollowed 41 = .ok (.getfield 192, 3) := by decide +kernel
theorem dX3_wishWhatFollowed_44 : decode cX3_wishWhatFollowed 44 = .ok (.iload 4, 2) := by decide +kernel
theorem dX3_wishWhatFollowed_46 : decode cX3_wishWhatFollowed 46 = .ok (.iaload, 1) := by decide +kernel
theorem dX3_wishWhatFollowed_47 : decode cX3_wishWhatFollowed 47 = .ok (.istore 4, 2) := by decide +kernel
theorem dX3_wishWhatFollowed_49 : decode cX3_wishWhatFollowed 49 = .ok (.iinc 5 1, 3) := by decide +kernel
theorem dX3_wishWhatFollowed_52 : decode cX3_wishWhatFollowed 52 = .ok (.goto (-34), 3) := by decide +kernel
theorem dX3_wishWhatFollowed_55 : decode cX3_wishWhatFollowed 55 = .ok (.return_, 1) := by decide +kernel
theorem dX3_wishOne_0 : decode cX3_wishOne 0 = .ok (.iload_n 2, 1) := by decide +kernel
theorem dX3_wishOne_1 : decode cX3_wishOne 1 = .ok (.invokestatic 195, 3) := by decide +kernel
theorem dX3_wishOne_4 : decode cX3_wishOne 4 = .ok (.ifCond .eq 47, 3) := by decide +kernel
theorem dX3_wishOne_7 : decode cX3_wishOne 7 = .ok (.aload_n 0, 1) := by decide +kernel
theorem dX3_wishOne_8 : decode cX3_wishOne 8 = .ok (.getfield 20, 3) := by decide +kernel
theorem dX3_wishOne_11 : decode cX3_wishOne 11 = .ok (.invokevirtual 198, 3) := by decide +kernel
theorem dX3_wishOne_14 : decode cX3_wishOne 14 = .ok (.ifCond .eq 37, 3) := by decide +kernel
theorem dX3_wishOne_17 : decode cX3_wishOne 17 = .ok (.aload_n 0, 1) := by decide +kernel
theorem dX3_wishOne_18 : decode cX3_wishOne 18 = .ok (.getfield 14, 3) := by decide +kernel
theorem dX3_wishOne_21 : decode cX3_wishOne 21 = .ok (.iload_n 2, 1) := by decide +kernel
theorem dX3_wishOne_22 : decode cX3_wishOne 22 = .ok (.invokevirtual 85, 3) := by decide +kernel
theorem dX3_wishOne_25 : decode cX3_wishOne 25 = .ok (.iconst (-1), 1) := by decide +kernel
theorem dX3_wishOne_26 : decode cX3_wishOne 26 = .ok (.if_icmp .ne 25, 3) := by decide +kernel
theorem dX3_wishOne_29 : decode cX3_wishOne 29 = .ok (.aload_n 0, 1) := by decide +kernel
theorem dX3_wishOne_30 : decode cX3_wishOne 30 = .ok (.getfield 20, 3) := by decide +kernel
theorem dX3_wishOne_33 : decode cX3_wishOne 33 = .ok (.iload_n 2, 1) := by decide +kernel
theorem dX3_wishOne_34 : decode cX3_wishOne 34 = .ok (.invokevirtual 85, 3) := by decide +kernel
theorem dX3_wishOne_37 : decode cX3_wishOne 37 = .ok (.iconst (-1), 1) := by decide +kernel
theorem dX3_wishOne_38 : decode cX3_wishOne 38 = .ok (.if_icmp .ne 13, 3) := by decide +kernel
theorem dX3_wishOne_41 : decode cX3_wishOne 41 = .ok (.aload_n 0, 1) := by decide +kernel
theorem dX3_wishOne_42 : decode cX3_wishOne 42 = .ok (.getfield 20, 3) := by decide +kernel
theorem dX3_wishOne_45 : decode cX3_wishOne 45 = .ok (.iload_n 2, 1) := by decide +kernel
theorem dX3_wishOne_46 : decode cX3_wishOne 46 = .ok (.iload_n 1, 1) := by decide +kernel
theorem dX3_wishOne_47 : decode cX3_wishOne 47 = .ok (.iconst 1, 1) := by decide +kernel
theorem dX3_wishOne_48 : decode cX3_wishOne 48 = .ok (.invokevirtual 120, 3) := by decide +kernel
theorem dX3_wishOne_51 : decode cX3_wishOne 51 = .ok (.return_, 1) := by decide +kernel
theorem dX3_asked_0 : decode cX3_asked 0 = .ok (.aload_n 0, 1) := by decide +kernel
theorem dX3_asked_1 : decode cX3_asked 1 = .ok (.getfield 29, 3) := by decide +kernel
theorem dX3_asked_4 : decode cX3_asked 4 = .ok (.iload_n 1, 1) := by decide +kernel
theorem dX3_asked_5 : decode cX3_asked 5 = .ok (.invokestatic 78, 3) := by decide +kernel
theorem dX3_asked_8 : decode cX3_asked 8 = .ok (.iaload, 1) := by decide +kernel
theorem dX3_asked_9 : decode cX3_asked 9 = .ok (.ireturn, 1) := by decide +kernel
theorem dX3_placeInRow_0 : decode cX3_placeInRow 0 = .ok (.iload_n 0, 1) := by decide +kernel
theorem dX3_placeInRow_1 : decode cX3_placeInRow 1 = .ok (.bipush 24, 2) := by decide +kernel
theorem dX3_placeInRow_3 : decode cX3_placeInRow 3 = .ok (.invokestatic 201, 3) := by decide +kernel
theorem dX3_placeInRow_6 : decode cX3_placeInRow 6 = .ok (.ireturn, 1) := by decide +kernel
theorem dX4_init_0 : decode cX4_init 0 = .ok (.aload_n 0, 1) := by decide +kernel
theorem dX4_init_1 : decode cX4_init 1 = .ok (.invokespecial 1, 3) := by decide +kernel
theorem dX4_init_4 : decode cX4_init 4 = .ok (.aload_n 0, 1) := by decide +kernel
theorem dX4_init_5 : decode cX4_init 5 = .ok (.new 7, 3) := by decide +kernel
theorem dX4_init_8 : decode cX4_init 8 = .ok (.dup, 1) := by decide +kernel
theorem dX4_init_9 : decode cX4_init 9 = .ok (.invokespecial 9, 3) := by decide +kernel
theorem dX4_init_12 : decode cX4_init 12 = .ok (.putfield 10, 3) := by decide +kernel
theorem dX4_init_15 : decode cX4_init 15 = .ok (.aload_n 0, 1) := by decide +kernel
theorem dX4_init_16 : decode cX4_init 16 = .ok (.iconst 2, 1) := by decide +kernel
theorem dX4_init_17 : decode cX4_init 17 = .ok (.anewarray 7, 3) := by decide +kernel
theorem dX4_init_20 : decode cX4_init 20 = .ok (.putfield 16, 3) := by decide +kernel
theorem dX4_init_23 : decode cX4_init 23 = .ok (.aload_n 0, 1) := by decide +kernel
theorem dX4_init_24 : decode cX4_init 24 = .ok (.iconst 2, 1) := by decide +kernel
theorem dX4_init_25 : decode cX4_init 25 = .ok (.newarray .boolean, 2) := by decide +kernel
theorem dX4_init_27 : decode cX4_init 27 = .ok (.putfield 20, 3) := by decide +kernel
theorem dX4_init_30 : decode cX4_init 30 = .ok (.aload_n 0, 1) := by decide +kernel
theorem dX4_init_31 : decode cX4_init 31 = .ok (.new 24, 3) := by decide +kernel
theorem dX4_init_34 : decode cX4_init 34 = .ok (.dup, 1) := by decide +kernel
theorem dX4_init_35 : decode cX4_init 35 = .ok (.invokespecial 26, 3) := by decide +kernel
theorem dX4_init_38 : decode cX4_init 38 = .ok (.putfield 27, 3) := by decide +kernel
theorem dX4_init_41 : decode cX4_init 41 = .ok (.iconst 0, 1) := by decide +kernel
theorem dX4_init_42 : decode cX4_init 42 = .ok (.istore_n 1, 1) := by decide +kernel
theorem dX4_init_43 : decode cX4_init 43 = .ok (.iload_n 1, 1) := by decide +kernel
theorem dX4_init_44 : decode cX4_init 44 = .ok (.iconst 2, 1) := by decide +kernel
theorem dX4_init_45 : decode cX4_init 45 = .ok (.if_icmp .ge 22, 3) := by decide +kernel
theorem dX4_init_48 : decode cX4_init 48 = .ok (.aload_n 0, 1) := by decide +kernel
theorem dX4_init_49 : decode cX4_init 49 = .ok (.getfield 16, 3) := by decide +kernel
theorem dX4_init_52 : decode cX4_init 52 = .ok (.iload_n 1, 1) := by decide +kernel
theorem dX4_init_53 : decode cX4_init 53 = .ok (.new 7, 3) := by decide +kernel
theorem dX4_init_56 : decode cX4_init 56 = .ok (.dup, 1) := by decide +kernel
theorem dX4_init_57 : decode cX4_init 57 = .ok (.invokespecial 9, 3) := by decide +kernel
theorem dX4_init_60 : decode cX4_init 60 = .ok (.aastore, 1) := by decide +kernel
theorem dX4_init_61 : decode cX4_init 61 = .ok (.iinc 1 1, 3) := by decide +kernel
theorem dX4_init_64 : decode cX4_init 64 = .ok (.goto (-21), 3) := by decide +kernel
theorem dX4_init_67 : decode cX4_init 67 = .ok (.return_, 1) := by decide +kernel
theorem dX4_clear_0 : decode cX4_clear 0 = .ok (.iload_n 1, 1) := by decide +kernel
theorem dX4_clear_1 : decode cX4_clear 1 = .ok (.iconst 1, 1) := by decide +kernel
theorem dX4_clear_2 : decode cX4_clear 2 = .ok (.bipush 12, 2) := by decide +kernel
theorem dX4_clear_4 : decode cX4_clear 4 = .ok (.invokestatic 31, 3) := by decide +kernel
theorem dX4_clear_7 : decode cX4_clear 7 = .ok (.ifCond .eq 21, 3) := by decide +kernel
theorem dX4_clear_10 : decode cX4_clear 10 = .ok (.iload_n 2, 1) := by decide +kernel
theorem dX4_clear_11 : decode cX4_clear 11 = .ok (.iconst 1, 1) := by decide +kernel
theorem dX4_clear_12 : decode cX4_clear 12 = .ok (.iconst 3, 1) := by decide +kernel
theorem dX4_clear_13 : decode cX4_clear 13 = .ok (.invokestatic 31, 3) := by decide +kernel
theorem dX4_clear_16 : decode cX4_clear 16 = .ok (.ifCond .eq 12, 3) := by decide +kernel
theorem dX4_clear_19 : decode cX4_clear 19 = .ok (.iload_n 3, 1) := by decide +kernel
theorem dX4_clear_20 : decode cX4_clear 20 = .ok (.iconst 1, 1) := by decide +kernel
theorem dX4_clear_21 : decode cX4_clear 21 = .ok (.iconst 4, 1) := by decide +kernel
theorem dX4_clear_22 : decode cX4_clear 22 = .ok (.invokestatic 31, 3) := by decide +kernel
theorem dX4_clear_25 : decode cX4_clear 25 = .ok (.ifCond .ne 6, 3) := by decide +kernel
theorem dX4_clear_28 : decode cX4_clear 28 = .ok (.bipush (-102), 2) := by decide +kernel
theorem dX4_clear_30 : decode cX4_clear 30 = .ok (.ireturn, 1) := by decide +kernel
theorem dX4_clear_31 : decode cX4_clear 31 = .ok (.aload_n 0, 1) := by decide +kernel
theorem dX4_clear_32 : decode cX4_clear 32 = .ok (.getfield 10, 3) := by decide +kernel
theorem dX4_clear_35 : decode cX4_clear 35 = .ok (.getfield 35, 3) := by decide +kernel
theorem dX4_clear_38 : decode cX4_clear 38 = .ok (.istore 4, 2) := by decide +kernel
theorem dX4_clear_40 : decode cX4_clear 40 = .ok (.aload_n 0, 1) := by decide +kernel
theorem dX4_clear_41 : decode cX4_clear 41 = .ok (.getfield 10, 3) := by decide +kernel
theorem dX4_clear_44 : decode cX4_clear 44 = .ok (.iload_n 1, 1) := by decide +kernel
theorem dX4_clear_45 : decode cX4_clear 45 = .ok (.iload_n 2, 1) := by decide +kernel
theorem dX4_clear_46 : decode cX4_clear 46 = .ok (.iload_n 3, 1) := by decide +kernel
theorem dX4_clear_47 : decode cX4_clear 47 = .ok (.invokevirtual 39, 3) := by decide +kernel
theorem dX4_clear_50 : decode cX4_clear 50 = .ok (.iload 4, 2) := by decide +kernel
theorem dX4_clear_52 : decode cX4_clear 52 = .ok (.ireturn, 1) := by decide +kernel
theorem dX4_share_0 : decode cX4_share 0 = .ok (.iload_n 1, 1) := by decide +kernel
theorem dX4_share_1 : decode cX4_share 1 = .ok (.invokestatic 43, 3) := by decide +kernel
theorem dX4_share_4 : decode cX4_share 4 = .ok (.ifCond .ne 6, 3) := by decide +kernel
theorem dX4_share_7 : decode cX4_share 7 = .ok (.bipush (-101), 2) := by decide +kernel
theorem dX4_share_9 : decode cX4_share 9 = .ok (.ireturn, 1) := by decide +kernel
theorem dX4_share_10 : decode cX4_share 10 = .ok (.iload_n 2, 1) := by decide +kernel
theorem dX4_share_11 : decode cX4_share 11 = .ok (.iconst 0, 1) := by decide +kernel
theorem dX4_share_12 : decode cX4_share 12 = .ok (.bipush 12, 2) := by decide +kernel
theorem dX4_share_14 : decode cX4_share 14 = .ok (.invokestatic 31, 3) := by decide +kernel
theorem dX4_share_17 : decode cX4_share 17 = .ok (.ifCond .ne 6, 3) := by decide +kernel
theorem dX4_share_20 : decode cX4_share 20 = .ok (.bipush (-102), 2) := by decide +kernel
theorem dX4_share_22 : decode cX4_share 22 = .ok (.ireturn, 1) := by decide +kernel
theorem dX4_share_23 : decode cX4_share 23 = .ok (.aload_n 0, 1) := by decide +kernel
theorem dX4_share_24 : decode cX4_share 24 = .ok (.getfield 10, 3) := by decide +kernel
theorem dX4_share_27 : decode cX4_share 27 = .ok (.getfield 47, 3) := by decide +kernel
theorem dX4_share_30 : decode cX4_share 30 = .ok (.iload_n 1, 1) := by decide +kernel
theorem dX4_share_31 : decode cX4_share 31 = .ok (.aaload, 1) := by decide +kernel
theorem dX4_share_32 : decode cX4_share 32 = .ok (.getfield 51, 3) := by decide +kernel
theorem dX4_share_35 : decode cX4_share 35 = .ok (.istore_n 3, 1) := by decide +kernel
theorem dX4_share_36 : decode cX4_share 36 = .ok (.aload_n 0, 1) := by decide +kernel
theorem dX4_share_37 : decode cX4_share 37 = .ok (.bipush 8, 2) := by decide +kernel
theorem dX4_share_39 : decode cX4_share 39 = .ok (.invokevirtual 56, 3) := by decide +kernel
theorem dX4_share_42 : decode cX4_share 42 = .ok (.iload_n 3, 1) := by decide +kernel
theorem dX4_share_43 : decode cX4_share 43 = .ok (.isub, 1) := by decide +kernel
theorem dX4_share_44 : decode cX4_share 44 = .ok (.iload_n 2, 1) := by decide +kernel
theorem dX4_share_45 : decode cX4_share 45 = .ok (.iadd, 1) := by decide +kernel
theorem dX4_share_46 : decode cX4_share 46 = .ok (.aload_n 0, 1) := by decide +kernel
theorem dX4_share_47 : decode cX4_share 47 = .ok (.getfield 10, 3) := by decide +kernel
theorem dX4_share_50 : decode cX4_share 50 = .ok (.getfield 60, 3) := by decide +kernel
theorem dX4_share_53 : decode cX4_share 53 = .ok (.if_icmp .le 6, 3) := by decide +kernel
theorem dX4_share_56 : decode cX4_share 56 = .ok (.bipush (-103), 2) := by decide +kernel
theorem dX4_share_58 : decode cX4_share 58 = .ok (.ireturn, 1) := by decide +kernel
theorem dX4_share_59 : decode cX4_share 59 = .ok (.aload_n 0, 1) := by decide +kernel
theorem dX4_share_60 : decode cX4_share 60 = .ok (.getfield 10, 3) := by decide +kernel
theorem dX4_share_63 : decode cX4_share 63 = .ok (.getfield 47, 3) := by decide +kernel
theorem dX4_share_66 : decode cX4_share 66 = .ok (.iload_n 1, 1) := by decide +kernel
theorem dX4_share_67 : decode cX4_share 67 = .ok (.aaload, 1) := by decide +kernel
theorem dX4_share_68 : decode cX4_share 68 = .ok (.iload_n 2, 1) := by decide +kernel
theorem dX4_share_69 : decode cX4_share 69 = .ok (.putfield 51, 3) := by decide +kernel
theorem dX4_share_72 : decode cX4_share 72 = .ok (.iload_n 3, 1) := by decide +kernel
theorem dX4_share_73 : decode cX4_share 73 = .ok (.ireturn, 1) := by decide +kernel
theorem dX4_kind_0 : decode cX4_kind 0 = .ok (.iload_n 1, 1) := by decide +kernel
theorem dX4_kind_1 : decode cX4_kind 1 = .ok (.invokestatic 43, 3) := by decide +kernel
theorem dX4_kind_4 : decode cX4_kind 4 = .ok (.ifCond .ne 6, 3) := by decide +kernel
theorem dX4_kind_7 : decode cX4_kind 7 = .ok (.bipush (-101), 2) := by decide +kernel
theorem dX4_kind_9 : decode cX4_kind 9 = .ok (.ireturn, 1) := by decide +kernel
theorem dX4_kind_10 : decode cX4_kind 10 = .ok (.iload_n 2, 1) := by decide +kernel
theorem dX4_kind_11 : decode cX4_kind 11 = .ok (.iconst 0, 1) := by decide +kernel
theorem dX4_kind_12 : decode cX4_kind 12 = .ok (.iconst 5, 1) := by decide +kernel
theorem dX4_kind_13 : decode cX4_kind 13 = .ok (.invokestatic 31, 3) := by decide +kernel
theorem dX4_kind_16 : decode cX4_kind 16 = .ok (.ifCond .eq 13, 3) := by decide +kernel
theorem dX4_kind_19 : decode cX4_kind 19 = .ok (.iload_n 3, 1) := by decide +kernel
theorem dX4_kind_20 : decode cX4_kind 20 = .ok (.iconst 0, 1) := by decide +kernel
theorem dX4_kind_21 : decode cX4_kind 21 = .ok (.bipush 8, 2) := by decide +kernel
theorem dX4_kind_23 : decode cX4_kind 23 = .ok (.invokestatic 31, 3) := by decide +kernel
theorem dX4_kind_26 : decode cX4_kind 26 = .ok (.ifCond .ne 6, 3) := by decide +kernel
theorem dX4_kind_29 : decode cX4_kind 29 = .ok (.bipush (-102), 2) := by decide +kernel
theorem dX4_kind_31 : decode cX4_kind 31 = .ok (.ireturn, 1) := by decide +kernel
theorem dX4_kind_32 : decode cX4_kind 32 = .ok (.aload_n 0, 1) := by decide +kernel
theorem dX4_kind_33 : decode cX4_kind 33 = .ok (.getfield 10, 3) := by decide +kernel
theorem dX4_kind_36 : decode cX4_kind 36 = .ok (.getfield 47, 3) := by decide +kernel
theorem dX4_kind_39 : decode cX4_kind 39 = .ok (.iload_n 1, 1) := by decide +kernel
theorem dX4_kind_40 : decode cX4_kind 40 = .ok (.aaload, 1) := by decide +kernel
theorem dX4_kind_41 : decode cX4_kind 41 = .ok (.getfield 63, 3) := by decide +kernel
theorem dX4_kind_44 : decode cX4_kind 44 = .ok (.istore 4, 2) := by decide +kernel
theorem dX4_kind_46 : decode cX4_kind 46 = .ok (.aload_n 0, 1) := by decide +kernel
theorem dX4_kind_47 : decode cX4_kind 47 = .ok (.getfield 10, 3) := by decide +kernel
theorem dX4_kind_50 : decode cX4_kind 50 = .ok (.getfield 47, 3) := by decide +kernel
theorem dX4_kind_53 : decode cX4_kind 53 = .ok (.iload_n 1, 1) := by decide +kernel
theorem dX4_kind_54 : decode cX4_kind 54 = .ok (.aaload, 1) := by decide +kernel
theorem dX4_kind_55 : decode cX4_kind 55 = .ok (.iload_n 2, 1) := by decide +kernel
theorem dX4_kind_56 : decode cX4_kind 56 = .ok (.iload_n 3, 1) := by decide +kernel
theorem dX4_kind_57 : decode cX4_kind 57 = .ok (.invokevirtual 66, 3) := by decide +kernel
theorem dX4_kind_60 : decode cX4_kind 60 = .ok (.iload 4, 2) := by decide +kernel
theorem dX4_kind_62 : decode cX4_kind 62 = .ok (.ireturn, 1) := by decide +kernel
theorem dX4_hint_0 : decode cX4_hint 0 = .ok (.iload_n 1, 1) := by decide +kernel
theorem dX4_hint_1 : decode cX4_hint 1 = .ok (.invokestatic 43, 3) := by decide +kernel
theorem dX4_hint_4 : decode cX4_hint 4 = .ok (.ifCond .ne 6, 3) := by decide +kernel
theorem dX4_hint_7 : decode cX4_hint 7 = .ok (.bipush (-101), 2) := by decide +kernel
theorem dX4_hint_9 : decode cX4_hint 9 = .ok (.ireturn, 1) := by decide +kernel
theorem dX4_hint_10 : decode cX4_hint 10 = .ok (.iload_n 2, 1) := by decide +kernel
theorem dX4_hint_11 : decode cX4_hint 11 = .ok (.invokestatic 70, 3) := by decide +kernel
theorem dX4_hint_14 : decode cX4_hint 14 = .ok (.ifCond .eq 15, 3) := by decide +kernel
theorem dX4_hint_17 : decode cX4_hint 17 = .ok (.iload_n 3, 1) := by decide +kernel
theorem dX4_hint_18 : decode cX4_hint 18 = .ok (.invokestatic 70, 3) := by decide +kernel
theorem dX4_hint_21 : decode cX4_hint 21 = .ok (.ifCond .eq 8, 3) := by decide +kernel
theorem dX4_hint_24 : decode cX4_hint 24 = .ok (.iload_n 2, 1) := by decide +kernel
theorem dX4_hint_25 : decode cX4_hint 25 = .ok (.iload_n 3, 1) := by decide +kernel
theorem dX4_hint_26 : decode cX4_hint 26 = .ok (.if_icmp .le 6, 3) := by decide +kernel
theorem dX4_hint_29 : decode cX4_hint 29 = .ok (.bipush (-102), 2) := by decide +kernel
theorem dX4_hint_31 : decode cX4_hint 31 = .ok (.ireturn, 1) := by decide +kernel
theorem dX4_hint_32 : decode cX4_hint 32 = .ok (.aload_n 0, 1) := by decide +kernel
theorem dX4_hint_33 : decode cX4_hint 33 = .ok (.getfield 10, 3) := by decide +kernel
theorem dX4_hint_36 : decode cX4_hint 36 = .ok (.getfield 47, 3) := by decide +kernel
theorem dX4_hint_39 : decode cX4_hint 39 = .ok (.iload_n 1, 1) := by decide +kernel
theorem dX4_hint_40 : decode cX4_hint 40 = .ok (.aaload, 1) := by decide +kernel
theorem dX4_hint_41 : decode cX4_hint 41 = .ok (.astore 4, 2) := by decide +kernel
theorem dX4_hint_43 : decode cX4_hint 43 = .ok (.aload 4, 2) := by decide +kernel
theorem dX4_hint_45 : decode cX4_hint 45 = .ok (.getfield 63, 3) := by decide +kernel
theorem dX4_hint_48 : decode cX4_hint 48 = .ok (.iconst 4, 1) := by decide +kernel
theorem dX4_hint_49 : decode cX4_hint 49 = .ok (.if_icmp .eq 6, 3) := by decide +kernel
theorem dX4_hint_52 : decode cX4_hint 52 = .ok (.bipush (-103), 2) := by decide +kernel
theorem dX4_hint_54 : decode cX4_hint 54 = .ok (.ireturn, 1) := by decide +kernel
theorem dX4_hint_55 : decode cX4_hint 55 = .ok (.aload 4, 2) := by decide +kernel
theorem dX4_hint_57 : decode cX4_hint 57 = .ok (.iload_n 2, 1) := by decide +kernel
theorem dX4_hint_58 : decode cX4_hint 58 = .ok (.putfield 73, 3) := by decide +kernel
theorem dX4_hint_61 : decode cX4_hint 61 = .ok (.aload 4, 2) := by decide +kernel
theorem dX4_hint_63 : decode cX4_hint 63 = .ok (.iload_n 3, 1) := by decide +kernel
theorem dX4_hint_64 : decode cX4_hint 64 = .ok (.putfield 76, 3) := by decide +kernel
theorem dX4_hint_67 : decode cX4_hint 67 = .ok (.iconst 1, 1) := by decide +kernel
theorem dX4_hint_68 : decode cX4_hint 68 = .ok (.ireturn, 1) := by decide +kernel
theorem dX4_ask_0 : decode cX4_ask 0 = .ok (.iload_n 1, 1) := by decide +kernel
theorem dX4_ask_1 : decode cX4_ask 1 = .ok (.invokestatic 43, 3) := by decide +kernel
theorem dX4_ask_4 : decode cX4_ask 4 = .ok (.ifCond .ne 6, 3) := by decide +kernel
theorem dX4_ask_7 : decode cX4_ask 7 = .ok (.bipush (-101), 2) := by decide +kernel
theorem dX4_ask_9 : decode cX4_ask 9 = .ok (.ireturn, 1) := by decide +kernel
theorem dX4_ask_10 : decode cX4_ask 10 = .ok (.iload_n 2, 1) := by decide +kernel
theorem dX4_ask_11 : decode cX4_ask 11 = .ok (.invokestatic 70, 3) := by decide +kernel
theorem dX4_ask_14 : decode cX4_ask 14 = .ok (.ifCond .ne 6, 3) := by decide +kernel
theorem dX4_ask_17 : decode cX4_ask 17 = .ok (.bipush (-102), 2) := by decide +kernel
theorem dX4_ask_19 : decode cX4_ask 19 = .ok (.ireturn, 1) := by decide +kernel
theorem dX4_ask_20 : decode cX4_ask 20 = .ok (.aload_n 0, 1) := by decide +kernel
theorem dX4_ask_21 : decode cX4_ask 21 = .ok (.getfield 10, 3) := by decide +kernel
theorem dX4_ask_24 : decode cX4_ask 24 = .ok (.iload_n 1, 1) := by decide +kernel
theorem dX4_ask_25 : decode cX4_ask 25 = .ok (.iload_n 2, 1) := by decide +kernel
theorem dX4_ask_26 : decode cX4_ask 26 = .ok (.invokevirtual 79, 3) := by decide +kernel
theorem dX4_ask_29 : decode cX4_ask 29 = .ok (.ireturn, 1) := by decide +kernel
theorem dX4_idle_0 : decode cX4_idle 0 = .ok (.iload_n 1, 1) := by decide +kernel
theorem dX4_idle_1 : decode cX4_idle 1 = .ok (.iconst 0, 1) := by decide +kernel
theorem dX4_idle_2 : decode cX4_idle 2 = .ok (.bipush 64, 2) := by decide +kernel
theorem dX4_idle_4 : decode cX4_idle 4 = .ok (.invokestatic 31, 3) := by decide +kernel
theorem dX4_idle_7 : decode cX4_idle 7 = .ok (.ifCond .ne 6, 3) := by decide +kernel
theorem dX4_idle_10 : decode cX4_idle 10 = .ok (.bipush (-102), 2) := by decide +kernel
theorem dX4_idle_12 : decode cX4_idle 12 = .ok (.ireturn, 1) := by decide +kernel
theorem dX4_idle_13 : decode cX4_idle 13 = .ok (.iconst 0, 1) := by decide +kernel
theorem dX4_idle_14 : decode cX4_idle 14 = .ok (.istore_n 2, 1) := by decide +kernel
theorem dX4_idle_15 : decode cX4_idle 15 = .ok (.iconst 0, 1) := by decide +kernel
theorem dX4_idle_16 : decode cX4_idle 16 = .ok (.istore_n 3, 1) := by decide +kernel
theorem dX4_idle_17 : decode cX4_idle 17 = .ok (.iload_n 3, 1) := by decide +kernel
theorem dX4_idle_18 : decode cX4_idle 18 = .ok (.iload_n 1, 1) := by decide +kernel
theorem dX4_idle_19 : decode cX4_idle 19 = .ok (.if_icmp .ge 21, 3) := by decide +kernel
theorem dX4_idle_22 : decode cX4_idle 22 = .ok (.iload_n 2, 1) := by decide +kernel
theorem dX4_idle_23 : decode cX4_idle 23 = .ok (.aload_n 0, 1) := by decide +kernel
theorem dX4_idle_24 : decode cX4_idle 24 = .ok (.getfield 10, 3) := by decide +kernel
theorem dX4_idle_27 : decode cX4_idle 27 = .ok (.iconst (-1), 1) := by decide +kernel
theorem dX4_idle_28 : decode cX4_idle 28 = .ok (.iconst (-1), 1) := by decide +kernel
theorem dX4_idle_29 : decode cX4_idle 29 = .ok (.invokevirtual 83, 3) := by decide +kernel
theorem dX4_idle_32 : decode cX4_idle 32 = .ok (.iadd, 1) := by decide +kernel
theorem dX4_idle_33 : decode cX4_idle 33 = .ok (.istore_n 2, 1) := by decide +kernel
theorem dX4_idle_34 : decode cX4_idle 34 = .ok (.iinc 3 1, 3) := by decide +kernel
theorem dX4_idle_37 : decode cX4_idle 37 = .ok (.goto (-20), 3) := by decide +kernel
theorem dX4_idle_40 : decode cX4_idle 40 = .ok (.iload_n 2, 1) := by decide +kernel
theorem dX4_idle_41 : decode cX4_idle 41 = .ok (.ireturn, 1) := by decide +kernel
theorem dX4_told_0 : decode cX4_told 0 = .ok (.iload_n 1, 1) := by decide +kernel
theorem dX4_told_1 : decode cX4_told 1 = .ok (.iconst (-1), 1) := by decide +kernel
theorem dX4_told_2 : decode cX4_told 2 = .ok (.if_icmp .eq 13, 3) := by decide +kernel
theorem dX4_told_5 : decode cX4_told 5 = .ok (.iload_n 1, 1) := by decide +kernel
theorem dX4_told_6 : decode cX4_told 6 = .ok (.invokestatic 43, 3) := by decide +kernel
theorem dX4_told_9 : decode cX4_told 9 = .ok (.ifCond .ne 6, 3) := by decide +kernel
theorem dX4_told_12 : decode cX4_told 12 = .ok (.bipush (-101), 2) := by decide +kernel
theorem dX4_told_14 : decode cX4_told 14 = .ok (.ireturn, 1) := by decide +kernel
theorem dX4_told_15 : decode cX4_told 15 = .ok (.iload_n 2, 1) := by decide +kernel
theorem dX4_told_16 : decode cX4_told 16 = .ok (.iconst 0, 1) := by decide +kernel
theorem dX4_told_17 : decode cX4_told 17 = .ok (.bipush 9, 2) := by decide +kernel
theorem dX4_told_19 : decode cX4_told 19 = .ok (.invokestatic 31, 3) := by decide +kernel
theorem dX4_told_22 : decode cX4_told 22 = .ok (.ifCond .ne 6, 3) := by decide +kernel
theorem dX4_told_25 : decode cX4_told 25 = .ok (.bipush (-102), 2) := by decide +kernel
theorem dX4_told_27 : decode cX4_told 27 = .ok (.ireturn, 1) := by decide +kernel
theorem dX4_told_28 : decode cX4_told 28 = .ok (.iload_n 1, 1) := by decide +kernel
theorem dX4_told_29 : decode cX4_told 29 = .ok (.iconst (-1), 1) := by decide +kernel
theorem dX4_told_30 : decode cX4_told 30 = .ok (.if_icmp .ne 11, 3) := by decide +kernel
theorem dX4_told_33 : decode cX4_told 33 = .ok (.aload_n 0, 1) := by decide +kernel
theorem dX4_told_34 : decode cX4_told 34 = .ok (.iload_n 2, 1) := by decide +kernel
theorem dX4_told_35 : decode cX4_told 35 = .ok (.invokevirtual 56, 3) := by decide +kernel
theorem dX4_told_38 : decode cX4_told 38 = .ok (.goto 9, 3) := by decide +kernel
theorem dX4_told_41 : decode cX4_told 41 = .ok (.aload_n 0, 1) := by decide +kernel
theorem dX4_told_42 : decode cX4_told 42 = .ok (.iload_n 1, 1) := by decide +kernel
theorem dX4_told_43 : decode cX4_told 43 = .ok (.iload_n 2, 1) := by decide +kernel
theorem dX4_told_44 : decode cX4_told 44 = .ok (.invokevirtual 86, 3) := by decide +kernel
theorem dX4_told_47 : decode cX4_told 47 = .ok (.ireturn, 1) := by decide +kernel
theorem dX4_reach_0 : decode cX4_reach 0 = .ok (.iload_n 1, 1) := by decide +kernel
theorem dX4_reach_1 : decode cX4_reach 1 = .ok (.invokestatic 43, 3) := by decide +kernel
theorem dX4_reach_4 : decode cX4_reach 4 = .ok (.ifCond .eq 18, 3) := by decide +kernel
theorem dX4_reach_7 : decode cX4_reach 7 = .ok (.aload_n 0, 1) := by decide +kernel
theorem dX4_reach_8 : decode cX4_reach 8 = .ok (.getfield 10, 3) := by decide +kernel
theorem dX4_reach_11 : decode cX4_reach 11 = .ok (.getfield 47, 3) := by decide +kernel
theorem dX4_reach_14 : decode cX4_reach 14 = .ok (.iload_n 1, 1) := by decide +kernel
theorem dX4_reach_15 : decode cX4_reach 15 = .ok (.aaload, 1) := by decide +kernel
theorem dX4_reach_16 : decode cX4_reach 16 = .ok (.getfield 89, 3) := by decide +kernel
theorem dX4_reach_19 : decode cX4_reach 19 = .ok (.goto 5, 3) := by decide +kernel
theorem dX4_reach_22 : decode cX4_reach 22 = .ok (.bipush (-101), 2) := by decide +kernel
theorem dX4_reach_24 : decode cX4_reach 24 = .ok (.ireturn, 1) := by decide +kernel
theorem dX4_room_0 : decode cX4_room 0 = .ok (.iload_n 2, 1) := by decide +kernel
theorem dX4_room_1 : decode cX4_room 1 = .ok (.iconst 0, 1) := by decide +kernel
theorem dX4_room_2 : decode cX4_room 2 = .ok (.iconst 3, 1) := by decide +kernel
theorem dX4_room_3 : decode cX4_room 3 = .ok (.invokestatic 31, 3) := by decide +kernel
theorem dX4_room_6 : decode cX4_room 6 = .ok (.ifCond .ne 6, 3) := by decide +kernel
theorem dX4_room_9 : decode cX4_room 9 = .ok (.bipush (-102), 2) := by decide +kernel
theorem dX4_room_11 : decode cX4_room 11 = .ok (.ireturn, 1) := by decide +kernel
theorem dX4_room_12 : decode cX4_room 12 = .ok (.aload_n 0, 1) := by decide +kernel
theorem dX4_room_13 : decode cX4_room 13 = .ok (.getfield 10, 3) := by decide +kernel
theorem dX4_room_16 : decode cX4_room 16 = .ok (.getfield 92, 3) := by decide +kernel
theorem dX4_room_19 : decode cX4_room 19 = .ok (.astore_n 3, 1) := by decide +kernel
theorem dX4_room_20 : decode cX4_room 20 = .ok (.iload_n 1, 1) := by decide +kernel
theorem dX4_room_21 : decode cX4_room 21 = .ok (.iconst 0, 1) := by decide +kernel
theorem dX4_room_22 : decode cX4_room 22 = .ok (.aload_n 3, 1) := by decide +kernel
theorem dX4_room_23 : decode cX4_room 23 = .ok (.getfield 96, 3) := by decide +kernel
theorem dX4_room_26 : decode cX4_room 26 = .ok (.iconst 1, 1) := by decide +kernel
theorem dX4_room_27 : decode cX4_room 27 = .ok (.isub, 1) := by decide +kernel
theorem dX4_room_28 : decode cX4_room 28 = .ok (.invokestatic 31, 3) := by decide +kernel
theorem dX4_room_31 : decode cX4_room 31 = .ok (.ifCond .ne 5, 3) := by decide +kernel
theorem dX4_room_34 : decode cX4_room 34 = .ok (.iconst (-1), 1) := by decide +kernel
theorem dX4_room_35 : decode cX4_room 35 = .ok (.ireturn, 1) := by decide +kernel
theorem dX4_room_36 : decode cX4_room 36 = .ok (.iload_n 2, 1) := by decide +kernel
theorem dX4_room_37 : decode cX4_room 37 = .ok (.tableswitch 48 0 2 #[27, 34, 41], 27) := by decide +kernel
theorem dX4_room_64 : decode cX4_room 64 = .ok (.aload_n 3, 1) := by decide +kernel
theorem dX4_room_65 : decode cX4_room 65 = .ok (.getfield 101, 3) := by decide +kernel
theorem dX4_room_68 : decode cX4_room 68 = .ok (.iload_n 1, 1) := by decide +kernel
theorem dX4_room_69 : decode cX4_room 69 = .ok (.iaload, 1) := by decide +kernel
theorem dX4_room_70 : decode cX4_room 70 = .ok (.ireturn, 1) := by decide +kernel
theorem dX4_room_71 : decode cX4_room 71 = .ok (.aload_n 3, 1) := by decide +kernel
theorem dX4_room_72 : decode cX4_room 72 = .ok (.getfield 105, 3) := by decide +kernel
theorem dX4_room_75 : decode cX4_room 75 = .ok (.iload_n 1, 1) := by decide +kernel
theorem dX4_room_76 : decode cX4_room 76 = .ok (.iaload, 1) := by decide +kernel
theorem dX4_room_77 : decode cX4_room 77 = .ok (.ireturn, 1) := by decide +kernel
theorem dX4_room_78 : decode cX4_room 78 = .ok (.aload_n 3, 1) := by decide +kernel
theorem dX4_room_79 : decode cX4_room 79 = .ok (.getfield 108, 3) := by decide +kernel
theorem dX4_room_82 : decode cX4_room 82 = .ok (.iload_n 1, 1) := by decide +kernel
theorem dX4_room_83 : decode cX4_room 83 = .ok (.iaload, 1) := by decide +kernel
theorem dX4_room_84 : decode cX4_room 84 = .ok (.ireturn, 1) := by decide +kernel
theorem dX4_room_85 : decode cX4_room 85 = .ok (.aload_n 0, 1) := by decide +kernel
theorem dX4_room_86 : decode cX4_room 86 = .ok (.getfield 10, 3) := by decide +kernel
theorem dX4_room_89 : decode cX4_room 89 = .ok (.getfield 47, 3) := by decide +kernel
theorem dX4_room_92 : decode cX4_room 92 = .ok (.aload_n 3, 1) := by decide +kernel
theorem dX4_room_93 : decode cX4_room 93 = .ok (.getfield 105, 3) := by decide +kernel
theorem dX4_room_96 : decode cX4_room 96 = .ok (.iload_n 1, 1) := by decide +kernel
theorem dX4_room_97 : decode cX4_room 97 = .ok (.iaload, 1) := by decide +kernel
theorem dX4_room_98 : decode cX4_room 98 = .ok (.aaload, 1) := by decide +kernel
theorem dX4_room_99 : decode cX4_room 99 = .ok (.aload_n 3, 1) := by decide +kernel
theorem dX4_room_100 : decode cX4_room 100 = .ok (.getfield 101, 3) := by decide +kernel
theorem dX4_room_103 : decode cX4_room 103 = .ok (.iload_n 1, 1) := by decide +kernel
theorem dX4_room_104 : decode cX4_room 104 = .ok (.iaload, 1) := by decide +kernel
theorem dX4_room_105 : decode cX4_room 105 = .ok (.invokevirtual 111, 3) := by decide +kernel
theorem dX4_room_108 : decode cX4_room 108 = .ok (.ifCond .eq 7, 3) := by decide +kernel
theorem dX4_room_111 : decode cX4_room 111 = .ok (.iconst 1, 1) := by decide +kernel
theorem dX4_room_112 : decode cX4_room 112 = .ok (.goto 4, 3) := by decide +kernel
theorem dX4_room_115 : decode cX4_room 115 = .ok (.iconst 0, 1) := by decide +kernel
theorem dX4_room_116 : decode cX4_room 116 = .ok (.ireturn, 1) := by decide +kernel
theorem dX4_waiting_0 : decode cX4_waiting 0 = .ok (.iload_n 2, 1) := by decide +kernel
theorem dX4_waiting_1 : decode cX4_waiting 1 = .ok (.iconst 0, 1) := by decide +kernel
theorem dX4_waiting_2 : decode cX4_waiting 2 = .ok (.iconst 1, 1) := by decide +kernel
theorem dX4_waiting_3 : decode cX4_waiting 3 = .ok (.invokestatic 31, 3) := by decide +kernel
theorem dX4_waiting_6 : decode cX4_waiting 6 = .ok (.ifCond .ne 6, 3) := by decide +kernel
theorem dX4_waiting_9 : decode cX4_waiting 9 = .ok (.bipush (-102), 2) := by decide +kernel
theorem dX4_waiting_11 : decode cX4_waiting 11 = .ok (.ireturn, 1) := by decide +kernel
theorem dX4_waiting_12 : decode cX4_waiting 12 = .ok (.aload_n 0, 1) := by decide +kernel
theorem dX4_waiting_13 : decode cX4_waiting 13 = .ok (.getfield 10, 3) := by decide +kernel
theorem dX4_waiting_16 : decode cX4_waiting 16 = .ok (.getfield 114, 3) := by decide +kernel
theorem dX4_waiting_19 : decode cX4_waiting 19 = .ok (.astore_n 3, 1) := by decide +kernel
theorem dX4_waiting_20 : decode cX4_waiting 20 = .ok (.iload_n 1, 1) := by decide +kernel
theorem dX4_waiting_21 : decode cX4_waiting 21 = .ok (.iconst 0, 1) := by decide +kernel
theorem dX4_waiting_22 : decode cX4_waiting 22 = .ok (.aload_n 3, 1) := by decide +kernel
theorem dX4_waiting_23 : decode cX4_waiting 23 = .ok (.getfield 96, 3) := by decide +kernel
theorem dX4_waiting_26 : decode cX4_waiting 26 = .ok (.iconst 1, 1) := by decide +kernel
theorem dX4_waiting_27 : decode cX4_waiting 27 = .ok (.isub, 1) := by decide +kernel
theorem dX4_waiting_28 : decode cX4_waiting 28 = .ok (.invokestatic 31, 3) := by decide +kernel
theorem dX4_waiting_31 : decode cX4_waiting 31 = .ok (.ifCond .ne 5, 3) := by decide +kernel
theorem dX4_waiting_34 : decode cX4_waiting 34 = .ok (.iconst (-1), 1) := by decide +kernel
theorem dX4_waiting_35 : decode cX4_waiting 35 = .ok (.ireturn, 1) := by decide +kernel
theorem dX4_waiting_36 : decode cX4_waiting 36 = .ok (.iload_n 2, 1) := by decide +kernel
theorem dX4_waiting_37 : decode cX4_waiting 37 = .ok (.ifCond .ne 12, 3) := by decide +kernel
theorem dX4_waiting_40 : decode cX4_waiting 40 = .ok (.aload_n 3, 1) := by decide +kernel
theorem dX4_waiting_41 : decode cX4_waiting 41 = .ok (.getfield 101, 3) := by decide +kernel
theorem dX4_waiting_44 : decode cX4_waiting 44 = .ok (.iload_n 1, 1) := by decide +kernel
theorem dX4_waiting_45 : decode cX4_waiting 45 = .ok (.iaload, 1) := by decide +kernel
theorem dX4_waiting_46 : decode cX4_waiting 46 = .ok (.goto 9, 3) := by decide +kernel
theorem dX4_waiting_49 : decode cX4_waiting 49 = .ok (.aload_n 3, 1) := by decide +kernel
theorem dX4_waiting_50 : decode cX4_waiting 50 = .ok (.getfield 105, 3) := by decide +kernel
theorem dX4_waiting_53 : decode cX4_waiting 53 = .ok (.iload_n 1, 1) := by decide +kernel
theorem dX4_waiting_54 : decode cX4_waiting 54 = .ok (.iaload, 1) := by decide +kernel
theorem dX4_waiting_55 : decode cX4_waiting 55 = .ok (.ireturn, 1) := by decide +kernel
theorem dX4_follows_0 : decode cX4_follows 0 = .ok (.iload_n 1, 1) := by decide +kernel
theorem dX4_follows_1 : decode cX4_follows 1 = .ok (.invokestatic 43, 3) := by decide +kernel
theorem dX4_follows_4 : decode cX4_follows 4 = .ok (.ifCond .ne 6, 3) := by decide +kernel
theorem dX4_follows_7 : decode cX4_follows 7 = .ok (.bipush (-101), 2) := by decide +kernel
theorem dX4_follows_9 : decode cX4_follows 9 = .ok (.ireturn, 1) := by decide +kernel
theorem dX4_follows_10 : decode cX4_follows 10 = .ok (.iload_n 2, 1) := by decide +kernel
theorem dX4_follows_11 : decode cX4_follows 11 = .ok (.invokestatic 70, 3) := by decide +kernel
theorem dX4_follows_14 : decode cX4_follows 14 = .ok (.ifCond .eq 20, 3) := by decide +kernel
theorem dX4_follows_17 : decode cX4_follows 17 = .ok (.aload_n 0, 1) := by decide +kernel
theorem dX4_follows_18 : decode cX4_follows 18 = .ok (.getfield 10, 3) := by decide +kernel
theorem dX4_follows_21 : decode cX4_follows 21 = .ok (.getfield 47, 3) := by decide +kernel
theorem dX4_follows_24 : decode cX4_follows 24 = .ok (.iload_n 1, 1) := by decide +kernel
theorem dX4_follows_25 : decode cX4_follows 25 = .ok (.aaload, 1) := by decide +kernel
theorem dX4_follows_26 : decode cX4_follows 26 = .ok (.getfield 117, 3) := by decide +kernel
theorem dX4_follows_29 : decode cX4_follows 29 = .ok (.iload_n 2, 1) := by decide +kernel
theorem dX4_follows_30 : decode cX4_follows 30 = .ok (.iaload, 1) := by decide +kernel
theorem dX4_follows_31 : decode cX4_follows 31 = .ok (.goto 5, 3) := by decide +kernel
theorem dX4_follows_34 : decode cX4_follows 34 = .ok (.bipush (-102), 2) := by decide +kernel
theorem dX4_follows_36 : decode cX4_follows 36 = .ok (.ireturn, 1) := by decide +kernel
theorem dX4_house_0 : decode cX4_house 0 = .ok (.iload_n 1, 1) := by decide +kernel
theorem dX4_house_1 : decode cX4_house 1 = .ok (.tableswitch 117 0 7 #[47, 55, 63, 71, 79, 90, 101, 109], 47) := by decide +kernel
theorem dX4_house_48 : decode cX4_house 48 = .ok (.aload_n 0, 1) := by decide +kernel
theorem dX4_house_49 : decode cX4_house 49 = .ok (.getfield 10, 3) := by decide +kernel
theorem dX4_house_52 : decode cX4_house 52 = .ok (.getfield 120, 3) := by decide +kernel
theorem dX4_house_55 : decode cX4_house 55 = .ok (.ireturn, 1) := by decide +kernel
theorem dX4_house_56 : decode cX4_house 56 = .ok (.aload_n 0, 1) := by decide +kernel
theorem dX4_house_57 : decode cX4_house 57 = .ok (.getfield 10, 3) := by decide +kernel
theorem dX4_house_60 : decode cX4_house 60 = .ok (.getfield 123, 3) := by decide +kernel
theorem dX4_house_63 : decode cX4_house 63 = .ok (.ireturn, 1) := by decide +kernel
theorem dX4_house_64 : decode cX4_house 64 = .ok (.aload_n 0, 1) := by decide +kernel
theorem dX4_house_65 : decode cX4_house 65 = .ok (.getfield 10, 3) := by decide +kernel
theorem dX4_house_68 : decode cX4_house 68 = .ok (.getfield 60, 3) := by decide +kernel
theorem dX4_house_71 : decode cX4_house 71 = .ok (.ireturn, 1) := by decide +kernel
theorem dX4_house_72 : decode cX4_house 72 = .ok (.aload_n 0, 1) := by decide +kernel
theorem dX4_house_73 : decode cX4_house 73 = .ok (.getfield 10, 3) := by decide +kernel
theorem dX4_house_76 : decode cX4_house 76 = .ok (.getfield 126, 3) := by decide +kernel
theorem dX4_house_79 : decode cX4_house 79 = .ok (.ireturn, 1) := by decide +kernel
theorem dX4_house_80 : decode cX4_house 80 = .ok (.aload_n 0, 1) := by decide +kernel
theorem dX4_house_81 : decode cX4_house 81 = .ok (.getfield 10, 3) := by decide +kernel
theorem dX4_house_84 : decode cX4_house 84 = .ok (.getfield 92, 3) := by decide +kernel
theorem dX4_house_87 : decode cX4_house 87 = .ok (.getfield 96, 3) := by decide +kernel
theorem dX4_house_90 : decode cX4_house 90 = .ok (.ireturn, 1) := by decide +kernel
theorem dX4_house_91 : decode cX4_house 91 = .ok (.aload_n 0, 1) := by decide +kernel
theorem dX4_house_92 : decode cX4_house 92 = .ok (.getfield 10, 3) := by decide +kernel
theorem dX4_house_95 : decode cX4_house 95 = .ok (.getfield 114, 3) := by decide +kernel
theorem dX4_house_98 : decode cX4_house 98 = .ok (.getfield 96, 3) := by decide +kernel
theorem dX4_house_101 : decode cX4_house 101 = .ok (.ireturn, 1) := by decide +kernel
theorem dX4_house_102 : decode cX4_house 102 = .ok (.aload_n 0, 1) := by decide +kernel
theorem dX4_house_103 : decode cX4_house 103 = .ok (.getfield 10, 3) := by decide +kernel
theorem dX4_house_106 : decode cX4_house 106 = .ok (.getfield 129, 3) := by decide +kernel
theorem dX4_house_109 : decode cX4_house 109 = .ok (.ireturn, 1) := by decide +kernel
theorem dX4_house_110 : decode cX4_house 110 = .ok (.aload_n 0, 1) := by decide +kernel
theorem dX4_house_111 : decode cX4_house 111 = .ok (.getfield 10, 3) := by decide +kernel
theorem dX4_house_114 : decode cX4_house 114 = .ok (.getfield 132, 3) := by decide +kernel
theorem dX4_house_117 : decode cX4_house 117 = .ok (.ireturn, 1) := by decide +kernel
theorem dX4_house_118 : decode cX4_house 118 = .ok (.bipush (-102), 2) := by decide +kernel
theorem dX4_house_120 : decode cX4_house 120 = .ok (.ireturn, 1) := by decide +kernel
theorem dX4_foresight_0 : decode cX4_foresight 0 = .ok (.iload_n 1, 1) := by decide +kernel
theorem dX4_foresight_1 : decode cX4_foresight 1 = .ok (.iconst 0, 1) := by decide +kernel
theorem dX4_foresight_2 : decode cX4_foresight 2 = .ok (.bipush 24, 2) := by decide +kernel
theorem dX4_foresight_4 : decode cX4_foresight 4 = .ok (.invokestatic 31, 3) := by decide +kernel
theorem dX4_foresight_7 : decode cX4_foresight 7 = .ok (.ifCond .ne 6, 3) := by decide +kernel
theorem dX4_foresight_10 : decode cX4_foresight 10 = .ok (.bipush (-102), 2) := by decide +kernel
theorem dX4_foresight_12 : decode cX4_foresight 12 = .ok (.ireturn, 1) := by decide +kernel
theorem dX4_foresight_13 : decode cX4_foresight 13 = .ok (.aload_n 0, 1) := by decide +kernel
theorem dX4_foresight_14 : decode cX4_foresight 14 = .ok (.getfield 27, 3) := by decide +kernel
theorem dX4_foresight_17 : decode cX4_foresight 17 = .ok (.aload_n 0, 1) := by decide +kernel
theorem dX4_foresight_18 : decode cX4_foresight 18 = .ok (.getfield 10, 3) := by decide +kernel
theorem dX4_foresight_21 : decode cX4_foresight 21 = .ok (.iload_n 1, 1) := by decide +kernel
theorem dX4_foresight_22 : decode cX4_foresight 22 = .ok (.aload_n 0, 1) := by decide +kernel
theorem dX4_foresight_23 : decode cX4_foresight 23 = .ok (.getfield 10, 3) := by decide +kernel
theorem dX4_foresight_26 : decode cX4_foresight 26 = .ok (.getfield 35, 3) := by decide +kernel
theorem dX4_foresight_29 : decode cX4_foresight 29 = .ok (.invokestatic 135, 3) := by decide +kernel
theorem dX4_foresight_32 : decode cX4_foresight 32 = .ok (.invokevirtual 140, 3) := by decide +kernel
theorem dX4_foresight_35 : decode cX4_foresight 35 = .ok (.ireturn, 1) := by decide +kernel
theorem dX4_keep_0 : decode cX4_keep 0 = .ok (.iload_n 1, 1) := by decide +kernel
theorem dX4_keep_1 : decode cX4_keep 1 = .ok (.invokestatic 144, 3) := by decide +kernel
theorem dX4_keep_4 : decode cX4_keep 4 = .ok (.ifCond .ne 6, 3) := by decide +kernel
theorem dX4_keep_7 : decode cX4_keep 7 = .ok (.bipush (-101), 2) := by decide +kernel
theorem dX4_keep_9 : decode cX4_keep 9 = .ok (.ireturn, 1) := by decide +kernel
theorem dX4_keep_10 : decode cX4_keep 10 = .ok (.aload_n 0, 1) := by decide +kernel
theorem dX4_keep_11 : decode cX4_keep 11 = .ok (.getfield 16, 3) := by decide +kernel
theorem dX4_keep_14 : decode cX4_keep 14 = .ok (.iload_n 1, 1) := by decide +kernel
theorem dX4_keep_15 : decode cX4_keep 15 = .ok (.aaload, 1) := by decide +kernel
theorem dX4_keep_16 : decode cX4_keep 16 = .ok (.aload_n 0, 1) := by decide +kernel
theorem dX4_keep_17 : decode cX4_keep 17 = .ok (.getfield 10, 3) := by decide +kernel
theorem dX4_keep_20 : decode cX4_keep 20 = .ok (.invokevirtual 147, 3) := by decide +kernel
theorem dX4_keep_23 : decode cX4_keep 23 = .ok (.aload_n 0, 1) := by decide +kernel
theorem dX4_keep_24 : decode cX4_keep 24 = .ok (.getfield 20, 3) := by decide +kernel
theorem dX4_keep_27 : decode cX4_keep 27 = .ok (.iload_n 1, 1) := by decide +kernel
theorem dX4_keep_28 : decode cX4_keep 28 = .ok (.iconst 1, 1) := by decide +kernel
theorem dX4_keep_29 : decode cX4_keep 29 = .ok (.bastore, 1) := by decide +kernel
theorem dX4_keep_30 : decode cX4_keep 30 = .ok (.iconst 1, 1) := by decide +kernel
theorem dX4_keep_31 : decode cX4_keep 31 = .ok (.ireturn, 1) := by decide +kernel
theorem dX4_back_0 : decode cX4_back 0 = .ok (.iload_n 1, 1) := by decide +kernel
theorem dX4_back_1 : decode cX4_back 1 = .ok (.invokestatic 144, 3) := by decide +kernel
theorem dX4_back_4 : decode cX4_back 4 = .ok (.ifCond .ne 6, 3) := by decide +kernel
theorem dX4_back_7 : decode cX4_back 7 = .ok (.bipush (-101), 2) := by decide +kernel
theorem dX4_back_9 : decode cX4_back 9 = .ok (.ireturn, 1) := by decide +kernel
theorem dX4_back_10 : decode cX4_back 10 = .ok (.aload_n 0, 1) := by decide +kernel
theorem dX4_back_11 : decode cX4_back 11 = .ok (.getfield 20, 3) := by decide +kernel
theorem dX4_back_14 : decode cX4_back 14 = .ok (.iload_n 1, 1) := by decide +kernel
theorem dX4_back_15 : decode cX4_back 15 = .ok (.baload, 1) := by decide +kernel
theorem dX4_back_16 : decode cX4_back 16 = .ok (.ifCond .ne 6, 3) := by decide +kernel
theorem dX4_back_19 : decode cX4_back 19 = .ok (.bipush (-103), 2) := by decide +kernel
theorem dX4_back_21 : decode cX4_back 21 = .ok (.ireturn, 1) := by decide +kernel
theorem dX4_back_22 : decode cX4_back 22 = .ok (.aload_n 0, 1) := by decide +kernel
theorem dX4_back_23 : decode cX4_back 23 = .ok (.getfield 10, 3) := by decide +kernel
theorem dX4_back_26 : decode cX4_back 26 = .ok (.aload_n 0, 1) := by decide +kernel
theorem dX4_back_27 : decode cX4_back 27 = .ok (.getfield 16, 3) := by decide +kernel
theorem dX4_back_30 : decode cX4_back 30 = .ok (.iload_n 1, 1) := by decide +kernel
theorem dX4_back_31 : decode cX4_back 31 = .ok (.aaload, 1) := by decide +kernel
theorem dX4_back_32 : decode cX4_back 32 = .ok (.invokevirtual 147, 3) := by decide +kernel
theorem dX4_back_35 : decode cX4_back 35 = .ok (.iconst 1, 1) := by decide +kernel
theorem dX4_back_36 : decode cX4_back 36 = .ok (.ireturn, 1) := by decide +kernel
theorem dX4_digest_0 : decode cX4_digest 0 = .ok (.bipush 7, 2) := by decide +kernel
theorem dX4_digest_2 : decode cX4_digest 2 = .ok (.istore_n 1, 1) := by decide +kernel
theorem dX4_digest_3 : decode cX4_digest 3 = .ok (.iload_n 1, 1) := by decide +kernel
theorem dX4_digest_4 : decode cX4_digest 4 = .ok (.aload_n 0, 1) := by decide +kernel
theorem dX4_digest_5 : decode cX4_digest 5 = .ok (.getfield 10, 3) := by decide +kernel
theorem dX4_digest_8 : decode cX4_digest 8 = .ok (.getfield 60, 3) := by decide +kernel
theorem dX4_digest_11 : decode cX4_digest 11 = .ok (.invokestatic 151, 3) := by decide +kernel
theorem dX4_digest_14 : decode cX4_digest 14 = .ok (.istore_n 1, 1) := by decide +kernel
theorem dX4_digest_15 : decode cX4_digest 15 = .ok (.iload_n 1, 1) := by decide +kernel
theorem dX4_digest_16 : decode cX4_digest 16 = .ok (.aload_n 0, 1) := by decide +kernel
theorem dX4_digest_17 : decode cX4_digest 17 = .ok (.getfield 10, 3) := by decide +kernel
theorem dX4_digest_20 : decode cX4_digest 20 = .ok (.getfield 126, 3) := by decide +kernel
theorem dX4_digest_23 : decode cX4_digest 23 = .ok (.invokestatic 151, 3) := by decide +kernel
theorem dX4_digest_26 : decode cX4_digest 26 = .ok (.istore_n 1, 1) := by decide +kernel
theorem dX4_digest_27 : decode cX4_digest 27 = .ok (.iload_n 1, 1) := by decide +kernel
theorem dX4_digest_28 : decode cX4_digest 28 = .ok (.aload_n 0, 1) := by decide +kernel
theorem dX4_digest_29 : decode cX4_digest 29 = .ok (.getfield 10, 3) := by decide +kernel
theorem dX4_digest_32 : decode cX4_digest 32 = .ok (.getfield 132, 3) := by decide +kernel
theorem dX4_digest_35 : decode cX4_digest 35 = .ok (.invokestatic 151, 3) := by decide +kernel
theorem dX4_digest_38 : decode cX4_digest 38 = .ok (.istore_n 1, 1) := by decide +kernel
theorem dX4_digest_39 : decode cX4_digest 39 = .ok (.iload_n 1, 1) := by decide +kernel
theorem dX4_digest_40 : decode cX4_digest 40 = .ok (.aload_n 0, 1) := by decide +kernel
theorem dX4_digest_41 : decode cX4_digest 41 = .ok (.getfield 10, 3) := by decide +kernel
theorem dX4_digest_44 : decode cX4_digest 44 = .ok (.getfield 120, 3) := by decide +kernel
theorem dX4_digest_47 : decode cX4_digest 47 = .ok (.invokestatic 151, 3) := by decide +kernel
theorem dX4_digest_50 : decode cX4_digest 50 = .ok (.istore_n 1, 1) := by decide +kernel
theorem dX4_digest_51 : decode cX4_digest 51 = .ok (.iload_n 1, 1) := by decide +kernel
theorem dX4_digest_52 : decode cX4_digest 52 = .ok (.aload_n 0, 1) := by decide +kernel
theorem dX4_digest_53 : decode cX4_digest 53 = .ok (.getfield 10, 3) := by decide +kernel
theorem dX4_digest_56 : decode cX4_digest 56 = .ok (.getfield 123, 3) := by decide +kernel
theorem dX4_digest_59 : decode cX4_digest 59 = .ok (.invokestatic 151, 3) := by decide +kernel
theorem dX4_digest_62 : decode cX4_digest 62 = .ok (.istore_n 1, 1) := by decide +kernel
theorem dX4_digest_63 : decode cX4_digest 63 = .ok (.iload_n 1, 1) := by decide +kernel
theorem dX4_digest_64 : decode cX4_digest 64 = .ok (.aload_n 0, 1) := by decide +kernel
theorem dX4_digest_65 : decode cX4_digest 65 = .ok (.getfield 10, 3) := by decide +kernel
