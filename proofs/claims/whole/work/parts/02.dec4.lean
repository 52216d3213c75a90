theorem dX5_isLeft_1 : decode cX5_isLeft 1 = .ok (.getfield 13, 3) := by decide +kernel
theorem dX5_isLeft_4 : decode cX5_isLeft 4 = .ok (.iload_n 1, 1) := by decide +kernel
theorem dX5_isLeft_5 : decode cX5_isLeft 5 = .ok (.iaload, 1) := by decide +kernel
theorem dX5_isLeft_6 : decode cX5_isLeft 6 = .ok (.istore_n 2, 1) := by decide +kernel
theorem dX5_isLeft_7 : decode cX5_isLeft 7 = .ok (.aload_n 0, 1) := by decide +kernel
theorem dX5_isLeft_8 : decode cX5_isLeft 8 = .ok (.getfield 7, 3) := by decide +kernel
theorem dX5_isLeft_11 : decode cX5_isLeft 11 = .ok (.iload_n 1, 1) := by decide +kernel
theorem dX5_isLeft_12 : decode cX5_isLeft 12 = .ok (.iaload, 1) := by decide +kernel
theorem dX5_isLeft_13 : decode cX5_isLeft 13 = .ok (.istore_n 3, 1) := by decide +kernel
theorem dX5_isLeft_14 : decode cX5_isLeft 14 = .ok (.aload_n 0, 1) := by decide +kernel
theorem dX5_isLeft_15 : decode cX5_isLeft 15 = .ok (.getfield 26, 3) := by decide +kernel
theorem dX5_isLeft_18 : decode cX5_isLeft 18 = .ok (.iload_n 2, 1) := by decide +kernel
theorem dX5_isLeft_19 : decode cX5_isLeft 19 = .ok (.iaload, 1) := by decide +kernel
theorem dX5_isLeft_20 : decode cX5_isLeft 20 = .ok (.iconst 4, 1) := by decide +kernel
theorem dX5_isLeft_21 : decode cX5_isLeft 21 = .ok (.if_icmp .ne 38, 3) := by decide +kernel
theorem dX5_isLeft_24 : decode cX5_isLeft 24 = .ok (.aload_n 0, 1) := by decide +kernel
theorem dX5_isLeft_25 : decode cX5_isLeft 25 = .ok (.getfield 38, 3) := by decide +kernel
theorem dX5_isLeft_28 : decode cX5_isLeft 28 = .ok (.iload_n 2, 1) := by decide +kernel
theorem dX5_isLeft_29 : decode cX5_isLeft 29 = .ok (.iaload, 1) := by decide +kernel
theorem dX5_isLeft_30 : decode cX5_isLeft 30 = .ok (.ifCond .lt 29, 3) := by decide +kernel
theorem dX5_isLeft_33 : decode cX5_isLeft 33 = .ok (.iload_n 3, 1) := by decide +kernel
theorem dX5_isLeft_34 : decode cX5_isLeft 34 = .ok (.i2l, 1) := by decide +kernel
theorem dX5_isLeft_35 : decode cX5_isLeft 35 = .ok (.aload_n 0, 1) := by decide +kernel
theorem dX5_isLeft_36 : decode cX5_isLeft 36 = .ok (.getfield 38, 3) := by decide +kernel
theorem dX5_isLeft_39 : decode cX5_isLeft 39 = .ok (.iload_n 2, 1) := by decide +kernel
theorem dX5_isLeft_40 : decode cX5_isLeft 40 = .ok (.iaload, 1) := by decide +kernel
theorem dX5_isLeft_41 : decode cX5_isLeft 41 = .ok (.i2l, 1) := by decide +kernel
theorem dX5_isLeft_42 : decode cX5_isLeft 42 = .ok (.aload_n 0, 1) := by decide +kernel
theorem dX5_isLeft_43 : decode cX5_isLeft 43 = .ok (.getfield 41, 3) := by decide +kernel
theorem dX5_isLeft_46 : decode cX5_isLeft 46 = .ok (.iload_n 2, 1) := by decide +kernel
theorem dX5_isLeft_47 : decode cX5_isLeft 47 = .ok (.iaload, 1) := by decide +kernel
theorem dX5_isLeft_48 : decode cX5_isLeft 48 = .ok (.i2l, 1) := by decide +kernel
theorem dX5_isLeft_49 : decode cX5_isLeft 49 = .ok (.invokestatic 96, 3) := by decide +kernel
theorem dX5_isLeft_52 : decode cX5_isLeft 52 = .ok (.ifCond .eq 7, 3) := by decide +kernel
theorem dX5_isLeft_55 : decode cX5_isLeft 55 = .ok (.iconst 1, 1) := by decide +kernel
theorem dX5_isLeft_56 : decode cX5_isLeft 56 = .ok (.goto 4, 3) := by decide +kernel
theorem dX5_isLeft_59 : decode cX5_isLeft 59 = .ok (.iconst 0, 1) := by decide +kernel
theorem dX5_isLeft_60 : decode cX5_isLeft 60 = .ok (.istore 4, 2) := by decide +kernel
theorem dX5_isLeft_62 : decode cX5_isLeft 62 = .ok (.iload 4, 2) := by decide +kernel
theorem dX5_isLeft_64 : decode cX5_isLeft 64 = .ok (.ifCond .eq 53, 3) := by decide +kernel
theorem dX5_isLeft_67 : decode cX5_isLeft 67 = .ok (.aload_n 0, 1) := by decide +kernel
theorem dX5_isLeft_68 : decode cX5_isLeft 68 = .ok (.getfield 44, 3) := by decide +kernel
theorem dX5_isLeft_71 : decode cX5_isLeft 71 = .ok (.iload_n 2, 1) := by decide +kernel
theorem dX5_isLeft_72 : decode cX5_isLeft 72 = .ok (.iaload, 1) := by decide +kernel
theorem dX5_isLeft_73 : decode cX5_isLeft 73 = .ok (.ifCond .lt 44, 3) := by decide +kernel
theorem dX5_isLeft_76 : decode cX5_isLeft 76 = .ok (.aload_n 0, 1) := by decide +kernel
theorem dX5_isLeft_77 : decode cX5_isLeft 77 = .ok (.getfield 44, 3) := by decide +kernel
theorem dX5_isLeft_80 : decode cX5_isLeft 80 = .ok (.iload_n 2, 1) := by decide +kernel
theorem dX5_isLeft_81 : decode cX5_isLeft 81 = .ok (.iaload, 1) := by decide +kernel
theorem dX5_isLeft_82 : decode cX5_isLeft 82 = .ok (.i2l, 1) := by decide +kernel
theorem dX5_isLeft_83 : decode cX5_isLeft 83 = .ok (.aload_n 0, 1) := by decide +kernel
theorem dX5_isLeft_84 : decode cX5_isLeft 84 = .ok (.getfield 38, 3) := by decide +kernel
theorem dX5_isLeft_87 : decode cX5_isLeft 87 = .ok (.iload_n 2, 1) := by decide +kernel
theorem dX5_isLeft_88 : decode cX5_isLeft 88 = .ok (.iaload, 1) := by decide +kernel
theorem dX5_isLeft_89 : decode cX5_isLeft 89 = .ok (.i2l, 1) := by decide +kernel
theorem dX5_isLeft_90 : decode cX5_isLeft 90 = .ok (.aload_n 0, 1) := by decide +kernel
theorem dX5_isLeft_91 : decode cX5_isLeft 91 = .ok (.getfield 41, 3) := by decide +kernel
theorem dX5_isLeft_94 : decode cX5_isLeft 94 = .ok (.iload_n 2, 1) := by decide +kernel
theorem dX5_isLeft_95 : decode cX5_isLeft 95 = .ok (.iaload, 1) := by decide +kernel
theorem dX5_isLeft_96 : decode cX5_isLeft 96 = .ok (.i2l, 1) := by decide +kernel
theorem dX5_isLeft_97 : decode cX5_isLeft 97 = .ok (.invokestatic 96, 3) := by decide +kernel
theorem dX5_isLeft_100 : decode cX5_isLeft 100 = .ok (.ifCond .eq 13, 3) := by decide +kernel
theorem dX5_isLeft_103 : decode cX5_isLeft 103 = .ok (.aload_n 0, 1) := by decide +kernel
theorem dX5_isLeft_104 : decode cX5_isLeft 104 = .ok (.getfield 44, 3) := by decide +kernel
theorem dX5_isLeft_107 : decode cX5_isLeft 107 = .ok (.iload_n 2, 1) := by decide +kernel
theorem dX5_isLeft_108 : decode cX5_isLeft 108 = .ok (.iaload, 1) := by decide +kernel
theorem dX5_isLeft_109 : decode cX5_isLeft 109 = .ok (.iload_n 3, 1) := by decide +kernel
theorem dX5_isLeft_110 : decode cX5_isLeft 110 = .ok (.if_icmp .le 7, 3) := by decide +kernel
theorem dX5_isLeft_113 : decode cX5_isLeft 113 = .ok (.iconst 1, 1) := by decide +kernel
theorem dX5_isLeft_114 : decode cX5_isLeft 114 = .ok (.goto 4, 3) := by decide +kernel
theorem dX5_isLeft_117 : decode cX5_isLeft 117 = .ok (.iconst 0, 1) := by decide +kernel
theorem dX5_isLeft_118 : decode cX5_isLeft 118 = .ok (.ireturn, 1) := by decide +kernel
theorem dX5_waste_0 : decode cX5_waste 0 = .ok (.aload_n 0, 1) := by decide +kernel
theorem dX5_waste_1 : decode cX5_waste 1 = .ok (.getfield 53, 3) := by decide +kernel
theorem dX5_waste_4 : decode cX5_waste 4 = .ok (.bipush 7, 2) := by decide +kernel
theorem dX5_waste_6 : decode cX5_waste 6 = .ok (.iload_n 1, 1) := by decide +kernel
theorem dX5_waste_7 : decode cX5_waste 7 = .ok (.imul, 1) := by decide +kernel
theorem dX5_waste_8 : decode cX5_waste 8 = .ok (.iconst 4, 1) := by decide +kernel
theorem dX5_waste_9 : decode cX5_waste 9 = .ok (.iadd, 1) := by decide +kernel
theorem dX5_waste_10 : decode cX5_waste 10 = .ok (.dup2, 1) := by decide +kernel
theorem dX5_waste_11 : decode cX5_waste 11 = .ok (.iaload, 1) := by decide +kernel
theorem dX5_waste_12 : decode cX5_waste 12 = .ok (.iconst 1, 1) := by decide +kernel
theorem dX5_waste_13 : decode cX5_waste 13 = .ok (.iadd, 1) := by decide +kernel
theorem dX5_waste_14 : decode cX5_waste 14 = .ok (.iastore, 1) := by decide +kernel
theorem dX5_waste_15 : decode cX5_waste 15 = .ok (.aload_n 0, 1) := by decide +kernel
theorem dX5_waste_16 : decode cX5_waste 16 = .ok (.getfield 32, 3) := by decide +kernel
theorem dX5_waste_19 : decode cX5_waste 19 = .ok (.iload_n 1, 1) := by decide +kernel
theorem dX5_waste_20 : decode cX5_waste 20 = .ok (.aload_n 0, 1) := by decide +kernel
theorem dX5_waste_21 : decode cX5_waste 21 = .ok (.getfield 26, 3) := by decide +kernel
theorem dX5_waste_24 : decode cX5_waste 24 = .ok (.iload_n 1, 1) := by decide +kernel
theorem dX5_waste_25 : decode cX5_waste 25 = .ok (.iaload, 1) := by decide +kernel
theorem dX5_waste_26 : decode cX5_waste 26 = .ok (.iconst 5, 1) := by decide +kernel
theorem dX5_waste_27 : decode cX5_waste 27 = .ok (.if_icmp .ne 14, 3) := by decide +kernel
theorem dX5_waste_30 : decode cX5_waste 30 = .ok (.aload_n 0, 1) := by decide +kernel
theorem dX5_waste_31 : decode cX5_waste 31 = .ok (.getfield 32, 3) := by decide +kernel
theorem dX5_waste_34 : decode cX5_waste 34 = .ok (.iload_n 1, 1) := by decide +kernel
theorem dX5_waste_35 : decode cX5_waste 35 = .ok (.iaload, 1) := by decide +kernel
theorem dX5_waste_36 : decode cX5_waste 36 = .ok (.iconst 2, 1) := by decide +kernel
theorem dX5_waste_37 : decode cX5_waste 37 = .ok (.idiv, 1) := by decide +kernel
theorem dX5_waste_38 : decode cX5_waste 38 = .ok (.goto 9, 3) := by decide +kernel
theorem dX5_waste_41 : decode cX5_waste 41 = .ok (.aload_n 0, 1) := by decide +kernel
theorem dX5_waste_42 : decode cX5_waste 42 = .ok (.getfield 32, 3) := by decide +kernel
theorem dX5_waste_45 : decode cX5_waste 45 = .ok (.iload_n 1, 1) := by decide +kernel
theorem dX5_waste_46 : decode cX5_waste 46 = .ok (.iaload, 1) := by decide +kernel
theorem dX5_waste_47 : decode cX5_waste 47 = .ok (.iastore, 1) := by decide +kernel
theorem dX5_waste_48 : decode cX5_waste 48 = .ok (.return_, 1) := by decide +kernel
theorem dX5_drop_0 : decode cX5_drop 0 = .ok (.aload_n 0, 1) := by decide +kernel
theorem dX5_drop_1 : decode cX5_drop 1 = .ok (.dup, 1) := by decide +kernel
theorem dX5_drop_2 : decode cX5_drop 2 = .ok (.getfield 111, 3) := by decide +kernel
theorem dX5_drop_5 : decode cX5_drop 5 = .ok (.iconst 1, 1) := by decide +kernel
theorem dX5_drop_6 : decode cX5_drop 6 = .ok (.isub, 1) := by decide +kernel
theorem dX5_drop_7 : decode cX5_drop 7 = .ok (.putfield 111, 3) := by decide +kernel
theorem dX5_drop_10 : decode cX5_drop 10 = .ok (.iload_n 1, 1) := by decide +kernel
theorem dX5_drop_11 : decode cX5_drop 11 = .ok (.istore_n 2, 1) := by decide +kernel
theorem dX5_drop_12 : decode cX5_drop 12 = .ok (.iload_n 2, 1) := by decide +kernel
theorem dX5_drop_13 : decode cX5_drop 13 = .ok (.aload_n 0, 1) := by decide +kernel
theorem dX5_drop_14 : decode cX5_drop 14 = .ok (.getfield 111, 3) := by decide +kernel
theorem dX5_drop_17 : decode cX5_drop 17 = .ok (.if_icmp .ge 51, 3) := by decide +kernel
theorem dX5_drop_20 : decode cX5_drop 20 = .ok (.aload_n 0, 1) := by decide +kernel
theorem dX5_drop_21 : decode cX5_drop 21 = .ok (.getfield 7, 3) := by decide +kernel
theorem dX5_drop_24 : decode cX5_drop 24 = .ok (.iload_n 2, 1) := by decide +kernel
theorem dX5_drop_25 : decode cX5_drop 25 = .ok (.aload_n 0, 1) := by decide +kernel
theorem dX5_drop_26 : decode cX5_drop 26 = .ok (.getfield 7, 3) := by decide +kernel
theorem dX5_drop_29 : decode cX5_drop 29 = .ok (.iload_n 2, 1) := by decide +kernel
theorem dX5_drop_30 : decode cX5_drop 30 = .ok (.iconst 1, 1) := by decide +kernel
theorem dX5_drop_31 : decode cX5_drop 31 = .ok (.iadd, 1) := by decide +kernel
theorem dX5_drop_32 : decode cX5_drop 32 = .ok (.iaload, 1) := by decide +kernel
theorem dX5_drop_33 : decode cX5_drop 33 = .ok (.iastore, 1) := by decide +kernel
theorem dX5_drop_34 : decode cX5_drop 34 = .ok (.aload_n 0, 1) := by decide +kernel
theorem dX5_drop_35 : decode cX5_drop 35 = .ok (.getfield 13, 3) := by decide +kernel
theorem dX5_drop_38 : decode cX5_drop 38 = .ok (.iload_n 2, 1) := by decide +kernel
theorem dX5_drop_39 : decode cX5_drop 39 = .ok (.aload_n 0, 1) := by decide +kernel
theorem dX5_drop_40 : decode cX5_drop 40 = .ok (.getfield 13, 3) := by decide +kernel
theorem dX5_drop_43 : decode cX5_drop 43 = .ok (.iload_n 2, 1) := by decide +kernel
theorem dX5_drop_44 : decode cX5_drop 44 = .ok (.iconst 1, 1) := by decide +kernel
theorem dX5_drop_45 : decode cX5_drop 45 = .ok (.iadd, 1) := by decide +kernel
theorem dX5_drop_46 : decode cX5_drop 46 = .ok (.iaload, 1) := by decide +kernel
theorem dX5_drop_47 : decode cX5_drop 47 = .ok (.iastore, 1) := by decide +kernel
theorem dX5_drop_48 : decode cX5_drop 48 = .ok (.aload_n 0, 1) := by decide +kernel
theorem dX5_drop_49 : decode cX5_drop 49 = .ok (.getfield 16, 3) := by decide +kernel
theorem dX5_drop_52 : decode cX5_drop 52 = .ok (.iload_n 2, 1) := by decide +kernel
theorem dX5_drop_53 : decode cX5_drop 53 = .ok (.aload_n 0, 1) := by decide +kernel
theorem dX5_drop_54 : decode cX5_drop 54 = .ok (.getfield 16, 3) := by decide +kernel
theorem dX5_drop_57 : decode cX5_drop 57 = .ok (.iload_n 2, 1) := by decide +kernel
theorem dX5_drop_58 : decode cX5_drop 58 = .ok (.iconst 1, 1) := by decide +kernel
theorem dX5_drop_59 : decode cX5_drop 59 = .ok (.iadd, 1) := by decide +kernel
theorem dX5_drop_60 : decode cX5_drop 60 = .ok (.baload, 1) := by decide +kernel
theorem dX5_drop_61 : decode cX5_drop 61 = .ok (.bastore, 1) := by decide +kernel
theorem dX5_drop_62 : decode cX5_drop 62 = .ok (.iinc 2 1, 3) := by decide +kernel
theorem dX5_drop_65 : decode cX5_drop 65 = .ok (.goto (-53), 3) := by decide +kernel
theorem dX5_drop_68 : decode cX5_drop 68 = .ok (.return_, 1) := by decide +kernel
theorem dX5_makesRoom_0 : decode cX5_makesRoom 0 = .ok (.aload_n 0, 1) := by decide +kernel
theorem dX5_makesRoom_1 : decode cX5_makesRoom 1 = .ok (.getfield 111, 3) := by decide +kernel
theorem dX5_makesRoom_4 : decode cX5_makesRoom 4 = .ok (.aload_n 0, 1) := by decide +kernel
theorem dX5_makesRoom_5 : decode cX5_makesRoom 5 = .ok (.getfield 102, 3) := by decide +kernel
theorem dX5_makesRoom_8 : decode cX5_makesRoom 8 = .ok (.if_icmp .ge 5, 3) := by decide +kernel
theorem dX5_makesRoom_11 : decode cX5_makesRoom 11 = .ok (.iconst 1, 1) := by decide +kernel
theorem dX5_makesRoom_12 : decode cX5_makesRoom 12 = .ok (.ireturn, 1) := by decide +kernel
theorem dX5_makesRoom_13 : decode cX5_makesRoom 13 = .ok (.iconst (-1), 1) := by decide +kernel
theorem dX5_makesRoom_14 : decode cX5_makesRoom 14 = .ok (.istore_n 2, 1) := by decide +kernel
theorem dX5_makesRoom_15 : decode cX5_makesRoom 15 = .ok (.iconst (-1), 1) := by decide +kernel
theorem dX5_makesRoom_16 : decode cX5_makesRoom 16 = .ok (.istore_n 3, 1) := by decide +kernel
theorem dX5_makesRoom_17 : decode cX5_makesRoom 17 = .ok (.aload_n 0, 1) := by decide +kernel
theorem dX5_makesRoom_18 : decode cX5_makesRoom 18 = .ok (.getfield 111, 3) := by decide +kernel
theorem dX5_makesRoom_21 : decode cX5_makesRoom 21 = .ok (.iconst 1, 1) := by decide +kernel
theorem dX5_makesRoom_22 : decode cX5_makesRoom 22 = .ok (.isub, 1) := by decide +kernel
theorem dX5_makesRoom_23 : decode cX5_makesRoom 23 = .ok (.istore 4, 2) := by decide +kernel
theorem dX5_makesRoom_25 : decode cX5_makesRoom 25 = .ok (.iload 4, 2) := by decide +kernel
theorem dX5_makesRoom_27 : decode cX5_makesRoom 27 = .ok (.ifCond .lt 65, 3) := by decide +kernel
theorem dX5_makesRoom_30 : decode cX5_makesRoom 30 = .ok (.aload_n 0, 1) := by decide +kernel
theorem dX5_makesRoom_31 : decode cX5_makesRoom 31 = .ok (.getfield 13, 3) := by decide +kernel
theorem dX5_makesRoom_34 : decode cX5_makesRoom 34 = .ok (.iload 4, 2) := by decide +kernel
theorem dX5_makesRoom_36 : decode cX5_makesRoom 36 = .ok (.iaload, 1) := by decide +kernel
theorem dX5_makesRoom_37 : decode cX5_makesRoom 37 = .ok (.iload_n 1, 1) := by decide +kernel
theorem dX5_makesRoom_38 : decode cX5_makesRoom 38 = .ok (.if_icmp .eq 29, 3) := by decide +kernel
theorem dX5_makesRoom_41 : decode cX5_makesRoom 41 = .ok (.aload_n 0, 1) := by decide +kernel
theorem dX5_makesRoom_42 : decode cX5_makesRoom 42 = .ok (.aload_n 0, 1) := by decide +kernel
theorem dX5_makesRoom_43 : decode cX5_makesRoom 43 = .ok (.getfield 13, 3) := by decide +kernel
theorem dX5_makesRoom_46 : decode cX5_makesRoom 46 = .ok (.iload 4, 2) := by decide +kernel
theorem dX5_makesRoom_48 : decode cX5_makesRoom 48 = .ok (.iaload, 1) := by decide +kernel
theorem dX5_makesRoom_49 : decode cX5_makesRoom 49 = .ok (.invokevirtual 148, 3) := by decide +kernel
theorem dX5_makesRoom_52 : decode cX5_makesRoom 52 = .ok (.aload_n 0, 1) := by decide +kernel
theorem dX5_makesRoom_53 : decode cX5_makesRoom 53 = .ok (.getfield 35, 3) := by decide +kernel
theorem dX5_makesRoom_56 : decode cX5_makesRoom 56 = .ok (.aload_n 0, 1) := by decide +kernel
theorem dX5_makesRoom_57 : decode cX5_makesRoom 57 = .ok (.getfield 13, 3) := by decide +kernel
theorem dX5_makesRoom_60 : decode cX5_makesRoom 60 = .ok (.iload 4, 2) := by decide +kernel
theorem dX5_makesRoom_62 : decode cX5_makesRoom 62 = .ok (.iaload, 1) := by decide +kernel
theorem dX5_makesRoom_63 : decode cX5_makesRoom 63 = .ok (.iaload, 1) := by decide +kernel
theorem dX5_makesRoom_64 : decode cX5_makesRoom 64 = .ok (.if_icmp .le 22, 3) := by decide +kernel
theorem dX5_makesRoom_67 : decode cX5_makesRoom 67 = .ok (.iload 4, 2) := by decide +kernel
theorem dX5_makesRoom_69 : decode cX5_makesRoom 69 = .ok (.istore_n 2, 1) := by decide +kernel
theorem dX5_makesRoom_70 : decode cX5_makesRoom 70 = .ok (.aload_n 0, 1) := by decide +kernel
theorem dX5_makesRoom_71 : decode cX5_makesRoom 71 = .ok (.iload 4, 2) := by decide +kernel
theorem dX5_makesRoom_73 : decode cX5_makesRoom 73 = .ok (.invokevirtual 151, 3) := by decide +kernel
theorem dX5_makesRoom_76 : decode cX5_makesRoom 76 = .ok (.ifCond .eq 8, 3) := by decide +kernel
theorem dX5_makesRoom_79 : decode cX5_makesRoom 79 = .ok (.iload 4, 2) := by decide +kernel
theorem dX5_makesRoom_81 : decode cX5_makesRoom 81 = .ok (.goto 4, 3) := by decide +kernel
theorem dX5_makesRoom_84 : decode cX5_makesRoom 84 = .ok (.iload_n 3, 1) := by decide +kernel
theorem dX5_makesRoom_85 : decode cX5_makesRoom 85 = .ok (.istore_n 3, 1) := by decide +kernel
theorem dX5_makesRoom_86 : decode cX5_makesRoom 86 = .ok (.iinc 4 (-1), 3) := by decide +kernel
theorem dX5_makesRoom_89 : decode cX5_makesRoom 89 = .ok (.goto (-64), 3) := by decide +kernel
theorem dX5_makesRoom_92 : decode cX5_makesRoom 92 = .ok (.iload_n 3, 1) := by decide +kernel
theorem dX5_makesRoom_93 : decode cX5_makesRoom 93 = .ok (.ifCond .lt 7, 3) := by decide +kernel
theorem dX5_makesRoom_96 : decode cX5_makesRoom 96 = .ok (.iload_n 3, 1) := by decide +kernel
theorem dX5_makesRoom_97 : decode cX5_makesRoom 97 = .ok (.goto 4, 3) := by decide +kernel
theorem dX5_makesRoom_100 : decode cX5_makesRoom 100 = .ok (.iload_n 2, 1) := by decide +kernel
theorem dX5_makesRoom_101 : decode cX5_makesRoom 101 = .ok (.istore 4, 2) := by decide +kernel
theorem dX5_makesRoom_103 : decode cX5_makesRoom 103 = .ok (.iload 4, 2) := by decide +kernel
theorem dX5_makesRoom_105 : decode cX5_makesRoom 105 = .ok (.ifCond .ge 5, 3) := by decide +kernel
theorem dX5_makesRoom_108 : decode cX5_makesRoom 108 = .ok (.iconst 0, 1) := by decide +kernel
theorem dX5_makesRoom_109 : decode cX5_makesRoom 109 = .ok (.ireturn, 1) := by decide +kernel
theorem dX5_makesRoom_110 : decode cX5_makesRoom 110 = .ok (.aload_n 0, 1) := by decide +kernel
theorem dX5_makesRoom_111 : decode cX5_makesRoom 111 = .ok (.getfield 16, 3) := by decide +kernel
theorem dX5_makesRoom_114 : decode cX5_makesRoom 114 = .ok (.iload 4, 2) := by decide +kernel
theorem dX5_makesRoom_116 : decode cX5_makesRoom 116 = .ok (.baload, 1) := by decide +kernel
theorem dX5_makesRoom_117 : decode cX5_makesRoom 117 = .ok (.ifCond .eq 14, 3) := by decide +kernel
theorem dX5_makesRoom_120 : decode cX5_makesRoom 120 = .ok (.aload_n 0, 1) := by decide +kernel
theorem dX5_makesRoom_121 : decode cX5_makesRoom 121 = .ok (.aload_n 0, 1) := by decide +kernel
theorem dX5_makesRoom_122 : decode cX5_makesRoom 122 = .ok (.getfield 13, 3) := by decide +kernel
theorem dX5_makesRoom_125 : decode cX5_makesRoom 125 = .ok (.iload 4, 2) := by decide +kernel
theorem dX5_makesRoom_127 : decode cX5_makesRoom 127 = .ok (.iaload, 1) := by decide +kernel
theorem dX5_makesRoom_128 : decode cX5_makesRoom 128 = .ok (.invokevirtual 154, 3) := by decide +kernel
theorem dX5_makesRoom_131 : decode cX5_makesRoom 131 = .ok (.aload_n 0, 1) := by decide +kernel
theorem dX5_makesRoom_132 : decode cX5_makesRoom 132 = .ok (.iload 4, 2) := by decide +kernel
theorem dX5_makesRoom_134 : decode cX5_makesRoom 134 = .ok (.invokevirtual 158, 3) := by decide +kernel
theorem dX5_makesRoom_137 : decode cX5_makesRoom 137 = .ok (.iconst 1, 1) := by decide +kernel
theorem dX5_makesRoom_138 : decode cX5_makesRoom 138 = .ok (.ireturn, 1) := by decide +kernel
theorem dX5_serve_0 : decode cX5_serve 0 = .ok (.aload_n 0, 1) := by decide +kernel
theorem dX5_serve_1 : decode cX5_serve 1 = .ok (.dup, 1) := by decide +kernel
theorem dX5_serve_2 : decode cX5_serve 2 = .ok (.getfield 123, 3) := by decide +kernel
theorem dX5_serve_5 : decode cX5_serve 5 = .ok (.iload_n 1, 1) := by decide +kernel
theorem dX5_serve_6 : decode cX5_serve 6 = .ok (.aload_n 0, 1) := by decide +kernel
theorem dX5_serve_7 : decode cX5_serve 7 = .ok (.getfield 117, 3) := by decide +kernel
theorem dX5_serve_10 : decode cX5_serve 10 = .ok (.if_icmp .le 12, 3) := by decide +kernel
theorem dX5_serve_13 : decode cX5_serve 13 = .ok (.iload_n 1, 1) := by decide +kernel
theorem dX5_serve_14 : decode cX5_serve 14 = .ok (.aload_n 0, 1) := by decide +kernel
theorem dX5_serve_15 : decode cX5_serve 15 = .ok (.getfield 117, 3) := by decide +kernel
theorem dX5_serve_18 : decode cX5_serve 18 = .ok (.isub, 1) := by decide +kernel
theorem dX5_serve_19 : decode cX5_serve 19 = .ok (.goto 9, 3) := by decide +kernel
theorem dX5_serve_22 : decode cX5_serve 22 = .ok (.aload_n 0, 1) := by decide +kernel
theorem dX5_serve_23 : decode cX5_serve 23 = .ok (.getfield 117, 3) := by decide +kernel
theorem dX5_serve_26 : decode cX5_serve 26 = .ok (.iload_n 1, 1) := by decide +kernel
theorem dX5_serve_27 : decode cX5_serve 27 = .ok (.isub, 1) := by decide +kernel
theorem dX5_serve_28 : decode cX5_serve 28 = .ok (.iadd, 1) := by decide +kernel
theorem dX5_serve_29 : decode cX5_serve 29 = .ok (.putfield 123, 3) := by decide +kernel
theorem dX5_serve_32 : decode cX5_serve 32 = .ok (.aload_n 0, 1) := by decide +kernel
theorem dX5_serve_33 : decode cX5_serve 33 = .ok (.iload_n 1, 1) := by decide +kernel
theorem dX5_serve_34 : decode cX5_serve 34 = .ok (.putfield 117, 3) := by decide +kernel
theorem dX5_serve_37 : decode cX5_serve 37 = .ok (.aload_n 0, 1) := by decide +kernel
theorem dX5_serve_38 : decode cX5_serve 38 = .ok (.getfield 53, 3) := by decide +kernel
theorem dX5_serve_41 : decode cX5_serve 41 = .ok (.bipush 7, 2) := by decide +kernel
theorem dX5_serve_43 : decode cX5_serve 43 = .ok (.iload_n 2, 1) := by decide +kernel
theorem dX5_serve_44 : decode cX5_serve 44 = .ok (.imul, 1) := by decide +kernel
theorem dX5_serve_45 : decode cX5_serve 45 = .ok (.iconst 3, 1) := by decide +kernel
theorem dX5_serve_46 : decode cX5_serve 46 = .ok (.iadd, 1) := by decide +kernel
theorem dX5_serve_47 : decode cX5_serve 47 = .ok (.dup2, 1) := by decide +kernel
theorem dX5_serve_48 : decode cX5_serve 48 = .ok (.iaload, 1) := by decide +kernel
theorem dX5_serve_49 : decode cX5_serve 49 = .ok (.iload_n 3, 1) := by decide +kernel
theorem dX5_serve_50 : decode cX5_serve 50 = .ok (.ifCond .eq 7, 3) := by decide +kernel
theorem dX5_serve_53 : decode cX5_serve 53 = .ok (.iconst 1, 1) := by decide +kernel
theorem dX5_serve_54 : decode cX5_serve 54 = .ok (.goto 4, 3) := by decide +kernel
theorem dX5_serve_57 : decode cX5_serve 57 = .ok (.iconst 0, 1) := by decide +kernel
theorem dX5_serve_58 : decode cX5_serve 58 = .ok (.iadd, 1) := by decide +kernel
theorem dX5_serve_59 : decode cX5_serve 59 = .ok (.iastore, 1) := by decide +kernel
theorem dX5_serve_60 : decode cX5_serve 60 = .ok (.aload_n 0, 1) := by decide +kernel
theorem dX5_serve_61 : decode cX5_serve 61 = .ok (.iload_n 2, 1) := by decide +kernel
theorem dX5_serve_62 : decode cX5_serve 62 = .ok (.invokevirtual 161, 3) := by decide +kernel
theorem dX5_serve_65 : decode cX5_serve 65 = .ok (.ifCond .eq 56, 3) := by decide +kernel
theorem dX5_serve_68 : decode cX5_serve 68 = .ok (.aload_n 0, 1) := by decide +kernel
theorem dX5_serve_69 : decode cX5_serve 69 = .ok (.getfield 7, 3) := by decide +kernel
theorem dX5_serve_72 : decode cX5_serve 72 = .ok (.aload_n 0, 1) := by decide +kernel
theorem dX5_serve_73 : decode cX5_serve 73 = .ok (.getfield 111, 3) := by decide +kernel
theorem dX5_serve_76 : decode cX5_serve 76 = .ok (.iload_n 1, 1) := by decide +kernel
theorem dX5_serve_77 : decode cX5_serve 77 = .ok (.iastore, 1) := by decide +kernel
theorem dX5_serve_78 : decode cX5_serve 78 = .ok (.aload_n 0, 1) := by decide +kernel
theorem dX5_serve_79 : decode cX5_serve 79 = .ok (.getfield 13, 3) := by decide +kernel
theorem dX5_serve_82 : decode cX5_serve 82 = .ok (.aload_n 0, 1) := by decide +kernel
theorem dX5_serve_83 : decode cX5_serve 83 = .ok (.getfield 111, 3) := by decide +kernel
theorem dX5_serve_86 : decode cX5_serve 86 = .ok (.iload_n 2, 1) := by decide +kernel
theorem dX5_serve_87 : decode cX5_serve 87 = .ok (.iastore, 1) := by decide +kernel
theorem dX5_serve_88 : decode cX5_serve 88 = .ok (.aload_n 0, 1) := by decide +kernel
theorem dX5_serve_89 : decode cX5_serve 89 = .ok (.getfield 16, 3) := by decide +kernel
theorem dX5_serve_92 : decode cX5_serve 92 = .ok (.aload_n 0, 1) := by decide +kernel
theorem dX5_serve_93 : decode cX5_serve 93 = .ok (.getfield 111, 3) := by decide +kernel
theorem dX5_serve_96 : decode cX5_serve 96 = .ok (.iload_n 3, 1) := by decide +kernel
theorem dX5_serve_97 : decode cX5_serve 97 = .ok (.bastore, 1) := by decide +kernel
theorem dX5_serve_98 : decode cX5_serve 98 = .ok (.aload_n 0, 1) := by decide +kernel
theorem dX5_serve_99 : decode cX5_serve 99 = .ok (.dup, 1) := by decide +kernel
theorem dX5_serve_100 : decode cX5_serve 100 = .ok (.getfield 111, 3) := by decide +kernel
theorem dX5_serve_103 : decode cX5_serve 103 = .ok (.iconst 1, 1) := by decide +kernel
theorem dX5_serve_104 : decode cX5_serve 104 = .ok (.iadd, 1) := by decide +kernel
theorem dX5_serve_105 : decode cX5_serve 105 = .ok (.putfield 111, 3) := by decide +kernel
theorem dX5_serve_108 : decode cX5_serve 108 = .ok (.aload_n 0, 1) := by decide +kernel
theorem dX5_serve_109 : decode cX5_serve 109 = .ok (.dup, 1) := by decide +kernel
theorem dX5_serve_110 : decode cX5_serve 110 = .ok (.getfield 164, 3) := by decide +kernel
theorem dX5_serve_113 : decode cX5_serve 113 = .ok (.iconst 1, 1) := by decide +kernel
theorem dX5_serve_114 : decode cX5_serve 114 = .ok (.iadd, 1) := by decide +kernel
theorem dX5_serve_115 : decode cX5_serve 115 = .ok (.putfield 164, 3) := by decide +kernel
theorem dX5_serve_118 : decode cX5_serve 118 = .ok (.goto 31, 3) := by decide +kernel
theorem dX5_serve_121 : decode cX5_serve 121 = .ok (.iload_n 3, 1) := by decide +kernel
theorem dX5_serve_122 : decode cX5_serve 122 = .ok (.ifCond .eq 11, 3) := by decide +kernel
theorem dX5_serve_125 : decode cX5_serve 125 = .ok (.aload_n 0, 1) := by decide +kernel
theorem dX5_serve_126 : decode cX5_serve 126 = .ok (.iload_n 2, 1) := by decide +kernel
theorem dX5_serve_127 : decode cX5_serve 127 = .ok (.invokevirtual 154, 3) := by decide +kernel
theorem dX5_serve_130 : decode cX5_serve 130 = .ok (.goto 19, 3) := by decide +kernel
theorem dX5_serve_133 : decode cX5_serve 133 = .ok (.aload_n 0, 1) := by decide +kernel
theorem dX5_serve_134 : decode cX5_serve 134 = .ok (.getfield 53, 3) := by decide +kernel
theorem dX5_serve_137 : decode cX5_serve 137 = .ok (.bipush 7, 2) := by decide +kernel
theorem dX5_serve_139 : decode cX5_serve 139 = .ok (.iload_n 2, 1) := by decide +kernel
theorem dX5_serve_140 : decode cX5_serve 140 = .ok (.imul, 1) := by decide +kernel
theorem dX5_serve_141 : decode cX5_serve 141 = .ok (.bipush 6, 2) := by decide +kernel
theorem dX5_serve_143 : decode cX5_serve 143 = .ok (.iadd, 1) := by decide +kernel
theorem dX5_serve_144 : decode cX5_serve 144 = .ok (.dup2, 1) := by decide +kernel
theorem dX5_serve_145 : decode cX5_serve 145 = .ok (.iaload, 1) := by decide +kernel
theorem dX5_serve_146 : decode cX5_serve 146 = .ok (.iconst 1, 1) := by decide +kernel
theorem dX5_serve_147 : decode cX5_serve 147 = .ok (.iadd, 1) := by decide +kernel
theorem dX5_serve_148 : decode cX5_serve 148 = .ok (.iastore, 1) := by decide +kernel
theorem dX5_serve_149 : decode cX5_serve 149 = .ok (.return_, 1) := by decide +kernel
theorem dX5_nearest_0 : decode cX5_nearest 0 = .ok (.iconst (-1), 1) := by decide +kernel
theorem dX5_nearest_1 : decode cX5_nearest 1 = .ok (.istore_n 1, 1) := by decide +kernel
theorem dX5_nearest_2 : decode cX5_nearest 2 = .ok (.iconst 0, 1) := by decide +kernel
theorem dX5_nearest_3 : decode cX5_nearest 3 = .ok (.istore_n 2, 1) := by decide +kernel
theorem dX5_nearest_4 : decode cX5_nearest 4 = .ok (.iconst 0, 1) := by decide +kernel
theorem dX5_nearest_5 : decode cX5_nearest 5 = .ok (.istore_n 3, 1) := by decide +kernel
theorem dX5_nearest_6 : decode cX5_nearest 6 = .ok (.iload_n 3, 1) := by decide +kernel
theorem dX5_nearest_7 : decode cX5_nearest 7 = .ok (.aload_n 0, 1) := by decide +kernel
theorem dX5_nearest_8 : decode cX5_nearest 8 = .ok (.getfield 114, 3) := by decide +kernel
theorem dX5_nearest_11 : decode cX5_nearest 11 = .ok (.if_icmp .ge 85, 3) := by decide +kernel
theorem dX5_nearest_14 : decode cX5_nearest 14 = .ok (.aload_n 0, 1) := by decide +kernel
theorem dX5_nearest_15 : decode cX5_nearest 15 = .ok (.getfield 20, 3) := by decide +kernel
theorem dX5_nearest_18 : decode cX5_nearest 18 = .ok (.iload_n 3, 1) := by decide +kernel
theorem dX5_nearest_19 : decode cX5_nearest 19 = .ok (.iaload, 1) := by decide +kernel
theorem dX5_nearest_20 : decode cX5_nearest 20 = .ok (.aload_n 0, 1) := by decide +kernel
theorem dX5_nearest_21 : decode cX5_nearest 21 = .ok (.getfield 117, 3) := by decide +kernel
theorem dX5_nearest_24 : decode cX5_nearest 24 = .ok (.if_icmp .le 17, 3) := by decide +kernel
theorem dX5_nearest_27 : decode cX5_nearest 27 = .ok (.aload_n 0, 1) := by decide +kernel
theorem dX5_nearest_28 : decode cX5_nearest 28 = .ok (.getfield 20, 3) := by decide +kernel
theorem dX5_nearest_31 : decode cX5_nearest 31 = .ok (.iload_n 3, 1) := by decide +kernel
theorem dX5_nearest_32 : decode cX5_nearest 32 = .ok (.iaload, 1) := by decide +kernel
theorem dX5_nearest_33 : decode cX5_nearest 33 = .ok (.aload_n 0, 1) := by decide +kernel
theorem dX5_nearest_34 : decode cX5_nearest 34 = .ok (.getfield 117, 3) := by decide +kernel
theorem dX5_nearest_37 : decode cX5_nearest 37 = .ok (.isub, 1) := by decide +kernel
theorem dX5_nearest_38 : decode cX5_nearest 38 = .ok (.goto 14, 3) := by decide +kernel
theorem dX5_nearest_41 : decode cX5_nearest 41 = .ok (.aload_n 0, 1) := by decide +kernel
theorem dX5_nearest_42 : decode cX5_nearest 42 = .ok (.getfield 117, 3) := by decide +kernel
theorem dX5_nearest_45 : decode cX5_nearest 45 = .ok (.aload_n 0, 1) := by decide +kernel
theorem dX5_nearest_46 : decode cX5_nearest 46 = .ok (.getfield 20, 3) := by decide +kernel
theorem dX5_nearest_49 : decode cX5_nearest 49 = .ok (.iload_n 3, 1) := by decide +kernel
theorem dX5_nearest_50 : decode cX5_nearest 50 = .ok (.iaload, 1) := by decide +kernel
theorem dX5_nearest_51 : decode cX5_nearest 51 = .ok (.isub, 1) := by decide +kernel
theorem dX5_nearest_52 : decode cX5_nearest 52 = .ok (.istore 4, 2) := by decide +kernel
theorem dX5_nearest_54 : decode cX5_nearest 54 = .ok (.iload_n 1, 1) := by decide +kernel
theorem dX5_nearest_55 : decode cX5_nearest 55 = .ok (.ifCond .lt 30, 3) := by decide +kernel
theorem dX5_nearest_58 : decode cX5_nearest 58 = .ok (.iload 4, 2) := by decide +kernel
theorem dX5_nearest_60 : decode cX5_nearest 60 = .ok (.iload_n 2, 1) := by decide +kernel
theorem dX5_nearest_61 : decode cX5_nearest 61 = .ok (.if_icmp .lt 24, 3) := by decide +kernel
theorem dX5_nearest_64 : decode cX5_nearest 64 = .ok (.iload 4, 2) := by decide +kernel
theorem dX5_nearest_66 : decode cX5_nearest 66 = .ok (.iload_n 2, 1) := by decide +kernel
theorem dX5_nearest_67 : decode cX5_nearest 67 = .ok (.if_icmp .ne 23, 3) := by decide +kernel
theorem dX5_nearest_70 : decode cX5_nearest 70 = .ok (.aload_n 0, 1) := by decide +kernel
theorem dX5_nearest_71 : decode cX5_nearest 71 = .ok (.getfield 20, 3) := by decide +kernel
theorem dX5_nearest_74 : decode cX5_nearest 74 = .ok (.iload_n 3, 1) := by decide +kernel
theorem dX5_nearest_75 : decode cX5_nearest 75 = .ok (.iaload, 1) := by decide +kernel
theorem dX5_nearest_76 : decode cX5_nearest 76 = .ok (.aload_n 0, 1) := by decide +kernel
theorem dX5_nearest_77 : decode cX5_nearest 77 = .ok (.getfield 20, 3) := by decide +kernel
theorem dX5_nearest_80 : decode cX5_nearest 80 = .ok (.iload_n 1, 1) := by decide +kernel
theorem dX5_nearest_81 : decode cX5_nearest 81 = .ok (.iaload, 1) := by decide +kernel
theorem dX5_nearest_82 : decode cX5_nearest 82 = .ok (.if_icmp .ge 8, 3) := by decide +kernel
theorem dX5_nearest_85 : decode cX5_nearest 85 = .ok (.iload_n 3, 1) := by decide +kernel
theorem dX5_nearest_86 : decode cX5_nearest 86 = .ok (.istore_n 1, 1) := by decide +kernel
theorem dX5_nearest_87 : decode cX5_nearest 87 = .ok (.iload 4, 2) := by decide +kernel
theorem dX5_nearest_89 : decode cX5_nearest 89 = .ok (.istore_n 2, 1) := by decide +kernel
theorem dX5_nearest_90 : decode cX5_nearest 90 = .ok (.iinc 3 1, 3) := by decide +kernel
theorem dX5_nearest_93 : decode cX5_nearest 93 = .ok (.goto (-87), 3) := by decide +kernel
theorem dX5_nearest_96 : decode cX5_nearest 96 = .ok (.iload_n 1, 1) := by decide +kernel
theorem dX5_nearest_97 : decode cX5_nearest 97 = .ok (.ireturn, 1) := by decide +kernel
theorem dX5_tick_0 : decode cX5_tick 0 = .ok (.aload_n 0, 1) := by decide +kernel
theorem dX5_tick_1 : decode cX5_tick 1 = .ok (.dup, 1) := by decide +kernel
theorem dX5_tick_2 : decode cX5_tick 2 = .ok (.getfield 120, 3) := by decide +kernel
theorem dX5_tick_5 : decode cX5_tick 5 = .ok (.iconst 1, 1) := by decide +kernel
theorem dX5_tick_6 : decode cX5_tick 6 = .ok (.iadd, 1) := by decide +kernel
theorem dX5_tick_7 : decode cX5_tick 7 = .ok (.putfield 120, 3) := by decide +kernel
theorem dX5_tick_10 : decode cX5_tick 10 = .ok (.iconst 0, 1) := by decide +kernel
theorem dX5_tick_11 : decode cX5_tick 11 = .ok (.istore_n 1, 1) := by decide +kernel
theorem dX5_tick_12 : decode cX5_tick 12 = .ok (.iload_n 1, 1) := by decide +kernel
theorem dX5_tick_13 : decode cX5_tick 13 = .ok (.aload_n 0, 1) := by decide +kernel
theorem dX5_tick_14 : decode cX5_tick 14 = .ok (.getfield 105, 3) := by decide +kernel
theorem dX5_tick_17 : decode cX5_tick 17 = .ok (.if_icmp .ge 79, 3) := by decide +kernel
theorem dX5_tick_20 : decode cX5_tick 20 = .ok (.aload_n 0, 1) := by decide +kernel
theorem dX5_tick_21 : decode cX5_tick 21 = .ok (.getfield 59, 3) := by decide +kernel
theorem dX5_tick_24 : decode cX5_tick 24 = .ok (.ifCond .lt 26, 3) := by decide +kernel
theorem dX5_tick_27 : decode cX5_tick 27 = .ok (.aload_n 0, 1) := by decide +kernel
theorem dX5_tick_28 : decode cX5_tick 28 = .ok (.getfield 59, 3) := by decide +kernel
theorem dX5_tick_31 : decode cX5_tick 31 = .ok (.istore_n 2, 1) := by decide +kernel
theorem dX5_tick_32 : decode cX5_tick 32 = .ok (.aload_n 0, 1) := by decide +kernel
theorem dX5_tick_33 : decode cX5_tick 33 = .ok (.iconst (-1), 1) := by decide +kernel
theorem dX5_tick_34 : decode cX5_tick 34 = .ok (.putfield 59, 3) := by decide +kernel
theorem dX5_tick_37 : decode cX5_tick 37 = .ok (.aload_n 0, 1) := by decide +kernel
theorem dX5_tick_38 : decode cX5_tick 38 = .ok (.iload_n 2, 1) := by decide +kernel
theorem dX5_tick_39 : decode cX5_tick 39 = .ok (.aload_n 0, 1) := by decide +kernel
theorem dX5_tick_40 : decode cX5_tick 40 = .ok (.getfield 167, 3) := by decide +kernel
theorem dX5_tick_43 : decode cX5_tick 43 = .ok (.iconst 0, 1) := by decide +kernel
theorem dX5_tick_44 : decode cX5_tick 44 = .ok (.invokevirtual 170, 3) := by decide +kernel
theorem dX5_tick_47 : decode cX5_tick 47 = .ok (.goto 43, 3) := by decide +kernel
theorem dX5_tick_50 : decode cX5_tick 50 = .ok (.aload_n 0, 1) := by decide +kernel
theorem dX5_tick_51 : decode cX5_tick 51 = .ok (.getfield 114, 3) := by decide +kernel
theorem dX5_tick_54 : decode cX5_tick 54 = .ok (.ifCond .le 36, 3) := by decide +kernel
theorem dX5_tick_57 : decode cX5_tick 57 = .ok (.aload_n 0, 1) := by decide +kernel
theorem dX5_tick_58 : decode cX5_tick 58 = .ok (.invokevirtual 174, 3) := by decide +kernel
theorem dX5_tick_61 : decode cX5_tick 61 = .ok (.istore_n 2, 1) := by decide +kernel
theorem dX5_tick_62 : decode cX5_tick 62 = .ok (.aload_n 0, 1) := by decide +kernel
theorem dX5_tick_63 : decode cX5_tick 63 = .ok (.getfield 20, 3) := by decide +kernel
theorem dX5_tick_66 : decode cX5_tick 66 = .ok (.iload_n 2, 1) := by decide +kernel
theorem dX5_tick_67 : decode cX5_tick 67 = .ok (.iaload, 1) := by decide +kernel
theorem dX5_tick_68 : decode cX5_tick 68 = .ok (.istore_n 3, 1) := by decide +kernel
theorem dX5_tick_69 : decode cX5_tick 69 = .ok (.aload_n 0, 1) := by decide +kernel
theorem dX5_tick_70 : decode cX5_tick 70 = .ok (.getfield 23, 3) := by decide +kernel
theorem dX5_tick_73 : decode cX5_tick 73 = .ok (.iload_n 2, 1) := by decide +kernel
theorem dX5_tick_74 : decode cX5_tick 74 = .ok (.iaload, 1) := by decide +kernel
theorem dX5_tick_75 : decode cX5_tick 75 = .ok (.istore 4, 2) := by decide +kernel
theorem dX5_tick_77 : decode cX5_tick 77 = .ok (.aload_n 0, 1) := by decide +kernel
theorem dX5_tick_78 : decode cX5_tick 78 = .ok (.iload_n 2, 1) := by decide +kernel
theorem dX5_tick_79 : decode cX5_tick 79 = .ok (.invokevirtual 178, 3) := by decide +kernel
theorem dX5_tick_82 : decode cX5_tick 82 = .ok (.aload_n 0, 1) := by decide +kernel
theorem dX5_tick_83 : decode cX5_tick 83 = .ok (.iload_n 3, 1) := by decide +kernel
theorem dX5_tick_84 : decode cX5_tick 84 = .ok (.iload 4, 2) := by decide +kernel
theorem dX5_tick_86 : decode cX5_tick 86 = .ok (.iconst 1, 1) := by decide +kernel
theorem dX5_tick_87 : decode cX5_tick 87 = .ok (.invokevirtual 170, 3) := by decide +kernel
theorem dX5_tick_90 : decode cX5_tick 90 = .ok (.iinc 1 1, 3) := by decide +kernel
theorem dX5_tick_93 : decode cX5_tick 93 = .ok (.goto (-81), 3) := by decide +kernel
theorem dX5_tick_96 : decode cX5_tick 96 = .ok (.return_, 1) := by decide +kernel
theorem dX5_wish_0 : decode cX5_wish 0 = .ok (.iload_n 2, 1) := by decide +kernel
theorem dX5_wish_1 : decode cX5_wish 1 = .ok (.invokestatic 145, 3) := by decide +kernel
theorem dX5_wish_4 : decode cX5_wish 4 = .ok (.ifCond .eq 58, 3) := by decide +kernel
theorem dX5_wish_7 : decode cX5_wish 7 = .ok (.aload_n 0, 1) := by decide +kernel
theorem dX5_wish_8 : decode cX5_wish 8 = .ok (.iload_n 2, 1) := by decide +kernel
theorem dX5_wish_9 : decode cX5_wish 9 = .ok (.invokevirtual 181, 3) := by decide +kernel
theorem dX5_wish_12 : decode cX5_wish 12 = .ok (.ifCond .ge 50, 3) := by decide +kernel
theorem dX5_wish_15 : decode cX5_wish 15 = .ok (.aload_n 0, 1) := by decide +kernel
theorem dX5_wish_16 : decode cX5_wish 16 = .ok (.iload_n 2, 1) := by decide +kernel
theorem dX5_wish_17 : decode cX5_wish 17 = .ok (.invokevirtual 184, 3) := by decide +kernel
theorem dX5_wish_20 : decode cX5_wish 20 = .ok (.ifCond .ge 42, 3) := by decide +kernel
theorem dX5_wish_23 : decode cX5_wish 23 = .ok (.aload_n 0, 1) := by decide +kernel
theorem dX5_wish_24 : decode cX5_wish 24 = .ok (.getfield 114, 3) := by decide +kernel
theorem dX5_wish_27 : decode cX5_wish 27 = .ok (.bipush 16, 2) := by decide +kernel
theorem dX5_wish_29 : decode cX5_wish 29 = .ok (.if_icmp .ge 33, 3) := by decide +kernel
theorem dX5_wish_32 : decode cX5_wish 32 = .ok (.aload_n 0, 1) := by decide +kernel
theorem dX5_wish_33 : decode cX5_wish 33 = .ok (.getfield 20, 3) := by decide +kernel
theorem dX5_wish_36 : decode cX5_wish 36 = .ok (.aload_n 0, 1) := by decide +kernel
theorem dX5_wish_37 : decode cX5_wish 37 = .ok (.getfield 114, 3) := by decide +kernel
theorem dX5_wish_40 : decode cX5_wish 40 = .ok (.iload_n 2, 1) := by decide +kernel
theorem dX5_wish_41 : decode cX5_wish 41 = .ok (.iastore, 1) := by decide +kernel
theorem dX5_wish_42 : decode cX5_wish 42 = .ok (.aload_n 0, 1) := by decide +kernel
theorem dX5_wish_43 : decode cX5_wish 43 = .ok (.getfield 23, 3) := by decide +kernel
theorem dX5_wish_46 : decode cX5_wish 46 = .ok (.aload_n 0, 1) := by decide +kernel
theorem dX5_wish_47 : decode cX5_wish 47 = .ok (.getfield 114, 3) := by decide +kernel
theorem dX5_wish_50 : decode cX5_wish 50 = .ok (.iload_n 1, 1) := by decide +kernel
theorem dX5_wish_51 : decode cX5_wish 51 = .ok (.iastore, 1) := by decide +kernel
theorem dX5_wish_52 : decode cX5_wish 52 = .ok (.aload_n 0, 1) := by decide +kernel
theorem dX5_wish_53 : decode cX5_wish 53 = .ok (.dup, 1) := by decide +kernel
theorem dX5_wish_54 : decode cX5_wish 54 = .ok (.getfield 114, 3) := by decide +kernel
theorem dX5_wish_57 : decode cX5_wish 57 = .ok (.iconst 1, 1) := by decide +kernel
theorem dX5_wish_58 : decode cX5_wish 58 = .ok (.iadd, 1) := by decide +kernel
theorem dX5_wish_59 : decode cX5_wish 59 = .ok (.putfield 114, 3) := by decide +kernel
theorem dX5_wish_62 : decode cX5_wish 62 = .ok (.return_, 1) := by decide +kernel
theorem dX5_wishAll_0 : decode cX5_wishAll 0 = .ok (.aload_n 0, 1) := by decide +kernel
theorem dX5_wishAll_1 : decode cX5_wishAll 1 = .ok (.iload_n 1, 1) := by decide +kernel
theorem dX5_wishAll_2 : decode cX5_wishAll 2 = .ok (.invokevirtual 187, 3) := by decide +kernel
theorem dX5_wishAll_5 : decode cX5_wishAll 5 = .ok (.istore 5, 2) := by decide +kernel
theorem dX5_wishAll_7 : decode cX5_wishAll 7 = .ok (.iload_n 2, 1) := by decide +kernel
theorem dX5_wishAll_8 : decode cX5_wishAll 8 = .ok (.istore 6, 2) := by decide +kernel
theorem dX5_wishAll_10 : decode cX5_wishAll 10 = .ok (.iconst 1, 1) := by decide +kernel
theorem dX5_wishAll_11 : decode cX5_wishAll 11 = .ok (.istore 7, 2) := by decide +kernel
theorem dX5_wishAll_13 : decode cX5_wishAll 13 = .ok (.iload 7, 2) := by decide +kernel
theorem dX5_wishAll_15 : decode cX5_wishAll 15 = .ok (.iload 5, 2) := by decide +kernel
theorem dX5_wishAll_17 : decode cX5_wishAll 17 = .ok (.if_icmp .gt 169, 3) := by decide +kernel
theorem dX5_wishAll_20 : decode cX5_wishAll 20 = .ok (.aload_n 0, 1) := by decide +kernel
theorem dX5_wishAll_21 : decode cX5_wishAll 21 = .ok (.getfield 26, 3) := by decide +kernel
theorem dX5_wishAll_24 : decode cX5_wishAll 24 = .ok (.iload_n 1, 1) := by decide +kernel
theorem dX5_wishAll_25 : decode cX5_wishAll 25 = .ok (.iaload, 1) := by decide +kernel
theorem dX5_wishAll_26 : decode cX5_wishAll 26 = .ok (.tableswitch 154 1 5 #[34, 46, 65, 98, 34], 34) := by decide +kernel
theorem dX5_wishAll_60 : decode cX5_wishAll 60 = .ok (.aload_n 0, 1) := by decide +kernel
theorem dX5_wishAll_61 : decode cX5_wishAll 61 = .ok (.iload_n 1, 1) := by decide +kernel
theorem dX5_wishAll_62 : decode cX5_wishAll 62 = .ok (.iload_n 2, 1) := by decide +kernel
theorem dX5_wishAll_63 : decode cX5_wishAll 63 = .ok (.iload 7, 2) := by decide +kernel
theorem dX5_wishAll_65 : decode cX5_wishAll 65 = .ok (.iadd, 1) := by decide +kernel
theorem dX5_wishAll_66 : decode cX5_wishAll 66 = .ok (.invokevirtual 190, 3) := by decide +kernel
theorem dX5_wishAll_69 : decode cX5_wishAll 69 = .ok (.goto 111, 3) := by decide +kernel
theorem dX5_wishAll_72 : decode cX5_wishAll 72 = .ok (.iload 4, 2) := by decide +kernel
theorem dX5_wishAll_74 : decode cX5_wishAll 74 = .ok (.ifCond .eq 106, 3) := by decide +kernel
theorem dX5_wishAll_77 : decode cX5_wishAll 77 = .ok (.aload_n 0, 1) := by decide +kernel
theorem dX5_wishAll_78 : decode cX5_wishAll 78 = .ok (.iload_n 1, 1) := by decide +kernel
theorem dX5_wishAll_79 : decode cX5_wishAll 79 = .ok (.iload_n 2, 1) := by decide +kernel
theorem dX5_wishAll_80 : decode cX5_wishAll 80 = .ok (.iload 7, 2) := by decide +kernel
theorem dX5_wishAll_82 : decode cX5_wishAll 82 = .ok (.iload_n 3, 1) := by decide +kernel
theorem dX5_wishAll_83 : decode cX5_wishAll 83 = .ok (.imul, 1) := by decide +kernel
theorem dX5_wishAll_84 : decode cX5_wishAll 84 = .ok (.iadd, 1) := by decide +kernel
theorem dX5_wishAll_85 : decode cX5_wishAll 85 = .ok (.invokevirtual 190, 3) := by decide +kernel
theorem dX5_wishAll_88 : decode cX5_wishAll 88 = .ok (.goto 92, 3) := by decide +kernel
theorem dX5_wishAll_91 : decode cX5_wishAll 91 = .ok (.iload 6, 2) := by decide +kernel
theorem dX5_wishAll_93 : decode cX5_wishAll 93 = .ok (.ifCond .ge 7, 3) := by decide +kernel
theorem dX5_wishAll_96 : decode cX5_wishAll 96 = .ok (.iconst (-1), 1) := by decide +kernel
theorem dX5_wishAll_97 : decode cX5_wishAll 97 = .ok (.goto 15, 3) := by decide +kernel
theorem dX5_wishAll_100 : decode cX5_wishAll 100 = .ok (.aload_n 0, 1) := by decide +kernel
theorem dX5_wishAll_101 : decode cX5_wishAll 101 = .ok (.getfield 50, 3) := by decide +kernel
theorem dX5_wishAll_104 : decode cX5_wishAll 104 = .ok (.bipush 64, 2) := by decide +kernel
theorem dX5_wishAll_106 : decode cX5_wishAll 106 = .ok (.iload_n 1, 1) := by decide +kernel
theorem dX5_wishAll_107 : decode cX5_wishAll 107 = .ok (.imul, 1) := by decide +kernel
theorem dX5_wishAll_108 : decode cX5_wishAll 108 = .ok (.iload 6, 2) := by decide +kernel
theorem dX5_wishAll_110 : decode cX5_wishAll 110 = .ok (.iadd, 1) := by decide +kernel
theorem dX5_wishAll_111 : decode cX5_wishAll 111 = .ok (.iaload, 1) := by decide +kernel
theorem dX5_wishAll_112 : decode cX5_wishAll 112 = .ok (.istore 6, 2) := by decide +kernel
theorem dX5_wishAll_114 : decode cX5_wishAll 114 = .ok (.aload_n 0, 1) := by decide +kernel
theorem dX5_wishAll_115 : decode cX5_wishAll 115 = .ok (.iload_n 1, 1) := by decide +kernel
theorem dX5_wishAll_116 : decode cX5_wishAll 116 = .ok (.iload 6, 2) := by decide +kernel
theorem dX5_wishAll_118 : decode cX5_wishAll 118 = .ok (.invokevirtual 190, 3) := by decide +kernel
theorem dX5_wishAll_121 : decode cX5_wishAll 121 = .ok (.goto 59, 3) := by decide +kernel
theorem dX5_wishAll_124 : decode cX5_wishAll 124 = .ok (.aload_n 0, 1) := by decide +kernel
theorem dX5_wishAll_125 : decode cX5_wishAll 125 = .ok (.getfield 38, 3) := by decide +kernel
theorem dX5_wishAll_128 : decode cX5_wishAll 128 = .ok (.iload_n 1, 1) := by decide +kernel
theorem dX5_wishAll_129 : decode cX5_wishAll 129 = .ok (.iaload, 1) := by decide +kernel
theorem dX5_wishAll_130 : decode cX5_wishAll 130 = .ok (.ifCond .lt 50, 3) := by decide +kernel
theorem dX5_wishAll_133 : decode cX5_wishAll 133 = .ok (.iload_n 2, 1) := by decide +kernel
theorem dX5_wishAll_134 : decode cX5_wishAll 134 = .ok (.i2l, 1) := by decide +kernel
theorem dX5_wishAll_135 : decode cX5_wishAll 135 = .ok (.aload_n 0, 1) := by decide +kernel
theorem dX5_wishAll_136 : decode cX5_wishAll 136 = .ok (.getfield 38, 3) := by decide +kernel
theorem dX5_wishAll_139 : decode cX5_wishAll 139 = .ok (.iload_n 1, 1) := by decide +kernel
theorem dX5_wishAll_140 : decode cX5_wishAll 140 = .ok (.iaload, 1) := by decide +kernel
theorem dX5_wishAll_141 : decode cX5_wishAll 141 = .ok (.i2l, 1) := by decide +kernel
theorem dX5_wishAll_142 : decode cX5_wishAll 142 = .ok (.aload_n 0, 1) := by decide +kernel
theorem dX5_wishAll_143 : decode cX5_wishAll 143 = .ok (.getfield 41, 3) := by decide +kernel
theorem dX5_wishAll_146 : decode cX5_wishAll 146 = .ok (.iload_n 1, 1) := by decide +kernel
theorem dX5_wishAll_147 : decode cX5_wishAll 147 = .ok (.iaload, 1) := by decide +kernel
theorem dX5_wishAll_148 : decode cX5_wishAll 148 = .ok (.i2l, 1) := by decide +kernel
theorem dX5_wishAll_149 : decode cX5_wishAll 149 = .ok (.invokestatic 96, 3) := by decide +kernel
theorem dX5_wishAll_152 : decode cX5_wishAll 152 = .ok (.ifCond .eq 28, 3) := by decide +kernel
theorem dX5_wishAll_155 : decode cX5_wishAll 155 = .ok (.iload_n 2, 1) := by decide +kernel
theorem dX5_wishAll_156 : decode cX5_wishAll 156 = .ok (.iload 7, 2) := by decide +kernel
theorem dX5_wishAll_158 : decode cX5_wishAll 158 = .ok (.iadd, 1) := by decide +kernel
theorem dX5_wishAll_159 : decode cX5_wishAll 159 = .ok (.aload_n 0, 1) := by decide +kernel
theorem dX5_wishAll_160 : decode cX5_wishAll 160 = .ok (.getfield 41, 3) := by decide +kernel
theorem dX5_wishAll_163 : decode cX5_wishAll 163 = .ok (.iload_n 1, 1) := by decide +kernel
theorem dX5_wishAll_164 : decode cX5_wishAll 164 = .ok (.iaload, 1) := by decide +kernel
theorem dX5_wishAll_165 : decode cX5_wishAll 165 = .ok (.if_icmp .gt 15, 3) := by decide +kernel
theorem dX5_wishAll_168 : decode cX5_wishAll 168 = .ok (.aload_n 0, 1) := by decide +kernel
theorem dX5_wishAll_169 : decode cX5_wishAll 169 = .ok (.iload_n 1, 1) := by decide +kernel
theorem dX5_wishAll_170 : decode cX5_wishAll 170 = .ok (.iload_n 2, 1) := by decide +kernel
theorem dX5_wishAll_171 : decode cX5_wishAll 171 = .ok (.iload 7, 2) := by decide +kernel
theorem dX5_wishAll_173 : decode cX5_wishAll 173 = .ok (.iadd, 1) := by decide +kernel
theorem dX5_wishAll_174 : decode cX5_wishAll 174 = .ok (.invokevirtual 190, 3) := by decide +kernel
theorem dX5_wishAll_177 : decode cX5_wishAll 177 = .ok (.goto 3, 3) := by decide +kernel
theorem dX5_wishAll_180 : decode cX5_wishAll 180 = .ok (.iinc 7 1, 3) := by decide +kernel
theorem dX5_wishAll_183 : decode cX5_wishAll 183 = .ok (.goto (-170), 3) := by decide +kernel
theorem dX5_wishAll_186 : decode cX5_wishAll 186 = .ok (.return_, 1) := by decide +kernel
theorem dX5_hit_0 : decode cX5_hit 0 = .ok (.aload_n 0, 1) := by decide +kernel
theorem dX5_hit_1 : decode cX5_hit 1 = .ok (.getfield 53, 3) := by decide +kernel
theorem dX5_hit_4 : decode cX5_hit 4 = .ok (.bipush 7, 2) := by decide +kernel
theorem dX5_hit_6 : decode cX5_hit 6 = .ok (.iload_n 1, 1) := by decide +kernel
theorem dX5_hit_7 : decode cX5_hit 7 = .ok (.imul, 1) := by decide +kernel
theorem dX5_hit_8 : decode cX5_hit 8 = .ok (.iconst 1, 1) := by decide +kernel
theorem dX5_hit_9 : decode cX5_hit 9 = .ok (.iadd, 1) := by decide +kernel
theorem dX5_hit_10 : decode cX5_hit 10 = .ok (.dup2, 1) := by decide +kernel
theorem dX5_hit_11 : decode cX5_hit 11 = .ok (.iaload, 1) := by decide +kernel
theorem dX5_hit_12 : decode cX5_hit 12 = .ok (.iconst 1, 1) := by decide +kernel
theorem dX5_hit_13 : decode cX5_hit 13 = .ok (.iadd, 1) := by decide +kernel
theorem dX5_hit_14 : decode cX5_hit 14 = .ok (.iastore, 1) := by decide +kernel
theorem dX5_hit_15 : decode cX5_hit 15 = .ok (.aload_n 0, 1) := by decide +kernel
theorem dX5_hit_16 : decode cX5_hit 16 = .ok (.getfield 7, 3) := by decide +kernel
theorem dX5_hit_19 : decode cX5_hit 19 = .ok (.iload_n 2, 1) := by decide +kernel
theorem dX5_hit_20 : decode cX5_hit 20 = .ok (.iaload, 1) := by decide +kernel
theorem dX5_hit_21 : decode cX5_hit 21 = .ok (.istore_n 3, 1) := by decide +kernel
theorem dX5_hit_22 : decode cX5_hit 22 = .ok (.aload_n 0, 1) := by decide +kernel
theorem dX5_hit_23 : decode cX5_hit 23 = .ok (.getfield 13, 3) := by decide +kernel
theorem dX5_hit_26 : decode cX5_hit 26 = .ok (.iload_n 2, 1) := by decide +kernel
theorem dX5_hit_27 : decode cX5_hit 27 = .ok (.iaload, 1) := by decide +kernel
theorem dX5_hit_28 : decode cX5_hit 28 = .ok (.istore 4, 2) := by decide +kernel
theorem dX5_hit_30 : decode cX5_hit 30 = .ok (.aload_n 0, 1) := by decide +kernel
theorem dX5_hit_31 : decode cX5_hit 31 = .ok (.getfield 16, 3) := by decide +kernel
theorem dX5_hit_34 : decode cX5_hit 34 = .ok (.iload_n 2, 1) := by decide +kernel
theorem dX5_hit_35 : decode cX5_hit 35 = .ok (.baload, 1) := by decide +kernel
theorem dX5_hit_36 : decode cX5_hit 36 = .ok (.ifCond .eq 57, 3) := by decide +kernel
theorem dX5_hit_39 : decode cX5_hit 39 = .ok (.aload_n 0, 1) := by decide +kernel
theorem dX5_hit_40 : decode cX5_hit 40 = .ok (.getfield 53, 3) := by decide +kernel
theorem dX5_hit_43 : decode cX5_hit 43 = .ok (.bipush 7, 2) := by decide +kernel
theorem dX5_hit_45 : decode cX5_hit 45 = .ok (.iload 4, 2) := by decide +kernel
theorem dX5_hit_47 : decode cX5_hit 47 = .ok (.imul, 1) := by decide +kernel
theorem dX5_hit_48 : decode cX5_hit 48 = .ok (.iconst 5, 1) := by decide +kernel
theorem dX5_hit_49 : decode cX5_hit 49 = .ok (.iadd, 1) := by decide +kernel
theorem dX5_hit_50 : decode cX5_hit 50 = .ok (.dup2, 1) := by decide +kernel
theorem dX5_hit_51 : decode cX5_hit 51 = .ok (.iaload, 1) := by decide +kernel
theorem dX5_hit_52 : decode cX5_hit 52 = .ok (.iconst 1, 1) := by decide +kernel
theorem dX5_hit_53 : decode cX5_hit 53 = .ok (.iadd, 1) := by decide +kernel
theorem dX5_hit_54 : decode cX5_hit 54 = .ok (.iastore, 1) := by decide +kernel
theorem dX5_hit_55 : decode cX5_hit 55 = .ok (.aload_n 0, 1) := by decide +kernel
theorem dX5_hit_56 : decode cX5_hit 56 = .ok (.getfield 32, 3) := by decide +kernel
theorem dX5_hit_59 : decode cX5_hit 59 = .ok (.iload 4, 2) := by decide +kernel
theorem dX5_hit_61 : decode cX5_hit 61 = .ok (.dup2, 1) := by decide +kernel
theorem dX5_hit_62 : decode cX5_hit 62 = .ok (.iaload, 1) := by decide +kernel
theorem dX5_hit_63 : decode cX5_hit 63 = .ok (.aload_n 0, 1) := by decide +kernel
theorem dX5_hit_64 : decode cX5_hit 64 = .ok (.getfield 26, 3) := by decide +kernel
theorem dX5_hit_67 : decode cX5_hit 67 = .ok (.iload 4, 2) := by decide +kernel
theorem dX5_hit_69 : decode cX5_hit 69 = .ok (.iaload, 1) := by decide +kernel
theorem dX5_hit_70 : decode cX5_hit 70 = .ok (.iconst 5, 1) := by decide +kernel
theorem dX5_hit_71 : decode cX5_hit 71 = .ok (.if_icmp .ne 19, 3) := by decide +kernel
theorem dX5_hit_74 : decode cX5_hit 74 = .ok (.aload_n 0, 1) := by decide +kernel
theorem dX5_hit_75 : decode cX5_hit 75 = .ok (.getfield 32, 3) := by decide +kernel
theorem dX5_hit_78 : decode cX5_hit 78 = .ok (.iload 4, 2) := by decide +kernel
theorem dX5_hit_80 : decode cX5_hit 80 = .ok (.iaload, 1) := by decide +kernel
theorem dX5_hit_81 : decode cX5_hit 81 = .ok (.bipush 8, 2) := by decide +kernel
theorem dX5_hit_83 : decode cX5_hit 83 = .ok (.if_icmp .ge 7, 3) := by decide +kernel
theorem dX5_hit_86 : decode cX5_hit 86 = .ok (.iconst 1, 1) := by decide +kernel
theorem dX5_hit_87 : decode cX5_hit 87 = .ok (.goto 4, 3) := by decide +kernel
theorem dX5_hit_90 : decode cX5_hit 90 = .ok (.iconst 0, 1) := by decide +kernel
theorem dX5_hit_91 : decode cX5_hit 91 = .ok (.iadd, 1) := by decide +kernel
theorem dX5_hit_92 : decode cX5_hit 92 = .ok (.iastore, 1) := by decide +kernel
theorem dX5_hit_93 : decode cX5_hit 93 = .ok (.aload_n 0, 1) := by decide +kernel
theorem dX5_hit_94 : decode cX5_hit 94 = .ok (.iload_n 2, 1) := by decide +kernel
theorem dX5_hit_95 : decode cX5_hit 95 = .ok (.invokevirtual 158, 3) := by decide +kernel
theorem dX5_hit_98 : decode cX5_hit 98 = .ok (.aload_n 0, 1) := by decide +kernel
theorem dX5_hit_99 : decode cX5_hit 99 = .ok (.getfield 7, 3) := by decide +kernel
theorem dX5_hit_102 : decode cX5_hit 102 = .ok (.aload_n 0, 1) := by decide +kernel
theorem dX5_hit_103 : decode cX5_hit 103 = .ok (.getfield 111, 3) := by decide +kernel
theorem dX5_hit_106 : decode cX5_hit 106 = .ok (.iload_n 3, 1) := by decide +kernel
theorem dX5_hit_107 : decode cX5_hit 107 = .ok (.iastore, 1) := by decide +kernel
theorem dX5_hit_108 : decode cX5_hit 108 = .ok (.aload_n 0, 1) := by decide +kernel
theorem dX5_hit_109 : decode cX5_hit 109 = .ok (.getfield 13, 3) := by decide +kernel
theorem dX5_hit_112 : decode cX5_hit 112 = .ok (.aload_n 0, 1) := by decide +kernel
theorem dX5_hit_113 : decode cX5_hit 113 = .ok (.getfield 111, 3) := by decide +kernel
theorem dX5_hit_116 : decode cX5_hit 116 = .ok (.iload 4, 2) := by decide +kernel
theorem dX5_hit_118 : decode cX5_hit 118 = .ok (.iastore, 1) := by decide +kernel
theorem dX5_hit_119 : decode cX5_hit 119 = .ok (.aload_n 0, 1) := by decide +kernel
theorem dX5_hit_120 : decode cX5_hit 120 = .ok (.getfield 16, 3) := by decide +kernel
theorem dX5_hit_123 : decode cX5_hit 123 = .ok (.aload_n 0, 1) := by decide +kernel
theorem dX5_hit_124 : decode cX5_hit 124 = .ok (.getfield 111, 3) := by decide +kernel
theorem dX5_hit_127 : decode cX5_hit 127 = .ok (.iconst 0, 1) := by decide +kernel
theorem dX5_hit_128 : decode cX5_hit 128 = .ok (.bastore, 1) := by decide +kernel
theorem dX5_hit_129 : decode cX5_hit 129 = .ok (.aload_n 0, 1) := by decide +kernel
theorem dX5_hit_130 : decode cX5_hit 130 = .ok (.dup, 1) := by decide +kernel
theorem dX5_hit_131 : decode cX5_hit 131 = .ok (.getfield 111, 3) := by decide +kernel
theorem dX5_hit_134 : decode cX5_hit 134 = .ok (.iconst 1, 1) := by decide +kernel
theorem dX5_hit_135 : decode cX5_hit 135 = .ok (.iadd, 1) := by decide +kernel
theorem dX5_hit_136 : decode cX5_hit 136 = .ok (.putfield 111, 3) := by decide +kernel
theorem dX5_hit_139 : decode cX5_hit 139 = .ok (.return_, 1) := by decide +kernel
theorem dX5_ask_0 : decode cX5_ask 0 = .ok (.iload_n 1, 1) := by decide +kernel
theorem dX5_ask_1 : decode cX5_ask 1 = .ok (.invokestatic 137, 3) := by decide +kernel
theorem dX5_ask_4 : decode cX5_ask 4 = .ok (.ifCond .ne 6, 3) := by decide +kernel
theorem dX5_ask_7 : decode cX5_ask 7 = .ok (.bipush (-101), 2) := by decide +kernel
theorem dX5_ask_9 : decode cX5_ask 9 = .ok (.ireturn, 1) := by decide +kernel
theorem dX5_ask_10 : decode cX5_ask 10 = .ok (.iload_n 2, 1) := by decide +kernel
theorem dX5_ask_11 : decode cX5_ask 11 = .ok (.invokestatic 145, 3) := by decide +kernel
theorem dX5_ask_14 : decode cX5_ask 14 = .ok (.ifCond .ne 6, 3) := by decide +kernel
theorem dX5_ask_17 : decode cX5_ask 17 = .ok (.bipush (-102), 2) := by decide +kernel
theorem dX5_ask_19 : decode cX5_ask 19 = .ok (.ireturn, 1) := by decide +kernel
theorem dX5_ask_20 : decode cX5_ask 20 = .ok (.aload_n 0, 1) := by decide +kernel
theorem dX5_ask_21 : decode cX5_ask 21 = .ok (.getfield 53, 3) := by decide +kernel
theorem dX5_ask_24 : decode cX5_ask 24 = .ok (.bipush 7, 2) := by decide +kernel
theorem dX5_ask_26 : decode cX5_ask 26 = .ok (.iload_n 1, 1) := by decide +kernel
theorem dX5_ask_27 : decode cX5_ask 27 = .ok (.imul, 1) := by decide +kernel
theorem dX5_ask_28 : decode cX5_ask 28 = .ok (.dup2, 1) := by decide +kernel
theorem dX5_ask_29 : decode cX5_ask 29 = .ok (.iaload, 1) := by decide +kernel
theorem dX5_ask_30 : decode cX5_ask 30 = .ok (.iconst 1, 1) := by decide +kernel
theorem dX5_ask_31 : decode cX5_ask 31 = .ok (.iadd, 1) := by decide +kernel
theorem dX5_ask_32 : decode cX5_ask 32 = .ok (.iastore, 1) := by decide +kernel
theorem dX5_ask_33 : decode cX5_ask 33 = .ok (.aload_n 0, 1) := by decide +kernel
theorem dX5_ask_34 : decode cX5_ask 34 = .ok (.getfield 56, 3) := by decide +kernel
theorem dX5_ask_37 : decode cX5_ask 37 = .ok (.aload_n 0, 1) := by decide +kernel
theorem dX5_ask_38 : decode cX5_ask 38 = .ok (.getfield 126, 3) := by decide +kernel
theorem dX5_ask_41 : decode cX5_ask 41 = .ok (.sipush 200, 3) := by decide +kernel
theorem dX5_ask_44 : decode cX5_ask 44 = .ok (.irem, 1) := by decide +kernel
theorem dX5_ask_45 : decode cX5_ask 45 = .ok (.iload_n 2, 1) := by decide +kernel
theorem dX5_ask_46 : decode cX5_ask 46 = .ok (.iastore, 1) := by decide +kernel
theorem dX5_ask_47 : decode cX5_ask 47 = .ok (.aload_n 0, 1) := by decide +kernel
theorem dX5_ask_48 : decode cX5_ask 48 = .ok (.dup, 1) := by decide +kernel
theorem dX5_ask_49 : decode cX5_ask 49 = .ok (.getfield 126, 3) := by decide +kernel
theorem dX5_ask_52 : decode cX5_ask 52 = .ok (.iconst 1, 1) := by decide +kernel
theorem dX5_ask_53 : decode cX5_ask 53 = .ok (.iadd, 1) := by decide +kernel
theorem dX5_ask_54 : decode cX5_ask 54 = .ok (.putfield 126, 3) := by decide +kernel
theorem dX5_ask_57 : decode cX5_ask 57 = .ok (.aload_n 0, 1) := by decide +kernel
theorem dX5_ask_58 : decode cX5_ask 58 = .ok (.iload_n 2, 1) := by decide +kernel
theorem dX5_ask_59 : decode cX5_ask 59 = .ok (.invokevirtual 181, 3) := by decide +kernel
theorem dX5_ask_62 : decode cX5_ask 62 = .ok (.istore_n 3, 1) := by decide +kernel
theorem dX5_ask_63 : decode cX5_ask 63 = .ok (.iload_n 3, 1) := by decide +kernel
theorem dX5_ask_64 : decode cX5_ask 64 = .ok (.ifCond .ge 7, 3) := by decide +kernel
theorem dX5_ask_67 : decode cX5_ask 67 = .ok (.iconst 1, 1) := by decide +kernel
theorem dX5_ask_68 : decode cX5_ask 68 = .ok (.goto 4, 3) := by decide +kernel
theorem dX5_ask_71 : decode cX5_ask 71 = .ok (.iconst 0, 1) := by decide +kernel
theorem dX5_ask_72 : decode cX5_ask 72 = .ok (.istore 4, 2) := by decide +kernel
theorem dX5_ask_74 : decode cX5_ask 74 = .ok (.iload_n 3, 1) := by decide +kernel
theorem dX5_ask_75 : decode cX5_ask 75 = .ok (.ifCond .lt 12, 3) := by decide +kernel
theorem dX5_ask_78 : decode cX5_ask 78 = .ok (.aload_n 0, 1) := by decide +kernel
theorem dX5_ask_79 : decode cX5_ask 79 = .ok (.iload_n 1, 1) := by decide +kernel
theorem dX5_ask_80 : decode cX5_ask 80 = .ok (.iload_n 3, 1) := by decide +kernel
theorem dX5_ask_81 : decode cX5_ask 81 = .ok (.invokevirtual 194, 3) := by decide +kernel
theorem dX5_ask_84 : decode cX5_ask 84 = .ok (.goto 50, 3) := by decide +kernel
theorem dX5_ask_87 : decode cX5_ask 87 = .ok (.aload_n 0, 1) := by decide +kernel
theorem dX5_ask_88 : decode cX5_ask 88 = .ok (.iload_n 2, 1) := by decide +kernel
theorem dX5_ask_89 : decode cX5_ask 89 = .ok (.invokevirtual 184, 3) := by decide +kernel
theorem dX5_ask_92 : decode cX5_ask 92 = .ok (.istore 5, 2) := by decide +kernel
theorem dX5_ask_94 : decode cX5_ask 94 = .ok (.iload 5, 2) := by decide +kernel
theorem dX5_ask_96 : decode cX5_ask 96 = .ok (.ifCond .lt 9, 3) := by decide +kernel
