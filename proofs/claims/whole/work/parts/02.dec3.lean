theorem dX4_digest_68 : decode cX4_digest 68 = .ok (.getfield 92, 3) := by decide +kernel
theorem dX4_digest_71 : decode cX4_digest 71 = .ok (.iconst 1, 1) := by decide +kernel
theorem dX4_digest_72 : decode cX4_digest 72 = .ok (.invokestatic 154, 3) := by decide +kernel
theorem dX4_digest_75 : decode cX4_digest 75 = .ok (.istore_n 1, 1) := by decide +kernel
theorem dX4_digest_76 : decode cX4_digest 76 = .ok (.iload_n 1, 1) := by decide +kernel
theorem dX4_digest_77 : decode cX4_digest 77 = .ok (.aload_n 0, 1) := by decide +kernel
theorem dX4_digest_78 : decode cX4_digest 78 = .ok (.getfield 10, 3) := by decide +kernel
theorem dX4_digest_81 : decode cX4_digest 81 = .ok (.getfield 114, 3) := by decide +kernel
theorem dX4_digest_84 : decode cX4_digest 84 = .ok (.iconst 0, 1) := by decide +kernel
theorem dX4_digest_85 : decode cX4_digest 85 = .ok (.invokestatic 154, 3) := by decide +kernel
theorem dX4_digest_88 : decode cX4_digest 88 = .ok (.istore_n 1, 1) := by decide +kernel
theorem dX4_digest_89 : decode cX4_digest 89 = .ok (.iconst 0, 1) := by decide +kernel
theorem dX4_digest_90 : decode cX4_digest 90 = .ok (.istore_n 2, 1) := by decide +kernel
theorem dX4_digest_91 : decode cX4_digest 91 = .ok (.iload_n 2, 1) := by decide +kernel
theorem dX4_digest_92 : decode cX4_digest 92 = .ok (.iconst 4, 1) := by decide +kernel
theorem dX4_digest_93 : decode cX4_digest 93 = .ok (.if_icmp .ge 23, 3) := by decide +kernel
theorem dX4_digest_96 : decode cX4_digest 96 = .ok (.iload_n 1, 1) := by decide +kernel
theorem dX4_digest_97 : decode cX4_digest 97 = .ok (.aload_n 0, 1) := by decide +kernel
theorem dX4_digest_98 : decode cX4_digest 98 = .ok (.getfield 10, 3) := by decide +kernel
theorem dX4_digest_101 : decode cX4_digest 101 = .ok (.getfield 47, 3) := by decide +kernel
theorem dX4_digest_104 : decode cX4_digest 104 = .ok (.iload_n 2, 1) := by decide +kernel
theorem dX4_digest_105 : decode cX4_digest 105 = .ok (.aaload, 1) := by decide +kernel
theorem dX4_digest_106 : decode cX4_digest 106 = .ok (.invokestatic 158, 3) := by decide +kernel
theorem dX4_digest_109 : decode cX4_digest 109 = .ok (.istore_n 1, 1) := by decide +kernel
theorem dX4_digest_110 : decode cX4_digest 110 = .ok (.iinc 2 1, 3) := by decide +kernel
theorem dX4_digest_113 : decode cX4_digest 113 = .ok (.goto (-22), 3) := by decide +kernel
theorem dX4_digest_116 : decode cX4_digest 116 = .ok (.iload_n 1, 1) := by decide +kernel
theorem dX4_digest_117 : decode cX4_digest 117 = .ok (.ireturn, 1) := by decide +kernel
theorem dX4_mixed_0 : decode cX4_mixed 0 = .ok (.bipush 31, 2) := by decide +kernel
theorem dX4_mixed_2 : decode cX4_mixed 2 = .ok (.iload_n 0, 1) := by decide +kernel
theorem dX4_mixed_3 : decode cX4_mixed 3 = .ok (.imul, 1) := by decide +kernel
theorem dX4_mixed_4 : decode cX4_mixed 4 = .ok (.iload_n 1, 1) := by decide +kernel
theorem dX4_mixed_5 : decode cX4_mixed 5 = .ok (.iadd, 1) := by decide +kernel
theorem dX4_mixed_6 : decode cX4_mixed 6 = .ok (.ireturn, 1) := by decide +kernel
theorem dX4_mixedHeld_0 : decode cX4_mixedHeld 0 = .ok (.iload_n 0, 1) := by decide +kernel
theorem dX4_mixedHeld_1 : decode cX4_mixedHeld 1 = .ok (.istore_n 3, 1) := by decide +kernel
theorem dX4_mixedHeld_2 : decode cX4_mixedHeld 2 = .ok (.iconst 0, 1) := by decide +kernel
theorem dX4_mixedHeld_3 : decode cX4_mixedHeld 3 = .ok (.istore 4, 2) := by decide +kernel
theorem dX4_mixedHeld_5 : decode cX4_mixedHeld 5 = .ok (.iload 4, 2) := by decide +kernel
theorem dX4_mixedHeld_7 : decode cX4_mixedHeld 7 = .ok (.aload_n 1, 1) := by decide +kernel
theorem dX4_mixedHeld_8 : decode cX4_mixedHeld 8 = .ok (.getfield 96, 3) := by decide +kernel
theorem dX4_mixedHeld_11 : decode cX4_mixedHeld 11 = .ok (.if_icmp .ge 49, 3) := by decide +kernel
theorem dX4_mixedHeld_14 : decode cX4_mixedHeld 14 = .ok (.iload_n 3, 1) := by decide +kernel
theorem dX4_mixedHeld_15 : decode cX4_mixedHeld 15 = .ok (.aload_n 1, 1) := by decide +kernel
theorem dX4_mixedHeld_16 : decode cX4_mixedHeld 16 = .ok (.getfield 101, 3) := by decide +kernel
theorem dX4_mixedHeld_19 : decode cX4_mixedHeld 19 = .ok (.iload 4, 2) := by decide +kernel
theorem dX4_mixedHeld_21 : decode cX4_mixedHeld 21 = .ok (.iaload, 1) := by decide +kernel
theorem dX4_mixedHeld_22 : decode cX4_mixedHeld 22 = .ok (.invokestatic 151, 3) := by decide +kernel
theorem dX4_mixedHeld_25 : decode cX4_mixedHeld 25 = .ok (.istore_n 3, 1) := by decide +kernel
theorem dX4_mixedHeld_26 : decode cX4_mixedHeld 26 = .ok (.iload_n 3, 1) := by decide +kernel
theorem dX4_mixedHeld_27 : decode cX4_mixedHeld 27 = .ok (.aload_n 1, 1) := by decide +kernel
theorem dX4_mixedHeld_28 : decode cX4_mixedHeld 28 = .ok (.getfield 105, 3) := by decide +kernel
theorem dX4_mixedHeld_31 : decode cX4_mixedHeld 31 = .ok (.iload 4, 2) := by decide +kernel
theorem dX4_mixedHeld_33 : decode cX4_mixedHeld 33 = .ok (.iaload, 1) := by decide +kernel
theorem dX4_mixedHeld_34 : decode cX4_mixedHeld 34 = .ok (.invokestatic 151, 3) := by decide +kernel
theorem dX4_mixedHeld_37 : decode cX4_mixedHeld 37 = .ok (.istore_n 3, 1) := by decide +kernel
theorem dX4_mixedHeld_38 : decode cX4_mixedHeld 38 = .ok (.iload_n 2, 1) := by decide +kernel
theorem dX4_mixedHeld_39 : decode cX4_mixedHeld 39 = .ok (.ifCond .eq 15, 3) := by decide +kernel
theorem dX4_mixedHeld_42 : decode cX4_mixedHeld 42 = .ok (.iload_n 3, 1) := by decide +kernel
theorem dX4_mixedHeld_43 : decode cX4_mixedHeld 43 = .ok (.aload_n 1, 1) := by decide +kernel
theorem dX4_mixedHeld_44 : decode cX4_mixedHeld 44 = .ok (.getfield 108, 3) := by decide +kernel
theorem dX4_mixedHeld_47 : decode cX4_mixedHeld 47 = .ok (.iload 4, 2) := by decide +kernel
theorem dX4_mixedHeld_49 : decode cX4_mixedHeld 49 = .ok (.iaload, 1) := by decide +kernel
theorem dX4_mixedHeld_50 : decode cX4_mixedHeld 50 = .ok (.invokestatic 151, 3) := by decide +kernel
theorem dX4_mixedHeld_53 : decode cX4_mixedHeld 53 = .ok (.istore_n 3, 1) := by decide +kernel
theorem dX4_mixedHeld_54 : decode cX4_mixedHeld 54 = .ok (.iinc 4 1, 3) := by decide +kernel
theorem dX4_mixedHeld_57 : decode cX4_mixedHeld 57 = .ok (.goto (-52), 3) := by decide +kernel
theorem dX4_mixedHeld_60 : decode cX4_mixedHeld 60 = .ok (.iload_n 3, 1) := by decide +kernel
theorem dX4_mixedHeld_61 : decode cX4_mixedHeld 61 = .ok (.ireturn, 1) := by decide +kernel
theorem dX4_mixedAsker_0 : decode cX4_mixedAsker 0 = .ok (.iload_n 0, 1) := by decide +kernel
theorem dX4_mixedAsker_1 : decode cX4_mixedAsker 1 = .ok (.istore_n 2, 1) := by decide +kernel
theorem dX4_mixedAsker_2 : decode cX4_mixedAsker 2 = .ok (.iconst 0, 1) := by decide +kernel
theorem dX4_mixedAsker_3 : decode cX4_mixedAsker 3 = .ok (.istore_n 3, 1) := by decide +kernel
theorem dX4_mixedAsker_4 : decode cX4_mixedAsker 4 = .ok (.iload_n 3, 1) := by decide +kernel
theorem dX4_mixedAsker_5 : decode cX4_mixedAsker 5 = .ok (.bipush 7, 2) := by decide +kernel
theorem dX4_mixedAsker_7 : decode cX4_mixedAsker 7 = .ok (.if_icmp .ge 20, 3) := by decide +kernel
theorem dX4_mixedAsker_10 : decode cX4_mixedAsker 10 = .ok (.iload_n 2, 1) := by decide +kernel
theorem dX4_mixedAsker_11 : decode cX4_mixedAsker 11 = .ok (.aload_n 1, 1) := by decide +kernel
theorem dX4_mixedAsker_12 : decode cX4_mixedAsker 12 = .ok (.getfield 162, 3) := by decide +kernel
theorem dX4_mixedAsker_15 : decode cX4_mixedAsker 15 = .ok (.iload_n 3, 1) := by decide +kernel
theorem dX4_mixedAsker_16 : decode cX4_mixedAsker 16 = .ok (.iaload, 1) := by decide +kernel
theorem dX4_mixedAsker_17 : decode cX4_mixedAsker 17 = .ok (.invokestatic 151, 3) := by decide +kernel
theorem dX4_mixedAsker_20 : decode cX4_mixedAsker 20 = .ok (.istore_n 2, 1) := by decide +kernel
theorem dX4_mixedAsker_21 : decode cX4_mixedAsker 21 = .ok (.iinc 3 1, 3) := by decide +kernel
theorem dX4_mixedAsker_24 : decode cX4_mixedAsker 24 = .ok (.goto (-20), 3) := by decide +kernel
theorem dX4_mixedAsker_27 : decode cX4_mixedAsker 27 = .ok (.iload_n 2, 1) := by decide +kernel
theorem dX4_mixedAsker_28 : decode cX4_mixedAsker 28 = .ok (.aload_n 1, 1) := by decide +kernel
theorem dX4_mixedAsker_29 : decode cX4_mixedAsker 29 = .ok (.getfield 63, 3) := by decide +kernel
theorem dX4_mixedAsker_32 : decode cX4_mixedAsker 32 = .ok (.invokestatic 151, 3) := by decide +kernel
theorem dX4_mixedAsker_35 : decode cX4_mixedAsker 35 = .ok (.aload_n 1, 1) := by decide +kernel
theorem dX4_mixedAsker_36 : decode cX4_mixedAsker 36 = .ok (.getfield 89, 3) := by decide +kernel
theorem dX4_mixedAsker_39 : decode cX4_mixedAsker 39 = .ok (.invokestatic 151, 3) := by decide +kernel
theorem dX4_mixedAsker_42 : decode cX4_mixedAsker 42 = .ok (.ireturn, 1) := by decide +kernel
theorem dX4_toldOfAll_0 : decode cX4_toldOfAll 0 = .ok (.iconst 0, 1) := by decide +kernel
theorem dX4_toldOfAll_1 : decode cX4_toldOfAll 1 = .ok (.istore_n 2, 1) := by decide +kernel
theorem dX4_toldOfAll_2 : decode cX4_toldOfAll 2 = .ok (.iconst 0, 1) := by decide +kernel
theorem dX4_toldOfAll_3 : decode cX4_toldOfAll 3 = .ok (.istore_n 3, 1) := by decide +kernel
theorem dX4_toldOfAll_4 : decode cX4_toldOfAll 4 = .ok (.iload_n 3, 1) := by decide +kernel
theorem dX4_toldOfAll_5 : decode cX4_toldOfAll 5 = .ok (.iconst 4, 1) := by decide +kernel
theorem dX4_toldOfAll_6 : decode cX4_toldOfAll 6 = .ok (.if_icmp .ge 18, 3) := by decide +kernel
theorem dX4_toldOfAll_9 : decode cX4_toldOfAll 9 = .ok (.iload_n 2, 1) := by decide +kernel
theorem dX4_toldOfAll_10 : decode cX4_toldOfAll 10 = .ok (.aload_n 0, 1) := by decide +kernel
theorem dX4_toldOfAll_11 : decode cX4_toldOfAll 11 = .ok (.iload_n 3, 1) := by decide +kernel
theorem dX4_toldOfAll_12 : decode cX4_toldOfAll 12 = .ok (.iload_n 1, 1) := by decide +kernel
theorem dX4_toldOfAll_13 : decode cX4_toldOfAll 13 = .ok (.invokevirtual 86, 3) := by decide +kernel
theorem dX4_toldOfAll_16 : decode cX4_toldOfAll 16 = .ok (.iadd, 1) := by decide +kernel
theorem dX4_toldOfAll_17 : decode cX4_toldOfAll 17 = .ok (.istore_n 2, 1) := by decide +kernel
theorem dX4_toldOfAll_18 : decode cX4_toldOfAll 18 = .ok (.iinc 3 1, 3) := by decide +kernel
theorem dX4_toldOfAll_21 : decode cX4_toldOfAll 21 = .ok (.goto (-17), 3) := by decide +kernel
theorem dX4_toldOfAll_24 : decode cX4_toldOfAll 24 = .ok (.iload_n 2, 1) := by decide +kernel
theorem dX4_toldOfAll_25 : decode cX4_toldOfAll 25 = .ok (.ireturn, 1) := by decide +kernel
theorem dX4_toldOfOne_0 : decode cX4_toldOfOne 0 = .ok (.iload_n 2, 1) := by decide +kernel
theorem dX4_toldOfOne_1 : decode cX4_toldOfOne 1 = .ok (.tableswitch 66 7 9 #[27, 40, 53], 27) := by decide +kernel
theorem dX4_toldOfOne_28 : decode cX4_toldOfOne 28 = .ok (.aload_n 0, 1) := by decide +kernel
theorem dX4_toldOfOne_29 : decode cX4_toldOfOne 29 = .ok (.getfield 10, 3) := by decide +kernel
theorem dX4_toldOfOne_32 : decode cX4_toldOfOne 32 = .ok (.getfield 92, 3) := by decide +kernel
theorem dX4_toldOfOne_35 : decode cX4_toldOfOne 35 = .ok (.getfield 165, 3) := by decide +kernel
theorem dX4_toldOfOne_38 : decode cX4_toldOfOne 38 = .ok (.iload_n 1, 1) := by decide +kernel
theorem dX4_toldOfOne_39 : decode cX4_toldOfOne 39 = .ok (.iaload, 1) := by decide +kernel
theorem dX4_toldOfOne_40 : decode cX4_toldOfOne 40 = .ok (.ireturn, 1) := by decide +kernel
theorem dX4_toldOfOne_41 : decode cX4_toldOfOne 41 = .ok (.aload_n 0, 1) := by decide +kernel
theorem dX4_toldOfOne_42 : decode cX4_toldOfOne 42 = .ok (.getfield 10, 3) := by decide +kernel
theorem dX4_toldOfOne_45 : decode cX4_toldOfOne 45 = .ok (.getfield 47, 3) := by decide +kernel
theorem dX4_toldOfOne_48 : decode cX4_toldOfOne 48 = .ok (.iload_n 1, 1) := by decide +kernel
theorem dX4_toldOfOne_49 : decode cX4_toldOfOne 49 = .ok (.aaload, 1) := by decide +kernel
theorem dX4_toldOfOne_50 : decode cX4_toldOfOne 50 = .ok (.getfield 51, 3) := by decide +kernel
theorem dX4_toldOfOne_53 : decode cX4_toldOfOne 53 = .ok (.ireturn, 1) := by decide +kernel
theorem dX4_toldOfOne_54 : decode cX4_toldOfOne 54 = .ok (.aload_n 0, 1) := by decide +kernel
theorem dX4_toldOfOne_55 : decode cX4_toldOfOne 55 = .ok (.getfield 10, 3) := by decide +kernel
theorem dX4_toldOfOne_58 : decode cX4_toldOfOne 58 = .ok (.getfield 114, 3) := by decide +kernel
theorem dX4_toldOfOne_61 : decode cX4_toldOfOne 61 = .ok (.getfield 165, 3) := by decide +kernel
theorem dX4_toldOfOne_64 : decode cX4_toldOfOne 64 = .ok (.iload_n 1, 1) := by decide +kernel
theorem dX4_toldOfOne_65 : decode cX4_toldOfOne 65 = .ok (.iaload, 1) := by decide +kernel
theorem dX4_toldOfOne_66 : decode cX4_toldOfOne 66 = .ok (.ireturn, 1) := by decide +kernel
theorem dX4_toldOfOne_67 : decode cX4_toldOfOne 67 = .ok (.aload_n 0, 1) := by decide +kernel
theorem dX4_toldOfOne_68 : decode cX4_toldOfOne 68 = .ok (.getfield 10, 3) := by decide +kernel
theorem dX4_toldOfOne_71 : decode cX4_toldOfOne 71 = .ok (.getfield 47, 3) := by decide +kernel
theorem dX4_toldOfOne_74 : decode cX4_toldOfOne 74 = .ok (.iload_n 1, 1) := by decide +kernel
theorem dX4_toldOfOne_75 : decode cX4_toldOfOne 75 = .ok (.aaload, 1) := by decide +kernel
theorem dX4_toldOfOne_76 : decode cX4_toldOfOne 76 = .ok (.getfield 162, 3) := by decide +kernel
theorem dX4_toldOfOne_79 : decode cX4_toldOfOne 79 = .ok (.iload_n 2, 1) := by decide +kernel
theorem dX4_toldOfOne_80 : decode cX4_toldOfOne 80 = .ok (.iaload, 1) := by decide +kernel
theorem dX4_toldOfOne_81 : decode cX4_toldOfOne 81 = .ok (.ireturn, 1) := by decide +kernel
theorem dX4_within_0 : decode cX4_within 0 = .ok (.iload_n 1, 1) := by decide +kernel
theorem dX4_within_1 : decode cX4_within 1 = .ok (.iload_n 0, 1) := by decide +kernel
theorem dX4_within_2 : decode cX4_within 2 = .ok (.if_icmp .gt 12, 3) := by decide +kernel
theorem dX4_within_5 : decode cX4_within 5 = .ok (.iload_n 0, 1) := by decide +kernel
theorem dX4_within_6 : decode cX4_within 6 = .ok (.iload_n 2, 1) := by decide +kernel
theorem dX4_within_7 : decode cX4_within 7 = .ok (.if_icmp .gt 7, 3) := by decide +kernel
theorem dX4_within_10 : decode cX4_within 10 = .ok (.iconst 1, 1) := by decide +kernel
theorem dX4_within_11 : decode cX4_within 11 = .ok (.goto 4, 3) := by decide +kernel
theorem dX4_within_14 : decode cX4_within 14 = .ok (.iconst 0, 1) := by decide +kernel
theorem dX4_within_15 : decode cX4_within 15 = .ok (.ireturn, 1) := by decide +kernel
theorem dX4_isAsker_0 : decode cX4_isAsker 0 = .ok (.iload_n 0, 1) := by decide +kernel
theorem dX4_isAsker_1 : decode cX4_isAsker 1 = .ok (.iconst 0, 1) := by decide +kernel
theorem dX4_isAsker_2 : decode cX4_isAsker 2 = .ok (.iconst 3, 1) := by decide +kernel
theorem dX4_isAsker_3 : decode cX4_isAsker 3 = .ok (.invokestatic 31, 3) := by decide +kernel
theorem dX4_isAsker_6 : decode cX4_isAsker 6 = .ok (.ireturn, 1) := by decide +kernel
theorem dX4_isBlock_0 : decode cX4_isBlock 0 = .ok (.iload_n 0, 1) := by decide +kernel
theorem dX4_isBlock_1 : decode cX4_isBlock 1 = .ok (.iconst 0, 1) := by decide +kernel
theorem dX4_isBlock_2 : decode cX4_isBlock 2 = .ok (.bipush 63, 2) := by decide +kernel
theorem dX4_isBlock_4 : decode cX4_isBlock 4 = .ok (.invokestatic 31, 3) := by decide +kernel
theorem dX4_isBlock_7 : decode cX4_isBlock 7 = .ok (.ireturn, 1) := by decide +kernel
theorem dX4_isShelf_0 : decode cX4_isShelf 0 = .ok (.iload_n 0, 1) := by decide +kernel
theorem dX4_isShelf_1 : decode cX4_isShelf 1 = .ok (.iconst 0, 1) := by decide +kernel
theorem dX4_isShelf_2 : decode cX4_isShelf 2 = .ok (.iconst 1, 1) := by decide +kernel
theorem dX4_isShelf_3 : decode cX4_isShelf 3 = .ok (.invokestatic 31, 3) := by decide +kernel
theorem dX4_isShelf_6 : decode cX4_isShelf 6 = .ok (.ireturn, 1) := by decide +kernel
theorem dX5_init_0 : decode cX5_init 0 = .ok (.aload_n 0, 1) := by decide +kernel
theorem dX5_init_1 : decode cX5_init 1 = .ok (.invokespecial 1, 3) := by decide +kernel
theorem dX5_init_4 : decode cX5_init 4 = .ok (.aload_n 0, 1) := by decide +kernel
theorem dX5_init_5 : decode cX5_init 5 = .ok (.bipush 12, 2) := by decide +kernel
theorem dX5_init_7 : decode cX5_init 7 = .ok (.newarray .int, 2) := by decide +kernel
theorem dX5_init_9 : decode cX5_init 9 = .ok (.putfield 7, 3) := by decide +kernel
theorem dX5_init_12 : decode cX5_init 12 = .ok (.aload_n 0, 1) := by decide +kernel
theorem dX5_init_13 : decode cX5_init 13 = .ok (.bipush 12, 2) := by decide +kernel
theorem dX5_init_15 : decode cX5_init 15 = .ok (.newarray .int, 2) := by decide +kernel
theorem dX5_init_17 : decode cX5_init 17 = .ok (.putfield 13, 3) := by decide +kernel
theorem dX5_init_20 : decode cX5_init 20 = .ok (.aload_n 0, 1) := by decide +kernel
theorem dX5_init_21 : decode cX5_init 21 = .ok (.bipush 12, 2) := by decide +kernel
theorem dX5_init_23 : decode cX5_init 23 = .ok (.newarray .boolean, 2) := by decide +kernel
theorem dX5_init_25 : decode cX5_init 25 = .ok (.putfield 16, 3) := by decide +kernel
theorem dX5_init_28 : decode cX5_init 28 = .ok (.aload_n 0, 1) := by decide +kernel
theorem dX5_init_29 : decode cX5_init 29 = .ok (.bipush 16, 2) := by decide +kernel
theorem dX5_init_31 : decode cX5_init 31 = .ok (.newarray .int, 2) := by decide +kernel
theorem dX5_init_33 : decode cX5_init 33 = .ok (.putfield 20, 3) := by decide +kernel
theorem dX5_init_36 : decode cX5_init 36 = .ok (.aload_n 0, 1) := by decide +kernel
theorem dX5_init_37 : decode cX5_init 37 = .ok (.bipush 16, 2) := by decide +kernel
theorem dX5_init_39 : decode cX5_init 39 = .ok (.newarray .int, 2) := by decide +kernel
theorem dX5_init_41 : decode cX5_init 41 = .ok (.putfield 23, 3) := by decide +kernel
theorem dX5_init_44 : decode cX5_init 44 = .ok (.aload_n 0, 1) := by decide +kernel
theorem dX5_init_45 : decode cX5_init 45 = .ok (.iconst 4, 1) := by decide +kernel
theorem dX5_init_46 : decode cX5_init 46 = .ok (.newarray .int, 2) := by decide +kernel
theorem dX5_init_48 : decode cX5_init 48 = .ok (.putfield 26, 3) := by decide +kernel
theorem dX5_init_51 : decode cX5_init 51 = .ok (.aload_n 0, 1) := by decide +kernel
theorem dX5_init_52 : decode cX5_init 52 = .ok (.iconst 4, 1) := by decide +kernel
theorem dX5_init_53 : decode cX5_init 53 = .ok (.newarray .int, 2) := by decide +kernel
theorem dX5_init_55 : decode cX5_init 55 = .ok (.putfield 29, 3) := by decide +kernel
theorem dX5_init_58 : decode cX5_init 58 = .ok (.aload_n 0, 1) := by decide +kernel
theorem dX5_init_59 : decode cX5_init 59 = .ok (.iconst 4, 1) := by decide +kernel
theorem dX5_init_60 : decode cX5_init 60 = .ok (.newarray .int, 2) := by decide +kernel
theorem dX5_init_62 : decode cX5_init 62 = .ok (.putfield 32, 3) := by decide +kernel
theorem dX5_init_65 : decode cX5_init 65 = .ok (.aload_n 0, 1) := by decide +kernel
theorem dX5_init_66 : decode cX5_init 66 = .ok (.iconst 4, 1) := by decide +kernel
theorem dX5_init_67 : decode cX5_init 67 = .ok (.newarray .int, 2) := by decide +kernel
theorem dX5_init_69 : decode cX5_init 69 = .ok (.putfield 35, 3) := by decide +kernel
theorem dX5_init_72 : decode cX5_init 72 = .ok (.aload_n 0, 1) := by decide +kernel
theorem dX5_init_73 : decode cX5_init 73 = .ok (.iconst 4, 1) := by decide +kernel
theorem dX5_init_74 : decode cX5_init 74 = .ok (.newarray .int, 2) := by decide +kernel
theorem dX5_init_76 : decode cX5_init 76 = .ok (.putfield 38, 3) := by decide +kernel
theorem dX5_init_79 : decode cX5_init 79 = .ok (.aload_n 0, 1) := by decide +kernel
theorem dX5_init_80 : decode cX5_init 80 = .ok (.iconst 4, 1) := by decide +kernel
theorem dX5_init_81 : decode cX5_init 81 = .ok (.newarray .int, 2) := by decide +kernel
theorem dX5_init_83 : decode cX5_init 83 = .ok (.putfield 41, 3) := by decide +kernel
theorem dX5_init_86 : decode cX5_init 86 = .ok (.aload_n 0, 1) := by decide +kernel
theorem dX5_init_87 : decode cX5_init 87 = .ok (.iconst 4, 1) := by decide +kernel
theorem dX5_init_88 : decode cX5_init 88 = .ok (.newarray .int, 2) := by decide +kernel
theorem dX5_init_90 : decode cX5_init 90 = .ok (.putfield 44, 3) := by decide +kernel
theorem dX5_init_93 : decode cX5_init 93 = .ok (.aload_n 0, 1) := by decide +kernel
theorem dX5_init_94 : decode cX5_init 94 = .ok (.iconst 4, 1) := by decide +kernel
theorem dX5_init_95 : decode cX5_init 95 = .ok (.newarray .int, 2) := by decide +kernel
theorem dX5_init_97 : decode cX5_init 97 = .ok (.putfield 47, 3) := by decide +kernel
theorem dX5_init_100 : decode cX5_init 100 = .ok (.aload_n 0, 1) := by decide +kernel
theorem dX5_init_101 : decode cX5_init 101 = .ok (.sipush 256, 3) := by decide +kernel
theorem dX5_init_104 : decode cX5_init 104 = .ok (.newarray .int, 2) := by decide +kernel
theorem dX5_init_106 : decode cX5_init 106 = .ok (.putfield 50, 3) := by decide +kernel
theorem dX5_init_109 : decode cX5_init 109 = .ok (.aload_n 0, 1) := by decide +kernel
theorem dX5_init_110 : decode cX5_init 110 = .ok (.bipush 28, 2) := by decide +kernel
theorem dX5_init_112 : decode cX5_init 112 = .ok (.newarray .int, 2) := by decide +kernel
theorem dX5_init_114 : decode cX5_init 114 = .ok (.putfield 53, 3) := by decide +kernel
theorem dX5_init_117 : decode cX5_init 117 = .ok (.aload_n 0, 1) := by decide +kernel
theorem dX5_init_118 : decode cX5_init 118 = .ok (.sipush 200, 3) := by decide +kernel
theorem dX5_init_121 : decode cX5_init 121 = .ok (.newarray .int, 2) := by decide +kernel
theorem dX5_init_123 : decode cX5_init 123 = .ok (.putfield 56, 3) := by decide +kernel
theorem dX5_init_126 : decode cX5_init 126 = .ok (.aload_n 0, 1) := by decide +kernel
theorem dX5_init_127 : decode cX5_init 127 = .ok (.iconst (-1), 1) := by decide +kernel
theorem dX5_init_128 : decode cX5_init 128 = .ok (.putfield 59, 3) := by decide +kernel
theorem dX5_init_131 : decode cX5_init 131 = .ok (.aload_n 0, 1) := by decide +kernel
theorem dX5_init_132 : decode cX5_init 132 = .ok (.bipush 7, 2) := by decide +kernel
theorem dX5_init_134 : decode cX5_init 134 = .ok (.newarray .int, 2) := by decide +kernel
theorem dX5_init_136 : decode cX5_init 136 = .ok (.putfield 63, 3) := by decide +kernel
theorem dX5_init_139 : decode cX5_init 139 = .ok (.aload_n 0, 1) := by decide +kernel
theorem dX5_init_140 : decode cX5_init 140 = .ok (.sipush 16384, 3) := by decide +kernel
theorem dX5_init_143 : decode cX5_init 143 = .ok (.newarray .boolean, 2) := by decide +kernel
theorem dX5_init_145 : decode cX5_init 145 = .ok (.putfield 66, 3) := by decide +kernel
theorem dX5_init_148 : decode cX5_init 148 = .ok (.aload_n 0, 1) := by decide +kernel
theorem dX5_init_149 : decode cX5_init 149 = .ok (.sipush 16384, 3) := by decide +kernel
theorem dX5_init_152 : decode cX5_init 152 = .ok (.newarray .boolean, 2) := by decide +kernel
theorem dX5_init_154 : decode cX5_init 154 = .ok (.putfield 69, 3) := by decide +kernel
theorem dX5_init_157 : decode cX5_init 157 = .ok (.aload_n 0, 1) := by decide +kernel
theorem dX5_init_158 : decode cX5_init 158 = .ok (.sipush 128, 3) := by decide +kernel
theorem dX5_init_161 : decode cX5_init 161 = .ok (.newarray .boolean, 2) := by decide +kernel
theorem dX5_init_163 : decode cX5_init 163 = .ok (.putfield 72, 3) := by decide +kernel
theorem dX5_init_166 : decode cX5_init 166 = .ok (.aload_n 0, 1) := by decide +kernel
theorem dX5_init_167 : decode cX5_init 167 = .ok (.sipush 128, 3) := by decide +kernel
theorem dX5_init_170 : decode cX5_init 170 = .ok (.newarray .boolean, 2) := by decide +kernel
theorem dX5_init_172 : decode cX5_init 172 = .ok (.putfield 75, 3) := by decide +kernel
theorem dX5_init_175 : decode cX5_init 175 = .ok (.aload_n 0, 1) := by decide +kernel
theorem dX5_init_176 : decode cX5_init 176 = .ok (.sipush 128, 3) := by decide +kernel
theorem dX5_init_179 : decode cX5_init 179 = .ok (.newarray .int, 2) := by decide +kernel
theorem dX5_init_181 : decode cX5_init 181 = .ok (.putfield 78, 3) := by decide +kernel
theorem dX5_init_184 : decode cX5_init 184 = .ok (.aload_n 0, 1) := by decide +kernel
theorem dX5_init_185 : decode cX5_init 185 = .ok (.sipush 128, 3) := by decide +kernel
theorem dX5_init_188 : decode cX5_init 188 = .ok (.newarray .int, 2) := by decide +kernel
theorem dX5_init_190 : decode cX5_init 190 = .ok (.putfield 81, 3) := by decide +kernel
theorem dX5_init_193 : decode cX5_init 193 = .ok (.aload_n 0, 1) := by decide +kernel
theorem dX5_init_194 : decode cX5_init 194 = .ok (.iconst 2, 1) := by decide +kernel
theorem dX5_init_195 : decode cX5_init 195 = .ok (.newarray .int, 2) := by decide +kernel
theorem dX5_init_197 : decode cX5_init 197 = .ok (.putfield 84, 3) := by decide +kernel
theorem dX5_init_200 : decode cX5_init 200 = .ok (.aload_n 0, 1) := by decide +kernel
theorem dX5_init_201 : decode cX5_init 201 = .ok (.sipush 1200, 3) := by decide +kernel
theorem dX5_init_204 : decode cX5_init 204 = .ok (.newarray .int, 2) := by decide +kernel
theorem dX5_init_206 : decode cX5_init 206 = .ok (.putfield 87, 3) := by decide +kernel
theorem dX5_init_209 : decode cX5_init 209 = .ok (.aload_n 0, 1) := by decide +kernel
theorem dX5_init_210 : decode cX5_init 210 = .ok (.iconst 4, 1) := by decide +kernel
theorem dX5_init_211 : decode cX5_init 211 = .ok (.iconst 1, 1) := by decide +kernel
theorem dX5_init_212 : decode cX5_init 212 = .ok (.iconst 2, 1) := by decide +kernel
theorem dX5_init_213 : decode cX5_init 213 = .ok (.invokevirtual 90, 3) := by decide +kernel
theorem dX5_init_216 : decode cX5_init 216 = .ok (.iconst 0, 1) := by decide +kernel
theorem dX5_init_217 : decode cX5_init 217 = .ok (.istore_n 1, 1) := by decide +kernel
theorem dX5_init_218 : decode cX5_init 218 = .ok (.iload_n 1, 1) := by decide +kernel
theorem dX5_init_219 : decode cX5_init 219 = .ok (.iconst 2, 1) := by decide +kernel
theorem dX5_init_220 : decode cX5_init 220 = .ok (.if_icmp .ge 16, 3) := by decide +kernel
theorem dX5_init_223 : decode cX5_init 223 = .ok (.aload_n 0, 1) := by decide +kernel
theorem dX5_init_224 : decode cX5_init 224 = .ok (.getfield 84, 3) := by decide +kernel
theorem dX5_init_227 : decode cX5_init 227 = .ok (.iload_n 1, 1) := by decide +kernel
theorem dX5_init_228 : decode cX5_init 228 = .ok (.iconst (-1), 1) := by decide +kernel
theorem dX5_init_229 : decode cX5_init 229 = .ok (.iastore, 1) := by decide +kernel
theorem dX5_init_230 : decode cX5_init 230 = .ok (.iinc 1 1, 3) := by decide +kernel
theorem dX5_init_233 : decode cX5_init 233 = .ok (.goto (-15), 3) := by decide +kernel
theorem dX5_init_236 : decode cX5_init 236 = .ok (.return_, 1) := by decide +kernel
theorem dX5_in_0 : decode cX5_in 0 = .ok (.lload_n 0, 1) := by decide +kernel
theorem dX5_in_1 : decode cX5_in 1 = .ok (.lload_n 2, 1) := by decide +kernel
theorem dX5_in_2 : decode cX5_in 2 = .ok (.lcmp, 1) := by decide +kernel
theorem dX5_in_3 : decode cX5_in 3 = .ok (.ifCond .lt 14, 3) := by decide +kernel
theorem dX5_in_6 : decode cX5_in 6 = .ok (.lload_n 0, 1) := by decide +kernel
theorem dX5_in_7 : decode cX5_in 7 = .ok (.lload 4, 2) := by decide +kernel
theorem dX5_in_9 : decode cX5_in 9 = .ok (.lcmp, 1) := by decide +kernel
theorem dX5_in_10 : decode cX5_in 10 = .ok (.ifCond .gt 7, 3) := by decide +kernel
theorem dX5_in_13 : decode cX5_in 13 = .ok (.iconst 1, 1) := by decide +kernel
theorem dX5_in_14 : decode cX5_in 14 = .ok (.goto 4, 3) := by decide +kernel
theorem dX5_in_17 : decode cX5_in 17 = .ok (.iconst 0, 1) := by decide +kernel
theorem dX5_in_18 : decode cX5_in 18 = .ok (.ireturn, 1) := by decide +kernel
theorem dX5_isAsker_0 : decode cX5_isAsker 0 = .ok (.iload_n 0, 1) := by decide +kernel
theorem dX5_isAsker_1 : decode cX5_isAsker 1 = .ok (.i2l, 1) := by decide +kernel
theorem dX5_isAsker_2 : decode cX5_isAsker 2 = .ok (.lconst 0, 1) := by decide +kernel
theorem dX5_isAsker_3 : decode cX5_isAsker 3 = .ok (.ldc2_w 94, 3) := by decide +kernel
theorem dX5_isAsker_6 : decode cX5_isAsker 6 = .ok (.invokestatic 96, 3) := by decide +kernel
theorem dX5_isAsker_9 : decode cX5_isAsker 9 = .ok (.ireturn, 1) := by decide +kernel
theorem dX5_isBlock_0 : decode cX5_isBlock 0 = .ok (.iload_n 0, 1) := by decide +kernel
theorem dX5_isBlock_1 : decode cX5_isBlock 1 = .ok (.i2l, 1) := by decide +kernel
theorem dX5_isBlock_2 : decode cX5_isBlock 2 = .ok (.lconst 0, 1) := by decide +kernel
theorem dX5_isBlock_3 : decode cX5_isBlock 3 = .ok (.ldc2_w 100, 3) := by decide +kernel
theorem dX5_isBlock_6 : decode cX5_isBlock 6 = .ok (.invokestatic 96, 3) := by decide +kernel
theorem dX5_isBlock_9 : decode cX5_isBlock 9 = .ok (.ireturn, 1) := by decide +kernel
theorem dX5_begin_0 : decode cX5_begin 0 = .ok (.aload_n 0, 1) := by decide +kernel
theorem dX5_begin_1 : decode cX5_begin 1 = .ok (.iload_n 1, 1) := by decide +kernel
theorem dX5_begin_2 : decode cX5_begin 2 = .ok (.putfield 102, 3) := by decide +kernel
theorem dX5_begin_5 : decode cX5_begin 5 = .ok (.aload_n 0, 1) := by decide +kernel
theorem dX5_begin_6 : decode cX5_begin 6 = .ok (.iload_n 2, 1) := by decide +kernel
theorem dX5_begin_7 : decode cX5_begin 7 = .ok (.putfield 105, 3) := by decide +kernel
theorem dX5_begin_10 : decode cX5_begin 10 = .ok (.aload_n 0, 1) := by decide +kernel
theorem dX5_begin_11 : decode cX5_begin 11 = .ok (.iload_n 3, 1) := by decide +kernel
theorem dX5_begin_12 : decode cX5_begin 12 = .ok (.putfield 108, 3) := by decide +kernel
theorem dX5_begin_15 : decode cX5_begin 15 = .ok (.aload_n 0, 1) := by decide +kernel
theorem dX5_begin_16 : decode cX5_begin 16 = .ok (.iconst 0, 1) := by decide +kernel
theorem dX5_begin_17 : decode cX5_begin 17 = .ok (.putfield 111, 3) := by decide +kernel
theorem dX5_begin_20 : decode cX5_begin 20 = .ok (.aload_n 0, 1) := by decide +kernel
theorem dX5_begin_21 : decode cX5_begin 21 = .ok (.iconst 0, 1) := by decide +kernel
theorem dX5_begin_22 : decode cX5_begin 22 = .ok (.putfield 114, 3) := by decide +kernel
theorem dX5_begin_25 : decode cX5_begin 25 = .ok (.aload_n 0, 1) := by decide +kernel
theorem dX5_begin_26 : decode cX5_begin 26 = .ok (.iconst 0, 1) := by decide +kernel
theorem dX5_begin_27 : decode cX5_begin 27 = .ok (.putfield 117, 3) := by decide +kernel
theorem dX5_begin_30 : decode cX5_begin 30 = .ok (.aload_n 0, 1) := by decide +kernel
theorem dX5_begin_31 : decode cX5_begin 31 = .ok (.iconst 0, 1) := by decide +kernel
theorem dX5_begin_32 : decode cX5_begin 32 = .ok (.putfield 120, 3) := by decide +kernel
theorem dX5_begin_35 : decode cX5_begin 35 = .ok (.aload_n 0, 1) := by decide +kernel
theorem dX5_begin_36 : decode cX5_begin 36 = .ok (.iconst 0, 1) := by decide +kernel
theorem dX5_begin_37 : decode cX5_begin 37 = .ok (.putfield 123, 3) := by decide +kernel
theorem dX5_begin_40 : decode cX5_begin 40 = .ok (.aload_n 0, 1) := by decide +kernel
theorem dX5_begin_41 : decode cX5_begin 41 = .ok (.iconst 0, 1) := by decide +kernel
theorem dX5_begin_42 : decode cX5_begin 42 = .ok (.putfield 126, 3) := by decide +kernel
theorem dX5_begin_45 : decode cX5_begin 45 = .ok (.iconst 0, 1) := by decide +kernel
theorem dX5_begin_46 : decode cX5_begin 46 = .ok (.istore 4, 2) := by decide +kernel
theorem dX5_begin_48 : decode cX5_begin 48 = .ok (.iload 4, 2) := by decide +kernel
theorem dX5_begin_50 : decode cX5_begin 50 = .ok (.iconst 4, 1) := by decide +kernel
theorem dX5_begin_51 : decode cX5_begin 51 = .ok (.if_icmp .ge 65, 3) := by decide +kernel
theorem dX5_begin_54 : decode cX5_begin 54 = .ok (.aload_n 0, 1) := by decide +kernel
theorem dX5_begin_55 : decode cX5_begin 55 = .ok (.getfield 26, 3) := by decide +kernel
theorem dX5_begin_58 : decode cX5_begin 58 = .ok (.iload 4, 2) := by decide +kernel
theorem dX5_begin_60 : decode cX5_begin 60 = .ok (.iconst 0, 1) := by decide +kernel
theorem dX5_begin_61 : decode cX5_begin 61 = .ok (.iastore, 1) := by decide +kernel
theorem dX5_begin_62 : decode cX5_begin 62 = .ok (.aload_n 0, 1) := by decide +kernel
theorem dX5_begin_63 : decode cX5_begin 63 = .ok (.getfield 29, 3) := by decide +kernel
theorem dX5_begin_66 : decode cX5_begin 66 = .ok (.iload 4, 2) := by decide +kernel
theorem dX5_begin_68 : decode cX5_begin 68 = .ok (.iconst 0, 1) := by decide +kernel
theorem dX5_begin_69 : decode cX5_begin 69 = .ok (.iastore, 1) := by decide +kernel
theorem dX5_begin_70 : decode cX5_begin 70 = .ok (.aload_n 0, 1) := by decide +kernel
theorem dX5_begin_71 : decode cX5_begin 71 = .ok (.getfield 32, 3) := by decide +kernel
theorem dX5_begin_74 : decode cX5_begin 74 = .ok (.iload 4, 2) := by decide +kernel
theorem dX5_begin_76 : decode cX5_begin 76 = .ok (.iconst 0, 1) := by decide +kernel
theorem dX5_begin_77 : decode cX5_begin 77 = .ok (.iastore, 1) := by decide +kernel
theorem dX5_begin_78 : decode cX5_begin 78 = .ok (.aload_n 0, 1) := by decide +kernel
theorem dX5_begin_79 : decode cX5_begin 79 = .ok (.getfield 35, 3) := by decide +kernel
theorem dX5_begin_82 : decode cX5_begin 82 = .ok (.iload 4, 2) := by decide +kernel
theorem dX5_begin_84 : decode cX5_begin 84 = .ok (.iconst 0, 1) := by decide +kernel
theorem dX5_begin_85 : decode cX5_begin 85 = .ok (.iastore, 1) := by decide +kernel
theorem dX5_begin_86 : decode cX5_begin 86 = .ok (.aload_n 0, 1) := by decide +kernel
theorem dX5_begin_87 : decode cX5_begin 87 = .ok (.getfield 38, 3) := by decide +kernel
theorem dX5_begin_90 : decode cX5_begin 90 = .ok (.iload 4, 2) := by decide +kernel
theorem dX5_begin_92 : decode cX5_begin 92 = .ok (.iconst (-1), 1) := by decide +kernel
theorem dX5_begin_93 : decode cX5_begin 93 = .ok (.iastore, 1) := by decide +kernel
theorem dX5_begin_94 : decode cX5_begin 94 = .ok (.aload_n 0, 1) := by decide +kernel
theorem dX5_begin_95 : decode cX5_begin 95 = .ok (.getfield 44, 3) := by decide +kernel
theorem dX5_begin_98 : decode cX5_begin 98 = .ok (.iload 4, 2) := by decide +kernel
theorem dX5_begin_100 : decode cX5_begin 100 = .ok (.iconst (-1), 1) := by decide +kernel
theorem dX5_begin_101 : decode cX5_begin 101 = .ok (.iastore, 1) := by decide +kernel
theorem dX5_begin_102 : decode cX5_begin 102 = .ok (.aload_n 0, 1) := by decide +kernel
theorem dX5_begin_103 : decode cX5_begin 103 = .ok (.getfield 47, 3) := by decide +kernel
theorem dX5_begin_106 : decode cX5_begin 106 = .ok (.iload 4, 2) := by decide +kernel
theorem dX5_begin_108 : decode cX5_begin 108 = .ok (.iconst 0, 1) := by decide +kernel
theorem dX5_begin_109 : decode cX5_begin 109 = .ok (.iastore, 1) := by decide +kernel
theorem dX5_begin_110 : decode cX5_begin 110 = .ok (.iinc 4 1, 3) := by decide +kernel
theorem dX5_begin_113 : decode cX5_begin 113 = .ok (.goto (-65), 3) := by decide +kernel
theorem dX5_begin_116 : decode cX5_begin 116 = .ok (.iconst 0, 1) := by decide +kernel
theorem dX5_begin_117 : decode cX5_begin 117 = .ok (.istore 4, 2) := by decide +kernel
theorem dX5_begin_119 : decode cX5_begin 119 = .ok (.iload 4, 2) := by decide +kernel
theorem dX5_begin_121 : decode cX5_begin 121 = .ok (.sipush 256, 3) := by decide +kernel
theorem dX5_begin_124 : decode cX5_begin 124 = .ok (.if_icmp .ge 17, 3) := by decide +kernel
theorem dX5_begin_127 : decode cX5_begin 127 = .ok (.aload_n 0, 1) := by decide +kernel
theorem dX5_begin_128 : decode cX5_begin 128 = .ok (.getfield 50, 3) := by decide +kernel
theorem dX5_begin_131 : decode cX5_begin 131 = .ok (.iload 4, 2) := by decide +kernel
theorem dX5_begin_133 : decode cX5_begin 133 = .ok (.iconst (-1), 1) := by decide +kernel
theorem dX5_begin_134 : decode cX5_begin 134 = .ok (.iastore, 1) := by decide +kernel
theorem dX5_begin_135 : decode cX5_begin 135 = .ok (.iinc 4 1, 3) := by decide +kernel
theorem dX5_begin_138 : decode cX5_begin 138 = .ok (.goto (-19), 3) := by decide +kernel
theorem dX5_begin_141 : decode cX5_begin 141 = .ok (.iconst 0, 1) := by decide +kernel
theorem dX5_begin_142 : decode cX5_begin 142 = .ok (.istore 4, 2) := by decide +kernel
theorem dX5_begin_144 : decode cX5_begin 144 = .ok (.iload 4, 2) := by decide +kernel
theorem dX5_begin_146 : decode cX5_begin 146 = .ok (.bipush 28, 2) := by decide +kernel
theorem dX5_begin_148 : decode cX5_begin 148 = .ok (.if_icmp .ge 17, 3) := by decide +kernel
theorem dX5_begin_151 : decode cX5_begin 151 = .ok (.aload_n 0, 1) := by decide +kernel
theorem dX5_begin_152 : decode cX5_begin 152 = .ok (.getfield 53, 3) := by decide +kernel
theorem dX5_begin_155 : decode cX5_begin 155 = .ok (.iload 4, 2) := by decide +kernel
theorem dX5_begin_157 : decode cX5_begin 157 = .ok (.iconst 0, 1) := by decide +kernel
theorem dX5_begin_158 : decode cX5_begin 158 = .ok (.iastore, 1) := by decide +kernel
theorem dX5_begin_159 : decode cX5_begin 159 = .ok (.iinc 4 1, 3) := by decide +kernel
theorem dX5_begin_162 : decode cX5_begin 162 = .ok (.goto (-18), 3) := by decide +kernel
theorem dX5_begin_165 : decode cX5_begin 165 = .ok (.return_, 1) := by decide +kernel
theorem dX5_clear_0 : decode cX5_clear 0 = .ok (.iload_n 1, 1) := by decide +kernel
theorem dX5_clear_1 : decode cX5_clear 1 = .ok (.i2l, 1) := by decide +kernel
theorem dX5_clear_2 : decode cX5_clear 2 = .ok (.lconst 1, 1) := by decide +kernel
theorem dX5_clear_3 : decode cX5_clear 3 = .ok (.ldc2_w 129, 3) := by decide +kernel
theorem dX5_clear_6 : decode cX5_clear 6 = .ok (.invokestatic 96, 3) := by decide +kernel
theorem dX5_clear_9 : decode cX5_clear 9 = .ok (.ifCond .eq 27, 3) := by decide +kernel
theorem dX5_clear_12 : decode cX5_clear 12 = .ok (.iload_n 2, 1) := by decide +kernel
theorem dX5_clear_13 : decode cX5_clear 13 = .ok (.i2l, 1) := by decide +kernel
theorem dX5_clear_14 : decode cX5_clear 14 = .ok (.lconst 1, 1) := by decide +kernel
theorem dX5_clear_15 : decode cX5_clear 15 = .ok (.ldc2_w 94, 3) := by decide +kernel
theorem dX5_clear_18 : decode cX5_clear 18 = .ok (.invokestatic 96, 3) := by decide +kernel
theorem dX5_clear_21 : decode cX5_clear 21 = .ok (.ifCond .eq 15, 3) := by decide +kernel
theorem dX5_clear_24 : decode cX5_clear 24 = .ok (.iload_n 3, 1) := by decide +kernel
theorem dX5_clear_25 : decode cX5_clear 25 = .ok (.i2l, 1) := by decide +kernel
theorem dX5_clear_26 : decode cX5_clear 26 = .ok (.lconst 1, 1) := by decide +kernel
theorem dX5_clear_27 : decode cX5_clear 27 = .ok (.ldc2_w 131, 3) := by decide +kernel
theorem dX5_clear_30 : decode cX5_clear 30 = .ok (.invokestatic 96, 3) := by decide +kernel
theorem dX5_clear_33 : decode cX5_clear 33 = .ok (.ifCond .ne 6, 3) := by decide +kernel
theorem dX5_clear_36 : decode cX5_clear 36 = .ok (.bipush (-102), 2) := by decide +kernel
theorem dX5_clear_38 : decode cX5_clear 38 = .ok (.ireturn, 1) := by decide +kernel
theorem dX5_clear_39 : decode cX5_clear 39 = .ok (.aload_n 0, 1) := by decide +kernel
theorem dX5_clear_40 : decode cX5_clear 40 = .ok (.iconst 0, 1) := by decide +kernel
theorem dX5_clear_41 : decode cX5_clear 41 = .ok (.invokevirtual 133, 3) := by decide +kernel
theorem dX5_clear_44 : decode cX5_clear 44 = .ok (.istore 4, 2) := by decide +kernel
theorem dX5_clear_46 : decode cX5_clear 46 = .ok (.aload_n 0, 1) := by decide +kernel
theorem dX5_clear_47 : decode cX5_clear 47 = .ok (.iload_n 1, 1) := by decide +kernel
theorem dX5_clear_48 : decode cX5_clear 48 = .ok (.iload_n 2, 1) := by decide +kernel
theorem dX5_clear_49 : decode cX5_clear 49 = .ok (.iload_n 3, 1) := by decide +kernel
theorem dX5_clear_50 : decode cX5_clear 50 = .ok (.invokevirtual 90, 3) := by decide +kernel
theorem dX5_clear_53 : decode cX5_clear 53 = .ok (.iload 4, 2) := by decide +kernel
theorem dX5_clear_55 : decode cX5_clear 55 = .ok (.ireturn, 1) := by decide +kernel
theorem dX5_sum_0 : decode cX5_sum 0 = .ok (.iconst 0, 1) := by decide +kernel
theorem dX5_sum_1 : decode cX5_sum 1 = .ok (.istore_n 2, 1) := by decide +kernel
theorem dX5_sum_2 : decode cX5_sum 2 = .ok (.iconst 0, 1) := by decide +kernel
theorem dX5_sum_3 : decode cX5_sum 3 = .ok (.istore_n 3, 1) := by decide +kernel
theorem dX5_sum_4 : decode cX5_sum 4 = .ok (.iload_n 3, 1) := by decide +kernel
theorem dX5_sum_5 : decode cX5_sum 5 = .ok (.iconst 4, 1) := by decide +kernel
theorem dX5_sum_6 : decode cX5_sum 6 = .ok (.if_icmp .ge 23, 3) := by decide +kernel
theorem dX5_sum_9 : decode cX5_sum 9 = .ok (.iload_n 2, 1) := by decide +kernel
theorem dX5_sum_10 : decode cX5_sum 10 = .ok (.aload_n 0, 1) := by decide +kernel
theorem dX5_sum_11 : decode cX5_sum 11 = .ok (.getfield 53, 3) := by decide +kernel
theorem dX5_sum_14 : decode cX5_sum 14 = .ok (.bipush 7, 2) := by decide +kernel
theorem dX5_sum_16 : decode cX5_sum 16 = .ok (.iload_n 3, 1) := by decide +kernel
theorem dX5_sum_17 : decode cX5_sum 17 = .ok (.imul, 1) := by decide +kernel
theorem dX5_sum_18 : decode cX5_sum 18 = .ok (.iload_n 1, 1) := by decide +kernel
theorem dX5_sum_19 : decode cX5_sum 19 = .ok (.iadd, 1) := by decide +kernel
theorem dX5_sum_20 : decode cX5_sum 20 = .ok (.iaload, 1) := by decide +kernel
theorem dX5_sum_21 : decode cX5_sum 21 = .ok (.iadd, 1) := by decide +kernel
theorem dX5_sum_22 : decode cX5_sum 22 = .ok (.istore_n 2, 1) := by decide +kernel
theorem dX5_sum_23 : decode cX5_sum 23 = .ok (.iinc 3 1, 3) := by decide +kernel
theorem dX5_sum_26 : decode cX5_sum 26 = .ok (.goto (-22), 3) := by decide +kernel
theorem dX5_sum_29 : decode cX5_sum 29 = .ok (.iload_n 2, 1) := by decide +kernel
theorem dX5_sum_30 : decode cX5_sum 30 = .ok (.ireturn, 1) := by decide +kernel
theorem dX5_share_0 : decode cX5_share 0 = .ok (.iload_n 1, 1) := by decide +kernel
theorem dX5_share_1 : decode cX5_share 1 = .ok (.invokestatic 137, 3) := by decide +kernel
theorem dX5_share_4 : decode cX5_share 4 = .ok (.ifCond .ne 6, 3) := by decide +kernel
theorem dX5_share_7 : decode cX5_share 7 = .ok (.bipush (-101), 2) := by decide +kernel
theorem dX5_share_9 : decode cX5_share 9 = .ok (.ireturn, 1) := by decide +kernel
theorem dX5_share_10 : decode cX5_share 10 = .ok (.iload_n 2, 1) := by decide +kernel
theorem dX5_share_11 : decode cX5_share 11 = .ok (.i2l, 1) := by decide +kernel
theorem dX5_share_12 : decode cX5_share 12 = .ok (.lconst 0, 1) := by decide +kernel
theorem dX5_share_13 : decode cX5_share 13 = .ok (.ldc2_w 129, 3) := by decide +kernel
theorem dX5_share_16 : decode cX5_share 16 = .ok (.invokestatic 96, 3) := by decide +kernel
theorem dX5_share_19 : decode cX5_share 19 = .ok (.ifCond .ne 6, 3) := by decide +kernel
theorem dX5_share_22 : decode cX5_share 22 = .ok (.bipush (-102), 2) := by decide +kernel
theorem dX5_share_24 : decode cX5_share 24 = .ok (.ireturn, 1) := by decide +kernel
theorem dX5_share_25 : decode cX5_share 25 = .ok (.iload_n 2, 1) := by decide +kernel
theorem dX5_share_26 : decode cX5_share 26 = .ok (.istore_n 3, 1) := by decide +kernel
theorem dX5_share_27 : decode cX5_share 27 = .ok (.iconst 0, 1) := by decide +kernel
theorem dX5_share_28 : decode cX5_share 28 = .ok (.istore 4, 2) := by decide +kernel
theorem dX5_share_30 : decode cX5_share 30 = .ok (.iload 4, 2) := by decide +kernel
theorem dX5_share_32 : decode cX5_share 32 = .ok (.iconst 4, 1) := by decide +kernel
theorem dX5_share_33 : decode cX5_share 33 = .ok (.if_icmp .ge 29, 3) := by decide +kernel
theorem dX5_share_36 : decode cX5_share 36 = .ok (.iload_n 3, 1) := by decide +kernel
theorem dX5_share_37 : decode cX5_share 37 = .ok (.iload 4, 2) := by decide +kernel
theorem dX5_share_39 : decode cX5_share 39 = .ok (.iload_n 1, 1) := by decide +kernel
theorem dX5_share_40 : decode cX5_share 40 = .ok (.if_icmp .ne 7, 3) := by decide +kernel
theorem dX5_share_43 : decode cX5_share 43 = .ok (.iconst 0, 1) := by decide +kernel
theorem dX5_share_44 : decode cX5_share 44 = .ok (.goto 10, 3) := by decide +kernel
theorem dX5_share_47 : decode cX5_share 47 = .ok (.aload_n 0, 1) := by decide +kernel
theorem dX5_share_48 : decode cX5_share 48 = .ok (.getfield 35, 3) := by decide +kernel
theorem dX5_share_51 : decode cX5_share 51 = .ok (.iload 4, 2) := by decide +kernel
theorem dX5_share_53 : decode cX5_share 53 = .ok (.iaload, 1) := by decide +kernel
theorem dX5_share_54 : decode cX5_share 54 = .ok (.iadd, 1) := by decide +kernel
theorem dX5_share_55 : decode cX5_share 55 = .ok (.istore_n 3, 1) := by decide +kernel
theorem dX5_share_56 : decode cX5_share 56 = .ok (.iinc 4 1, 3) := by decide +kernel
theorem dX5_share_59 : decode cX5_share 59 = .ok (.goto (-29), 3) := by decide +kernel
theorem dX5_share_62 : decode cX5_share 62 = .ok (.iload_n 3, 1) := by decide +kernel
theorem dX5_share_63 : decode cX5_share 63 = .ok (.aload_n 0, 1) := by decide +kernel
theorem dX5_share_64 : decode cX5_share 64 = .ok (.getfield 102, 3) := by decide +kernel
theorem dX5_share_67 : decode cX5_share 67 = .ok (.if_icmp .le 6, 3) := by decide +kernel
theorem dX5_share_70 : decode cX5_share 70 = .ok (.bipush (-103), 2) := by decide +kernel
theorem dX5_share_72 : decode cX5_share 72 = .ok (.ireturn, 1) := by decide +kernel
theorem dX5_share_73 : decode cX5_share 73 = .ok (.aload_n 0, 1) := by decide +kernel
theorem dX5_share_74 : decode cX5_share 74 = .ok (.getfield 35, 3) := by decide +kernel
theorem dX5_share_77 : decode cX5_share 77 = .ok (.iload_n 1, 1) := by decide +kernel
theorem dX5_share_78 : decode cX5_share 78 = .ok (.iaload, 1) := by decide +kernel
theorem dX5_share_79 : decode cX5_share 79 = .ok (.istore 4, 2) := by decide +kernel
theorem dX5_share_81 : decode cX5_share 81 = .ok (.aload_n 0, 1) := by decide +kernel
theorem dX5_share_82 : decode cX5_share 82 = .ok (.getfield 35, 3) := by decide +kernel
theorem dX5_share_85 : decode cX5_share 85 = .ok (.iload_n 1, 1) := by decide +kernel
theorem dX5_share_86 : decode cX5_share 86 = .ok (.iload_n 2, 1) := by decide +kernel
theorem dX5_share_87 : decode cX5_share 87 = .ok (.iastore, 1) := by decide +kernel
theorem dX5_share_88 : decode cX5_share 88 = .ok (.iload 4, 2) := by decide +kernel
theorem dX5_share_90 : decode cX5_share 90 = .ok (.ireturn, 1) := by decide +kernel
theorem dX5_kind_0 : decode cX5_kind 0 = .ok (.iload_n 1, 1) := by decide +kernel
theorem dX5_kind_1 : decode cX5_kind 1 = .ok (.invokestatic 137, 3) := by decide +kernel
theorem dX5_kind_4 : decode cX5_kind 4 = .ok (.ifCond .ne 6, 3) := by decide +kernel
theorem dX5_kind_7 : decode cX5_kind 7 = .ok (.bipush (-101), 2) := by decide +kernel
theorem dX5_kind_9 : decode cX5_kind 9 = .ok (.ireturn, 1) := by decide +kernel
theorem dX5_kind_10 : decode cX5_kind 10 = .ok (.iload_n 2, 1) := by decide +kernel
theorem dX5_kind_11 : decode cX5_kind 11 = .ok (.i2l, 1) := by decide +kernel
theorem dX5_kind_12 : decode cX5_kind 12 = .ok (.lconst 0, 1) := by decide +kernel
theorem dX5_kind_13 : decode cX5_kind 13 = .ok (.ldc2_w 141, 3) := by decide +kernel
theorem dX5_kind_16 : decode cX5_kind 16 = .ok (.invokestatic 96, 3) := by decide +kernel
theorem dX5_kind_19 : decode cX5_kind 19 = .ok (.ifCond .eq 15, 3) := by decide +kernel
theorem dX5_kind_22 : decode cX5_kind 22 = .ok (.iload_n 3, 1) := by decide +kernel
theorem dX5_kind_23 : decode cX5_kind 23 = .ok (.i2l, 1) := by decide +kernel
theorem dX5_kind_24 : decode cX5_kind 24 = .ok (.lconst 0, 1) := by decide +kernel
theorem dX5_kind_25 : decode cX5_kind 25 = .ok (.ldc2_w 143, 3) := by decide +kernel
theorem dX5_kind_28 : decode cX5_kind 28 = .ok (.invokestatic 96, 3) := by decide +kernel
theorem dX5_kind_31 : decode cX5_kind 31 = .ok (.ifCond .ne 6, 3) := by decide +kernel
theorem dX5_kind_34 : decode cX5_kind 34 = .ok (.bipush (-102), 2) := by decide +kernel
theorem dX5_kind_36 : decode cX5_kind 36 = .ok (.ireturn, 1) := by decide +kernel
theorem dX5_kind_37 : decode cX5_kind 37 = .ok (.aload_n 0, 1) := by decide +kernel
theorem dX5_kind_38 : decode cX5_kind 38 = .ok (.getfield 26, 3) := by decide +kernel
theorem dX5_kind_41 : decode cX5_kind 41 = .ok (.iload_n 1, 1) := by decide +kernel
theorem dX5_kind_42 : decode cX5_kind 42 = .ok (.iaload, 1) := by decide +kernel
theorem dX5_kind_43 : decode cX5_kind 43 = .ok (.istore 4, 2) := by decide +kernel
theorem dX5_kind_45 : decode cX5_kind 45 = .ok (.aload_n 0, 1) := by decide +kernel
theorem dX5_kind_46 : decode cX5_kind 46 = .ok (.getfield 26, 3) := by decide +kernel
theorem dX5_kind_49 : decode cX5_kind 49 = .ok (.iload_n 1, 1) := by decide +kernel
theorem dX5_kind_50 : decode cX5_kind 50 = .ok (.iload_n 2, 1) := by decide +kernel
theorem dX5_kind_51 : decode cX5_kind 51 = .ok (.iastore, 1) := by decide +kernel
theorem dX5_kind_52 : decode cX5_kind 52 = .ok (.aload_n 0, 1) := by decide +kernel
theorem dX5_kind_53 : decode cX5_kind 53 = .ok (.getfield 29, 3) := by decide +kernel
theorem dX5_kind_56 : decode cX5_kind 56 = .ok (.iload_n 1, 1) := by decide +kernel
theorem dX5_kind_57 : decode cX5_kind 57 = .ok (.iload_n 3, 1) := by decide +kernel
theorem dX5_kind_58 : decode cX5_kind 58 = .ok (.iastore, 1) := by decide +kernel
theorem dX5_kind_59 : decode cX5_kind 59 = .ok (.aload_n 0, 1) := by decide +kernel
theorem dX5_kind_60 : decode cX5_kind 60 = .ok (.getfield 32, 3) := by decide +kernel
theorem dX5_kind_63 : decode cX5_kind 63 = .ok (.iload_n 1, 1) := by decide +kernel
theorem dX5_kind_64 : decode cX5_kind 64 = .ok (.iload_n 3, 1) := by decide +kernel
theorem dX5_kind_65 : decode cX5_kind 65 = .ok (.iastore, 1) := by decide +kernel
theorem dX5_kind_66 : decode cX5_kind 66 = .ok (.aload_n 0, 1) := by decide +kernel
theorem dX5_kind_67 : decode cX5_kind 67 = .ok (.getfield 38, 3) := by decide +kernel
theorem dX5_kind_70 : decode cX5_kind 70 = .ok (.iload_n 1, 1) := by decide +kernel
theorem dX5_kind_71 : decode cX5_kind 71 = .ok (.iconst (-1), 1) := by decide +kernel
theorem dX5_kind_72 : decode cX5_kind 72 = .ok (.iastore, 1) := by decide +kernel
theorem dX5_kind_73 : decode cX5_kind 73 = .ok (.iload 4, 2) := by decide +kernel
theorem dX5_kind_75 : decode cX5_kind 75 = .ok (.ireturn, 1) := by decide +kernel
theorem dX5_hint_0 : decode cX5_hint 0 = .ok (.iload_n 1, 1) := by decide +kernel
theorem dX5_hint_1 : decode cX5_hint 1 = .ok (.invokestatic 137, 3) := by decide +kernel
theorem dX5_hint_4 : decode cX5_hint 4 = .ok (.ifCond .ne 6, 3) := by decide +kernel
theorem dX5_hint_7 : decode cX5_hint 7 = .ok (.bipush (-101), 2) := by decide +kernel
theorem dX5_hint_9 : decode cX5_hint 9 = .ok (.ireturn, 1) := by decide +kernel
theorem dX5_hint_10 : decode cX5_hint 10 = .ok (.iload_n 2, 1) := by decide +kernel
theorem dX5_hint_11 : decode cX5_hint 11 = .ok (.invokestatic 145, 3) := by decide +kernel
theorem dX5_hint_14 : decode cX5_hint 14 = .ok (.ifCond .eq 15, 3) := by decide +kernel
theorem dX5_hint_17 : decode cX5_hint 17 = .ok (.iload_n 3, 1) := by decide +kernel
theorem dX5_hint_18 : decode cX5_hint 18 = .ok (.invokestatic 145, 3) := by decide +kernel
theorem dX5_hint_21 : decode cX5_hint 21 = .ok (.ifCond .eq 8, 3) := by decide +kernel
theorem dX5_hint_24 : decode cX5_hint 24 = .ok (.iload_n 2, 1) := by decide +kernel
theorem dX5_hint_25 : decode cX5_hint 25 = .ok (.iload_n 3, 1) := by decide +kernel
theorem dX5_hint_26 : decode cX5_hint 26 = .ok (.if_icmp .le 6, 3) := by decide +kernel
theorem dX5_hint_29 : decode cX5_hint 29 = .ok (.bipush (-102), 2) := by decide +kernel
theorem dX5_hint_31 : decode cX5_hint 31 = .ok (.ireturn, 1) := by decide +kernel
theorem dX5_hint_32 : decode cX5_hint 32 = .ok (.aload_n 0, 1) := by decide +kernel
theorem dX5_hint_33 : decode cX5_hint 33 = .ok (.getfield 26, 3) := by decide +kernel
theorem dX5_hint_36 : decode cX5_hint 36 = .ok (.iload_n 1, 1) := by decide +kernel
theorem dX5_hint_37 : decode cX5_hint 37 = .ok (.iaload, 1) := by decide +kernel
theorem dX5_hint_38 : decode cX5_hint 38 = .ok (.iconst 4, 1) := by decide +kernel
theorem dX5_hint_39 : decode cX5_hint 39 = .ok (.if_icmp .eq 6, 3) := by decide +kernel
theorem dX5_hint_42 : decode cX5_hint 42 = .ok (.bipush (-103), 2) := by decide +kernel
theorem dX5_hint_44 : decode cX5_hint 44 = .ok (.ireturn, 1) := by decide +kernel
theorem dX5_hint_45 : decode cX5_hint 45 = .ok (.aload_n 0, 1) := by decide +kernel
theorem dX5_hint_46 : decode cX5_hint 46 = .ok (.getfield 38, 3) := by decide +kernel
theorem dX5_hint_49 : decode cX5_hint 49 = .ok (.iload_n 1, 1) := by decide +kernel
theorem dX5_hint_50 : decode cX5_hint 50 = .ok (.iload_n 2, 1) := by decide +kernel
theorem dX5_hint_51 : decode cX5_hint 51 = .ok (.iastore, 1) := by decide +kernel
theorem dX5_hint_52 : decode cX5_hint 52 = .ok (.aload_n 0, 1) := by decide +kernel
theorem dX5_hint_53 : decode cX5_hint 53 = .ok (.getfield 41, 3) := by decide +kernel
theorem dX5_hint_56 : decode cX5_hint 56 = .ok (.iload_n 1, 1) := by decide +kernel
theorem dX5_hint_57 : decode cX5_hint 57 = .ok (.iload_n 3, 1) := by decide +kernel
theorem dX5_hint_58 : decode cX5_hint 58 = .ok (.iastore, 1) := by decide +kernel
theorem dX5_hint_59 : decode cX5_hint 59 = .ok (.iconst 1, 1) := by decide +kernel
theorem dX5_hint_60 : decode cX5_hint 60 = .ok (.ireturn, 1) := by decide +kernel
theorem dX5_placeOf_0 : decode cX5_placeOf 0 = .ok (.iconst (-1), 1) := by decide +kernel
theorem dX5_placeOf_1 : decode cX5_placeOf 1 = .ok (.istore_n 2, 1) := by decide +kernel
theorem dX5_placeOf_2 : decode cX5_placeOf 2 = .ok (.iconst 0, 1) := by decide +kernel
theorem dX5_placeOf_3 : decode cX5_placeOf 3 = .ok (.istore_n 3, 1) := by decide +kernel
theorem dX5_placeOf_4 : decode cX5_placeOf 4 = .ok (.iload_n 3, 1) := by decide +kernel
theorem dX5_placeOf_5 : decode cX5_placeOf 5 = .ok (.aload_n 0, 1) := by decide +kernel
theorem dX5_placeOf_6 : decode cX5_placeOf 6 = .ok (.getfield 111, 3) := by decide +kernel
theorem dX5_placeOf_9 : decode cX5_placeOf 9 = .ok (.if_icmp .ge 25, 3) := by decide +kernel
theorem dX5_placeOf_12 : decode cX5_placeOf 12 = .ok (.aload_n 0, 1) := by decide +kernel
theorem dX5_placeOf_13 : decode cX5_placeOf 13 = .ok (.getfield 7, 3) := by decide +kernel
theorem dX5_placeOf_16 : decode cX5_placeOf 16 = .ok (.iload_n 3, 1) := by decide +kernel
theorem dX5_placeOf_17 : decode cX5_placeOf 17 = .ok (.iaload, 1) := by decide +kernel
theorem dX5_placeOf_18 : decode cX5_placeOf 18 = .ok (.iload_n 1, 1) := by decide +kernel
theorem dX5_placeOf_19 : decode cX5_placeOf 19 = .ok (.if_icmp .ne 7, 3) := by decide +kernel
theorem dX5_placeOf_22 : decode cX5_placeOf 22 = .ok (.iload_n 3, 1) := by decide +kernel
theorem dX5_placeOf_23 : decode cX5_placeOf 23 = .ok (.goto 4, 3) := by decide +kernel
theorem dX5_placeOf_26 : decode cX5_placeOf 26 = .ok (.iload_n 2, 1) := by decide +kernel
theorem dX5_placeOf_27 : decode cX5_placeOf 27 = .ok (.istore_n 2, 1) := by decide +kernel
theorem dX5_placeOf_28 : decode cX5_placeOf 28 = .ok (.iinc 3 1, 3) := by decide +kernel
theorem dX5_placeOf_31 : decode cX5_placeOf 31 = .ok (.goto (-27), 3) := by decide +kernel
theorem dX5_placeOf_34 : decode cX5_placeOf 34 = .ok (.iload_n 2, 1) := by decide +kernel
theorem dX5_placeOf_35 : decode cX5_placeOf 35 = .ok (.ireturn, 1) := by decide +kernel
theorem dX5_waitOf_0 : decode cX5_waitOf 0 = .ok (.iconst (-1), 1) := by decide +kernel
theorem dX5_waitOf_1 : decode cX5_waitOf 1 = .ok (.istore_n 2, 1) := by decide +kernel
theorem dX5_waitOf_2 : decode cX5_waitOf 2 = .ok (.iconst 0, 1) := by decide +kernel
theorem dX5_waitOf_3 : decode cX5_waitOf 3 = .ok (.istore_n 3, 1) := by decide +kernel
theorem dX5_waitOf_4 : decode cX5_waitOf 4 = .ok (.iload_n 3, 1) := by decide +kernel
theorem dX5_waitOf_5 : decode cX5_waitOf 5 = .ok (.aload_n 0, 1) := by decide +kernel
theorem dX5_waitOf_6 : decode cX5_waitOf 6 = .ok (.getfield 114, 3) := by decide +kernel
theorem dX5_waitOf_9 : decode cX5_waitOf 9 = .ok (.if_icmp .ge 25, 3) := by decide +kernel
theorem dX5_waitOf_12 : decode cX5_waitOf 12 = .ok (.aload_n 0, 1) := by decide +kernel
theorem dX5_waitOf_13 : decode cX5_waitOf 13 = .ok (.getfield 20, 3) := by decide +kernel
theorem dX5_waitOf_16 : decode cX5_waitOf 16 = .ok (.iload_n 3, 1) := by decide +kernel
theorem dX5_waitOf_17 : decode cX5_waitOf 17 = .ok (.iaload, 1) := by decide +kernel
theorem dX5_waitOf_18 : decode cX5_waitOf 18 = .ok (.iload_n 1, 1) := by decide +kernel
theorem dX5_waitOf_19 : decode cX5_waitOf 19 = .ok (.if_icmp .ne 7, 3) := by decide +kernel
theorem dX5_waitOf_22 : decode cX5_waitOf 22 = .ok (.iload_n 3, 1) := by decide +kernel
theorem dX5_waitOf_23 : decode cX5_waitOf 23 = .ok (.goto 4, 3) := by decide +kernel
theorem dX5_waitOf_26 : decode cX5_waitOf 26 = .ok (.iload_n 2, 1) := by decide +kernel
theorem dX5_waitOf_27 : decode cX5_waitOf 27 = .ok (.istore_n 2, 1) := by decide +kernel
theorem dX5_waitOf_28 : decode cX5_waitOf 28 = .ok (.iinc 3 1, 3) := by decide +kernel
theorem dX5_waitOf_31 : decode cX5_waitOf 31 = .ok (.goto (-27), 3) := by decide +kernel
theorem dX5_waitOf_34 : decode cX5_waitOf 34 = .ok (.iload_n 2, 1) := by decide +kernel
theorem dX5_waitOf_35 : decode cX5_waitOf 35 = .ok (.ireturn, 1) := by decide +kernel
theorem dX5_unwait_0 : decode cX5_unwait 0 = .ok (.aload_n 0, 1) := by decide +kernel
theorem dX5_unwait_1 : decode cX5_unwait 1 = .ok (.dup, 1) := by decide +kernel
theorem dX5_unwait_2 : decode cX5_unwait 2 = .ok (.getfield 114, 3) := by decide +kernel
theorem dX5_unwait_5 : decode cX5_unwait 5 = .ok (.iconst 1, 1) := by decide +kernel
theorem dX5_unwait_6 : decode cX5_unwait 6 = .ok (.isub, 1) := by decide +kernel
theorem dX5_unwait_7 : decode cX5_unwait 7 = .ok (.putfield 114, 3) := by decide +kernel
theorem dX5_unwait_10 : decode cX5_unwait 10 = .ok (.iload_n 1, 1) := by decide +kernel
theorem dX5_unwait_11 : decode cX5_unwait 11 = .ok (.istore_n 2, 1) := by decide +kernel
theorem dX5_unwait_12 : decode cX5_unwait 12 = .ok (.iload_n 2, 1) := by decide +kernel
theorem dX5_unwait_13 : decode cX5_unwait 13 = .ok (.aload_n 0, 1) := by decide +kernel
theorem dX5_unwait_14 : decode cX5_unwait 14 = .ok (.getfield 114, 3) := by decide +kernel
theorem dX5_unwait_17 : decode cX5_unwait 17 = .ok (.if_icmp .ge 37, 3) := by decide +kernel
theorem dX5_unwait_20 : decode cX5_unwait 20 = .ok (.aload_n 0, 1) := by decide +kernel
theorem dX5_unwait_21 : decode cX5_unwait 21 = .ok (.getfield 20, 3) := by decide +kernel
theorem dX5_unwait_24 : decode cX5_unwait 24 = .ok (.iload_n 2, 1) := by decide +kernel
theorem dX5_unwait_25 : decode cX5_unwait 25 = .ok (.aload_n 0, 1) := by decide +kernel
theorem dX5_unwait_26 : decode cX5_unwait 26 = .ok (.getfield 20, 3) := by decide +kernel
theorem dX5_unwait_29 : decode cX5_unwait 29 = .ok (.iload_n 2, 1) := by decide +kernel
theorem dX5_unwait_30 : decode cX5_unwait 30 = .ok (.iconst 1, 1) := by decide +kernel
theorem dX5_unwait_31 : decode cX5_unwait 31 = .ok (.iadd, 1) := by decide +kernel
theorem dX5_unwait_32 : decode cX5_unwait 32 = .ok (.iaload, 1) := by decide +kernel
theorem dX5_unwait_33 : decode cX5_unwait 33 = .ok (.iastore, 1) := by decide +kernel
theorem dX5_unwait_34 : decode cX5_unwait 34 = .ok (.aload_n 0, 1) := by decide +kernel
theorem dX5_unwait_35 : decode cX5_unwait 35 = .ok (.getfield 23, 3) := by decide +kernel
theorem dX5_unwait_38 : decode cX5_unwait 38 = .ok (.iload_n 2, 1) := by decide +kernel
theorem dX5_unwait_39 : decode cX5_unwait 39 = .ok (.aload_n 0, 1) := by decide +kernel
theorem dX5_unwait_40 : decode cX5_unwait 40 = .ok (.getfield 23, 3) := by decide +kernel
theorem dX5_unwait_43 : decode cX5_unwait 43 = .ok (.iload_n 2, 1) := by decide +kernel
theorem dX5_unwait_44 : decode cX5_unwait 44 = .ok (.iconst 1, 1) := by decide +kernel
theorem dX5_unwait_45 : decode cX5_unwait 45 = .ok (.iadd, 1) := by decide +kernel
theorem dX5_unwait_46 : decode cX5_unwait 46 = .ok (.iaload, 1) := by decide +kernel
theorem dX5_unwait_47 : decode cX5_unwait 47 = .ok (.iastore, 1) := by decide +kernel
theorem dX5_unwait_48 : decode cX5_unwait 48 = .ok (.iinc 2 1, 3) := by decide +kernel
theorem dX5_unwait_51 : decode cX5_unwait 51 = .ok (.goto (-39), 3) := by decide +kernel
theorem dX5_unwait_54 : decode cX5_unwait 54 = .ok (.return_, 1) := by decide +kernel
theorem dX5_owned_0 : decode cX5_owned 0 = .ok (.iconst 0, 1) := by decide +kernel
theorem dX5_owned_1 : decode cX5_owned 1 = .ok (.istore_n 2, 1) := by decide +kernel
theorem dX5_owned_2 : decode cX5_owned 2 = .ok (.iconst 0, 1) := by decide +kernel
theorem dX5_owned_3 : decode cX5_owned 3 = .ok (.istore_n 3, 1) := by decide +kernel
theorem dX5_owned_4 : decode cX5_owned 4 = .ok (.iload_n 3, 1) := by decide +kernel
theorem dX5_owned_5 : decode cX5_owned 5 = .ok (.aload_n 0, 1) := by decide +kernel
theorem dX5_owned_6 : decode cX5_owned 6 = .ok (.getfield 111, 3) := by decide +kernel
theorem dX5_owned_9 : decode cX5_owned 9 = .ok (.if_icmp .ge 27, 3) := by decide +kernel
theorem dX5_owned_12 : decode cX5_owned 12 = .ok (.iload_n 2, 1) := by decide +kernel
theorem dX5_owned_13 : decode cX5_owned 13 = .ok (.aload_n 0, 1) := by decide +kernel
theorem dX5_owned_14 : decode cX5_owned 14 = .ok (.getfield 13, 3) := by decide +kernel
theorem dX5_owned_17 : decode cX5_owned 17 = .ok (.iload_n 3, 1) := by decide +kernel
theorem dX5_owned_18 : decode cX5_owned 18 = .ok (.iaload, 1) := by decide +kernel
theorem dX5_owned_19 : decode cX5_owned 19 = .ok (.iload_n 1, 1) := by decide +kernel
theorem dX5_owned_20 : decode cX5_owned 20 = .ok (.if_icmp .ne 7, 3) := by decide +kernel
theorem dX5_owned_23 : decode cX5_owned 23 = .ok (.iconst 1, 1) := by decide +kernel
theorem dX5_owned_24 : decode cX5_owned 24 = .ok (.goto 4, 3) := by decide +kernel
theorem dX5_owned_27 : decode cX5_owned 27 = .ok (.iconst 0, 1) := by decide +kernel
theorem dX5_owned_28 : decode cX5_owned 28 = .ok (.iadd, 1) := by decide +kernel
theorem dX5_owned_29 : decode cX5_owned 29 = .ok (.istore_n 2, 1) := by decide +kernel
theorem dX5_owned_30 : decode cX5_owned 30 = .ok (.iinc 3 1, 3) := by decide +kernel
theorem dX5_owned_33 : decode cX5_owned 33 = .ok (.goto (-29), 3) := by decide +kernel
theorem dX5_owned_36 : decode cX5_owned 36 = .ok (.iload_n 2, 1) := by decide +kernel
theorem dX5_owned_37 : decode cX5_owned 37 = .ok (.ireturn, 1) := by decide +kernel
theorem dX5_isLeft_0 : decode cX5_isLeft 0 = .ok (.aload_n 0, 1) := by decide +kernel
