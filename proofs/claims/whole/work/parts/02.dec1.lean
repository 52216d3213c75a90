theorem dX1_serveOneOrNone_115 : decode cX1_serveOneOrNone 115 = .ok (.dup, 1) := by decide +kernel
theorem dX1_serveOneOrNone_116 : decode cX1_serveOneOrNone 116 = .ok (.getfield 92, 3) := by decide +kernel
theorem dX1_serveOneOrNone_119 : decode cX1_serveOneOrNone 119 = .ok (.lload 5, 2) := by decide +kernel
theorem dX1_serveOneOrNone_121 : decode cX1_serveOneOrNone 121 = .ok (.getstatic 87, 3) := by decide +kernel
theorem dX1_serveOneOrNone_124 : decode cX1_serveOneOrNone 124 = .ok (.iload 9, 2) := by decide +kernel
theorem dX1_serveOneOrNone_126 : decode cX1_serveOneOrNone 126 = .ok (.laload, 1) := by decide +kernel
theorem dX1_serveOneOrNone_127 : decode cX1_serveOneOrNone 127 = .ok (.ldc2_w 90, 3) := by decide +kernel
theorem dX1_serveOneOrNone_130 : decode cX1_serveOneOrNone 130 = .ok (.lxor, 1) := by decide +kernel
theorem dX1_serveOneOrNone_131 : decode cX1_serveOneOrNone 131 = .ok (.land, 1) := by decide +kernel
theorem dX1_serveOneOrNone_132 : decode cX1_serveOneOrNone 132 = .ok (.iconst 1, 1) := by decide +kernel
theorem dX1_serveOneOrNone_133 : decode cX1_serveOneOrNone 133 = .ok (.iload 9, 2) := by decide +kernel
theorem dX1_serveOneOrNone_135 : decode cX1_serveOneOrNone 135 = .ok (.ishl, 1) := by decide +kernel
theorem dX1_serveOneOrNone_136 : decode cX1_serveOneOrNone 136 = .ok (.lshl, 1) := by decide +kernel
theorem dX1_serveOneOrNone_137 : decode cX1_serveOneOrNone 137 = .ok (.lor, 1) := by decide +kernel
theorem dX1_serveOneOrNone_138 : decode cX1_serveOneOrNone 138 = .ok (.putfield 92, 3) := by decide +kernel
theorem dX1_serveOneOrNone_141 : decode cX1_serveOneOrNone 141 = .ok (.aload_n 0, 1) := by decide +kernel
theorem dX1_serveOneOrNone_142 : decode cX1_serveOneOrNone 142 = .ok (.dup, 1) := by decide +kernel
theorem dX1_serveOneOrNone_143 : decode cX1_serveOneOrNone 143 = .ok (.getfield 95, 3) := by decide +kernel
theorem dX1_serveOneOrNone_146 : decode cX1_serveOneOrNone 146 = .ok (.lload 7, 2) := by decide +kernel
theorem dX1_serveOneOrNone_148 : decode cX1_serveOneOrNone 148 = .ok (.getstatic 87, 3) := by decide +kernel
theorem dX1_serveOneOrNone_151 : decode cX1_serveOneOrNone 151 = .ok (.iload 9, 2) := by decide +kernel
theorem dX1_serveOneOrNone_153 : decode cX1_serveOneOrNone 153 = .ok (.laload, 1) := by decide +kernel
theorem dX1_serveOneOrNone_154 : decode cX1_serveOneOrNone 154 = .ok (.ldc2_w 90, 3) := by decide +kernel
theorem dX1_serveOneOrNone_157 : decode cX1_serveOneOrNone 157 = .ok (.lxor, 1) := by decide +kernel
theorem dX1_serveOneOrNone_158 : decode cX1_serveOneOrNone 158 = .ok (.land, 1) := by decide +kernel
theorem dX1_serveOneOrNone_159 : decode cX1_serveOneOrNone 159 = .ok (.iconst 1, 1) := by decide +kernel
theorem dX1_serveOneOrNone_160 : decode cX1_serveOneOrNone 160 = .ok (.iload 9, 2) := by decide +kernel
theorem dX1_serveOneOrNone_162 : decode cX1_serveOneOrNone 162 = .ok (.ishl, 1) := by decide +kernel
theorem dX1_serveOneOrNone_163 : decode cX1_serveOneOrNone 163 = .ok (.lshl, 1) := by decide +kernel
theorem dX1_serveOneOrNone_164 : decode cX1_serveOneOrNone 164 = .ok (.lor, 1) := by decide +kernel
theorem dX1_serveOneOrNone_165 : decode cX1_serveOneOrNone 165 = .ok (.putfield 95, 3) := by decide +kernel
theorem dX1_serveOneOrNone_168 : decode cX1_serveOneOrNone 168 = .ok (.iinc 9 1, 3) := by decide +kernel
theorem dX1_serveOneOrNone_171 : decode cX1_serveOneOrNone 171 = .ok (.goto (-64), 3) := by decide +kernel
theorem dX1_serveOneOrNone_174 : decode cX1_serveOneOrNone 174 = .ok (.aload_n 0, 1) := by decide +kernel
theorem dX1_serveOneOrNone_175 : decode cX1_serveOneOrNone 175 = .ok (.dup, 1) := by decide +kernel
theorem dX1_serveOneOrNone_176 : decode cX1_serveOneOrNone 176 = .ok (.getfield 95, 3) := by decide +kernel
theorem dX1_serveOneOrNone_179 : decode cX1_serveOneOrNone 179 = .ok (.lload 5, 2) := by decide +kernel
theorem dX1_serveOneOrNone_181 : decode cX1_serveOneOrNone 181 = .ok (.lor, 1) := by decide +kernel
theorem dX1_serveOneOrNone_182 : decode cX1_serveOneOrNone 182 = .ok (.putfield 95, 3) := by decide +kernel
theorem dX1_serveOneOrNone_185 : decode cX1_serveOneOrNone 185 = .ok (.return_, 1) := by decide +kernel
theorem dX2_init_0 : decode cX2_init 0 = .ok (.aload_n 0, 1) := by decide +kernel
theorem dX2_init_1 : decode cX2_init 1 = .ok (.invokespecial 3, 3) := by decide +kernel
theorem dX2_init_4 : decode cX2_init 4 = .ok (.aload_n 0, 1) := by decide +kernel
theorem dX2_init_5 : decode cX2_init 5 = .ok (.iconst 4, 1) := by decide +kernel
theorem dX2_init_6 : decode cX2_init 6 = .ok (.newarray .int, 2) := by decide +kernel
theorem dX2_init_8 : decode cX2_init 8 = .ok (.putfield 9, 3) := by decide +kernel
theorem dX2_init_11 : decode cX2_init 11 = .ok (.aload_n 0, 1) := by decide +kernel
theorem dX2_init_12 : decode cX2_init 12 = .ok (.iconst 0, 1) := by decide +kernel
theorem dX2_init_13 : decode cX2_init 13 = .ok (.putfield 15, 3) := by decide +kernel
theorem dX2_init_16 : decode cX2_init 16 = .ok (.aload_n 0, 1) := by decide +kernel
theorem dX2_init_17 : decode cX2_init 17 = .ok (.iload_n 1, 1) := by decide +kernel
theorem dX2_init_18 : decode cX2_init 18 = .ok (.newarray .int, 2) := by decide +kernel
theorem dX2_init_20 : decode cX2_init 20 = .ok (.putfield 19, 3) := by decide +kernel
theorem dX2_init_23 : decode cX2_init 23 = .ok (.aload_n 0, 1) := by decide +kernel
theorem dX2_init_24 : decode cX2_init 24 = .ok (.iload_n 1, 1) := by decide +kernel
theorem dX2_init_25 : decode cX2_init 25 = .ok (.newarray .int, 2) := by decide +kernel
theorem dX2_init_27 : decode cX2_init 27 = .ok (.putfield 22, 3) := by decide +kernel
theorem dX2_init_30 : decode cX2_init 30 = .ok (.aload_n 0, 1) := by decide +kernel
theorem dX2_init_31 : decode cX2_init 31 = .ok (.iload_n 1, 1) := by decide +kernel
theorem dX2_init_32 : decode cX2_init 32 = .ok (.newarray .int, 2) := by decide +kernel
theorem dX2_init_34 : decode cX2_init 34 = .ok (.putfield 25, 3) := by decide +kernel
theorem dX2_init_37 : decode cX2_init 37 = .ok (.return_, 1) := by decide +kernel
theorem dX2_empty_0 : decode cX2_empty 0 = .ok (.aload_n 0, 1) := by decide +kernel
theorem dX2_empty_1 : decode cX2_empty 1 = .ok (.iconst 0, 1) := by decide +kernel
theorem dX2_empty_2 : decode cX2_empty 2 = .ok (.putfield 15, 3) := by decide +kernel
theorem dX2_empty_5 : decode cX2_empty 5 = .ok (.aload_n 0, 1) := by decide +kernel
theorem dX2_empty_6 : decode cX2_empty 6 = .ok (.getfield 9, 3) := by decide +kernel
theorem dX2_empty_9 : decode cX2_empty 9 = .ok (.iconst 0, 1) := by decide +kernel
theorem dX2_empty_10 : decode cX2_empty 10 = .ok (.invokestatic 28, 3) := by decide +kernel
theorem dX2_empty_13 : decode cX2_empty 13 = .ok (.return_, 1) := by decide +kernel
theorem dX2_copyFrom_0 : decode cX2_copyFrom 0 = .ok (.aload_n 0, 1) := by decide +kernel
theorem dX2_copyFrom_1 : decode cX2_copyFrom 1 = .ok (.aload_n 1, 1) := by decide +kernel
theorem dX2_copyFrom_2 : decode cX2_copyFrom 2 = .ok (.getfield 15, 3) := by decide +kernel
theorem dX2_copyFrom_5 : decode cX2_copyFrom 5 = .ok (.putfield 15, 3) := by decide +kernel
theorem dX2_copyFrom_8 : decode cX2_copyFrom 8 = .ok (.aload_n 1, 1) := by decide +kernel
theorem dX2_copyFrom_9 : decode cX2_copyFrom 9 = .ok (.getfield 19, 3) := by decide +kernel
theorem dX2_copyFrom_12 : decode cX2_copyFrom 12 = .ok (.iconst 0, 1) := by decide +kernel
theorem dX2_copyFrom_13 : decode cX2_copyFrom 13 = .ok (.aload_n 0, 1) := by decide +kernel
theorem dX2_copyFrom_14 : decode cX2_copyFrom 14 = .ok (.getfield 19, 3) := by decide +kernel
theorem dX2_copyFrom_17 : decode cX2_copyFrom 17 = .ok (.iconst 0, 1) := by decide +kernel
theorem dX2_copyFrom_18 : decode cX2_copyFrom 18 = .ok (.aload_n 0, 1) := by decide +kernel
theorem dX2_copyFrom_19 : decode cX2_copyFrom 19 = .ok (.getfield 15, 3) := by decide +kernel
theorem dX2_copyFrom_22 : decode cX2_copyFrom 22 = .ok (.invokestatic 34, 3) := by decide +kernel
theorem dX2_copyFrom_25 : decode cX2_copyFrom 25 = .ok (.aload_n 1, 1) := by decide +kernel
theorem dX2_copyFrom_26 : decode cX2_copyFrom 26 = .ok (.getfield 22, 3) := by decide +kernel
theorem dX2_copyFrom_29 : decode cX2_copyFrom 29 = .ok (.iconst 0, 1) := by decide +kernel
theorem dX2_copyFrom_30 : decode cX2_copyFrom 30 = .ok (.aload_n 0, 1) := by decide +kernel
theorem dX2_copyFrom_31 : decode cX2_copyFrom 31 = .ok (.getfield 22, 3) := by decide +kernel
theorem dX2_copyFrom_34 : decode cX2_copyFrom 34 = .ok (.iconst 0, 1) := by decide +kernel
theorem dX2_copyFrom_35 : decode cX2_copyFrom 35 = .ok (.aload_n 0, 1) := by decide +kernel
theorem dX2_copyFrom_36 : decode cX2_copyFrom 36 = .ok (.getfield 15, 3) := by decide +kernel
theorem dX2_copyFrom_39 : decode cX2_copyFrom 39 = .ok (.invokestatic 34, 3) := by decide +kernel
theorem dX2_copyFrom_42 : decode cX2_copyFrom 42 = .ok (.aload_n 1, 1) := by decide +kernel
theorem dX2_copyFrom_43 : decode cX2_copyFrom 43 = .ok (.getfield 25, 3) := by decide +kernel
theorem dX2_copyFrom_46 : decode cX2_copyFrom 46 = .ok (.iconst 0, 1) := by decide +kernel
theorem dX2_copyFrom_47 : decode cX2_copyFrom 47 = .ok (.aload_n 0, 1) := by decide +kernel
theorem dX2_copyFrom_48 : decode cX2_copyFrom 48 = .ok (.getfield 25, 3) := by decide +kernel
theorem dX2_copyFrom_51 : decode cX2_copyFrom 51 = .ok (.iconst 0, 1) := by decide +kernel
theorem dX2_copyFrom_52 : decode cX2_copyFrom 52 = .ok (.aload_n 0, 1) := by decide +kernel
theorem dX2_copyFrom_53 : decode cX2_copyFrom 53 = .ok (.getfield 15, 3) := by decide +kernel
theorem dX2_copyFrom_56 : decode cX2_copyFrom 56 = .ok (.invokestatic 34, 3) := by decide +kernel
theorem dX2_copyFrom_59 : decode cX2_copyFrom 59 = .ok (.aload_n 1, 1) := by decide +kernel
theorem dX2_copyFrom_60 : decode cX2_copyFrom 60 = .ok (.getfield 9, 3) := by decide +kernel
theorem dX2_copyFrom_63 : decode cX2_copyFrom 63 = .ok (.iconst 0, 1) := by decide +kernel
theorem dX2_copyFrom_64 : decode cX2_copyFrom 64 = .ok (.aload_n 0, 1) := by decide +kernel
theorem dX2_copyFrom_65 : decode cX2_copyFrom 65 = .ok (.getfield 9, 3) := by decide +kernel
theorem dX2_copyFrom_68 : decode cX2_copyFrom 68 = .ok (.iconst 0, 1) := by decide +kernel
theorem dX2_copyFrom_69 : decode cX2_copyFrom 69 = .ok (.iconst 4, 1) := by decide +kernel
theorem dX2_copyFrom_70 : decode cX2_copyFrom 70 = .ok (.invokestatic 34, 3) := by decide +kernel
theorem dX2_copyFrom_73 : decode cX2_copyFrom 73 = .ok (.return_, 1) := by decide +kernel
theorem dX2_hasPlace_0 : decode cX2_hasPlace 0 = .ok (.aload_n 0, 1) := by decide +kernel
theorem dX2_hasPlace_1 : decode cX2_hasPlace 1 = .ok (.getfield 15, 3) := by decide +kernel
theorem dX2_hasPlace_4 : decode cX2_hasPlace 4 = .ok (.aload_n 0, 1) := by decide +kernel
theorem dX2_hasPlace_5 : decode cX2_hasPlace 5 = .ok (.getfield 19, 3) := by decide +kernel
theorem dX2_hasPlace_8 : decode cX2_hasPlace 8 = .ok (.arraylength, 1) := by decide +kernel
theorem dX2_hasPlace_9 : decode cX2_hasPlace 9 = .ok (.if_icmp .ge 7, 3) := by decide +kernel
theorem dX2_hasPlace_12 : decode cX2_hasPlace 12 = .ok (.iconst 1, 1) := by decide +kernel
theorem dX2_hasPlace_13 : decode cX2_hasPlace 13 = .ok (.goto 4, 3) := by decide +kernel
theorem dX2_hasPlace_16 : decode cX2_hasPlace 16 = .ok (.iconst 0, 1) := by decide +kernel
theorem dX2_hasPlace_17 : decode cX2_hasPlace 17 = .ok (.ireturn, 1) := by decide +kernel
theorem dX2_find_0 : decode cX2_find 0 = .ok (.iconst 0, 1) := by decide +kernel
theorem dX2_find_1 : decode cX2_find 1 = .ok (.istore_n 2, 1) := by decide +kernel
theorem dX2_find_2 : decode cX2_find 2 = .ok (.iload_n 2, 1) := by decide +kernel
theorem dX2_find_3 : decode cX2_find 3 = .ok (.aload_n 0, 1) := by decide +kernel
theorem dX2_find_4 : decode cX2_find 4 = .ok (.getfield 15, 3) := by decide +kernel
theorem dX2_find_7 : decode cX2_find 7 = .ok (.if_icmp .ge 21, 3) := by decide +kernel
theorem dX2_find_10 : decode cX2_find 10 = .ok (.aload_n 0, 1) := by decide +kernel
theorem dX2_find_11 : decode cX2_find 11 = .ok (.getfield 19, 3) := by decide +kernel
theorem dX2_find_14 : decode cX2_find 14 = .ok (.iload_n 2, 1) := by decide +kernel
theorem dX2_find_15 : decode cX2_find 15 = .ok (.iaload, 1) := by decide +kernel
theorem dX2_find_16 : decode cX2_find 16 = .ok (.iload_n 1, 1) := by decide +kernel
theorem dX2_find_17 : decode cX2_find 17 = .ok (.if_icmp .ne 5, 3) := by decide +kernel
theorem dX2_find_20 : decode cX2_find 20 = .ok (.iload_n 2, 1) := by decide +kernel
theorem dX2_find_21 : decode cX2_find 21 = .ok (.ireturn, 1) := by decide +kernel
theorem dX2_find_22 : decode cX2_find 22 = .ok (.iinc 2 1, 3) := by decide +kernel
theorem dX2_find_25 : decode cX2_find 25 = .ok (.goto (-23), 3) := by decide +kernel
theorem dX2_find_28 : decode cX2_find 28 = .ok (.iconst (-1), 1) := by decide +kernel
theorem dX2_find_29 : decode cX2_find 29 = .ok (.ireturn, 1) := by decide +kernel
theorem dX2_add_0 : decode cX2_add 0 = .ok (.aload_n 0, 1) := by decide +kernel
theorem dX2_add_1 : decode cX2_add 1 = .ok (.getfield 19, 3) := by decide +kernel
theorem dX2_add_4 : decode cX2_add 4 = .ok (.aload_n 0, 1) := by decide +kernel
theorem dX2_add_5 : decode cX2_add 5 = .ok (.getfield 15, 3) := by decide +kernel
theorem dX2_add_8 : decode cX2_add 8 = .ok (.iload_n 1, 1) := by decide +kernel
theorem dX2_add_9 : decode cX2_add 9 = .ok (.iastore, 1) := by decide +kernel
theorem dX2_add_10 : decode cX2_add 10 = .ok (.aload_n 0, 1) := by decide +kernel
theorem dX2_add_11 : decode cX2_add 11 = .ok (.getfield 22, 3) := by decide +kernel
theorem dX2_add_14 : decode cX2_add 14 = .ok (.aload_n 0, 1) := by decide +kernel
theorem dX2_add_15 : decode cX2_add 15 = .ok (.getfield 15, 3) := by decide +kernel
theorem dX2_add_18 : decode cX2_add 18 = .ok (.iload_n 2, 1) := by decide +kernel
theorem dX2_add_19 : decode cX2_add 19 = .ok (.iastore, 1) := by decide +kernel
theorem dX2_add_20 : decode cX2_add 20 = .ok (.aload_n 0, 1) := by decide +kernel
theorem dX2_add_21 : decode cX2_add 21 = .ok (.getfield 25, 3) := by decide +kernel
theorem dX2_add_24 : decode cX2_add 24 = .ok (.aload_n 0, 1) := by decide +kernel
theorem dX2_add_25 : decode cX2_add 25 = .ok (.getfield 15, 3) := by decide +kernel
theorem dX2_add_28 : decode cX2_add 28 = .ok (.iload_n 3, 1) := by decide +kernel
theorem dX2_add_29 : decode cX2_add 29 = .ok (.iastore, 1) := by decide +kernel
theorem dX2_add_30 : decode cX2_add 30 = .ok (.aload_n 0, 1) := by decide +kernel
theorem dX2_add_31 : decode cX2_add 31 = .ok (.dup, 1) := by decide +kernel
theorem dX2_add_32 : decode cX2_add 32 = .ok (.getfield 15, 3) := by decide +kernel
theorem dX2_add_35 : decode cX2_add 35 = .ok (.iconst 1, 1) := by decide +kernel
theorem dX2_add_36 : decode cX2_add 36 = .ok (.iadd, 1) := by decide +kernel
theorem dX2_add_37 : decode cX2_add 37 = .ok (.putfield 15, 3) := by decide +kernel
theorem dX2_add_40 : decode cX2_add 40 = .ok (.aload_n 0, 1) := by decide +kernel
theorem dX2_add_41 : decode cX2_add 41 = .ok (.getfield 9, 3) := by decide +kernel
theorem dX2_add_44 : decode cX2_add 44 = .ok (.iload_n 2, 1) := by decide +kernel
theorem dX2_add_45 : decode cX2_add 45 = .ok (.dup2, 1) := by decide +kernel
theorem dX2_add_46 : decode cX2_add 46 = .ok (.iaload, 1) := by decide +kernel
theorem dX2_add_47 : decode cX2_add 47 = .ok (.iconst 1, 1) := by decide +kernel
theorem dX2_add_48 : decode cX2_add 48 = .ok (.iadd, 1) := by decide +kernel
theorem dX2_add_49 : decode cX2_add 49 = .ok (.iastore, 1) := by decide +kernel
theorem dX2_add_50 : decode cX2_add 50 = .ok (.return_, 1) := by decide +kernel
theorem dX2_remove_0 : decode cX2_remove 0 = .ok (.aload_n 0, 1) := by decide +kernel
theorem dX2_remove_1 : decode cX2_remove 1 = .ok (.getfield 9, 3) := by decide +kernel
theorem dX2_remove_4 : decode cX2_remove 4 = .ok (.aload_n 0, 1) := by decide +kernel
theorem dX2_remove_5 : decode cX2_remove 5 = .ok (.getfield 22, 3) := by decide +kernel
theorem dX2_remove_8 : decode cX2_remove 8 = .ok (.iload_n 1, 1) := by decide +kernel
theorem dX2_remove_9 : decode cX2_remove 9 = .ok (.iaload, 1) := by decide +kernel
theorem dX2_remove_10 : decode cX2_remove 10 = .ok (.dup2, 1) := by decide +kernel
theorem dX2_remove_11 : decode cX2_remove 11 = .ok (.iaload, 1) := by decide +kernel
theorem dX2_remove_12 : decode cX2_remove 12 = .ok (.iconst 1, 1) := by decide +kernel
theorem dX2_remove_13 : decode cX2_remove 13 = .ok (.isub, 1) := by decide +kernel
theorem dX2_remove_14 : decode cX2_remove 14 = .ok (.iastore, 1) := by decide +kernel
theorem dX2_remove_15 : decode cX2_remove 15 = .ok (.aload_n 0, 1) := by decide +kernel
theorem dX2_remove_16 : decode cX2_remove 16 = .ok (.dup, 1) := by decide +kernel
theorem dX2_remove_17 : decode cX2_remove 17 = .ok (.getfield 15, 3) := by decide +kernel
theorem dX2_remove_20 : decode cX2_remove 20 = .ok (.iconst 1, 1) := by decide +kernel
theorem dX2_remove_21 : decode cX2_remove 21 = .ok (.isub, 1) := by decide +kernel
theorem dX2_remove_22 : decode cX2_remove 22 = .ok (.putfield 15, 3) := by decide +kernel
theorem dX2_remove_25 : decode cX2_remove 25 = .ok (.iload_n 1, 1) := by decide +kernel
theorem dX2_remove_26 : decode cX2_remove 26 = .ok (.istore_n 2, 1) := by decide +kernel
theorem dX2_remove_27 : decode cX2_remove 27 = .ok (.iload_n 2, 1) := by decide +kernel
theorem dX2_remove_28 : decode cX2_remove 28 = .ok (.aload_n 0, 1) := by decide +kernel
theorem dX2_remove_29 : decode cX2_remove 29 = .ok (.getfield 15, 3) := by decide +kernel
theorem dX2_remove_32 : decode cX2_remove 32 = .ok (.if_icmp .ge 51, 3) := by decide +kernel
theorem dX2_remove_35 : decode cX2_remove 35 = .ok (.aload_n 0, 1) := by decide +kernel
theorem dX2_remove_36 : decode cX2_remove 36 = .ok (.getfield 19, 3) := by decide +kernel
theorem dX2_remove_39 : decode cX2_remove 39 = .ok (.iload_n 2, 1) := by decide +kernel
theorem dX2_remove_40 : decode cX2_remove 40 = .ok (.aload_n 0, 1) := by decide +kernel
theorem dX2_remove_41 : decode cX2_remove 41 = .ok (.getfield 19, 3) := by decide +kernel
theorem dX2_remove_44 : decode cX2_remove 44 = .ok (.iload_n 2, 1) := by decide +kernel
theorem dX2_remove_45 : decode cX2_remove 45 = .ok (.iconst 1, 1) := by decide +kernel
theorem dX2_remove_46 : decode cX2_remove 46 = .ok (.iadd, 1) := by decide +kernel
theorem dX2_remove_47 : decode cX2_remove 47 = .ok (.iaload, 1) := by decide +kernel
theorem dX2_remove_48 : decode cX2_remove 48 = .ok (.iastore, 1) := by decide +kernel
theorem dX2_remove_49 : decode cX2_remove 49 = .ok (.aload_n 0, 1) := by decide +kernel
theorem dX2_remove_50 : decode cX2_remove 50 = .ok (.getfield 22, 3) := by decide +kernel
theorem dX2_remove_53 : decode cX2_remove 53 = .ok (.iload_n 2, 1) := by decide +kernel
theorem dX2_remove_54 : decode cX2_remove 54 = .ok (.aload_n 0, 1) := by decide +kernel
theorem dX2_remove_55 : decode cX2_remove 55 = .ok (.getfield 22, 3) := by decide +kernel
theorem dX2_remove_58 : decode cX2_remove 58 = .ok (.iload_n 2, 1) := by decide +kernel
theorem dX2_remove_59 : decode cX2_remove 59 = .ok (.iconst 1, 1) := by decide +kernel
theorem dX2_remove_60 : decode cX2_remove 60 = .ok (.iadd, 1) := by decide +kernel
theorem dX2_remove_61 : decode cX2_remove 61 = .ok (.iaload, 1) := by decide +kernel
theorem dX2_remove_62 : decode cX2_remove 62 = .ok (.iastore, 1) := by decide +kernel
theorem dX2_remove_63 : decode cX2_remove 63 = .ok (.aload_n 0, 1) := by decide +kernel
theorem dX2_remove_64 : decode cX2_remove 64 = .ok (.getfield 25, 3) := by decide +kernel
theorem dX2_remove_67 : decode cX2_remove 67 = .ok (.iload_n 2, 1) := by decide +kernel
theorem dX2_remove_68 : decode cX2_remove 68 = .ok (.aload_n 0, 1) := by decide +kernel
theorem dX2_remove_69 : decode cX2_remove 69 = .ok (.getfield 25, 3) := by decide +kernel
theorem dX2_remove_72 : decode cX2_remove 72 = .ok (.iload_n 2, 1) := by decide +kernel
theorem dX2_remove_73 : decode cX2_remove 73 = .ok (.iconst 1, 1) := by decide +kernel
theorem dX2_remove_74 : decode cX2_remove 74 = .ok (.iadd, 1) := by decide +kernel
theorem dX2_remove_75 : decode cX2_remove 75 = .ok (.iaload, 1) := by decide +kernel
theorem dX2_remove_76 : decode cX2_remove 76 = .ok (.iastore, 1) := by decide +kernel
theorem dX2_remove_77 : decode cX2_remove 77 = .ok (.iinc 2 1, 3) := by decide +kernel
theorem dX2_remove_80 : decode cX2_remove 80 = .ok (.goto (-53), 3) := by decide +kernel
theorem dX2_remove_83 : decode cX2_remove 83 = .ok (.return_, 1) := by decide +kernel
theorem dX2_nearest_0 : decode cX2_nearest 0 = .ok (.iconst (-1), 1) := by decide +kernel
theorem dX2_nearest_1 : decode cX2_nearest 1 = .ok (.istore_n 2, 1) := by decide +kernel
theorem dX2_nearest_2 : decode cX2_nearest 2 = .ok (.bipush 64, 2) := by decide +kernel
theorem dX2_nearest_4 : decode cX2_nearest 4 = .ok (.istore_n 3, 1) := by decide +kernel
theorem dX2_nearest_5 : decode cX2_nearest 5 = .ok (.iconst 0, 1) := by decide +kernel
theorem dX2_nearest_6 : decode cX2_nearest 6 = .ok (.istore 4, 2) := by decide +kernel
theorem dX2_nearest_8 : decode cX2_nearest 8 = .ok (.iload 4, 2) := by decide +kernel
theorem dX2_nearest_10 : decode cX2_nearest 10 = .ok (.aload_n 0, 1) := by decide +kernel
theorem dX2_nearest_11 : decode cX2_nearest 11 = .ok (.getfield 15, 3) := by decide +kernel
theorem dX2_nearest_14 : decode cX2_nearest 14 = .ok (.if_icmp .ge 62, 3) := by decide +kernel
theorem dX2_nearest_17 : decode cX2_nearest 17 = .ok (.aload_n 0, 1) := by decide +kernel
theorem dX2_nearest_18 : decode cX2_nearest 18 = .ok (.getfield 19, 3) := by decide +kernel
theorem dX2_nearest_21 : decode cX2_nearest 21 = .ok (.iload 4, 2) := by decide +kernel
theorem dX2_nearest_23 : decode cX2_nearest 23 = .ok (.iaload, 1) := by decide +kernel
theorem dX2_nearest_24 : decode cX2_nearest 24 = .ok (.iload_n 1, 1) := by decide +kernel
theorem dX2_nearest_25 : decode cX2_nearest 25 = .ok (.isub, 1) := by decide +kernel
theorem dX2_nearest_26 : decode cX2_nearest 26 = .ok (.invokestatic 40, 3) := by decide +kernel
theorem dX2_nearest_29 : decode cX2_nearest 29 = .ok (.istore 5, 2) := by decide +kernel
theorem dX2_nearest_31 : decode cX2_nearest 31 = .ok (.iload 5, 2) := by decide +kernel
theorem dX2_nearest_33 : decode cX2_nearest 33 = .ok (.iload_n 3, 1) := by decide +kernel
theorem dX2_nearest_34 : decode cX2_nearest 34 = .ok (.if_icmp .lt 30, 3) := by decide +kernel
theorem dX2_nearest_37 : decode cX2_nearest 37 = .ok (.iload 5, 2) := by decide +kernel
theorem dX2_nearest_39 : decode cX2_nearest 39 = .ok (.iload_n 3, 1) := by decide +kernel
theorem dX2_nearest_40 : decode cX2_nearest 40 = .ok (.if_icmp .ne 30, 3) := by decide +kernel
theorem dX2_nearest_43 : decode cX2_nearest 43 = .ok (.iload_n 2, 1) := by decide +kernel
theorem dX2_nearest_44 : decode cX2_nearest 44 = .ok (.iconst (-1), 1) := by decide +kernel
theorem dX2_nearest_45 : decode cX2_nearest 45 = .ok (.if_icmp .eq 25, 3) := by decide +kernel
theorem dX2_nearest_48 : decode cX2_nearest 48 = .ok (.aload_n 0, 1) := by decide +kernel
theorem dX2_nearest_49 : decode cX2_nearest 49 = .ok (.getfield 19, 3) := by decide +kernel
theorem dX2_nearest_52 : decode cX2_nearest 52 = .ok (.iload 4, 2) := by decide +kernel
theorem dX2_nearest_54 : decode cX2_nearest 54 = .ok (.iaload, 1) := by decide +kernel
theorem dX2_nearest_55 : decode cX2_nearest 55 = .ok (.aload_n 0, 1) := by decide +kernel
theorem dX2_nearest_56 : decode cX2_nearest 56 = .ok (.getfield 19, 3) := by decide +kernel
theorem dX2_nearest_59 : decode cX2_nearest 59 = .ok (.iload_n 2, 1) := by decide +kernel
theorem dX2_nearest_60 : decode cX2_nearest 60 = .ok (.iaload, 1) := by decide +kernel
theorem dX2_nearest_61 : decode cX2_nearest 61 = .ok (.if_icmp .ge 9, 3) := by decide +kernel
theorem dX2_nearest_64 : decode cX2_nearest 64 = .ok (.iload 4, 2) := by decide +kernel
theorem dX2_nearest_66 : decode cX2_nearest 66 = .ok (.istore_n 2, 1) := by decide +kernel
theorem dX2_nearest_67 : decode cX2_nearest 67 = .ok (.iload 5, 2) := by decide +kernel
theorem dX2_nearest_69 : decode cX2_nearest 69 = .ok (.istore_n 3, 1) := by decide +kernel
theorem dX2_nearest_70 : decode cX2_nearest 70 = .ok (.iinc 4 1, 3) := by decide +kernel
theorem dX2_nearest_73 : decode cX2_nearest 73 = .ok (.goto (-65), 3) := by decide +kernel
theorem dX2_nearest_76 : decode cX2_nearest 76 = .ok (.iload_n 2, 1) := by decide +kernel
theorem dX2_nearest_77 : decode cX2_nearest 77 = .ok (.ireturn, 1) := by decide +kernel
theorem dX3_init_0 : decode cX3_init 0 = .ok (.aload_n 0, 1) := by decide +kernel
theorem dX3_init_1 : decode cX3_init 1 = .ok (.invokespecial 3, 3) := by decide +kernel
theorem dX3_init_4 : decode cX3_init 4 = .ok (.aload_n 0, 1) := by decide +kernel
theorem dX3_init_5 : decode cX3_init 5 = .ok (.new 9, 3) := by decide +kernel
theorem dX3_init_8 : decode cX3_init 8 = .ok (.dup, 1) := by decide +kernel
theorem dX3_init_9 : decode cX3_init 9 = .ok (.bipush 12, 2) := by decide +kernel
theorem dX3_init_11 : decode cX3_init 11 = .ok (.invokespecial 11, 3) := by decide +kernel
theorem dX3_init_14 : decode cX3_init 14 = .ok (.putfield 14, 3) := by decide +kernel
theorem dX3_init_17 : decode cX3_init 17 = .ok (.aload_n 0, 1) := by decide +kernel
theorem dX3_init_18 : decode cX3_init 18 = .ok (.new 9, 3) := by decide +kernel
theorem dX3_init_21 : decode cX3_init 21 = .ok (.dup, 1) := by decide +kernel
theorem dX3_init_22 : decode cX3_init 22 = .ok (.bipush 16, 2) := by decide +kernel
theorem dX3_init_24 : decode cX3_init 24 = .ok (.invokespecial 11, 3) := by decide +kernel
theorem dX3_init_27 : decode cX3_init 27 = .ok (.putfield 20, 3) := by decide +kernel
theorem dX3_init_30 : decode cX3_init 30 = .ok (.aload_n 0, 1) := by decide +kernel
theorem dX3_init_31 : decode cX3_init 31 = .ok (.iconst 4, 1) := by decide +kernel
theorem dX3_init_32 : decode cX3_init 32 = .ok (.anewarray 23, 3) := by decide +kernel
theorem dX3_init_35 : decode cX3_init 35 = .ok (.putfield 25, 3) := by decide +kernel
theorem dX3_init_38 : decode cX3_init 38 = .ok (.aload_n 0, 1) := by decide +kernel
theorem dX3_init_39 : decode cX3_init 39 = .ok (.bipush 24, 2) := by decide +kernel
theorem dX3_init_41 : decode cX3_init 41 = .ok (.newarray .int, 2) := by decide +kernel
theorem dX3_init_43 : decode cX3_init 43 = .ok (.putfield 29, 3) := by decide +kernel
theorem dX3_init_46 : decode cX3_init 46 = .ok (.iconst 0, 1) := by decide +kernel
theorem dX3_init_47 : decode cX3_init 47 = .ok (.istore_n 1, 1) := by decide +kernel
theorem dX3_init_48 : decode cX3_init 48 = .ok (.iload_n 1, 1) := by decide +kernel
theorem dX3_init_49 : decode cX3_init 49 = .ok (.iconst 4, 1) := by decide +kernel
theorem dX3_init_50 : decode cX3_init 50 = .ok (.if_icmp .ge 22, 3) := by decide +kernel
theorem dX3_init_53 : decode cX3_init 53 = .ok (.aload_n 0, 1) := by decide +kernel
theorem dX3_init_54 : decode cX3_init 54 = .ok (.getfield 25, 3) := by decide +kernel
theorem dX3_init_57 : decode cX3_init 57 = .ok (.iload_n 1, 1) := by decide +kernel
theorem dX3_init_58 : decode cX3_init 58 = .ok (.new 23, 3) := by decide +kernel
theorem dX3_init_61 : decode cX3_init 61 = .ok (.dup, 1) := by decide +kernel
theorem dX3_init_62 : decode cX3_init 62 = .ok (.invokespecial 33, 3) := by decide +kernel
theorem dX3_init_65 : decode cX3_init 65 = .ok (.aastore, 1) := by decide +kernel
theorem dX3_init_66 : decode cX3_init 66 = .ok (.iinc 1 1, 3) := by decide +kernel
theorem dX3_init_69 : decode cX3_init 69 = .ok (.goto (-21), 3) := by decide +kernel
theorem dX3_init_72 : decode cX3_init 72 = .ok (.aload_n 0, 1) := by decide +kernel
theorem dX3_init_73 : decode cX3_init 73 = .ok (.iconst 4, 1) := by decide +kernel
theorem dX3_init_74 : decode cX3_init 74 = .ok (.iconst 1, 1) := by decide +kernel
theorem dX3_init_75 : decode cX3_init 75 = .ok (.iconst 2, 1) := by decide +kernel
theorem dX3_init_76 : decode cX3_init 76 = .ok (.invokevirtual 34, 3) := by decide +kernel
theorem dX3_init_79 : decode cX3_init 79 = .ok (.return_, 1) := by decide +kernel
theorem dX3_begin_0 : decode cX3_begin 0 = .ok (.aload_n 0, 1) := by decide +kernel
theorem dX3_begin_1 : decode cX3_begin 1 = .ok (.getfield 14, 3) := by decide +kernel
theorem dX3_begin_4 : decode cX3_begin 4 = .ok (.invokevirtual 38, 3) := by decide +kernel
theorem dX3_begin_7 : decode cX3_begin 7 = .ok (.aload_n 0, 1) := by decide +kernel
theorem dX3_begin_8 : decode cX3_begin 8 = .ok (.getfield 20, 3) := by decide +kernel
theorem dX3_begin_11 : decode cX3_begin 11 = .ok (.invokevirtual 38, 3) := by decide +kernel
theorem dX3_begin_14 : decode cX3_begin 14 = .ok (.iconst 0, 1) := by decide +kernel
theorem dX3_begin_15 : decode cX3_begin 15 = .ok (.istore 4, 2) := by decide +kernel
theorem dX3_begin_17 : decode cX3_begin 17 = .ok (.iload 4, 2) := by decide +kernel
theorem dX3_begin_19 : decode cX3_begin 19 = .ok (.iconst 4, 1) := by decide +kernel
theorem dX3_begin_20 : decode cX3_begin 20 = .ok (.if_icmp .ge 19, 3) := by decide +kernel
theorem dX3_begin_23 : decode cX3_begin 23 = .ok (.aload_n 0, 1) := by decide +kernel
theorem dX3_begin_24 : decode cX3_begin 24 = .ok (.getfield 25, 3) := by decide +kernel
theorem dX3_begin_27 : decode cX3_begin 27 = .ok (.iload 4, 2) := by decide +kernel
theorem dX3_begin_29 : decode cX3_begin 29 = .ok (.aaload, 1) := by decide +kernel
theorem dX3_begin_30 : decode cX3_begin 30 = .ok (.invokevirtual 41, 3) := by decide +kernel
theorem dX3_begin_33 : decode cX3_begin 33 = .ok (.iinc 4 1, 3) := by decide +kernel
theorem dX3_begin_36 : decode cX3_begin 36 = .ok (.goto (-19), 3) := by decide +kernel
theorem dX3_begin_39 : decode cX3_begin 39 = .ok (.aload_n 0, 1) := by decide +kernel
theorem dX3_begin_40 : decode cX3_begin 40 = .ok (.iload_n 1, 1) := by decide +kernel
theorem dX3_begin_41 : decode cX3_begin 41 = .ok (.putfield 43, 3) := by decide +kernel
theorem dX3_begin_44 : decode cX3_begin 44 = .ok (.aload_n 0, 1) := by decide +kernel
theorem dX3_begin_45 : decode cX3_begin 45 = .ok (.iload_n 2, 1) := by decide +kernel
theorem dX3_begin_46 : decode cX3_begin 46 = .ok (.putfield 47, 3) := by decide +kernel
theorem dX3_begin_49 : decode cX3_begin 49 = .ok (.aload_n 0, 1) := by decide +kernel
theorem dX3_begin_50 : decode cX3_begin 50 = .ok (.iload_n 3, 1) := by decide +kernel
theorem dX3_begin_51 : decode cX3_begin 51 = .ok (.putfield 50, 3) := by decide +kernel
theorem dX3_begin_54 : decode cX3_begin 54 = .ok (.aload_n 0, 1) := by decide +kernel
theorem dX3_begin_55 : decode cX3_begin 55 = .ok (.iconst 0, 1) := by decide +kernel
theorem dX3_begin_56 : decode cX3_begin 56 = .ok (.putfield 53, 3) := by decide +kernel
theorem dX3_begin_59 : decode cX3_begin 59 = .ok (.aload_n 0, 1) := by decide +kernel
theorem dX3_begin_60 : decode cX3_begin 60 = .ok (.iconst 0, 1) := by decide +kernel
theorem dX3_begin_61 : decode cX3_begin 61 = .ok (.putfield 56, 3) := by decide +kernel
theorem dX3_begin_64 : decode cX3_begin 64 = .ok (.aload_n 0, 1) := by decide +kernel
theorem dX3_begin_65 : decode cX3_begin 65 = .ok (.iconst 0, 1) := by decide +kernel
theorem dX3_begin_66 : decode cX3_begin 66 = .ok (.putfield 59, 3) := by decide +kernel
theorem dX3_begin_69 : decode cX3_begin 69 = .ok (.aload_n 0, 1) := by decide +kernel
theorem dX3_begin_70 : decode cX3_begin 70 = .ok (.iconst 0, 1) := by decide +kernel
theorem dX3_begin_71 : decode cX3_begin 71 = .ok (.putfield 62, 3) := by decide +kernel
theorem dX3_begin_74 : decode cX3_begin 74 = .ok (.return_, 1) := by decide +kernel
theorem dX3_copyFrom_0 : decode cX3_copyFrom 0 = .ok (.aload_n 0, 1) := by decide +kernel
theorem dX3_copyFrom_1 : decode cX3_copyFrom 1 = .ok (.getfield 14, 3) := by decide +kernel
theorem dX3_copyFrom_4 : decode cX3_copyFrom 4 = .ok (.aload_n 1, 1) := by decide +kernel
theorem dX3_copyFrom_5 : decode cX3_copyFrom 5 = .ok (.getfield 14, 3) := by decide +kernel
theorem dX3_copyFrom_8 : decode cX3_copyFrom 8 = .ok (.invokevirtual 65, 3) := by decide +kernel
theorem dX3_copyFrom_11 : decode cX3_copyFrom 11 = .ok (.aload_n 0, 1) := by decide +kernel
theorem dX3_copyFrom_12 : decode cX3_copyFrom 12 = .ok (.getfield 20, 3) := by decide +kernel
theorem dX3_copyFrom_15 : decode cX3_copyFrom 15 = .ok (.aload_n 1, 1) := by decide +kernel
theorem dX3_copyFrom_16 : decode cX3_copyFrom 16 = .ok (.getfield 20, 3) := by decide +kernel
theorem dX3_copyFrom_19 : decode cX3_copyFrom 19 = .ok (.invokevirtual 65, 3) := by decide +kernel
theorem dX3_copyFrom_22 : decode cX3_copyFrom 22 = .ok (.iconst 0, 1) := by decide +kernel
theorem dX3_copyFrom_23 : decode cX3_copyFrom 23 = .ok (.istore_n 2, 1) := by decide +kernel
theorem dX3_copyFrom_24 : decode cX3_copyFrom 24 = .ok (.iload_n 2, 1) := by decide +kernel
theorem dX3_copyFrom_25 : decode cX3_copyFrom 25 = .ok (.iconst 4, 1) := by decide +kernel
theorem dX3_copyFrom_26 : decode cX3_copyFrom 26 = .ok (.if_icmp .ge 24, 3) := by decide +kernel
theorem dX3_copyFrom_29 : decode cX3_copyFrom 29 = .ok (.aload_n 0, 1) := by decide +kernel
theorem dX3_copyFrom_30 : decode cX3_copyFrom 30 = .ok (.getfield 25, 3) := by decide +kernel
theorem dX3_copyFrom_33 : decode cX3_copyFrom 33 = .ok (.iload_n 2, 1) := by decide +kernel
theorem dX3_copyFrom_34 : decode cX3_copyFrom 34 = .ok (.aaload, 1) := by decide +kernel
theorem dX3_copyFrom_35 : decode cX3_copyFrom 35 = .ok (.aload_n 1, 1) := by decide +kernel
theorem dX3_copyFrom_36 : decode cX3_copyFrom 36 = .ok (.getfield 25, 3) := by decide +kernel
theorem dX3_copyFrom_39 : decode cX3_copyFrom 39 = .ok (.iload_n 2, 1) := by decide +kernel
theorem dX3_copyFrom_40 : decode cX3_copyFrom 40 = .ok (.aaload, 1) := by decide +kernel
theorem dX3_copyFrom_41 : decode cX3_copyFrom 41 = .ok (.invokevirtual 69, 3) := by decide +kernel
theorem dX3_copyFrom_44 : decode cX3_copyFrom 44 = .ok (.iinc 2 1, 3) := by decide +kernel
theorem dX3_copyFrom_47 : decode cX3_copyFrom 47 = .ok (.goto (-23), 3) := by decide +kernel
theorem dX3_copyFrom_50 : decode cX3_copyFrom 50 = .ok (.aload_n 1, 1) := by decide +kernel
theorem dX3_copyFrom_51 : decode cX3_copyFrom 51 = .ok (.getfield 29, 3) := by decide +kernel
theorem dX3_copyFrom_54 : decode cX3_copyFrom 54 = .ok (.iconst 0, 1) := by decide +kernel
theorem dX3_copyFrom_55 : decode cX3_copyFrom 55 = .ok (.aload_n 0, 1) := by decide +kernel
theorem dX3_copyFrom_56 : decode cX3_copyFrom 56 = .ok (.getfield 29, 3) := by decide +kernel
theorem dX3_copyFrom_59 : decode cX3_copyFrom 59 = .ok (.iconst 0, 1) := by decide +kernel
theorem dX3_copyFrom_60 : decode cX3_copyFrom 60 = .ok (.bipush 24, 2) := by decide +kernel
theorem dX3_copyFrom_62 : decode cX3_copyFrom 62 = .ok (.invokestatic 72, 3) := by decide +kernel
theorem dX3_copyFrom_65 : decode cX3_copyFrom 65 = .ok (.aload_n 0, 1) := by decide +kernel
theorem dX3_copyFrom_66 : decode cX3_copyFrom 66 = .ok (.aload_n 1, 1) := by decide +kernel
theorem dX3_copyFrom_67 : decode cX3_copyFrom 67 = .ok (.getfield 43, 3) := by decide +kernel
theorem dX3_copyFrom_70 : decode cX3_copyFrom 70 = .ok (.putfield 43, 3) := by decide +kernel
theorem dX3_copyFrom_73 : decode cX3_copyFrom 73 = .ok (.aload_n 0, 1) := by decide +kernel
theorem dX3_copyFrom_74 : decode cX3_copyFrom 74 = .ok (.aload_n 1, 1) := by decide +kernel
theorem dX3_copyFrom_75 : decode cX3_copyFrom 75 = .ok (.getfield 47, 3) := by decide +kernel
theorem dX3_copyFrom_78 : decode cX3_copyFrom 78 = .ok (.putfield 47, 3) := by decide +kernel
theorem dX3_copyFrom_81 : decode cX3_copyFrom 81 = .ok (.aload_n 0, 1) := by decide +kernel
theorem dX3_copyFrom_82 : decode cX3_copyFrom 82 = .ok (.aload_n 1, 1) := by decide +kernel
theorem dX3_copyFrom_83 : decode cX3_copyFrom 83 = .ok (.getfield 50, 3) := by decide +kernel
theorem dX3_copyFrom_86 : decode cX3_copyFrom 86 = .ok (.putfield 50, 3) := by decide +kernel
theorem dX3_copyFrom_89 : decode cX3_copyFrom 89 = .ok (.aload_n 0, 1) := by decide +kernel
theorem dX3_copyFrom_90 : decode cX3_copyFrom 90 = .ok (.aload_n 1, 1) := by decide +kernel
theorem dX3_copyFrom_91 : decode cX3_copyFrom 91 = .ok (.getfield 53, 3) := by decide +kernel
theorem dX3_copyFrom_94 : decode cX3_copyFrom 94 = .ok (.putfield 53, 3) := by decide +kernel
theorem dX3_copyFrom_97 : decode cX3_copyFrom 97 = .ok (.aload_n 0, 1) := by decide +kernel
theorem dX3_copyFrom_98 : decode cX3_copyFrom 98 = .ok (.aload_n 1, 1) := by decide +kernel
theorem dX3_copyFrom_99 : decode cX3_copyFrom 99 = .ok (.getfield 56, 3) := by decide +kernel
theorem dX3_copyFrom_102 : decode cX3_copyFrom 102 = .ok (.putfield 56, 3) := by decide +kernel
theorem dX3_copyFrom_105 : decode cX3_copyFrom 105 = .ok (.aload_n 0, 1) := by decide +kernel
theorem dX3_copyFrom_106 : decode cX3_copyFrom 106 = .ok (.aload_n 1, 1) := by decide +kernel
theorem dX3_copyFrom_107 : decode cX3_copyFrom 107 = .ok (.getfield 59, 3) := by decide +kernel
theorem dX3_copyFrom_110 : decode cX3_copyFrom 110 = .ok (.putfield 59, 3) := by decide +kernel
theorem dX3_copyFrom_113 : decode cX3_copyFrom 113 = .ok (.aload_n 0, 1) := by decide +kernel
theorem dX3_copyFrom_114 : decode cX3_copyFrom 114 = .ok (.aload_n 1, 1) := by decide +kernel
theorem dX3_copyFrom_115 : decode cX3_copyFrom 115 = .ok (.getfield 62, 3) := by decide +kernel
theorem dX3_copyFrom_118 : decode cX3_copyFrom 118 = .ok (.putfield 62, 3) := by decide +kernel
theorem dX3_copyFrom_121 : decode cX3_copyFrom 121 = .ok (.return_, 1) := by decide +kernel
theorem dX3_answer_0 : decode cX3_answer 0 = .ok (.aload_n 0, 1) := by decide +kernel
theorem dX3_answer_1 : decode cX3_answer 1 = .ok (.dup, 1) := by decide +kernel
theorem dX3_answer_2 : decode cX3_answer 2 = .ok (.getfield 62, 3) := by decide +kernel
theorem dX3_answer_5 : decode cX3_answer 5 = .ok (.iconst 1, 1) := by decide +kernel
theorem dX3_answer_6 : decode cX3_answer 6 = .ok (.iadd, 1) := by decide +kernel
theorem dX3_answer_7 : decode cX3_answer 7 = .ok (.putfield 62, 3) := by decide +kernel
theorem dX3_answer_10 : decode cX3_answer 10 = .ok (.aload_n 0, 1) := by decide +kernel
theorem dX3_answer_11 : decode cX3_answer 11 = .ok (.getfield 29, 3) := by decide +kernel
theorem dX3_answer_14 : decode cX3_answer 14 = .ok (.aload_n 0, 1) := by decide +kernel
theorem dX3_answer_15 : decode cX3_answer 15 = .ok (.getfield 62, 3) := by decide +kernel
theorem dX3_answer_18 : decode cX3_answer 18 = .ok (.invokestatic 78, 3) := by decide +kernel
theorem dX3_answer_21 : decode cX3_answer 21 = .ok (.iload_n 2, 1) := by decide +kernel
theorem dX3_answer_22 : decode cX3_answer 22 = .ok (.iastore, 1) := by decide +kernel
theorem dX3_answer_23 : decode cX3_answer 23 = .ok (.aload_n 0, 1) := by decide +kernel
theorem dX3_answer_24 : decode cX3_answer 24 = .ok (.getfield 25, 3) := by decide +kernel
theorem dX3_answer_27 : decode cX3_answer 27 = .ok (.iload_n 1, 1) := by decide +kernel
theorem dX3_answer_28 : decode cX3_answer 28 = .ok (.aaload, 1) := by decide +kernel
theorem dX3_answer_29 : decode cX3_answer 29 = .ok (.getfield 82, 3) := by decide +kernel
theorem dX3_answer_32 : decode cX3_answer 32 = .ok (.iconst 0, 1) := by decide +kernel
theorem dX3_answer_33 : decode cX3_answer 33 = .ok (.dup2, 1) := by decide +kernel
theorem dX3_answer_34 : decode cX3_answer 34 = .ok (.iaload, 1) := by decide +kernel
theorem dX3_answer_35 : decode cX3_answer 35 = .ok (.iconst 1, 1) := by decide +kernel
theorem dX3_answer_36 : decode cX3_answer 36 = .ok (.iadd, 1) := by decide +kernel
theorem dX3_answer_37 : decode cX3_answer 37 = .ok (.iastore, 1) := by decide +kernel
theorem dX3_answer_38 : decode cX3_answer 38 = .ok (.aload_n 0, 1) := by decide +kernel
theorem dX3_answer_39 : decode cX3_answer 39 = .ok (.getfield 14, 3) := by decide +kernel
theorem dX3_answer_42 : decode cX3_answer 42 = .ok (.iload_n 2, 1) := by decide +kernel
theorem dX3_answer_43 : decode cX3_answer 43 = .ok (.invokevirtual 85, 3) := by decide +kernel
theorem dX3_answer_46 : decode cX3_answer 46 = .ok (.istore_n 3, 1) := by decide +kernel
theorem dX3_answer_47 : decode cX3_answer 47 = .ok (.iload_n 3, 1) := by decide +kernel
theorem dX3_answer_48 : decode cX3_answer 48 = .ok (.iconst (-1), 1) := by decide +kernel
theorem dX3_answer_49 : decode cX3_answer 49 = .ok (.if_icmp .ne 19, 3) := by decide +kernel
theorem dX3_answer_52 : decode cX3_answer 52 = .ok (.aload_n 0, 1) := by decide +kernel
theorem dX3_answer_53 : decode cX3_answer 53 = .ok (.iload_n 1, 1) := by decide +kernel
theorem dX3_answer_54 : decode cX3_answer 54 = .ok (.iload_n 2, 1) := by decide +kernel
theorem dX3_answer_55 : decode cX3_answer 55 = .ok (.invokevirtual 88, 3) := by decide +kernel
theorem dX3_answer_58 : decode cX3_answer 58 = .ok (.aload_n 0, 1) := by decide +kernel
theorem dX3_answer_59 : decode cX3_answer 59 = .ok (.iload_n 2, 1) := by decide +kernel
theorem dX3_answer_60 : decode cX3_answer 60 = .ok (.iload_n 1, 1) := by decide +kernel
theorem dX3_answer_61 : decode cX3_answer 61 = .ok (.invokevirtual 92, 3) := by decide +kernel
theorem dX3_answer_64 : decode cX3_answer 64 = .ok (.pop, 1) := by decide +kernel
theorem dX3_answer_65 : decode cX3_answer 65 = .ok (.goto 9, 3) := by decide +kernel
theorem dX3_answer_68 : decode cX3_answer 68 = .ok (.aload_n 0, 1) := by decide +kernel
theorem dX3_answer_69 : decode cX3_answer 69 = .ok (.iload_n 1, 1) := by decide +kernel
theorem dX3_answer_70 : decode cX3_answer 70 = .ok (.iload_n 3, 1) := by decide +kernel
theorem dX3_answer_71 : decode cX3_answer 71 = .ok (.invokevirtual 96, 3) := by decide +kernel
theorem dX3_answer_74 : decode cX3_answer 74 = .ok (.aload_n 0, 1) := by decide +kernel
theorem dX3_answer_75 : decode cX3_answer 75 = .ok (.getfield 25, 3) := by decide +kernel
theorem dX3_answer_78 : decode cX3_answer 78 = .ok (.iload_n 1, 1) := by decide +kernel
theorem dX3_answer_79 : decode cX3_answer 79 = .ok (.aaload, 1) := by decide +kernel
theorem dX3_answer_80 : decode cX3_answer 80 = .ok (.iload_n 2, 1) := by decide +kernel
theorem dX3_answer_81 : decode cX3_answer 81 = .ok (.invokevirtual 99, 3) := by decide +kernel
theorem dX3_answer_84 : decode cX3_answer 84 = .ok (.aload_n 0, 1) := by decide +kernel
theorem dX3_answer_85 : decode cX3_answer 85 = .ok (.iload_n 1, 1) := by decide +kernel
theorem dX3_answer_86 : decode cX3_answer 86 = .ok (.iload_n 2, 1) := by decide +kernel
theorem dX3_answer_87 : decode cX3_answer 87 = .ok (.invokevirtual 102, 3) := by decide +kernel
theorem dX3_answer_90 : decode cX3_answer 90 = .ok (.aload_n 0, 1) := by decide +kernel
theorem dX3_answer_91 : decode cX3_answer 91 = .ok (.getfield 62, 3) := by decide +kernel
theorem dX3_answer_94 : decode cX3_answer 94 = .ok (.aload_n 0, 1) := by decide +kernel
theorem dX3_answer_95 : decode cX3_answer 95 = .ok (.getfield 50, 3) := by decide +kernel
theorem dX3_answer_98 : decode cX3_answer 98 = .ok (.irem, 1) := by decide +kernel
theorem dX3_answer_99 : decode cX3_answer 99 = .ok (.ifCond .ne 10, 3) := by decide +kernel
theorem dX3_answer_102 : decode cX3_answer 102 = .ok (.aload_n 0, 1) := by decide +kernel
theorem dX3_answer_103 : decode cX3_answer 103 = .ok (.iconst (-1), 1) := by decide +kernel
theorem dX3_answer_104 : decode cX3_answer 104 = .ok (.iconst (-1), 1) := by decide +kernel
theorem dX3_answer_105 : decode cX3_answer 105 = .ok (.invokevirtual 92, 3) := by decide +kernel
theorem dX3_answer_108 : decode cX3_answer 108 = .ok (.pop, 1) := by decide +kernel
theorem dX3_answer_109 : decode cX3_answer 109 = .ok (.iload_n 3, 1) := by decide +kernel
theorem dX3_answer_110 : decode cX3_answer 110 = .ok (.iconst (-1), 1) := by decide +kernel
theorem dX3_answer_111 : decode cX3_answer 111 = .ok (.if_icmp .ne 7, 3) := by decide +kernel
theorem dX3_answer_114 : decode cX3_answer 114 = .ok (.iconst 1, 1) := by decide +kernel
theorem dX3_answer_115 : decode cX3_answer 115 = .ok (.goto 4, 3) := by decide +kernel
theorem dX3_answer_118 : decode cX3_answer 118 = .ok (.iconst 0, 1) := by decide +kernel
theorem dX3_answer_119 : decode cX3_answer 119 = .ok (.ireturn, 1) := by decide +kernel
theorem dX3_hit_0 : decode cX3_hit 0 = .ok (.aload_n 0, 1) := by decide +kernel
theorem dX3_hit_1 : decode cX3_hit 1 = .ok (.getfield 14, 3) := by decide +kernel
theorem dX3_hit_4 : decode cX3_hit 4 = .ok (.getfield 105, 3) := by decide +kernel
theorem dX3_hit_7 : decode cX3_hit 7 = .ok (.iload_n 2, 1) := by decide +kernel
theorem dX3_hit_8 : decode cX3_hit 8 = .ok (.iaload, 1) := by decide +kernel
theorem dX3_hit_9 : decode cX3_hit 9 = .ok (.istore_n 3, 1) := by decide +kernel
theorem dX3_hit_10 : decode cX3_hit 10 = .ok (.aload_n 0, 1) := by decide +kernel
theorem dX3_hit_11 : decode cX3_hit 11 = .ok (.getfield 14, 3) := by decide +kernel
theorem dX3_hit_14 : decode cX3_hit 14 = .ok (.getfield 108, 3) := by decide +kernel
theorem dX3_hit_17 : decode cX3_hit 17 = .ok (.iload_n 2, 1) := by decide +kernel
theorem dX3_hit_18 : decode cX3_hit 18 = .ok (.iaload, 1) := by decide +kernel
theorem dX3_hit_19 : decode cX3_hit 19 = .ok (.istore 4, 2) := by decide +kernel
theorem dX3_hit_21 : decode cX3_hit 21 = .ok (.aload_n 0, 1) := by decide +kernel
theorem dX3_hit_22 : decode cX3_hit 22 = .ok (.getfield 25, 3) := by decide +kernel
theorem dX3_hit_25 : decode cX3_hit 25 = .ok (.iload_n 1, 1) := by decide +kernel
theorem dX3_hit_26 : decode cX3_hit 26 = .ok (.aaload, 1) := by decide +kernel
theorem dX3_hit_27 : decode cX3_hit 27 = .ok (.getfield 82, 3) := by decide +kernel
theorem dX3_hit_30 : decode cX3_hit 30 = .ok (.iconst 1, 1) := by decide +kernel
theorem dX3_hit_31 : decode cX3_hit 31 = .ok (.dup2, 1) := by decide +kernel
theorem dX3_hit_32 : decode cX3_hit 32 = .ok (.iaload, 1) := by decide +kernel
theorem dX3_hit_33 : decode cX3_hit 33 = .ok (.iconst 1, 1) := by decide +kernel
theorem dX3_hit_34 : decode cX3_hit 34 = .ok (.iadd, 1) := by decide +kernel
theorem dX3_hit_35 : decode cX3_hit 35 = .ok (.iastore, 1) := by decide +kernel
theorem dX3_hit_36 : decode cX3_hit 36 = .ok (.aload_n 0, 1) := by decide +kernel
theorem dX3_hit_37 : decode cX3_hit 37 = .ok (.getfield 14, 3) := by decide +kernel
theorem dX3_hit_40 : decode cX3_hit 40 = .ok (.getfield 111, 3) := by decide +kernel
theorem dX3_hit_43 : decode cX3_hit 43 = .ok (.iload_n 2, 1) := by decide +kernel
theorem dX3_hit_44 : decode cX3_hit 44 = .ok (.iaload, 1) := by decide +kernel
theorem dX3_hit_45 : decode cX3_hit 45 = .ok (.iconst 1, 1) := by decide +kernel
theorem dX3_hit_46 : decode cX3_hit 46 = .ok (.if_icmp .ne 13, 3) := by decide +kernel
theorem dX3_hit_49 : decode cX3_hit 49 = .ok (.aload_n 0, 1) := by decide +kernel
theorem dX3_hit_50 : decode cX3_hit 50 = .ok (.getfield 25, 3) := by decide +kernel
theorem dX3_hit_53 : decode cX3_hit 53 = .ok (.iload 4, 2) := by decide +kernel
theorem dX3_hit_55 : decode cX3_hit 55 = .ok (.aaload, 1) := by decide +kernel
theorem dX3_hit_56 : decode cX3_hit 56 = .ok (.invokevirtual 114, 3) := by decide +kernel
theorem dX3_hit_59 : decode cX3_hit 59 = .ok (.aload_n 0, 1) := by decide +kernel
theorem dX3_hit_60 : decode cX3_hit 60 = .ok (.getfield 14, 3) := by decide +kernel
theorem dX3_hit_63 : decode cX3_hit 63 = .ok (.iload_n 2, 1) := by decide +kernel
theorem dX3_hit_64 : decode cX3_hit 64 = .ok (.invokevirtual 117, 3) := by decide +kernel
theorem dX3_hit_67 : decode cX3_hit 67 = .ok (.aload_n 0, 1) := by decide +kernel
theorem dX3_hit_68 : decode cX3_hit 68 = .ok (.getfield 14, 3) := by decide +kernel
theorem dX3_hit_71 : decode cX3_hit 71 = .ok (.iload_n 3, 1) := by decide +kernel
theorem dX3_hit_72 : decode cX3_hit 72 = .ok (.iload 4, 2) := by decide +kernel
theorem dX3_hit_74 : decode cX3_hit 74 = .ok (.iconst 0, 1) := by decide +kernel
theorem dX3_hit_75 : decode cX3_hit 75 = .ok (.invokevirtual 120, 3) := by decide +kernel
theorem dX3_hit_78 : decode cX3_hit 78 = .ok (.return_, 1) := by decide +kernel
theorem dX3_demand_0 : decode cX3_demand 0 = .ok (.aload_n 0, 1) := by decide +kernel
theorem dX3_demand_1 : decode cX3_demand 1 = .ok (.getfield 20, 3) := by decide +kernel
theorem dX3_demand_4 : decode cX3_demand 4 = .ok (.iload_n 2, 1) := by decide +kernel
theorem dX3_demand_5 : decode cX3_demand 5 = .ok (.invokevirtual 85, 3) := by decide +kernel
theorem dX3_demand_8 : decode cX3_demand 8 = .ok (.istore_n 3, 1) := by decide +kernel
theorem dX3_demand_9 : decode cX3_demand 9 = .ok (.iload_n 3, 1) := by decide +kernel
theorem dX3_demand_10 : decode cX3_demand 10 = .ok (.iconst (-1), 1) := by decide +kernel
theorem dX3_demand_11 : decode cX3_demand 11 = .ok (.if_icmp .eq 11, 3) := by decide +kernel
theorem dX3_demand_14 : decode cX3_demand 14 = .ok (.aload_n 0, 1) := by decide +kernel
theorem dX3_demand_15 : decode cX3_demand 15 = .ok (.getfield 20, 3) := by decide +kernel
theorem dX3_demand_18 : decode cX3_demand 18 = .ok (.iload_n 3, 1) := by decide +kernel
theorem dX3_demand_19 : decode cX3_demand 19 = .ok (.invokevirtual 117, 3) := by decide +kernel
theorem dX3_demand_22 : decode cX3_demand 22 = .ok (.aload_n 0, 1) := by decide +kernel
theorem dX3_demand_23 : decode cX3_demand 23 = .ok (.getfield 25, 3) := by decide +kernel
theorem dX3_demand_26 : decode cX3_demand 26 = .ok (.iload_n 1, 1) := by decide +kernel
theorem dX3_demand_27 : decode cX3_demand 27 = .ok (.aaload, 1) := by decide +kernel
theorem dX3_demand_28 : decode cX3_demand 28 = .ok (.getfield 82, 3) := by decide +kernel
theorem dX3_demand_31 : decode cX3_demand 31 = .ok (.iconst 2, 1) := by decide +kernel
theorem dX3_demand_32 : decode cX3_demand 32 = .ok (.dup2, 1) := by decide +kernel
theorem dX3_demand_33 : decode cX3_demand 33 = .ok (.iaload, 1) := by decide +kernel
theorem dX3_demand_34 : decode cX3_demand 34 = .ok (.iconst 1, 1) := by decide +kernel
theorem dX3_demand_35 : decode cX3_demand 35 = .ok (.iadd, 1) := by decide +kernel
theorem dX3_demand_36 : decode cX3_demand 36 = .ok (.iastore, 1) := by decide +kernel
theorem dX3_demand_37 : decode cX3_demand 37 = .ok (.return_, 1) := by decide +kernel
theorem dX3_tick_0 : decode cX3_tick 0 = .ok (.aload_n 0, 1) := by decide +kernel
theorem dX3_tick_1 : decode cX3_tick 1 = .ok (.dup, 1) := by decide +kernel
theorem dX3_tick_2 : decode cX3_tick 2 = .ok (.getfield 59, 3) := by decide +kernel
theorem dX3_tick_5 : decode cX3_tick 5 = .ok (.iconst 1, 1) := by decide +kernel
theorem dX3_tick_6 : decode cX3_tick 6 = .ok (.iadd, 1) := by decide +kernel
theorem dX3_tick_7 : decode cX3_tick 7 = .ok (.putfield 59, 3) := by decide +kernel
theorem dX3_tick_10 : decode cX3_tick 10 = .ok (.iconst 0, 1) := by decide +kernel
theorem dX3_tick_11 : decode cX3_tick 11 = .ok (.istore_n 3, 1) := by decide +kernel
theorem dX3_tick_12 : decode cX3_tick 12 = .ok (.iconst 0, 1) := by decide +kernel
theorem dX3_tick_13 : decode cX3_tick 13 = .ok (.istore 4, 2) := by decide +kernel
theorem dX3_tick_15 : decode cX3_tick 15 = .ok (.iload_n 1, 1) := by decide +kernel
theorem dX3_tick_16 : decode cX3_tick 16 = .ok (.iconst (-1), 1) := by decide +kernel
theorem dX3_tick_17 : decode cX3_tick 17 = .ok (.if_icmp .eq 16, 3) := by decide +kernel
theorem dX3_tick_20 : decode cX3_tick 20 = .ok (.iload_n 3, 1) := by decide +kernel
theorem dX3_tick_21 : decode cX3_tick 21 = .ok (.aload_n 0, 1) := by decide +kernel
theorem dX3_tick_22 : decode cX3_tick 22 = .ok (.iload_n 1, 1) := by decide +kernel
theorem dX3_tick_23 : decode cX3_tick 23 = .ok (.iload_n 2, 1) := by decide +kernel
theorem dX3_tick_24 : decode cX3_tick 24 = .ok (.iconst 0, 1) := by decide +kernel
theorem dX3_tick_25 : decode cX3_tick 25 = .ok (.invokevirtual 123, 3) := by decide +kernel
theorem dX3_tick_28 : decode cX3_tick 28 = .ok (.iadd, 1) := by decide +kernel
theorem dX3_tick_29 : decode cX3_tick 29 = .ok (.istore_n 3, 1) := by decide +kernel
theorem dX3_tick_30 : decode cX3_tick 30 = .ok (.iinc 4 1, 3) := by decide +kernel
theorem dX3_tick_33 : decode cX3_tick 33 = .ok (.iload 4, 2) := by decide +kernel
theorem dX3_tick_35 : decode cX3_tick 35 = .ok (.aload_n 0, 1) := by decide +kernel
theorem dX3_tick_36 : decode cX3_tick 36 = .ok (.getfield 47, 3) := by decide +kernel
theorem dX3_tick_39 : decode cX3_tick 39 = .ok (.if_icmp .ge 92, 3) := by decide +kernel
theorem dX3_tick_42 : decode cX3_tick 42 = .ok (.aload_n 0, 1) := by decide +kernel
theorem dX3_tick_43 : decode cX3_tick 43 = .ok (.getfield 20, 3) := by decide +kernel
theorem dX3_tick_46 : decode cX3_tick 46 = .ok (.aload_n 0, 1) := by decide +kernel
theorem dX3_tick_47 : decode cX3_tick 47 = .ok (.getfield 53, 3) := by decide +kernel
theorem dX3_tick_50 : decode cX3_tick 50 = .ok (.invokevirtual 127, 3) := by decide +kernel
theorem dX3_tick_53 : decode cX3_tick 53 = .ok (.istore 5, 2) := by decide +kernel
theorem dX3_tick_55 : decode cX3_tick 55 = .ok (.iload 5, 2) := by decide +kernel
theorem dX3_tick_57 : decode cX3_tick 57 = .ok (.iconst (-1), 1) := by decide +kernel
theorem dX3_tick_58 : decode cX3_tick 58 = .ok (.if_icmp .ne 6, 3) := by decide +kernel
theorem dX3_tick_61 : decode cX3_tick 61 = .ok (.goto 70, 3) := by decide +kernel
theorem dX3_tick_64 : decode cX3_tick 64 = .ok (.aload_n 0, 1) := by decide +kernel
theorem dX3_tick_65 : decode cX3_tick 65 = .ok (.getfield 20, 3) := by decide +kernel
theorem dX3_tick_68 : decode cX3_tick 68 = .ok (.getfield 105, 3) := by decide +kernel
theorem dX3_tick_71 : decode cX3_tick 71 = .ok (.iload 5, 2) := by decide +kernel
theorem dX3_tick_73 : decode cX3_tick 73 = .ok (.iaload, 1) := by decide +kernel
theorem dX3_tick_74 : decode cX3_tick 74 = .ok (.istore 6, 2) := by decide +kernel
theorem dX3_tick_76 : decode cX3_tick 76 = .ok (.aload_n 0, 1) := by decide +kernel
theorem dX3_tick_77 : decode cX3_tick 77 = .ok (.getfield 20, 3) := by decide +kernel
theorem dX3_tick_80 : decode cX3_tick 80 = .ok (.getfield 108, 3) := by decide +kernel
theorem dX3_tick_83 : decode cX3_tick 83 = .ok (.iload 5, 2) := by decide +kernel
theorem dX3_tick_85 : decode cX3_tick 85 = .ok (.iaload, 1) := by decide +kernel
theorem dX3_tick_86 : decode cX3_tick 86 = .ok (.istore 7, 2) := by decide +kernel
theorem dX3_tick_88 : decode cX3_tick 88 = .ok (.aload_n 0, 1) := by decide +kernel
theorem dX3_tick_89 : decode cX3_tick 89 = .ok (.getfield 20, 3) := by decide +kernel
theorem dX3_tick_92 : decode cX3_tick 92 = .ok (.iload 5, 2) := by decide +kernel
theorem dX3_tick_94 : decode cX3_tick 94 = .ok (.invokevirtual 117, 3) := by decide +kernel
theorem dX3_tick_97 : decode cX3_tick 97 = .ok (.aload_n 0, 1) := by decide +kernel
theorem dX3_tick_98 : decode cX3_tick 98 = .ok (.getfield 25, 3) := by decide +kernel
theorem dX3_tick_101 : decode cX3_tick 101 = .ok (.iload 7, 2) := by decide +kernel
theorem dX3_tick_103 : decode cX3_tick 103 = .ok (.aaload, 1) := by decide +kernel
theorem dX3_tick_104 : decode cX3_tick 104 = .ok (.getfield 82, 3) := by decide +kernel
theorem dX3_tick_107 : decode cX3_tick 107 = .ok (.iconst 3, 1) := by decide +kernel
theorem dX3_tick_108 : decode cX3_tick 108 = .ok (.dup2, 1) := by decide +kernel
theorem dX3_tick_109 : decode cX3_tick 109 = .ok (.iaload, 1) := by decide +kernel
theorem dX3_tick_110 : decode cX3_tick 110 = .ok (.iconst 1, 1) := by decide +kernel
theorem dX3_tick_111 : decode cX3_tick 111 = .ok (.iadd, 1) := by decide +kernel
theorem dX3_tick_112 : decode cX3_tick 112 = .ok (.iastore, 1) := by decide +kernel
theorem dX3_tick_113 : decode cX3_tick 113 = .ok (.iload_n 3, 1) := by decide +kernel
theorem dX3_tick_114 : decode cX3_tick 114 = .ok (.aload_n 0, 1) := by decide +kernel
theorem dX3_tick_115 : decode cX3_tick 115 = .ok (.iload 6, 2) := by decide +kernel
theorem dX3_tick_117 : decode cX3_tick 117 = .ok (.iload 7, 2) := by decide +kernel
theorem dX3_tick_119 : decode cX3_tick 119 = .ok (.iconst 1, 1) := by decide +kernel
theorem dX3_tick_120 : decode cX3_tick 120 = .ok (.invokevirtual 123, 3) := by decide +kernel
theorem dX3_tick_123 : decode cX3_tick 123 = .ok (.iadd, 1) := by decide +kernel
theorem dX3_tick_124 : decode cX3_tick 124 = .ok (.istore_n 3, 1) := by decide +kernel
theorem dX3_tick_125 : decode cX3_tick 125 = .ok (.iinc 4 1, 3) := by decide +kernel
theorem dX3_tick_128 : decode cX3_tick 128 = .ok (.goto (-95), 3) := by decide +kernel
theorem dX3_tick_131 : decode cX3_tick 131 = .ok (.iload_n 3, 1) := by decide +kernel
theorem dX3_tick_132 : decode cX3_tick 132 = .ok (.ireturn, 1) := by decide +kernel
theorem dX3_serve_0 : decode cX3_serve 0 = .ok (.aload_n 0, 1) := by decide +kernel
theorem dX3_serve_1 : decode cX3_serve 1 = .ok (.dup, 1) := by decide +kernel
theorem dX3_serve_2 : decode cX3_serve 2 = .ok (.getfield 56, 3) := by decide +kernel
theorem dX3_serve_5 : decode cX3_serve 5 = .ok (.iload_n 1, 1) := by decide +kernel
theorem dX3_serve_6 : decode cX3_serve 6 = .ok (.aload_n 0, 1) := by decide +kernel
theorem dX3_serve_7 : decode cX3_serve 7 = .ok (.getfield 53, 3) := by decide +kernel
theorem dX3_serve_10 : decode cX3_serve 10 = .ok (.isub, 1) := by decide +kernel
theorem dX3_serve_11 : decode cX3_serve 11 = .ok (.invokestatic 130, 3) := by decide +kernel
theorem dX3_serve_14 : decode cX3_serve 14 = .ok (.iadd, 1) := by decide +kernel
theorem dX3_serve_15 : decode cX3_serve 15 = .ok (.putfield 56, 3) := by decide +kernel
theorem dX3_serve_18 : decode cX3_serve 18 = .ok (.aload_n 0, 1) := by decide +kernel
theorem dX3_serve_19 : decode cX3_serve 19 = .ok (.iload_n 1, 1) := by decide +kernel
theorem dX3_serve_20 : decode cX3_serve 20 = .ok (.putfield 53, 3) := by decide +kernel
theorem dX3_serve_23 : decode cX3_serve 23 = .ok (.aload_n 0, 1) := by decide +kernel
theorem dX3_serve_24 : decode cX3_serve 24 = .ok (.getfield 14, 3) := by decide +kernel
theorem dX3_serve_27 : decode cX3_serve 27 = .ok (.getfield 135, 3) := by decide +kernel
theorem dX3_serve_30 : decode cX3_serve 30 = .ok (.aload_n 0, 1) := by decide +kernel
theorem dX3_serve_31 : decode cX3_serve 31 = .ok (.getfield 43, 3) := by decide +kernel
theorem dX3_serve_34 : decode cX3_serve 34 = .ok (.if_icmp .lt 30, 3) := by decide +kernel
theorem dX3_serve_37 : decode cX3_serve 37 = .ok (.aload_n 0, 1) := by decide +kernel
theorem dX3_serve_38 : decode cX3_serve 38 = .ok (.iload_n 2, 1) := by decide +kernel
theorem dX3_serve_39 : decode cX3_serve 39 = .ok (.invokevirtual 138, 3) := by decide +kernel
theorem dX3_serve_42 : decode cX3_serve 42 = .ok (.istore 4, 2) := by decide +kernel
theorem dX3_serve_44 : decode cX3_serve 44 = .ok (.iload 4, 2) := by decide +kernel
theorem dX3_serve_46 : decode cX3_serve 46 = .ok (.iconst (-1), 1) := by decide +kernel
theorem dX3_serve_47 : decode cX3_serve 47 = .ok (.if_icmp .ne 11, 3) := by decide +kernel
theorem dX3_serve_50 : decode cX3_serve 50 = .ok (.aload_n 0, 1) := by decide +kernel
theorem dX3_serve_51 : decode cX3_serve 51 = .ok (.iload_n 2, 1) := by decide +kernel
theorem dX3_serve_52 : decode cX3_serve 52 = .ok (.iload_n 3, 1) := by decide +kernel
theorem dX3_serve_53 : decode cX3_serve 53 = .ok (.invokevirtual 141, 3) := by decide +kernel
theorem dX3_serve_56 : decode cX3_serve 56 = .ok (.iconst 0, 1) := by decide +kernel
theorem dX3_serve_57 : decode cX3_serve 57 = .ok (.ireturn, 1) := by decide +kernel
theorem dX3_serve_58 : decode cX3_serve 58 = .ok (.aload_n 0, 1) := by decide +kernel
theorem dX3_serve_59 : decode cX3_serve 59 = .ok (.iload 4, 2) := by decide +kernel
theorem dX3_serve_61 : decode cX3_serve 61 = .ok (.invokevirtual 144, 3) := by decide +kernel
theorem dX3_serve_64 : decode cX3_serve 64 = .ok (.aload_n 0, 1) := by decide +kernel
theorem dX3_serve_65 : decode cX3_serve 65 = .ok (.getfield 14, 3) := by decide +kernel
theorem dX3_serve_68 : decode cX3_serve 68 = .ok (.iload_n 1, 1) := by decide +kernel
theorem dX3_serve_69 : decode cX3_serve 69 = .ok (.iload_n 2, 1) := by decide +kernel
theorem dX3_serve_70 : decode cX3_serve 70 = .ok (.iload_n 3, 1) := by decide +kernel
theorem dX3_serve_71 : decode cX3_serve 71 = .ok (.invokevirtual 120, 3) := by decide +kernel
theorem dX3_serve_74 : decode cX3_serve 74 = .ok (.iconst 1, 1) := by decide +kernel
theorem dX3_serve_75 : decode cX3_serve 75 = .ok (.ireturn, 1) := by decide +kernel
theorem dX3_leaver_0 : decode cX3_leaver 0 = .ok (.iconst (-1), 1) := by decide +kernel
theorem dX3_leaver_1 : decode cX3_leaver 1 = .ok (.istore_n 2, 1) := by decide +kernel
theorem dX3_leaver_2 : decode cX3_leaver 2 = .ok (.iconst 0, 1) := by decide +kernel
theorem dX3_leaver_3 : decode cX3_leaver 3 = .ok (.istore_n 3, 1) := by decide +kernel
theorem dX3_leaver_4 : decode cX3_leaver 4 = .ok (.iload_n 3, 1) := by decide +kernel
theorem dX3_leaver_5 : decode cX3_leaver 5 = .ok (.aload_n 0, 1) := by decide +kernel
theorem dX3_leaver_6 : decode cX3_leaver 6 = .ok (.getfield 14, 3) := by decide +kernel
theorem dX3_leaver_9 : decode cX3_leaver 9 = .ok (.getfield 135, 3) := by decide +kernel
theorem dX3_leaver_12 : decode cX3_leaver 12 = .ok (.if_icmp .ge 80, 3) := by decide +kernel
theorem dX3_leaver_15 : decode cX3_leaver 15 = .ok (.aload_n 0, 1) := by decide +kernel
theorem dX3_leaver_16 : decode cX3_leaver 16 = .ok (.getfield 14, 3) := by decide +kernel
theorem dX3_leaver_19 : decode cX3_leaver 19 = .ok (.getfield 108, 3) := by decide +kernel
theorem dX3_leaver_22 : decode cX3_leaver 22 = .ok (.iload_n 3, 1) := by decide +kernel
theorem dX3_leaver_23 : decode cX3_leaver 23 = .ok (.iaload, 1) := by decide +kernel
theorem dX3_leaver_24 : decode cX3_leaver 24 = .ok (.istore 4, 2) := by decide +kernel
theorem dX3_leaver_26 : decode cX3_leaver 26 = .ok (.iload 4, 2) := by decide +kernel
theorem dX3_leaver_28 : decode cX3_leaver 28 = .ok (.iload_n 1, 1) := by decide +kernel
theorem dX3_leaver_29 : decode cX3_leaver 29 = .ok (.if_icmp .eq 26, 3) := by decide +kernel
theorem dX3_leaver_32 : decode cX3_leaver 32 = .ok (.aload_n 0, 1) := by decide +kernel
theorem dX3_leaver_33 : decode cX3_leaver 33 = .ok (.getfield 14, 3) := by decide +kernel
theorem dX3_leaver_36 : decode cX3_leaver 36 = .ok (.getfield 147, 3) := by decide +kernel
theorem dX3_leaver_39 : decode cX3_leaver 39 = .ok (.iload 4, 2) := by decide +kernel
