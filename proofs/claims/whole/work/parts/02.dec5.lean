theorem dX5_ask_99 : decode cX5_ask 99 = .ok (.aload_n 0, 1) := by decide +kernel
theorem dX5_ask_100 : decode cX5_ask 100 = .ok (.iload 5, 2) := by decide +kernel
theorem dX5_ask_102 : decode cX5_ask 102 = .ok (.invokevirtual 178, 3) := by decide +kernel
theorem dX5_ask_105 : decode cX5_ask 105 = .ok (.aload_n 0, 1) := by decide +kernel
theorem dX5_ask_106 : decode cX5_ask 106 = .ok (.getfield 53, 3) := by decide +kernel
theorem dX5_ask_109 : decode cX5_ask 109 = .ok (.bipush 7, 2) := by decide +kernel
theorem dX5_ask_111 : decode cX5_ask 111 = .ok (.iload_n 1, 1) := by decide +kernel
theorem dX5_ask_112 : decode cX5_ask 112 = .ok (.imul, 1) := by decide +kernel
theorem dX5_ask_113 : decode cX5_ask 113 = .ok (.iconst 2, 1) := by decide +kernel
theorem dX5_ask_114 : decode cX5_ask 114 = .ok (.iadd, 1) := by decide +kernel
theorem dX5_ask_115 : decode cX5_ask 115 = .ok (.dup2, 1) := by decide +kernel
theorem dX5_ask_116 : decode cX5_ask 116 = .ok (.iaload, 1) := by decide +kernel
theorem dX5_ask_117 : decode cX5_ask 117 = .ok (.iconst 1, 1) := by decide +kernel
theorem dX5_ask_118 : decode cX5_ask 118 = .ok (.iadd, 1) := by decide +kernel
theorem dX5_ask_119 : decode cX5_ask 119 = .ok (.iastore, 1) := by decide +kernel
theorem dX5_ask_120 : decode cX5_ask 120 = .ok (.aload_n 0, 1) := by decide +kernel
theorem dX5_ask_121 : decode cX5_ask 121 = .ok (.iload_n 2, 1) := by decide +kernel
theorem dX5_ask_122 : decode cX5_ask 122 = .ok (.putfield 59, 3) := by decide +kernel
theorem dX5_ask_125 : decode cX5_ask 125 = .ok (.aload_n 0, 1) := by decide +kernel
theorem dX5_ask_126 : decode cX5_ask 126 = .ok (.iload_n 1, 1) := by decide +kernel
theorem dX5_ask_127 : decode cX5_ask 127 = .ok (.putfield 167, 3) := by decide +kernel
theorem dX5_ask_130 : decode cX5_ask 130 = .ok (.aload_n 0, 1) := by decide +kernel
theorem dX5_ask_131 : decode cX5_ask 131 = .ok (.invokevirtual 197, 3) := by decide +kernel
theorem dX5_ask_134 : decode cX5_ask 134 = .ok (.aload_n 0, 1) := by decide +kernel
theorem dX5_ask_135 : decode cX5_ask 135 = .ok (.getfield 44, 3) := by decide +kernel
theorem dX5_ask_138 : decode cX5_ask 138 = .ok (.iload_n 1, 1) := by decide +kernel
theorem dX5_ask_139 : decode cX5_ask 139 = .ok (.iaload, 1) := by decide +kernel
theorem dX5_ask_140 : decode cX5_ask 140 = .ok (.ifCond .ge 7, 3) := by decide +kernel
theorem dX5_ask_143 : decode cX5_ask 143 = .ok (.iconst 0, 1) := by decide +kernel
theorem dX5_ask_144 : decode cX5_ask 144 = .ok (.goto 11, 3) := by decide +kernel
theorem dX5_ask_147 : decode cX5_ask 147 = .ok (.iload_n 2, 1) := by decide +kernel
theorem dX5_ask_148 : decode cX5_ask 148 = .ok (.aload_n 0, 1) := by decide +kernel
theorem dX5_ask_149 : decode cX5_ask 149 = .ok (.getfield 44, 3) := by decide +kernel
theorem dX5_ask_152 : decode cX5_ask 152 = .ok (.iload_n 1, 1) := by decide +kernel
theorem dX5_ask_153 : decode cX5_ask 153 = .ok (.iaload, 1) := by decide +kernel
theorem dX5_ask_154 : decode cX5_ask 154 = .ok (.isub, 1) := by decide +kernel
theorem dX5_ask_155 : decode cX5_ask 155 = .ok (.istore 5, 2) := by decide +kernel
theorem dX5_ask_157 : decode cX5_ask 157 = .ok (.iload 5, 2) := by decide +kernel
theorem dX5_ask_159 : decode cX5_ask 159 = .ok (.ifCond .eq 18, 3) := by decide +kernel
theorem dX5_ask_162 : decode cX5_ask 162 = .ok (.iload 5, 2) := by decide +kernel
theorem dX5_ask_164 : decode cX5_ask 164 = .ok (.aload_n 0, 1) := by decide +kernel
theorem dX5_ask_165 : decode cX5_ask 165 = .ok (.getfield 47, 3) := by decide +kernel
theorem dX5_ask_168 : decode cX5_ask 168 = .ok (.iload_n 1, 1) := by decide +kernel
theorem dX5_ask_169 : decode cX5_ask 169 = .ok (.iaload, 1) := by decide +kernel
theorem dX5_ask_170 : decode cX5_ask 170 = .ok (.if_icmp .ne 7, 3) := by decide +kernel
theorem dX5_ask_173 : decode cX5_ask 173 = .ok (.iconst 1, 1) := by decide +kernel
theorem dX5_ask_174 : decode cX5_ask 174 = .ok (.goto 4, 3) := by decide +kernel
theorem dX5_ask_177 : decode cX5_ask 177 = .ok (.iconst 0, 1) := by decide +kernel
theorem dX5_ask_178 : decode cX5_ask 178 = .ok (.istore 6, 2) := by decide +kernel
theorem dX5_ask_180 : decode cX5_ask 180 = .ok (.aload_n 0, 1) := by decide +kernel
theorem dX5_ask_181 : decode cX5_ask 181 = .ok (.getfield 44, 3) := by decide +kernel
theorem dX5_ask_184 : decode cX5_ask 184 = .ok (.iload_n 1, 1) := by decide +kernel
theorem dX5_ask_185 : decode cX5_ask 185 = .ok (.iaload, 1) := by decide +kernel
theorem dX5_ask_186 : decode cX5_ask 186 = .ok (.ifCond .lt 20, 3) := by decide +kernel
theorem dX5_ask_189 : decode cX5_ask 189 = .ok (.aload_n 0, 1) := by decide +kernel
theorem dX5_ask_190 : decode cX5_ask 190 = .ok (.getfield 50, 3) := by decide +kernel
theorem dX5_ask_193 : decode cX5_ask 193 = .ok (.bipush 64, 2) := by decide +kernel
theorem dX5_ask_195 : decode cX5_ask 195 = .ok (.iload_n 1, 1) := by decide +kernel
theorem dX5_ask_196 : decode cX5_ask 196 = .ok (.imul, 1) := by decide +kernel
theorem dX5_ask_197 : decode cX5_ask 197 = .ok (.aload_n 0, 1) := by decide +kernel
theorem dX5_ask_198 : decode cX5_ask 198 = .ok (.getfield 44, 3) := by decide +kernel
theorem dX5_ask_201 : decode cX5_ask 201 = .ok (.iload_n 1, 1) := by decide +kernel
theorem dX5_ask_202 : decode cX5_ask 202 = .ok (.iaload, 1) := by decide +kernel
theorem dX5_ask_203 : decode cX5_ask 203 = .ok (.iadd, 1) := by decide +kernel
theorem dX5_ask_204 : decode cX5_ask 204 = .ok (.iload_n 2, 1) := by decide +kernel
theorem dX5_ask_205 : decode cX5_ask 205 = .ok (.iastore, 1) := by decide +kernel
theorem dX5_ask_206 : decode cX5_ask 206 = .ok (.aload_n 0, 1) := by decide +kernel
theorem dX5_ask_207 : decode cX5_ask 207 = .ok (.getfield 44, 3) := by decide +kernel
theorem dX5_ask_210 : decode cX5_ask 210 = .ok (.iload_n 1, 1) := by decide +kernel
theorem dX5_ask_211 : decode cX5_ask 211 = .ok (.iload_n 2, 1) := by decide +kernel
theorem dX5_ask_212 : decode cX5_ask 212 = .ok (.iastore, 1) := by decide +kernel
theorem dX5_ask_213 : decode cX5_ask 213 = .ok (.aload_n 0, 1) := by decide +kernel
theorem dX5_ask_214 : decode cX5_ask 214 = .ok (.getfield 47, 3) := by decide +kernel
theorem dX5_ask_217 : decode cX5_ask 217 = .ok (.iload_n 1, 1) := by decide +kernel
theorem dX5_ask_218 : decode cX5_ask 218 = .ok (.iload 5, 2) := by decide +kernel
theorem dX5_ask_220 : decode cX5_ask 220 = .ok (.iastore, 1) := by decide +kernel
theorem dX5_ask_221 : decode cX5_ask 221 = .ok (.aload_n 0, 1) := by decide +kernel
theorem dX5_ask_222 : decode cX5_ask 222 = .ok (.iload_n 1, 1) := by decide +kernel
theorem dX5_ask_223 : decode cX5_ask 223 = .ok (.iload_n 2, 1) := by decide +kernel
theorem dX5_ask_224 : decode cX5_ask 224 = .ok (.iload 5, 2) := by decide +kernel
theorem dX5_ask_226 : decode cX5_ask 226 = .ok (.iload 6, 2) := by decide +kernel
theorem dX5_ask_228 : decode cX5_ask 228 = .ok (.invokevirtual 200, 3) := by decide +kernel
theorem dX5_ask_231 : decode cX5_ask 231 = .ok (.aload_n 0, 1) := by decide +kernel
theorem dX5_ask_232 : decode cX5_ask 232 = .ok (.getfield 126, 3) := by decide +kernel
theorem dX5_ask_235 : decode cX5_ask 235 = .ok (.aload_n 0, 1) := by decide +kernel
theorem dX5_ask_236 : decode cX5_ask 236 = .ok (.getfield 108, 3) := by decide +kernel
theorem dX5_ask_239 : decode cX5_ask 239 = .ok (.irem, 1) := by decide +kernel
theorem dX5_ask_240 : decode cX5_ask 240 = .ok (.ifCond .ne 7, 3) := by decide +kernel
theorem dX5_ask_243 : decode cX5_ask 243 = .ok (.aload_n 0, 1) := by decide +kernel
theorem dX5_ask_244 : decode cX5_ask 244 = .ok (.invokevirtual 197, 3) := by decide +kernel
theorem dX5_ask_247 : decode cX5_ask 247 = .ok (.iload 4, 2) := by decide +kernel
theorem dX5_ask_249 : decode cX5_ask 249 = .ok (.ireturn, 1) := by decide +kernel
theorem dX5_idle_0 : decode cX5_idle 0 = .ok (.iload_n 1, 1) := by decide +kernel
theorem dX5_idle_1 : decode cX5_idle 1 = .ok (.i2l, 1) := by decide +kernel
theorem dX5_idle_2 : decode cX5_idle 2 = .ok (.lconst 0, 1) := by decide +kernel
theorem dX5_idle_3 : decode cX5_idle 3 = .ok (.ldc2_w 204, 3) := by decide +kernel
theorem dX5_idle_6 : decode cX5_idle 6 = .ok (.invokestatic 96, 3) := by decide +kernel
theorem dX5_idle_9 : decode cX5_idle 9 = .ok (.ifCond .ne 6, 3) := by decide +kernel
theorem dX5_idle_12 : decode cX5_idle 12 = .ok (.bipush (-102), 2) := by decide +kernel
theorem dX5_idle_14 : decode cX5_idle 14 = .ok (.ireturn, 1) := by decide +kernel
theorem dX5_idle_15 : decode cX5_idle 15 = .ok (.aload_n 0, 1) := by decide +kernel
theorem dX5_idle_16 : decode cX5_idle 16 = .ok (.iconst 0, 1) := by decide +kernel
theorem dX5_idle_17 : decode cX5_idle 17 = .ok (.putfield 164, 3) := by decide +kernel
theorem dX5_idle_20 : decode cX5_idle 20 = .ok (.iconst 0, 1) := by decide +kernel
theorem dX5_idle_21 : decode cX5_idle 21 = .ok (.istore_n 2, 1) := by decide +kernel
theorem dX5_idle_22 : decode cX5_idle 22 = .ok (.iload_n 2, 1) := by decide +kernel
theorem dX5_idle_23 : decode cX5_idle 23 = .ok (.iload_n 1, 1) := by decide +kernel
theorem dX5_idle_24 : decode cX5_idle 24 = .ok (.if_icmp .ge 13, 3) := by decide +kernel
theorem dX5_idle_27 : decode cX5_idle 27 = .ok (.aload_n 0, 1) := by decide +kernel
theorem dX5_idle_28 : decode cX5_idle 28 = .ok (.invokevirtual 197, 3) := by decide +kernel
theorem dX5_idle_31 : decode cX5_idle 31 = .ok (.iinc 2 1, 3) := by decide +kernel
theorem dX5_idle_34 : decode cX5_idle 34 = .ok (.goto (-12), 3) := by decide +kernel
theorem dX5_idle_37 : decode cX5_idle 37 = .ok (.aload_n 0, 1) := by decide +kernel
theorem dX5_idle_38 : decode cX5_idle 38 = .ok (.getfield 164, 3) := by decide +kernel
theorem dX5_idle_41 : decode cX5_idle 41 = .ok (.ireturn, 1) := by decide +kernel
theorem dX5_waitsOf_0 : decode cX5_waitsOf 0 = .ok (.iconst 0, 1) := by decide +kernel
theorem dX5_waitsOf_1 : decode cX5_waitsOf 1 = .ok (.istore_n 2, 1) := by decide +kernel
theorem dX5_waitsOf_2 : decode cX5_waitsOf 2 = .ok (.iconst 0, 1) := by decide +kernel
theorem dX5_waitsOf_3 : decode cX5_waitsOf 3 = .ok (.istore_n 3, 1) := by decide +kernel
theorem dX5_waitsOf_4 : decode cX5_waitsOf 4 = .ok (.iload_n 3, 1) := by decide +kernel
theorem dX5_waitsOf_5 : decode cX5_waitsOf 5 = .ok (.aload_n 0, 1) := by decide +kernel
theorem dX5_waitsOf_6 : decode cX5_waitsOf 6 = .ok (.getfield 114, 3) := by decide +kernel
theorem dX5_waitsOf_9 : decode cX5_waitsOf 9 = .ok (.if_icmp .ge 27, 3) := by decide +kernel
theorem dX5_waitsOf_12 : decode cX5_waitsOf 12 = .ok (.iload_n 2, 1) := by decide +kernel
theorem dX5_waitsOf_13 : decode cX5_waitsOf 13 = .ok (.aload_n 0, 1) := by decide +kernel
theorem dX5_waitsOf_14 : decode cX5_waitsOf 14 = .ok (.getfield 23, 3) := by decide +kernel
theorem dX5_waitsOf_17 : decode cX5_waitsOf 17 = .ok (.iload_n 3, 1) := by decide +kernel
theorem dX5_waitsOf_18 : decode cX5_waitsOf 18 = .ok (.iaload, 1) := by decide +kernel
theorem dX5_waitsOf_19 : decode cX5_waitsOf 19 = .ok (.iload_n 1, 1) := by decide +kernel
theorem dX5_waitsOf_20 : decode cX5_waitsOf 20 = .ok (.if_icmp .ne 7, 3) := by decide +kernel
theorem dX5_waitsOf_23 : decode cX5_waitsOf 23 = .ok (.iconst 1, 1) := by decide +kernel
theorem dX5_waitsOf_24 : decode cX5_waitsOf 24 = .ok (.goto 4, 3) := by decide +kernel
theorem dX5_waitsOf_27 : decode cX5_waitsOf 27 = .ok (.iconst 0, 1) := by decide +kernel
theorem dX5_waitsOf_28 : decode cX5_waitsOf 28 = .ok (.iadd, 1) := by decide +kernel
theorem dX5_waitsOf_29 : decode cX5_waitsOf 29 = .ok (.istore_n 2, 1) := by decide +kernel
theorem dX5_waitsOf_30 : decode cX5_waitsOf 30 = .ok (.iinc 3 1, 3) := by decide +kernel
theorem dX5_waitsOf_33 : decode cX5_waitsOf 33 = .ok (.goto (-29), 3) := by decide +kernel
theorem dX5_waitsOf_36 : decode cX5_waitsOf 36 = .ok (.iload_n 2, 1) := by decide +kernel
theorem dX5_waitsOf_37 : decode cX5_waitsOf 37 = .ok (.ireturn, 1) := by decide +kernel
theorem dX5_toldOf_0 : decode cX5_toldOf 0 = .ok (.iload_n 2, 1) := by decide +kernel
theorem dX5_toldOf_1 : decode cX5_toldOf 1 = .ok (.bipush 7, 2) := by decide +kernel
theorem dX5_toldOf_3 : decode cX5_toldOf 3 = .ok (.if_icmp .ge 17, 3) := by decide +kernel
theorem dX5_toldOf_6 : decode cX5_toldOf 6 = .ok (.aload_n 0, 1) := by decide +kernel
theorem dX5_toldOf_7 : decode cX5_toldOf 7 = .ok (.getfield 53, 3) := by decide +kernel
theorem dX5_toldOf_10 : decode cX5_toldOf 10 = .ok (.bipush 7, 2) := by decide +kernel
theorem dX5_toldOf_12 : decode cX5_toldOf 12 = .ok (.iload_n 1, 1) := by decide +kernel
theorem dX5_toldOf_13 : decode cX5_toldOf 13 = .ok (.imul, 1) := by decide +kernel
theorem dX5_toldOf_14 : decode cX5_toldOf 14 = .ok (.iload_n 2, 1) := by decide +kernel
theorem dX5_toldOf_15 : decode cX5_toldOf 15 = .ok (.iadd, 1) := by decide +kernel
theorem dX5_toldOf_16 : decode cX5_toldOf 16 = .ok (.iaload, 1) := by decide +kernel
theorem dX5_toldOf_17 : decode cX5_toldOf 17 = .ok (.goto 37, 3) := by decide +kernel
theorem dX5_toldOf_20 : decode cX5_toldOf 20 = .ok (.iload_n 2, 1) := by decide +kernel
theorem dX5_toldOf_21 : decode cX5_toldOf 21 = .ok (.bipush 7, 2) := by decide +kernel
theorem dX5_toldOf_23 : decode cX5_toldOf 23 = .ok (.if_icmp .ne 11, 3) := by decide +kernel
theorem dX5_toldOf_26 : decode cX5_toldOf 26 = .ok (.aload_n 0, 1) := by decide +kernel
theorem dX5_toldOf_27 : decode cX5_toldOf 27 = .ok (.iload_n 1, 1) := by decide +kernel
theorem dX5_toldOf_28 : decode cX5_toldOf 28 = .ok (.invokevirtual 148, 3) := by decide +kernel
theorem dX5_toldOf_31 : decode cX5_toldOf 31 = .ok (.goto 23, 3) := by decide +kernel
theorem dX5_toldOf_34 : decode cX5_toldOf 34 = .ok (.iload_n 2, 1) := by decide +kernel
theorem dX5_toldOf_35 : decode cX5_toldOf 35 = .ok (.bipush 8, 2) := by decide +kernel
theorem dX5_toldOf_37 : decode cX5_toldOf 37 = .ok (.if_icmp .ne 12, 3) := by decide +kernel
theorem dX5_toldOf_40 : decode cX5_toldOf 40 = .ok (.aload_n 0, 1) := by decide +kernel
theorem dX5_toldOf_41 : decode cX5_toldOf 41 = .ok (.getfield 35, 3) := by decide +kernel
theorem dX5_toldOf_44 : decode cX5_toldOf 44 = .ok (.iload_n 1, 1) := by decide +kernel
theorem dX5_toldOf_45 : decode cX5_toldOf 45 = .ok (.iaload, 1) := by decide +kernel
theorem dX5_toldOf_46 : decode cX5_toldOf 46 = .ok (.goto 8, 3) := by decide +kernel
theorem dX5_toldOf_49 : decode cX5_toldOf 49 = .ok (.aload_n 0, 1) := by decide +kernel
theorem dX5_toldOf_50 : decode cX5_toldOf 50 = .ok (.iload_n 1, 1) := by decide +kernel
theorem dX5_toldOf_51 : decode cX5_toldOf 51 = .ok (.invokevirtual 206, 3) := by decide +kernel
theorem dX5_toldOf_54 : decode cX5_toldOf 54 = .ok (.ireturn, 1) := by decide +kernel
theorem dX5_told_0 : decode cX5_told 0 = .ok (.iload_n 1, 1) := by decide +kernel
theorem dX5_told_1 : decode cX5_told 1 = .ok (.iconst (-1), 1) := by decide +kernel
theorem dX5_told_2 : decode cX5_told 2 = .ok (.if_icmp .eq 13, 3) := by decide +kernel
theorem dX5_told_5 : decode cX5_told 5 = .ok (.iload_n 1, 1) := by decide +kernel
theorem dX5_told_6 : decode cX5_told 6 = .ok (.invokestatic 137, 3) := by decide +kernel
theorem dX5_told_9 : decode cX5_told 9 = .ok (.ifCond .ne 6, 3) := by decide +kernel
theorem dX5_told_12 : decode cX5_told 12 = .ok (.bipush (-101), 2) := by decide +kernel
theorem dX5_told_14 : decode cX5_told 14 = .ok (.ireturn, 1) := by decide +kernel
theorem dX5_told_15 : decode cX5_told 15 = .ok (.iload_n 2, 1) := by decide +kernel
theorem dX5_told_16 : decode cX5_told 16 = .ok (.i2l, 1) := by decide +kernel
theorem dX5_told_17 : decode cX5_told 17 = .ok (.lconst 0, 1) := by decide +kernel
theorem dX5_told_18 : decode cX5_told 18 = .ok (.ldc2_w 209, 3) := by decide +kernel
theorem dX5_told_21 : decode cX5_told 21 = .ok (.invokestatic 96, 3) := by decide +kernel
theorem dX5_told_24 : decode cX5_told 24 = .ok (.ifCond .ne 6, 3) := by decide +kernel
theorem dX5_told_27 : decode cX5_told 27 = .ok (.bipush (-102), 2) := by decide +kernel
theorem dX5_told_29 : decode cX5_told 29 = .ok (.ireturn, 1) := by decide +kernel
theorem dX5_told_30 : decode cX5_told 30 = .ok (.iconst 0, 1) := by decide +kernel
theorem dX5_told_31 : decode cX5_told 31 = .ok (.istore_n 3, 1) := by decide +kernel
theorem dX5_told_32 : decode cX5_told 32 = .ok (.iconst 0, 1) := by decide +kernel
theorem dX5_told_33 : decode cX5_told 33 = .ok (.istore 4, 2) := by decide +kernel
theorem dX5_told_35 : decode cX5_told 35 = .ok (.iload 4, 2) := by decide +kernel
theorem dX5_told_37 : decode cX5_told 37 = .ok (.iconst 4, 1) := by decide +kernel
theorem dX5_told_38 : decode cX5_told 38 = .ok (.if_icmp .ge 34, 3) := by decide +kernel
theorem dX5_told_41 : decode cX5_told 41 = .ok (.iload_n 3, 1) := by decide +kernel
theorem dX5_told_42 : decode cX5_told 42 = .ok (.iload_n 1, 1) := by decide +kernel
theorem dX5_told_43 : decode cX5_told 43 = .ok (.iconst (-1), 1) := by decide +kernel
theorem dX5_told_44 : decode cX5_told 44 = .ok (.if_icmp .eq 9, 3) := by decide +kernel
theorem dX5_told_47 : decode cX5_told 47 = .ok (.iload_n 1, 1) := by decide +kernel
theorem dX5_told_48 : decode cX5_told 48 = .ok (.iload 4, 2) := by decide +kernel
theorem dX5_told_50 : decode cX5_told 50 = .ok (.if_icmp .ne 13, 3) := by decide +kernel
theorem dX5_told_53 : decode cX5_told 53 = .ok (.aload_n 0, 1) := by decide +kernel
theorem dX5_told_54 : decode cX5_told 54 = .ok (.iload 4, 2) := by decide +kernel
theorem dX5_told_56 : decode cX5_told 56 = .ok (.iload_n 2, 1) := by decide +kernel
theorem dX5_told_57 : decode cX5_told 57 = .ok (.invokevirtual 211, 3) := by decide +kernel
theorem dX5_told_60 : decode cX5_told 60 = .ok (.goto 4, 3) := by decide +kernel
theorem dX5_told_63 : decode cX5_told 63 = .ok (.iconst 0, 1) := by decide +kernel
theorem dX5_told_64 : decode cX5_told 64 = .ok (.iadd, 1) := by decide +kernel
theorem dX5_told_65 : decode cX5_told 65 = .ok (.istore_n 3, 1) := by decide +kernel
theorem dX5_told_66 : decode cX5_told 66 = .ok (.iinc 4 1, 3) := by decide +kernel
theorem dX5_told_69 : decode cX5_told 69 = .ok (.goto (-34), 3) := by decide +kernel
theorem dX5_told_72 : decode cX5_told 72 = .ok (.iload_n 3, 1) := by decide +kernel
theorem dX5_told_73 : decode cX5_told 73 = .ok (.ireturn, 1) := by decide +kernel
theorem dX5_reachOf_0 : decode cX5_reachOf 0 = .ok (.aload_n 0, 1) := by decide +kernel
theorem dX5_reachOf_1 : decode cX5_reachOf 1 = .ok (.getfield 26, 3) := by decide +kernel
theorem dX5_reachOf_4 : decode cX5_reachOf 4 = .ok (.iload_n 1, 1) := by decide +kernel
theorem dX5_reachOf_5 : decode cX5_reachOf 5 = .ok (.iaload, 1) := by decide +kernel
theorem dX5_reachOf_6 : decode cX5_reachOf 6 = .ok (.iconst 5, 1) := by decide +kernel
theorem dX5_reachOf_7 : decode cX5_reachOf 7 = .ok (.if_icmp .ne 12, 3) := by decide +kernel
theorem dX5_reachOf_10 : decode cX5_reachOf 10 = .ok (.aload_n 0, 1) := by decide +kernel
theorem dX5_reachOf_11 : decode cX5_reachOf 11 = .ok (.getfield 32, 3) := by decide +kernel
theorem dX5_reachOf_14 : decode cX5_reachOf 14 = .ok (.iload_n 1, 1) := by decide +kernel
theorem dX5_reachOf_15 : decode cX5_reachOf 15 = .ok (.iaload, 1) := by decide +kernel
theorem dX5_reachOf_16 : decode cX5_reachOf 16 = .ok (.goto 9, 3) := by decide +kernel
theorem dX5_reachOf_19 : decode cX5_reachOf 19 = .ok (.aload_n 0, 1) := by decide +kernel
theorem dX5_reachOf_20 : decode cX5_reachOf 20 = .ok (.getfield 29, 3) := by decide +kernel
theorem dX5_reachOf_23 : decode cX5_reachOf 23 = .ok (.iload_n 1, 1) := by decide +kernel
theorem dX5_reachOf_24 : decode cX5_reachOf 24 = .ok (.iaload, 1) := by decide +kernel
theorem dX5_reachOf_25 : decode cX5_reachOf 25 = .ok (.ireturn, 1) := by decide +kernel
theorem dX5_reach_0 : decode cX5_reach 0 = .ok (.iload_n 1, 1) := by decide +kernel
theorem dX5_reach_1 : decode cX5_reach 1 = .ok (.invokestatic 137, 3) := by decide +kernel
theorem dX5_reach_4 : decode cX5_reach 4 = .ok (.ifCond .eq 11, 3) := by decide +kernel
theorem dX5_reach_7 : decode cX5_reach 7 = .ok (.aload_n 0, 1) := by decide +kernel
theorem dX5_reach_8 : decode cX5_reach 8 = .ok (.iload_n 1, 1) := by decide +kernel
theorem dX5_reach_9 : decode cX5_reach 9 = .ok (.invokevirtual 187, 3) := by decide +kernel
theorem dX5_reach_12 : decode cX5_reach 12 = .ok (.goto 5, 3) := by decide +kernel
theorem dX5_reach_15 : decode cX5_reach 15 = .ok (.bipush (-101), 2) := by decide +kernel
theorem dX5_reach_17 : decode cX5_reach 17 = .ok (.ireturn, 1) := by decide +kernel
theorem dX5_room_0 : decode cX5_room 0 = .ok (.iload_n 2, 1) := by decide +kernel
theorem dX5_room_1 : decode cX5_room 1 = .ok (.i2l, 1) := by decide +kernel
theorem dX5_room_2 : decode cX5_room 2 = .ok (.lconst 0, 1) := by decide +kernel
theorem dX5_room_3 : decode cX5_room 3 = .ok (.ldc2_w 94, 3) := by decide +kernel
theorem dX5_room_6 : decode cX5_room 6 = .ok (.invokestatic 96, 3) := by decide +kernel
theorem dX5_room_9 : decode cX5_room 9 = .ok (.ifCond .ne 6, 3) := by decide +kernel
theorem dX5_room_12 : decode cX5_room 12 = .ok (.bipush (-102), 2) := by decide +kernel
theorem dX5_room_14 : decode cX5_room 14 = .ok (.ireturn, 1) := by decide +kernel
theorem dX5_room_15 : decode cX5_room 15 = .ok (.iload_n 1, 1) := by decide +kernel
theorem dX5_room_16 : decode cX5_room 16 = .ok (.i2l, 1) := by decide +kernel
theorem dX5_room_17 : decode cX5_room 17 = .ok (.lconst 0, 1) := by decide +kernel
theorem dX5_room_18 : decode cX5_room 18 = .ok (.aload_n 0, 1) := by decide +kernel
theorem dX5_room_19 : decode cX5_room 19 = .ok (.getfield 111, 3) := by decide +kernel
theorem dX5_room_22 : decode cX5_room 22 = .ok (.iconst 1, 1) := by decide +kernel
theorem dX5_room_23 : decode cX5_room 23 = .ok (.isub, 1) := by decide +kernel
theorem dX5_room_24 : decode cX5_room 24 = .ok (.i2l, 1) := by decide +kernel
theorem dX5_room_25 : decode cX5_room 25 = .ok (.invokestatic 96, 3) := by decide +kernel
theorem dX5_room_28 : decode cX5_room 28 = .ok (.ifCond .ne 5, 3) := by decide +kernel
theorem dX5_room_31 : decode cX5_room 31 = .ok (.iconst (-1), 1) := by decide +kernel
theorem dX5_room_32 : decode cX5_room 32 = .ok (.ireturn, 1) := by decide +kernel
theorem dX5_room_33 : decode cX5_room 33 = .ok (.iload_n 2, 1) := by decide +kernel
theorem dX5_room_34 : decode cX5_room 34 = .ok (.ifCond .ne 12, 3) := by decide +kernel
theorem dX5_room_37 : decode cX5_room 37 = .ok (.aload_n 0, 1) := by decide +kernel
theorem dX5_room_38 : decode cX5_room 38 = .ok (.getfield 7, 3) := by decide +kernel
theorem dX5_room_41 : decode cX5_room 41 = .ok (.iload_n 1, 1) := by decide +kernel
theorem dX5_room_42 : decode cX5_room 42 = .ok (.iaload, 1) := by decide +kernel
theorem dX5_room_43 : decode cX5_room 43 = .ok (.goto 47, 3) := by decide +kernel
theorem dX5_room_46 : decode cX5_room 46 = .ok (.iload_n 2, 1) := by decide +kernel
theorem dX5_room_47 : decode cX5_room 47 = .ok (.iconst 1, 1) := by decide +kernel
theorem dX5_room_48 : decode cX5_room 48 = .ok (.if_icmp .ne 12, 3) := by decide +kernel
theorem dX5_room_51 : decode cX5_room 51 = .ok (.aload_n 0, 1) := by decide +kernel
theorem dX5_room_52 : decode cX5_room 52 = .ok (.getfield 13, 3) := by decide +kernel
theorem dX5_room_55 : decode cX5_room 55 = .ok (.iload_n 1, 1) := by decide +kernel
theorem dX5_room_56 : decode cX5_room 56 = .ok (.iaload, 1) := by decide +kernel
theorem dX5_room_57 : decode cX5_room 57 = .ok (.goto 33, 3) := by decide +kernel
theorem dX5_room_60 : decode cX5_room 60 = .ok (.iload_n 2, 1) := by decide +kernel
theorem dX5_room_61 : decode cX5_room 61 = .ok (.iconst 2, 1) := by decide +kernel
theorem dX5_room_62 : decode cX5_room 62 = .ok (.if_icmp .ne 15, 3) := by decide +kernel
theorem dX5_room_65 : decode cX5_room 65 = .ok (.aload_n 0, 1) := by decide +kernel
theorem dX5_room_66 : decode cX5_room 66 = .ok (.getfield 16, 3) := by decide +kernel
theorem dX5_room_69 : decode cX5_room 69 = .ok (.iload_n 1, 1) := by decide +kernel
theorem dX5_room_70 : decode cX5_room 70 = .ok (.baload, 1) := by decide +kernel
theorem dX5_room_71 : decode cX5_room 71 = .ok (.ifCond .eq 18, 3) := by decide +kernel
theorem dX5_room_74 : decode cX5_room 74 = .ok (.goto 11, 3) := by decide +kernel
theorem dX5_room_77 : decode cX5_room 77 = .ok (.aload_n 0, 1) := by decide +kernel
theorem dX5_room_78 : decode cX5_room 78 = .ok (.iload_n 1, 1) := by decide +kernel
theorem dX5_room_79 : decode cX5_room 79 = .ok (.invokevirtual 151, 3) := by decide +kernel
theorem dX5_room_82 : decode cX5_room 82 = .ok (.ifCond .eq 7, 3) := by decide +kernel
theorem dX5_room_85 : decode cX5_room 85 = .ok (.iconst 1, 1) := by decide +kernel
theorem dX5_room_86 : decode cX5_room 86 = .ok (.goto 4, 3) := by decide +kernel
theorem dX5_room_89 : decode cX5_room 89 = .ok (.iconst 0, 1) := by decide +kernel
theorem dX5_room_90 : decode cX5_room 90 = .ok (.ireturn, 1) := by decide +kernel
theorem dX5_waiting_0 : decode cX5_waiting 0 = .ok (.iload_n 2, 1) := by decide +kernel
theorem dX5_waiting_1 : decode cX5_waiting 1 = .ok (.i2l, 1) := by decide +kernel
theorem dX5_waiting_2 : decode cX5_waiting 2 = .ok (.lconst 0, 1) := by decide +kernel
theorem dX5_waiting_3 : decode cX5_waiting 3 = .ok (.lconst 1, 1) := by decide +kernel
theorem dX5_waiting_4 : decode cX5_waiting 4 = .ok (.invokestatic 96, 3) := by decide +kernel
theorem dX5_waiting_7 : decode cX5_waiting 7 = .ok (.ifCond .ne 6, 3) := by decide +kernel
theorem dX5_waiting_10 : decode cX5_waiting 10 = .ok (.bipush (-102), 2) := by decide +kernel
theorem dX5_waiting_12 : decode cX5_waiting 12 = .ok (.ireturn, 1) := by decide +kernel
theorem dX5_waiting_13 : decode cX5_waiting 13 = .ok (.iload_n 1, 1) := by decide +kernel
theorem dX5_waiting_14 : decode cX5_waiting 14 = .ok (.i2l, 1) := by decide +kernel
theorem dX5_waiting_15 : decode cX5_waiting 15 = .ok (.lconst 0, 1) := by decide +kernel
theorem dX5_waiting_16 : decode cX5_waiting 16 = .ok (.aload_n 0, 1) := by decide +kernel
theorem dX5_waiting_17 : decode cX5_waiting 17 = .ok (.getfield 114, 3) := by decide +kernel
theorem dX5_waiting_20 : decode cX5_waiting 20 = .ok (.iconst 1, 1) := by decide +kernel
theorem dX5_waiting_21 : decode cX5_waiting 21 = .ok (.isub, 1) := by decide +kernel
theorem dX5_waiting_22 : decode cX5_waiting 22 = .ok (.i2l, 1) := by decide +kernel
theorem dX5_waiting_23 : decode cX5_waiting 23 = .ok (.invokestatic 96, 3) := by decide +kernel
theorem dX5_waiting_26 : decode cX5_waiting 26 = .ok (.ifCond .ne 7, 3) := by decide +kernel
theorem dX5_waiting_29 : decode cX5_waiting 29 = .ok (.iconst (-1), 1) := by decide +kernel
theorem dX5_waiting_30 : decode cX5_waiting 30 = .ok (.goto 22, 3) := by decide +kernel
theorem dX5_waiting_33 : decode cX5_waiting 33 = .ok (.iload_n 2, 1) := by decide +kernel
theorem dX5_waiting_34 : decode cX5_waiting 34 = .ok (.ifCond .ne 12, 3) := by decide +kernel
theorem dX5_waiting_37 : decode cX5_waiting 37 = .ok (.aload_n 0, 1) := by decide +kernel
theorem dX5_waiting_38 : decode cX5_waiting 38 = .ok (.getfield 20, 3) := by decide +kernel
theorem dX5_waiting_41 : decode cX5_waiting 41 = .ok (.iload_n 1, 1) := by decide +kernel
theorem dX5_waiting_42 : decode cX5_waiting 42 = .ok (.iaload, 1) := by decide +kernel
theorem dX5_waiting_43 : decode cX5_waiting 43 = .ok (.goto 9, 3) := by decide +kernel
theorem dX5_waiting_46 : decode cX5_waiting 46 = .ok (.aload_n 0, 1) := by decide +kernel
theorem dX5_waiting_47 : decode cX5_waiting 47 = .ok (.getfield 23, 3) := by decide +kernel
theorem dX5_waiting_50 : decode cX5_waiting 50 = .ok (.iload_n 1, 1) := by decide +kernel
theorem dX5_waiting_51 : decode cX5_waiting 51 = .ok (.iaload, 1) := by decide +kernel
theorem dX5_waiting_52 : decode cX5_waiting 52 = .ok (.ireturn, 1) := by decide +kernel
theorem dX5_follows_0 : decode cX5_follows 0 = .ok (.iload_n 1, 1) := by decide +kernel
theorem dX5_follows_1 : decode cX5_follows 1 = .ok (.invokestatic 137, 3) := by decide +kernel
theorem dX5_follows_4 : decode cX5_follows 4 = .ok (.ifCond .ne 8, 3) := by decide +kernel
theorem dX5_follows_7 : decode cX5_follows 7 = .ok (.bipush (-101), 2) := by decide +kernel
theorem dX5_follows_9 : decode cX5_follows 9 = .ok (.goto 26, 3) := by decide +kernel
theorem dX5_follows_12 : decode cX5_follows 12 = .ok (.iload_n 2, 1) := by decide +kernel
theorem dX5_follows_13 : decode cX5_follows 13 = .ok (.invokestatic 145, 3) := by decide +kernel
theorem dX5_follows_16 : decode cX5_follows 16 = .ok (.ifCond .eq 17, 3) := by decide +kernel
theorem dX5_follows_19 : decode cX5_follows 19 = .ok (.aload_n 0, 1) := by decide +kernel
theorem dX5_follows_20 : decode cX5_follows 20 = .ok (.getfield 50, 3) := by decide +kernel
theorem dX5_follows_23 : decode cX5_follows 23 = .ok (.bipush 64, 2) := by decide +kernel
theorem dX5_follows_25 : decode cX5_follows 25 = .ok (.iload_n 1, 1) := by decide +kernel
theorem dX5_follows_26 : decode cX5_follows 26 = .ok (.imul, 1) := by decide +kernel
theorem dX5_follows_27 : decode cX5_follows 27 = .ok (.iload_n 2, 1) := by decide +kernel
theorem dX5_follows_28 : decode cX5_follows 28 = .ok (.iadd, 1) := by decide +kernel
theorem dX5_follows_29 : decode cX5_follows 29 = .ok (.iaload, 1) := by decide +kernel
theorem dX5_follows_30 : decode cX5_follows 30 = .ok (.goto 5, 3) := by decide +kernel
theorem dX5_follows_33 : decode cX5_follows 33 = .ok (.bipush (-102), 2) := by decide +kernel
theorem dX5_follows_35 : decode cX5_follows 35 = .ok (.ireturn, 1) := by decide +kernel
theorem dX5_house_0 : decode cX5_house 0 = .ok (.iload_n 1, 1) := by decide +kernel
theorem dX5_house_1 : decode cX5_house 1 = .ok (.tableswitch 87 0 7 #[47, 52, 57, 62, 67, 72, 77, 82], 47) := by decide +kernel
theorem dX5_house_48 : decode cX5_house 48 = .ok (.aload_n 0, 1) := by decide +kernel
theorem dX5_house_49 : decode cX5_house 49 = .ok (.getfield 117, 3) := by decide +kernel
theorem dX5_house_52 : decode cX5_house 52 = .ok (.ireturn, 1) := by decide +kernel
theorem dX5_house_53 : decode cX5_house 53 = .ok (.aload_n 0, 1) := by decide +kernel
theorem dX5_house_54 : decode cX5_house 54 = .ok (.getfield 120, 3) := by decide +kernel
theorem dX5_house_57 : decode cX5_house 57 = .ok (.ireturn, 1) := by decide +kernel
theorem dX5_house_58 : decode cX5_house 58 = .ok (.aload_n 0, 1) := by decide +kernel
theorem dX5_house_59 : decode cX5_house 59 = .ok (.getfield 102, 3) := by decide +kernel
theorem dX5_house_62 : decode cX5_house 62 = .ok (.ireturn, 1) := by decide +kernel
theorem dX5_house_63 : decode cX5_house 63 = .ok (.aload_n 0, 1) := by decide +kernel
theorem dX5_house_64 : decode cX5_house 64 = .ok (.getfield 105, 3) := by decide +kernel
theorem dX5_house_67 : decode cX5_house 67 = .ok (.ireturn, 1) := by decide +kernel
theorem dX5_house_68 : decode cX5_house 68 = .ok (.aload_n 0, 1) := by decide +kernel
theorem dX5_house_69 : decode cX5_house 69 = .ok (.getfield 111, 3) := by decide +kernel
theorem dX5_house_72 : decode cX5_house 72 = .ok (.ireturn, 1) := by decide +kernel
theorem dX5_house_73 : decode cX5_house 73 = .ok (.aload_n 0, 1) := by decide +kernel
theorem dX5_house_74 : decode cX5_house 74 = .ok (.getfield 114, 3) := by decide +kernel
theorem dX5_house_77 : decode cX5_house 77 = .ok (.ireturn, 1) := by decide +kernel
theorem dX5_house_78 : decode cX5_house 78 = .ok (.aload_n 0, 1) := by decide +kernel
theorem dX5_house_79 : decode cX5_house 79 = .ok (.getfield 123, 3) := by decide +kernel
theorem dX5_house_82 : decode cX5_house 82 = .ok (.ireturn, 1) := by decide +kernel
theorem dX5_house_83 : decode cX5_house 83 = .ok (.aload_n 0, 1) := by decide +kernel
theorem dX5_house_84 : decode cX5_house 84 = .ok (.getfield 108, 3) := by decide +kernel
theorem dX5_house_87 : decode cX5_house 87 = .ok (.ireturn, 1) := by decide +kernel
theorem dX5_house_88 : decode cX5_house 88 = .ok (.bipush (-102), 2) := by decide +kernel
theorem dX5_house_90 : decode cX5_house 90 = .ok (.ireturn, 1) := by decide +kernel
theorem dX5_sizeOf_0 : decode cX5_sizeOf 0 = .ok (.iconst 0, 1) := by decide +kernel
theorem dX5_sizeOf_1 : decode cX5_sizeOf 1 = .ok (.istore_n 1, 1) := by decide +kernel
theorem dX5_sizeOf_2 : decode cX5_sizeOf 2 = .ok (.iconst 0, 1) := by decide +kernel
theorem dX5_sizeOf_3 : decode cX5_sizeOf 3 = .ok (.istore_n 2, 1) := by decide +kernel
theorem dX5_sizeOf_4 : decode cX5_sizeOf 4 = .ok (.iload_n 2, 1) := by decide +kernel
theorem dX5_sizeOf_5 : decode cX5_sizeOf 5 = .ok (.bipush 7, 2) := by decide +kernel
theorem dX5_sizeOf_7 : decode cX5_sizeOf 7 = .ok (.if_icmp .ge 17, 3) := by decide +kernel
theorem dX5_sizeOf_10 : decode cX5_sizeOf 10 = .ok (.iload_n 1, 1) := by decide +kernel
theorem dX5_sizeOf_11 : decode cX5_sizeOf 11 = .ok (.iload_n 0, 1) := by decide +kernel
theorem dX5_sizeOf_12 : decode cX5_sizeOf 12 = .ok (.iload_n 2, 1) := by decide +kernel
theorem dX5_sizeOf_13 : decode cX5_sizeOf 13 = .ok (.ishr, 1) := by decide +kernel
theorem dX5_sizeOf_14 : decode cX5_sizeOf 14 = .ok (.iconst 1, 1) := by decide +kernel
theorem dX5_sizeOf_15 : decode cX5_sizeOf 15 = .ok (.iand, 1) := by decide +kernel
theorem dX5_sizeOf_16 : decode cX5_sizeOf 16 = .ok (.iadd, 1) := by decide +kernel
theorem dX5_sizeOf_17 : decode cX5_sizeOf 17 = .ok (.istore_n 1, 1) := by decide +kernel
theorem dX5_sizeOf_18 : decode cX5_sizeOf 18 = .ok (.iinc 2 1, 3) := by decide +kernel
theorem dX5_sizeOf_21 : decode cX5_sizeOf 21 = .ok (.goto (-17), 3) := by decide +kernel
theorem dX5_sizeOf_24 : decode cX5_sizeOf 24 = .ok (.iload_n 1, 1) := by decide +kernel
theorem dX5_sizeOf_25 : decode cX5_sizeOf 25 = .ok (.ireturn, 1) := by decide +kernel
theorem dX5_addSets_0 : decode cX5_addSets 0 = .ok (.iconst 0, 1) := by decide +kernel
theorem dX5_addSets_1 : decode cX5_addSets 1 = .ok (.istore_n 2, 1) := by decide +kernel
theorem dX5_addSets_2 : decode cX5_addSets 2 = .ok (.iload_n 2, 1) := by decide +kernel
theorem dX5_addSets_3 : decode cX5_addSets 3 = .ok (.aload_n 0, 1) := by decide +kernel
theorem dX5_addSets_4 : decode cX5_addSets 4 = .ok (.getfield 215, 3) := by decide +kernel
theorem dX5_addSets_7 : decode cX5_addSets 7 = .ok (.if_icmp .ge 84, 3) := by decide +kernel
theorem dX5_addSets_10 : decode cX5_addSets 10 = .ok (.iload_n 1, 1) := by decide +kernel
theorem dX5_addSets_11 : decode cX5_addSets 11 = .ok (.iload_n 2, 1) := by decide +kernel
theorem dX5_addSets_12 : decode cX5_addSets 12 = .ok (.ishr, 1) := by decide +kernel
theorem dX5_addSets_13 : decode cX5_addSets 13 = .ok (.iconst 1, 1) := by decide +kernel
theorem dX5_addSets_14 : decode cX5_addSets 14 = .ok (.iand, 1) := by decide +kernel
theorem dX5_addSets_15 : decode cX5_addSets 15 = .ok (.ifCond .ne 70, 3) := by decide +kernel
theorem dX5_addSets_18 : decode cX5_addSets 18 = .ok (.iload_n 1, 1) := by decide +kernel
theorem dX5_addSets_19 : decode cX5_addSets 19 = .ok (.invokestatic 218, 3) := by decide +kernel
theorem dX5_addSets_22 : decode cX5_addSets 22 = .ok (.aload_n 0, 1) := by decide +kernel
theorem dX5_addSets_23 : decode cX5_addSets 23 = .ok (.getfield 102, 3) := by decide +kernel
theorem dX5_addSets_26 : decode cX5_addSets 26 = .ok (.if_icmp .ge 17, 3) := by decide +kernel
theorem dX5_addSets_29 : decode cX5_addSets 29 = .ok (.aload_n 0, 1) := by decide +kernel
theorem dX5_addSets_30 : decode cX5_addSets 30 = .ok (.getfield 75, 3) := by decide +kernel
theorem dX5_addSets_33 : decode cX5_addSets 33 = .ok (.iload_n 1, 1) := by decide +kernel
theorem dX5_addSets_34 : decode cX5_addSets 34 = .ok (.iconst 1, 1) := by decide +kernel
theorem dX5_addSets_35 : decode cX5_addSets 35 = .ok (.iload_n 2, 1) := by decide +kernel
theorem dX5_addSets_36 : decode cX5_addSets 36 = .ok (.ishl, 1) := by decide +kernel
theorem dX5_addSets_37 : decode cX5_addSets 37 = .ok (.ior, 1) := by decide +kernel
theorem dX5_addSets_38 : decode cX5_addSets 38 = .ok (.iconst 1, 1) := by decide +kernel
theorem dX5_addSets_39 : decode cX5_addSets 39 = .ok (.bastore, 1) := by decide +kernel
theorem dX5_addSets_40 : decode cX5_addSets 40 = .ok (.goto 45, 3) := by decide +kernel
theorem dX5_addSets_43 : decode cX5_addSets 43 = .ok (.iconst 0, 1) := by decide +kernel
theorem dX5_addSets_44 : decode cX5_addSets 44 = .ok (.istore_n 3, 1) := by decide +kernel
theorem dX5_addSets_45 : decode cX5_addSets 45 = .ok (.iload_n 3, 1) := by decide +kernel
theorem dX5_addSets_46 : decode cX5_addSets 46 = .ok (.aload_n 0, 1) := by decide +kernel
theorem dX5_addSets_47 : decode cX5_addSets 47 = .ok (.getfield 215, 3) := by decide +kernel
theorem dX5_addSets_50 : decode cX5_addSets 50 = .ok (.if_icmp .ge 35, 3) := by decide +kernel
theorem dX5_addSets_53 : decode cX5_addSets 53 = .ok (.iload_n 1, 1) := by decide +kernel
theorem dX5_addSets_54 : decode cX5_addSets 54 = .ok (.iload_n 3, 1) := by decide +kernel
theorem dX5_addSets_55 : decode cX5_addSets 55 = .ok (.ishr, 1) := by decide +kernel
theorem dX5_addSets_56 : decode cX5_addSets 56 = .ok (.iconst 1, 1) := by decide +kernel
theorem dX5_addSets_57 : decode cX5_addSets 57 = .ok (.iand, 1) := by decide +kernel
theorem dX5_addSets_58 : decode cX5_addSets 58 = .ok (.iconst 1, 1) := by decide +kernel
theorem dX5_addSets_59 : decode cX5_addSets 59 = .ok (.if_icmp .ne 20, 3) := by decide +kernel
theorem dX5_addSets_62 : decode cX5_addSets 62 = .ok (.aload_n 0, 1) := by decide +kernel
theorem dX5_addSets_63 : decode cX5_addSets 63 = .ok (.getfield 75, 3) := by decide +kernel
theorem dX5_addSets_66 : decode cX5_addSets 66 = .ok (.iload_n 1, 1) := by decide +kernel
theorem dX5_addSets_67 : decode cX5_addSets 67 = .ok (.iconst 1, 1) := by decide +kernel
theorem dX5_addSets_68 : decode cX5_addSets 68 = .ok (.iload_n 3, 1) := by decide +kernel
theorem dX5_addSets_69 : decode cX5_addSets 69 = .ok (.ishl, 1) := by decide +kernel
theorem dX5_addSets_70 : decode cX5_addSets 70 = .ok (.iconst (-1), 1) := by decide +kernel
theorem dX5_addSets_71 : decode cX5_addSets 71 = .ok (.ixor, 1) := by decide +kernel
theorem dX5_addSets_72 : decode cX5_addSets 72 = .ok (.iand, 1) := by decide +kernel
theorem dX5_addSets_73 : decode cX5_addSets 73 = .ok (.iconst 1, 1) := by decide +kernel
theorem dX5_addSets_74 : decode cX5_addSets 74 = .ok (.iload_n 2, 1) := by decide +kernel
theorem dX5_addSets_75 : decode cX5_addSets 75 = .ok (.ishl, 1) := by decide +kernel
theorem dX5_addSets_76 : decode cX5_addSets 76 = .ok (.ior, 1) := by decide +kernel
theorem dX5_addSets_77 : decode cX5_addSets 77 = .ok (.iconst 1, 1) := by decide +kernel
theorem dX5_addSets_78 : decode cX5_addSets 78 = .ok (.bastore, 1) := by decide +kernel
theorem dX5_addSets_79 : decode cX5_addSets 79 = .ok (.iinc 3 1, 3) := by decide +kernel
theorem dX5_addSets_82 : decode cX5_addSets 82 = .ok (.goto (-37), 3) := by decide +kernel
theorem dX5_addSets_85 : decode cX5_addSets 85 = .ok (.iinc 2 1, 3) := by decide +kernel
theorem dX5_addSets_88 : decode cX5_addSets 88 = .ok (.goto (-86), 3) := by decide +kernel
theorem dX5_addSets_91 : decode cX5_addSets 91 = .ok (.return_, 1) := by decide +kernel
theorem dX5_findSets_0 : decode cX5_findSets 0 = .ok (.iconst 0, 1) := by decide +kernel
theorem dX5_findSets_1 : decode cX5_findSets 1 = .ok (.istore 4, 2) := by decide +kernel
theorem dX5_findSets_3 : decode cX5_findSets 3 = .ok (.iload 4, 2) := by decide +kernel
theorem dX5_findSets_5 : decode cX5_findSets 5 = .ok (.sipush 128, 3) := by decide +kernel
theorem dX5_findSets_8 : decode cX5_findSets 8 = .ok (.if_icmp .ge 27, 3) := by decide +kernel
theorem dX5_findSets_11 : decode cX5_findSets 11 = .ok (.aload_n 0, 1) := by decide +kernel
theorem dX5_findSets_12 : decode cX5_findSets 12 = .ok (.getfield 72, 3) := by decide +kernel
theorem dX5_findSets_15 : decode cX5_findSets 15 = .ok (.iload 4, 2) := by decide +kernel
theorem dX5_findSets_17 : decode cX5_findSets 17 = .ok (.iload 4, 2) := by decide +kernel
theorem dX5_findSets_19 : decode cX5_findSets 19 = .ok (.iload_n 1, 1) := by decide +kernel
theorem dX5_findSets_20 : decode cX5_findSets 20 = .ok (.if_icmp .ne 7, 3) := by decide +kernel
theorem dX5_findSets_23 : decode cX5_findSets 23 = .ok (.iconst 1, 1) := by decide +kernel
theorem dX5_findSets_24 : decode cX5_findSets 24 = .ok (.goto 4, 3) := by decide +kernel
theorem dX5_findSets_27 : decode cX5_findSets 27 = .ok (.iconst 0, 1) := by decide +kernel
theorem dX5_findSets_28 : decode cX5_findSets 28 = .ok (.bastore, 1) := by decide +kernel
theorem dX5_findSets_29 : decode cX5_findSets 29 = .ok (.iinc 4 1, 3) := by decide +kernel
theorem dX5_findSets_32 : decode cX5_findSets 32 = .ok (.goto (-29), 3) := by decide +kernel
theorem dX5_findSets_35 : decode cX5_findSets 35 = .ok (.iconst 0, 1) := by decide +kernel
theorem dX5_findSets_36 : decode cX5_findSets 36 = .ok (.istore 4, 2) := by decide +kernel
theorem dX5_findSets_38 : decode cX5_findSets 38 = .ok (.iload 4, 2) := by decide +kernel
theorem dX5_findSets_40 : decode cX5_findSets 40 = .ok (.iload_n 2, 1) := by decide +kernel
theorem dX5_findSets_41 : decode cX5_findSets 41 = .ok (.if_icmp .ge 104, 3) := by decide +kernel
theorem dX5_findSets_44 : decode cX5_findSets 44 = .ok (.iconst 0, 1) := by decide +kernel
theorem dX5_findSets_45 : decode cX5_findSets 45 = .ok (.istore 5, 2) := by decide +kernel
theorem dX5_findSets_47 : decode cX5_findSets 47 = .ok (.iload 5, 2) := by decide +kernel
theorem dX5_findSets_49 : decode cX5_findSets 49 = .ok (.sipush 128, 3) := by decide +kernel
theorem dX5_findSets_52 : decode cX5_findSets 52 = .ok (.if_icmp .ge 23, 3) := by decide +kernel
theorem dX5_findSets_55 : decode cX5_findSets 55 = .ok (.aload_n 0, 1) := by decide +kernel
theorem dX5_findSets_56 : decode cX5_findSets 56 = .ok (.getfield 75, 3) := by decide +kernel
theorem dX5_findSets_59 : decode cX5_findSets 59 = .ok (.iload 5, 2) := by decide +kernel
theorem dX5_findSets_61 : decode cX5_findSets 61 = .ok (.aload_n 0, 1) := by decide +kernel
theorem dX5_findSets_62 : decode cX5_findSets 62 = .ok (.getfield 72, 3) := by decide +kernel
theorem dX5_findSets_65 : decode cX5_findSets 65 = .ok (.iload 5, 2) := by decide +kernel
theorem dX5_findSets_67 : decode cX5_findSets 67 = .ok (.baload, 1) := by decide +kernel
theorem dX5_findSets_68 : decode cX5_findSets 68 = .ok (.bastore, 1) := by decide +kernel
theorem dX5_findSets_69 : decode cX5_findSets 69 = .ok (.iinc 5 1, 3) := by decide +kernel
theorem dX5_findSets_72 : decode cX5_findSets 72 = .ok (.goto (-25), 3) := by decide +kernel
theorem dX5_findSets_75 : decode cX5_findSets 75 = .ok (.iconst 0, 1) := by decide +kernel
theorem dX5_findSets_76 : decode cX5_findSets 76 = .ok (.istore 5, 2) := by decide +kernel
theorem dX5_findSets_78 : decode cX5_findSets 78 = .ok (.iload 5, 2) := by decide +kernel
theorem dX5_findSets_80 : decode cX5_findSets 80 = .ok (.sipush 128, 3) := by decide +kernel
theorem dX5_findSets_83 : decode cX5_findSets 83 = .ok (.if_icmp .ge 25, 3) := by decide +kernel
theorem dX5_findSets_86 : decode cX5_findSets 86 = .ok (.aload_n 0, 1) := by decide +kernel
theorem dX5_findSets_87 : decode cX5_findSets 87 = .ok (.getfield 72, 3) := by decide +kernel
theorem dX5_findSets_90 : decode cX5_findSets 90 = .ok (.iload 5, 2) := by decide +kernel
theorem dX5_findSets_92 : decode cX5_findSets 92 = .ok (.baload, 1) := by decide +kernel
theorem dX5_findSets_93 : decode cX5_findSets 93 = .ok (.ifCond .eq 9, 3) := by decide +kernel
theorem dX5_findSets_96 : decode cX5_findSets 96 = .ok (.aload_n 0, 1) := by decide +kernel
theorem dX5_findSets_97 : decode cX5_findSets 97 = .ok (.iload 5, 2) := by decide +kernel
theorem dX5_findSets_99 : decode cX5_findSets 99 = .ok (.invokevirtual 221, 3) := by decide +kernel
theorem dX5_findSets_102 : decode cX5_findSets 102 = .ok (.iinc 5 1, 3) := by decide +kernel
theorem dX5_findSets_105 : decode cX5_findSets 105 = .ok (.goto (-27), 3) := by decide +kernel
theorem dX5_findSets_108 : decode cX5_findSets 108 = .ok (.iconst 0, 1) := by decide +kernel
theorem dX5_findSets_109 : decode cX5_findSets 109 = .ok (.istore 5, 2) := by decide +kernel
theorem dX5_findSets_111 : decode cX5_findSets 111 = .ok (.iload 5, 2) := by decide +kernel
theorem dX5_findSets_113 : decode cX5_findSets 113 = .ok (.sipush 128, 3) := by decide +kernel
theorem dX5_findSets_116 : decode cX5_findSets 116 = .ok (.if_icmp .ge 23, 3) := by decide +kernel
theorem dX5_findSets_119 : decode cX5_findSets 119 = .ok (.aload_n 0, 1) := by decide +kernel
theorem dX5_findSets_120 : decode cX5_findSets 120 = .ok (.getfield 72, 3) := by decide +kernel
theorem dX5_findSets_123 : decode cX5_findSets 123 = .ok (.iload 5, 2) := by decide +kernel
theorem dX5_findSets_125 : decode cX5_findSets 125 = .ok (.aload_n 0, 1) := by decide +kernel
theorem dX5_findSets_126 : decode cX5_findSets 126 = .ok (.getfield 75, 3) := by decide +kernel
theorem dX5_findSets_129 : decode cX5_findSets 129 = .ok (.iload 5, 2) := by decide +kernel
theorem dX5_findSets_131 : decode cX5_findSets 131 = .ok (.baload, 1) := by decide +kernel
theorem dX5_findSets_132 : decode cX5_findSets 132 = .ok (.bastore, 1) := by decide +kernel
theorem dX5_findSets_133 : decode cX5_findSets 133 = .ok (.iinc 5 1, 3) := by decide +kernel
theorem dX5_findSets_136 : decode cX5_findSets 136 = .ok (.goto (-25), 3) := by decide +kernel
theorem dX5_findSets_139 : decode cX5_findSets 139 = .ok (.iinc 4 1, 3) := by decide +kernel
theorem dX5_findSets_142 : decode cX5_findSets 142 = .ok (.goto (-104), 3) := by decide +kernel
theorem dX5_findSets_145 : decode cX5_findSets 145 = .ok (.iconst 0, 1) := by decide +kernel
theorem dX5_findSets_146 : decode cX5_findSets 146 = .ok (.istore 4, 2) := by decide +kernel
theorem dX5_findSets_148 : decode cX5_findSets 148 = .ok (.iload 4, 2) := by decide +kernel
theorem dX5_findSets_150 : decode cX5_findSets 150 = .ok (.sipush 128, 3) := by decide +kernel
theorem dX5_findSets_153 : decode cX5_findSets 153 = .ok (.if_icmp .ge 56, 3) := by decide +kernel
theorem dX5_findSets_156 : decode cX5_findSets 156 = .ok (.iload_n 3, 1) := by decide +kernel
theorem dX5_findSets_157 : decode cX5_findSets 157 = .ok (.ifCond .eq 26, 3) := by decide +kernel
theorem dX5_findSets_160 : decode cX5_findSets 160 = .ok (.aload_n 0, 1) := by decide +kernel
theorem dX5_findSets_161 : decode cX5_findSets 161 = .ok (.getfield 69, 3) := by decide +kernel
theorem dX5_findSets_164 : decode cX5_findSets 164 = .ok (.sipush 128, 3) := by decide +kernel
theorem dX5_findSets_167 : decode cX5_findSets 167 = .ok (.iload_n 1, 1) := by decide +kernel
theorem dX5_findSets_168 : decode cX5_findSets 168 = .ok (.imul, 1) := by decide +kernel
theorem dX5_findSets_169 : decode cX5_findSets 169 = .ok (.iload 4, 2) := by decide +kernel
theorem dX5_findSets_171 : decode cX5_findSets 171 = .ok (.iadd, 1) := by decide +kernel
theorem dX5_findSets_172 : decode cX5_findSets 172 = .ok (.aload_n 0, 1) := by decide +kernel
theorem dX5_findSets_173 : decode cX5_findSets 173 = .ok (.getfield 72, 3) := by decide +kernel
theorem dX5_findSets_176 : decode cX5_findSets 176 = .ok (.iload 4, 2) := by decide +kernel
theorem dX5_findSets_178 : decode cX5_findSets 178 = .ok (.baload, 1) := by decide +kernel
theorem dX5_findSets_179 : decode cX5_findSets 179 = .ok (.bastore, 1) := by decide +kernel
theorem dX5_findSets_180 : decode cX5_findSets 180 = .ok (.goto 23, 3) := by decide +kernel
theorem dX5_findSets_183 : decode cX5_findSets 183 = .ok (.aload_n 0, 1) := by decide +kernel
theorem dX5_findSets_184 : decode cX5_findSets 184 = .ok (.getfield 66, 3) := by decide +kernel
theorem dX5_findSets_187 : decode cX5_findSets 187 = .ok (.sipush 128, 3) := by decide +kernel
theorem dX5_findSets_190 : decode cX5_findSets 190 = .ok (.iload_n 1, 1) := by decide +kernel
theorem dX5_findSets_191 : decode cX5_findSets 191 = .ok (.imul, 1) := by decide +kernel
theorem dX5_findSets_192 : decode cX5_findSets 192 = .ok (.iload 4, 2) := by decide +kernel
theorem dX5_findSets_194 : decode cX5_findSets 194 = .ok (.iadd, 1) := by decide +kernel
theorem dX5_findSets_195 : decode cX5_findSets 195 = .ok (.aload_n 0, 1) := by decide +kernel
theorem dX5_findSets_196 : decode cX5_findSets 196 = .ok (.getfield 72, 3) := by decide +kernel
theorem dX5_findSets_199 : decode cX5_findSets 199 = .ok (.iload 4, 2) := by decide +kernel
theorem dX5_findSets_201 : decode cX5_findSets 201 = .ok (.baload, 1) := by decide +kernel
theorem dX5_findSets_202 : decode cX5_findSets 202 = .ok (.bastore, 1) := by decide +kernel
theorem dX5_findSets_203 : decode cX5_findSets 203 = .ok (.iinc 4 1, 3) := by decide +kernel
theorem dX5_findSets_206 : decode cX5_findSets 206 = .ok (.goto (-58), 3) := by decide +kernel
theorem dX5_findSets_209 : decode cX5_findSets 209 = .ok (.return_, 1) := by decide +kernel
theorem dX5_askFor_0 : decode cX5_askFor 0 = .ok (.iconst 0, 1) := by decide +kernel
theorem dX5_askFor_1 : decode cX5_askFor 1 = .ok (.istore_n 2, 1) := by decide +kernel
theorem dX5_askFor_2 : decode cX5_askFor 2 = .ok (.iload_n 2, 1) := by decide +kernel
theorem dX5_askFor_3 : decode cX5_askFor 3 = .ok (.sipush 128, 3) := by decide +kernel
theorem dX5_askFor_6 : decode cX5_askFor 6 = .ok (.if_icmp .ge 35, 3) := by decide +kernel
theorem dX5_askFor_9 : decode cX5_askFor 9 = .ok (.aload_n 0, 1) := by decide +kernel
theorem dX5_askFor_10 : decode cX5_askFor 10 = .ok (.getfield 81, 3) := by decide +kernel
theorem dX5_askFor_13 : decode cX5_askFor 13 = .ok (.iload_n 2, 1) := by decide +kernel
theorem dX5_askFor_14 : decode cX5_askFor 14 = .ok (.iload_n 2, 1) := by decide +kernel
theorem dX5_askFor_15 : decode cX5_askFor 15 = .ok (.iload_n 1, 1) := by decide +kernel
theorem dX5_askFor_16 : decode cX5_askFor 16 = .ok (.ishr, 1) := by decide +kernel
theorem dX5_askFor_17 : decode cX5_askFor 17 = .ok (.iconst 1, 1) := by decide +kernel
theorem dX5_askFor_18 : decode cX5_askFor 18 = .ok (.iand, 1) := by decide +kernel
theorem dX5_askFor_19 : decode cX5_askFor 19 = .ok (.iconst 1, 1) := by decide +kernel
theorem dX5_askFor_20 : decode cX5_askFor 20 = .ok (.if_icmp .ne 12, 3) := by decide +kernel
theorem dX5_askFor_23 : decode cX5_askFor 23 = .ok (.aload_n 0, 1) := by decide +kernel
theorem dX5_askFor_24 : decode cX5_askFor 24 = .ok (.getfield 78, 3) := by decide +kernel
theorem dX5_askFor_27 : decode cX5_askFor 27 = .ok (.iload_n 2, 1) := by decide +kernel
theorem dX5_askFor_28 : decode cX5_askFor 28 = .ok (.iaload, 1) := by decide +kernel
theorem dX5_askFor_29 : decode cX5_askFor 29 = .ok (.goto 5, 3) := by decide +kernel
theorem dX5_askFor_32 : decode cX5_askFor 32 = .ok (.ldc 224, 2) := by decide +kernel
theorem dX5_askFor_34 : decode cX5_askFor 34 = .ok (.iastore, 1) := by decide +kernel
theorem dX5_askFor_35 : decode cX5_askFor 35 = .ok (.iinc 2 1, 3) := by decide +kernel
theorem dX5_askFor_38 : decode cX5_askFor 38 = .ok (.goto (-36), 3) := by decide +kernel
theorem dX5_askFor_41 : decode cX5_askFor 41 = .ok (.iconst 1, 1) := by decide +kernel
theorem dX5_askFor_42 : decode cX5_askFor 42 = .ok (.istore_n 2, 1) := by decide +kernel
theorem dX5_askFor_43 : decode cX5_askFor 43 = .ok (.iload_n 2, 1) := by decide +kernel
theorem dX5_askFor_44 : decode cX5_askFor 44 = .ok (.ifCond .eq 194, 3) := by decide +kernel
theorem dX5_askFor_47 : decode cX5_askFor 47 = .ok (.iconst 0, 1) := by decide +kernel
theorem dX5_askFor_48 : decode cX5_askFor 48 = .ok (.istore_n 2, 1) := by decide +kernel
theorem dX5_askFor_49 : decode cX5_askFor 49 = .ok (.iconst 0, 1) := by decide +kernel
theorem dX5_askFor_50 : decode cX5_askFor 50 = .ok (.istore_n 3, 1) := by decide +kernel
theorem dX5_askFor_51 : decode cX5_askFor 51 = .ok (.iload_n 3, 1) := by decide +kernel
theorem dX5_askFor_52 : decode cX5_askFor 52 = .ok (.sipush 128, 3) := by decide +kernel
theorem dX5_askFor_55 : decode cX5_askFor 55 = .ok (.if_icmp .ge 180, 3) := by decide +kernel
theorem dX5_askFor_58 : decode cX5_askFor 58 = .ok (.iconst 0, 1) := by decide +kernel
theorem dX5_askFor_59 : decode cX5_askFor 59 = .ok (.istore 4, 2) := by decide +kernel
theorem dX5_askFor_61 : decode cX5_askFor 61 = .ok (.iload 4, 2) := by decide +kernel
theorem dX5_askFor_63 : decode cX5_askFor 63 = .ok (.sipush 128, 3) := by decide +kernel
theorem dX5_askFor_66 : decode cX5_askFor 66 = .ok (.if_icmp .ge 163, 3) := by decide +kernel
theorem dX5_askFor_69 : decode cX5_askFor 69 = .ok (.iload_n 3, 1) := by decide +kernel
theorem dX5_askFor_70 : decode cX5_askFor 70 = .ok (.iload_n 1, 1) := by decide +kernel
theorem dX5_askFor_71 : decode cX5_askFor 71 = .ok (.ishr, 1) := by decide +kernel
theorem dX5_askFor_72 : decode cX5_askFor 72 = .ok (.iconst 1, 1) := by decide +kernel
theorem dX5_askFor_73 : decode cX5_askFor 73 = .ok (.iand, 1) := by decide +kernel
theorem dX5_askFor_74 : decode cX5_askFor 74 = .ok (.ifCond .ne 155, 3) := by decide +kernel
theorem dX5_askFor_77 : decode cX5_askFor 77 = .ok (.aload_n 0, 1) := by decide +kernel
theorem dX5_askFor_78 : decode cX5_askFor 78 = .ok (.getfield 78, 3) := by decide +kernel
theorem dX5_askFor_81 : decode cX5_askFor 81 = .ok (.iload_n 3, 1) := by decide +kernel
theorem dX5_askFor_82 : decode cX5_askFor 82 = .ok (.iaload, 1) := by decide +kernel
theorem dX5_askFor_83 : decode cX5_askFor 83 = .ok (.ldc 224, 2) := by decide +kernel
theorem dX5_askFor_85 : decode cX5_askFor 85 = .ok (.if_icmp .ge 144, 3) := by decide +kernel
theorem dX5_askFor_88 : decode cX5_askFor 88 = .ok (.aload_n 0, 1) := by decide +kernel
theorem dX5_askFor_89 : decode cX5_askFor 89 = .ok (.getfield 78, 3) := by decide +kernel
theorem dX5_askFor_92 : decode cX5_askFor 92 = .ok (.iload_n 3, 1) := by decide +kernel
theorem dX5_askFor_93 : decode cX5_askFor 93 = .ok (.iaload, 1) := by decide +kernel
theorem dX5_askFor_94 : decode cX5_askFor 94 = .ok (.iconst 1, 1) := by decide +kernel
theorem dX5_askFor_95 : decode cX5_askFor 95 = .ok (.iadd, 1) := by decide +kernel
theorem dX5_askFor_96 : decode cX5_askFor 96 = .ok (.istore 5, 2) := by decide +kernel
theorem dX5_askFor_98 : decode cX5_askFor 98 = .ok (.aload_n 0, 1) := by decide +kernel
theorem dX5_askFor_99 : decode cX5_askFor 99 = .ok (.getfield 66, 3) := by decide +kernel
theorem dX5_askFor_102 : decode cX5_askFor 102 = .ok (.sipush 128, 3) := by decide +kernel
theorem dX5_askFor_105 : decode cX5_askFor 105 = .ok (.iload_n 3, 1) := by decide +kernel
theorem dX5_askFor_106 : decode cX5_askFor 106 = .ok (.imul, 1) := by decide +kernel
theorem dX5_askFor_107 : decode cX5_askFor 107 = .ok (.iload 4, 2) := by decide +kernel
theorem dX5_askFor_109 : decode cX5_askFor 109 = .ok (.iadd, 1) := by decide +kernel
theorem dX5_askFor_110 : decode cX5_askFor 110 = .ok (.baload, 1) := by decide +kernel
theorem dX5_askFor_111 : decode cX5_askFor 111 = .ok (.ifCond .eq 35, 3) := by decide +kernel
theorem dX5_askFor_114 : decode cX5_askFor 114 = .ok (.iload 5, 2) := by decide +kernel
theorem dX5_askFor_116 : decode cX5_askFor 116 = .ok (.aload_n 0, 1) := by decide +kernel
theorem dX5_askFor_117 : decode cX5_askFor 117 = .ok (.getfield 78, 3) := by decide +kernel
theorem dX5_askFor_120 : decode cX5_askFor 120 = .ok (.iload 4, 2) := by decide +kernel
theorem dX5_askFor_122 : decode cX5_askFor 122 = .ok (.iaload, 1) := by decide +kernel
theorem dX5_askFor_123 : decode cX5_askFor 123 = .ok (.if_icmp .ge 23, 3) := by decide +kernel
theorem dX5_askFor_126 : decode cX5_askFor 126 = .ok (.iload 4, 2) := by decide +kernel
theorem dX5_askFor_128 : decode cX5_askFor 128 = .ok (.iload_n 1, 1) := by decide +kernel
theorem dX5_askFor_129 : decode cX5_askFor 129 = .ok (.ishr, 1) := by decide +kernel
theorem dX5_askFor_130 : decode cX5_askFor 130 = .ok (.iconst 1, 1) := by decide +kernel
theorem dX5_askFor_131 : decode cX5_askFor 131 = .ok (.iand, 1) := by decide +kernel
theorem dX5_askFor_132 : decode cX5_askFor 132 = .ok (.ifCond .ne 14, 3) := by decide +kernel
theorem dX5_askFor_135 : decode cX5_askFor 135 = .ok (.aload_n 0, 1) := by decide +kernel
theorem dX5_askFor_136 : decode cX5_askFor 136 = .ok (.getfield 78, 3) := by decide +kernel
theorem dX5_askFor_139 : decode cX5_askFor 139 = .ok (.iload 4, 2) := by decide +kernel
theorem dX5_askFor_141 : decode cX5_askFor 141 = .ok (.iload 5, 2) := by decide +kernel
theorem dX5_askFor_143 : decode cX5_askFor 143 = .ok (.iastore, 1) := by decide +kernel
theorem dX5_askFor_144 : decode cX5_askFor 144 = .ok (.iconst 1, 1) := by decide +kernel
theorem dX5_askFor_145 : decode cX5_askFor 145 = .ok (.istore_n 2, 1) := by decide +kernel
theorem dX5_askFor_146 : decode cX5_askFor 146 = .ok (.aload_n 0, 1) := by decide +kernel
theorem dX5_askFor_147 : decode cX5_askFor 147 = .ok (.getfield 66, 3) := by decide +kernel
theorem dX5_askFor_150 : decode cX5_askFor 150 = .ok (.sipush 128, 3) := by decide +kernel
theorem dX5_askFor_153 : decode cX5_askFor 153 = .ok (.iload_n 3, 1) := by decide +kernel
theorem dX5_askFor_154 : decode cX5_askFor 154 = .ok (.imul, 1) := by decide +kernel
theorem dX5_askFor_155 : decode cX5_askFor 155 = .ok (.iload 4, 2) := by decide +kernel
theorem dX5_askFor_157 : decode cX5_askFor 157 = .ok (.iadd, 1) := by decide +kernel
theorem dX5_askFor_158 : decode cX5_askFor 158 = .ok (.baload, 1) := by decide +kernel
theorem dX5_askFor_159 : decode cX5_askFor 159 = .ok (.ifCond .eq 25, 3) := by decide +kernel
theorem dX5_askFor_162 : decode cX5_askFor 162 = .ok (.iload 4, 2) := by decide +kernel
theorem dX5_askFor_164 : decode cX5_askFor 164 = .ok (.iload_n 1, 1) := by decide +kernel
theorem dX5_askFor_165 : decode cX5_askFor 165 = .ok (.ishr, 1) := by decide +kernel
theorem dX5_askFor_166 : decode cX5_askFor 166 = .ok (.iconst 1, 1) := by decide +kernel
theorem dX5_askFor_167 : decode cX5_askFor 167 = .ok (.iand, 1) := by decide +kernel
theorem dX5_askFor_168 : decode cX5_askFor 168 = .ok (.iconst 1, 1) := by decide +kernel
theorem dX5_askFor_169 : decode cX5_askFor 169 = .ok (.if_icmp .ne 15, 3) := by decide +kernel
theorem dX5_askFor_172 : decode cX5_askFor 172 = .ok (.iload 5, 2) := by decide +kernel
theorem dX5_askFor_174 : decode cX5_askFor 174 = .ok (.aload_n 0, 1) := by decide +kernel
theorem dX5_askFor_175 : decode cX5_askFor 175 = .ok (.getfield 81, 3) := by decide +kernel
theorem dX5_askFor_178 : decode cX5_askFor 178 = .ok (.iload 4, 2) := by decide +kernel
theorem dX5_askFor_180 : decode cX5_askFor 180 = .ok (.iaload, 1) := by decide +kernel
theorem dX5_askFor_181 : decode cX5_askFor 181 = .ok (.if_icmp .lt 31, 3) := by decide +kernel
theorem dX5_askFor_184 : decode cX5_askFor 184 = .ok (.aload_n 0, 1) := by decide +kernel
theorem dX5_askFor_185 : decode cX5_askFor 185 = .ok (.getfield 69, 3) := by decide +kernel
theorem dX5_askFor_188 : decode cX5_askFor 188 = .ok (.sipush 128, 3) := by decide +kernel
theorem dX5_askFor_191 : decode cX5_askFor 191 = .ok (.iload_n 3, 1) := by decide +kernel
theorem dX5_askFor_192 : decode cX5_askFor 192 = .ok (.imul, 1) := by decide +kernel
theorem dX5_askFor_193 : decode cX5_askFor 193 = .ok (.iload 4, 2) := by decide +kernel
theorem dX5_askFor_195 : decode cX5_askFor 195 = .ok (.iadd, 1) := by decide +kernel
theorem dX5_askFor_196 : decode cX5_askFor 196 = .ok (.baload, 1) := by decide +kernel
theorem dX5_askFor_197 : decode cX5_askFor 197 = .ok (.ifCond .eq 26, 3) := by decide +kernel
theorem dX5_askFor_200 : decode cX5_askFor 200 = .ok (.iload 5, 2) := by decide +kernel
theorem dX5_askFor_202 : decode cX5_askFor 202 = .ok (.aload_n 0, 1) := by decide +kernel
theorem dX5_askFor_203 : decode cX5_askFor 203 = .ok (.getfield 81, 3) := by decide +kernel
theorem dX5_askFor_206 : decode cX5_askFor 206 = .ok (.iload 4, 2) := by decide +kernel
theorem dX5_askFor_208 : decode cX5_askFor 208 = .ok (.iaload, 1) := by decide +kernel
theorem dX5_askFor_209 : decode cX5_askFor 209 = .ok (.if_icmp .ge 14, 3) := by decide +kernel
theorem dX5_askFor_212 : decode cX5_askFor 212 = .ok (.aload_n 0, 1) := by decide +kernel
theorem dX5_askFor_213 : decode cX5_askFor 213 = .ok (.getfield 81, 3) := by decide +kernel
theorem dX5_askFor_216 : decode cX5_askFor 216 = .ok (.iload 4, 2) := by decide +kernel
theorem dX5_askFor_218 : decode cX5_askFor 218 = .ok (.iload 5, 2) := by decide +kernel
theorem dX5_askFor_220 : decode cX5_askFor 220 = .ok (.iastore, 1) := by decide +kernel
theorem dX5_askFor_221 : decode cX5_askFor 221 = .ok (.iconst 1, 1) := by decide +kernel
theorem dX5_askFor_222 : decode cX5_askFor 222 = .ok (.istore_n 2, 1) := by decide +kernel
theorem dX5_askFor_223 : decode cX5_askFor 223 = .ok (.iinc 4 1, 3) := by decide +kernel
theorem dX5_askFor_226 : decode cX5_askFor 226 = .ok (.goto (-165), 3) := by decide +kernel
theorem dX5_askFor_229 : decode cX5_askFor 229 = .ok (.iinc 3 1, 3) := by decide +kernel
theorem dX5_askFor_232 : decode cX5_askFor 232 = .ok (.goto (-181), 3) := by decide +kernel
theorem dX5_askFor_235 : decode cX5_askFor 235 = .ok (.goto (-192), 3) := by decide +kernel
theorem dX5_askFor_238 : decode cX5_askFor 238 = .ok (.return_, 1) := by decide +kernel
theorem dX5_indexOf_0 : decode cX5_indexOf 0 = .ok (.iconst 0, 1) := by decide +kernel
theorem dX5_indexOf_1 : decode cX5_indexOf 1 = .ok (.istore_n 2, 1) := by decide +kernel
theorem dX5_indexOf_2 : decode cX5_indexOf 2 = .ok (.iload_n 2, 1) := by decide +kernel
theorem dX5_indexOf_3 : decode cX5_indexOf 3 = .ok (.aload_n 0, 1) := by decide +kernel
theorem dX5_indexOf_4 : decode cX5_indexOf 4 = .ok (.getfield 215, 3) := by decide +kernel
theorem dX5_indexOf_7 : decode cX5_indexOf 7 = .ok (.if_icmp .ge 19, 3) := by decide +kernel
theorem dX5_indexOf_10 : decode cX5_indexOf 10 = .ok (.aload_n 0, 1) := by decide +kernel
theorem dX5_indexOf_11 : decode cX5_indexOf 11 = .ok (.getfield 63, 3) := by decide +kernel
theorem dX5_indexOf_14 : decode cX5_indexOf 14 = .ok (.iload_n 2, 1) := by decide +kernel
theorem dX5_indexOf_15 : decode cX5_indexOf 15 = .ok (.iaload, 1) := by decide +kernel
theorem dX5_indexOf_16 : decode cX5_indexOf 16 = .ok (.iload_n 1, 1) := by decide +kernel
theorem dX5_indexOf_17 : decode cX5_indexOf 17 = .ok (.if_icmp .eq 9, 3) := by decide +kernel
