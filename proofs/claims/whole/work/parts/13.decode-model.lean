/-! ===== decode rows: the reference ===== -/
theorem dX3_init_0 : decode cX3_init 0 = .ok (.aload_n 0, 1) := by decide +kernel
theorem dX3_init_1 : decode cX3_init 1 = .ok (.invokespecial 3, 3) := by decide +kernel
theorem dX3_init_4 : decode cX3_init 4 = .ok (.aload_n 0, 1) := by decide +kernel
theorem dX3_init_5 : decode cX3_init 5 = .ok (.sipush 809, 3) := by decide +kernel
theorem dX3_init_8 : decode cX3_init 8 = .ok (.newarray .int, 2) := by decide +kernel
theorem dX3_init_10 : decode cX3_init 10 = .ok (.putfield 9, 3) := by decide +kernel
theorem dX3_init_13 : decode cX3_init 13 = .ok (.aload_n 0, 1) := by decide +kernel
theorem dX3_init_14 : decode cX3_init 14 = .ok (.sipush 809, 3) := by decide +kernel
theorem dX3_init_17 : decode cX3_init 17 = .ok (.newarray .int, 2) := by decide +kernel
theorem dX3_init_19 : decode cX3_init 19 = .ok (.putfield 13, 3) := by decide +kernel
theorem dX3_init_22 : decode cX3_init 22 = .ok (.aload_n 0, 1) := by decide +kernel
theorem dX3_init_23 : decode cX3_init 23 = .ok (.sipush 4854, 3) := by decide +kernel
theorem dX3_init_26 : decode cX3_init 26 = .ok (.newarray .int, 2) := by decide +kernel
theorem dX3_init_28 : decode cX3_init 28 = .ok (.putfield 16, 3) := by decide +kernel
theorem dX3_init_31 : decode cX3_init 31 = .ok (.aload_n 0, 1) := by decide +kernel
theorem dX3_init_32 : decode cX3_init 32 = .ok (.iconst (-1), 1) := by decide +kernel
theorem dX3_init_33 : decode cX3_init 33 = .ok (.putfield 19, 3) := by decide +kernel
theorem dX3_init_36 : decode cX3_init 36 = .ok (.aload_n 0, 1) := by decide +kernel
theorem dX3_init_37 : decode cX3_init 37 = .ok (.bipush 60, 2) := by decide +kernel
theorem dX3_init_39 : decode cX3_init 39 = .ok (.newarray .char, 2) := by decide +kernel
theorem dX3_init_41 : decode cX3_init 41 = .ok (.putfield 23, 3) := by decide +kernel
theorem dX3_init_44 : decode cX3_init 44 = .ok (.aload_n 0, 1) := by decide +kernel
theorem dX3_init_45 : decode cX3_init 45 = .ok (.sipush 160, 3) := by decide +kernel
theorem dX3_init_48 : decode cX3_init 48 = .ok (.newarray .int, 2) := by decide +kernel
theorem dX3_init_50 : decode cX3_init 50 = .ok (.putfield 27, 3) := by decide +kernel
theorem dX3_init_53 : decode cX3_init 53 = .ok (.aload_n 0, 1) := by decide +kernel
theorem dX3_init_54 : decode cX3_init 54 = .ok (.sipush 256, 3) := by decide +kernel
theorem dX3_init_57 : decode cX3_init 57 = .ok (.newarray .int, 2) := by decide +kernel
theorem dX3_init_59 : decode cX3_init 59 = .ok (.putfield 30, 3) := by decide +kernel
theorem dX3_init_62 : decode cX3_init 62 = .ok (.aload_n 0, 1) := by decide +kernel
theorem dX3_init_63 : decode cX3_init 63 = .ok (.bipush 15, 2) := by decide +kernel
theorem dX3_init_65 : decode cX3_init 65 = .ok (.newarray .int, 2) := by decide +kernel
theorem dX3_init_67 : decode cX3_init 67 = .ok (.putfield 33, 3) := by decide +kernel
theorem dX3_init_70 : decode cX3_init 70 = .ok (.aload_n 0, 1) := by decide +kernel
theorem dX3_init_71 : decode cX3_init 71 = .ok (.bipush 16, 2) := by decide +kernel
theorem dX3_init_73 : decode cX3_init 73 = .ok (.newarray .int, 2) := by decide +kernel
theorem dX3_init_75 : decode cX3_init 75 = .ok (.putfield 36, 3) := by decide +kernel
theorem dX3_init_78 : decode cX3_init 78 = .ok (.aload_n 0, 1) := by decide +kernel
theorem dX3_init_79 : decode cX3_init 79 = .ok (.bipush 32, 2) := by decide +kernel
theorem dX3_init_81 : decode cX3_init 81 = .ok (.newarray .int, 2) := by decide +kernel
theorem dX3_init_83 : decode cX3_init 83 = .ok (.putfield 39, 3) := by decide +kernel
theorem dX3_init_86 : decode cX3_init 86 = .ok (.aload_n 0, 1) := by decide +kernel
theorem dX3_init_87 : decode cX3_init 87 = .ok (.bipush 14, 2) := by decide +kernel
theorem dX3_init_89 : decode cX3_init 89 = .ok (.newarray .int, 2) := by decide +kernel
theorem dX3_init_91 : decode cX3_init 91 = .ok (.putfield 42, 3) := by decide +kernel
theorem dX3_init_94 : decode cX3_init 94 = .ok (.aload_n 0, 1) := by decide +kernel
theorem dX3_init_95 : decode cX3_init 95 = .ok (.bipush 14, 2) := by decide +kernel
theorem dX3_init_97 : decode cX3_init 97 = .ok (.newarray .int, 2) := by decide +kernel
theorem dX3_init_99 : decode cX3_init 99 = .ok (.putfield 45, 3) := by decide +kernel
theorem dX3_init_102 : decode cX3_init 102 = .ok (.aload_n 0, 1) := by decide +kernel
theorem dX3_init_103 : decode cX3_init 103 = .ok (.bipush 14, 2) := by decide +kernel
theorem dX3_init_105 : decode cX3_init 105 = .ok (.newarray .int, 2) := by decide +kernel
theorem dX3_init_107 : decode cX3_init 107 = .ok (.putfield 48, 3) := by decide +kernel
theorem dX3_init_110 : decode cX3_init 110 = .ok (.aload_n 0, 1) := by decide +kernel
theorem dX3_init_111 : decode cX3_init 111 = .ok (.bipush 14, 2) := by decide +kernel
theorem dX3_init_113 : decode cX3_init 113 = .ok (.newarray .int, 2) := by decide +kernel
theorem dX3_init_115 : decode cX3_init 115 = .ok (.putfield 51, 3) := by decide +kernel
theorem dX3_init_118 : decode cX3_init 118 = .ok (.aload_n 0, 1) := by decide +kernel
theorem dX3_init_119 : decode cX3_init 119 = .ok (.bipush 56, 2) := by decide +kernel
theorem dX3_init_121 : decode cX3_init 121 = .ok (.newarray .int, 2) := by decide +kernel
theorem dX3_init_123 : decode cX3_init 123 = .ok (.putfield 54, 3) := by decide +kernel
theorem dX3_init_126 : decode cX3_init 126 = .ok (.aload_n 0, 1) := by decide +kernel
theorem dX3_init_127 : decode cX3_init 127 = .ok (.bipush 6, 2) := by decide +kernel
theorem dX3_init_129 : decode cX3_init 129 = .ok (.newarray .int, 2) := by decide +kernel
theorem dX3_init_131 : decode cX3_init 131 = .ok (.putfield 57, 3) := by decide +kernel
theorem dX3_init_134 : decode cX3_init 134 = .ok (.aload_n 0, 1) := by decide +kernel
theorem dX3_init_135 : decode cX3_init 135 = .ok (.bipush 32, 2) := by decide +kernel
theorem dX3_init_137 : decode cX3_init 137 = .ok (.newarray .int, 2) := by decide +kernel
theorem dX3_init_139 : decode cX3_init 139 = .ok (.putfield 60, 3) := by decide +kernel
theorem dX3_init_142 : decode cX3_init 142 = .ok (.iconst 0, 1) := by decide +kernel
theorem dX3_init_143 : decode cX3_init 143 = .ok (.istore_n 1, 1) := by decide +kernel
theorem dX3_init_144 : decode cX3_init 144 = .ok (.iload_n 1, 1) := by decide +kernel
theorem dX3_init_145 : decode cX3_init 145 = .ok (.bipush 16, 2) := by decide +kernel
theorem dX3_init_147 : decode cX3_init 147 = .ok (.if_icmp .ge 61, 3) := by decide +kernel
theorem dX3_init_150 : decode cX3_init 150 = .ok (.iconst 0, 1) := by decide +kernel
theorem dX3_init_151 : decode cX3_init 151 = .ok (.istore_n 2, 1) := by decide +kernel
theorem dX3_init_152 : decode cX3_init 152 = .ok (.iload_n 2, 1) := by decide +kernel
theorem dX3_init_153 : decode cX3_init 153 = .ok (.bipush 16, 2) := by decide +kernel
theorem dX3_init_155 : decode cX3_init 155 = .ok (.if_icmp .ge 47, 3) := by decide +kernel
theorem dX3_init_158 : decode cX3_init 158 = .ok (.aload_n 0, 1) := by decide +kernel
theorem dX3_init_159 : decode cX3_init 159 = .ok (.getfield 30, 3) := by decide +kernel
theorem dX3_init_162 : decode cX3_init 162 = .ok (.bipush 16, 2) := by decide +kernel
theorem dX3_init_164 : decode cX3_init 164 = .ok (.iload_n 1, 1) := by decide +kernel
theorem dX3_init_165 : decode cX3_init 165 = .ok (.imul, 1) := by decide +kernel
theorem dX3_init_166 : decode cX3_init 166 = .ok (.iload_n 2, 1) := by decide +kernel
theorem dX3_init_167 : decode cX3_init 167 = .ok (.iadd, 1) := by decide +kernel
theorem dX3_init_168 : decode cX3_init 168 = .ok (.iload_n 1, 1) := by decide +kernel
theorem dX3_init_169 : decode cX3_init 169 = .ok (.iload_n 2, 1) := by decide +kernel
theorem dX3_init_170 : decode cX3_init 170 = .ok (.invokestatic 63, 3) := by decide +kernel
theorem dX3_init_173 : decode cX3_init 173 = .ok (.iastore, 1) := by decide +kernel
theorem dX3_init_174 : decode cX3_init 174 = .ok (.aload_n 0, 1) := by decide +kernel
theorem dX3_init_175 : decode cX3_init 175 = .ok (.getfield 30, 3) := by decide +kernel
theorem dX3_init_178 : decode cX3_init 178 = .ok (.bipush 16, 2) := by decide +kernel
theorem dX3_init_180 : decode cX3_init 180 = .ok (.iload_n 1, 1) := by decide +kernel
theorem dX3_init_181 : decode cX3_init 181 = .ok (.imul, 1) := by decide +kernel
theorem dX3_init_182 : decode cX3_init 182 = .ok (.iload_n 2, 1) := by decide +kernel
theorem dX3_init_183 : decode cX3_init 183 = .ok (.iadd, 1) := by decide +kernel
theorem dX3_init_184 : decode cX3_init 184 = .ok (.iaload, 1) := by decide +kernel
theorem dX3_init_185 : decode cX3_init 185 = .ok (.iconst 1, 1) := by decide +kernel
theorem dX3_init_186 : decode cX3_init 186 = .ok (.if_icmp .ne 10, 3) := by decide +kernel
theorem dX3_init_189 : decode cX3_init 189 = .ok (.aload_n 0, 1) := by decide +kernel
theorem dX3_init_190 : decode cX3_init 190 = .ok (.getfield 36, 3) := by decide +kernel
theorem dX3_init_193 : decode cX3_init 193 = .ok (.iload_n 1, 1) := by decide +kernel
theorem dX3_init_194 : decode cX3_init 194 = .ok (.iload_n 2, 1) := by decide +kernel
theorem dX3_init_195 : decode cX3_init 195 = .ok (.iastore, 1) := by decide +kernel
theorem dX3_init_196 : decode cX3_init 196 = .ok (.iinc 2 1, 3) := by decide +kernel
theorem dX3_init_199 : decode cX3_init 199 = .ok (.goto (-47), 3) := by decide +kernel
theorem dX3_init_202 : decode cX3_init 202 = .ok (.iinc 1 1, 3) := by decide +kernel
theorem dX3_init_205 : decode cX3_init 205 = .ok (.goto (-61), 3) := by decide +kernel
theorem dX3_init_208 : decode cX3_init 208 = .ok (.aload_n 0, 1) := by decide +kernel
theorem dX3_init_209 : decode cX3_init 209 = .ok (.getfield 33, 3) := by decide +kernel
theorem dX3_init_212 : decode cX3_init 212 = .ok (.iconst 0, 1) := by decide +kernel
theorem dX3_init_213 : decode cX3_init 213 = .ok (.iconst 1, 1) := by decide +kernel
theorem dX3_init_214 : decode cX3_init 214 = .ok (.iastore, 1) := by decide +kernel
theorem dX3_init_215 : decode cX3_init 215 = .ok (.iconst 1, 1) := by decide +kernel
theorem dX3_init_216 : decode cX3_init 216 = .ok (.istore_n 1, 1) := by decide +kernel
theorem dX3_init_217 : decode cX3_init 217 = .ok (.iload_n 1, 1) := by decide +kernel
theorem dX3_init_218 : decode cX3_init 218 = .ok (.bipush 15, 2) := by decide +kernel
theorem dX3_init_220 : decode cX3_init 220 = .ok (.if_icmp .ge 27, 3) := by decide +kernel
theorem dX3_init_223 : decode cX3_init 223 = .ok (.aload_n 0, 1) := by decide +kernel
theorem dX3_init_224 : decode cX3_init 224 = .ok (.getfield 33, 3) := by decide +kernel
theorem dX3_init_227 : decode cX3_init 227 = .ok (.iload_n 1, 1) := by decide +kernel
theorem dX3_init_228 : decode cX3_init 228 = .ok (.aload_n 0, 1) := by decide +kernel
theorem dX3_init_229 : decode cX3_init 229 = .ok (.getfield 33, 3) := by decide +kernel
theorem dX3_init_232 : decode cX3_init 232 = .ok (.iload_n 1, 1) := by decide +kernel
theorem dX3_init_233 : decode cX3_init 233 = .ok (.iconst 1, 1) := by decide +kernel
theorem dX3_init_234 : decode cX3_init 234 = .ok (.isub, 1) := by decide +kernel
theorem dX3_init_235 : decode cX3_init 235 = .ok (.iaload, 1) := by decide +kernel
theorem dX3_init_236 : decode cX3_init 236 = .ok (.iconst 2, 1) := by decide +kernel
theorem dX3_init_237 : decode cX3_init 237 = .ok (.invokestatic 63, 3) := by decide +kernel
theorem dX3_init_240 : decode cX3_init 240 = .ok (.iastore, 1) := by decide +kernel
theorem dX3_init_241 : decode cX3_init 241 = .ok (.iinc 1 1, 3) := by decide +kernel
theorem dX3_init_244 : decode cX3_init 244 = .ok (.goto (-27), 3) := by decide +kernel
theorem dX3_init_247 : decode cX3_init 247 = .ok (.return_, 1) := by decide +kernel
theorem dX3_thrown_0 : decode cX3_thrown 0 = .ok (.aload_n 0, 1) := by decide +kernel
theorem dX3_thrown_1 : decode cX3_thrown 1 = .ok (.getfield 67, 3) := by decide +kernel
theorem dX3_thrown_4 : decode cX3_thrown 4 = .ok (.ireturn, 1) := by decide +kernel
theorem dX3_no_0 : decode cX3_no 0 = .ok (.aload_n 0, 1) := by decide +kernel
theorem dX3_no_1 : decode cX3_no 1 = .ok (.iload_n 1, 1) := by decide +kernel
theorem dX3_no_2 : decode cX3_no 2 = .ok (.putfield 67, 3) := by decide +kernel
theorem dX3_no_5 : decode cX3_no 5 = .ok (.iconst 0, 1) := by decide +kernel
theorem dX3_no_6 : decode cX3_no 6 = .ok (.ireturn, 1) := by decide +kernel
theorem dX3_isIn_0 : decode cX3_isIn 0 = .ok (.iload_n 0, 1) := by decide +kernel
theorem dX3_isIn_1 : decode cX3_isIn 1 = .ok (.iload_n 1, 1) := by decide +kernel
theorem dX3_isIn_2 : decode cX3_isIn 2 = .ok (.if_icmp .lt 12, 3) := by decide +kernel
theorem dX3_isIn_5 : decode cX3_isIn 5 = .ok (.iload_n 0, 1) := by decide +kernel
theorem dX3_isIn_6 : decode cX3_isIn 6 = .ok (.iload_n 2, 1) := by decide +kernel
theorem dX3_isIn_7 : decode cX3_isIn 7 = .ok (.if_icmp .gt 7, 3) := by decide +kernel
theorem dX3_isIn_10 : decode cX3_isIn 10 = .ok (.iconst 1, 1) := by decide +kernel
theorem dX3_isIn_11 : decode cX3_isIn 11 = .ok (.goto 4, 3) := by decide +kernel
theorem dX3_isIn_14 : decode cX3_isIn 14 = .ok (.iconst 0, 1) := by decide +kernel
theorem dX3_isIn_15 : decode cX3_isIn 15 = .ok (.ireturn, 1) := by decide +kernel
theorem dX3_keeps_0 : decode cX3_keeps 0 = .ok (.aload_n 0, 1) := by decide +kernel
theorem dX3_keeps_1 : decode cX3_keeps 1 = .ok (.getfield 70, 3) := by decide +kernel
theorem dX3_keeps_4 : decode cX3_keeps 4 = .ok (.bipush 6, 2) := by decide +kernel
theorem dX3_keeps_6 : decode cX3_keeps 6 = .ok (.if_icmp .ne 44, 3) := by decide +kernel
theorem dX3_keeps_9 : decode cX3_keeps 9 = .ok (.iconst 0, 1) := by decide +kernel
theorem dX3_keeps_10 : decode cX3_keeps 10 = .ok (.istore_n 1, 1) := by decide +kernel
theorem dX3_keeps_11 : decode cX3_keeps 11 = .ok (.iload_n 1, 1) := by decide +kernel
theorem dX3_keeps_12 : decode cX3_keeps 12 = .ok (.sipush 4045, 3) := by decide +kernel
theorem dX3_keeps_15 : decode cX3_keeps 15 = .ok (.if_icmp .ge 25, 3) := by decide +kernel
theorem dX3_keeps_18 : decode cX3_keeps 18 = .ok (.aload_n 0, 1) := by decide +kernel
theorem dX3_keeps_19 : decode cX3_keeps 19 = .ok (.getfield 16, 3) := by decide +kernel
theorem dX3_keeps_22 : decode cX3_keeps 22 = .ok (.iload_n 1, 1) := by decide +kernel
theorem dX3_keeps_23 : decode cX3_keeps 23 = .ok (.aload_n 0, 1) := by decide +kernel
theorem dX3_keeps_24 : decode cX3_keeps 24 = .ok (.getfield 16, 3) := by decide +kernel
theorem dX3_keeps_27 : decode cX3_keeps 27 = .ok (.iload_n 1, 1) := by decide +kernel
theorem dX3_keeps_28 : decode cX3_keeps 28 = .ok (.sipush 809, 3) := by decide +kernel
theorem dX3_keeps_31 : decode cX3_keeps 31 = .ok (.iadd, 1) := by decide +kernel
theorem dX3_keeps_32 : decode cX3_keeps 32 = .ok (.iaload, 1) := by decide +kernel
theorem dX3_keeps_33 : decode cX3_keeps 33 = .ok (.iastore, 1) := by decide +kernel
theorem dX3_keeps_34 : decode cX3_keeps 34 = .ok (.iinc 1 1, 3) := by decide +kernel
theorem dX3_keeps_37 : decode cX3_keeps 37 = .ok (.goto (-26), 3) := by decide +kernel
theorem dX3_keeps_40 : decode cX3_keeps 40 = .ok (.aload_n 0, 1) := by decide +kernel
theorem dX3_keeps_41 : decode cX3_keeps 41 = .ok (.dup, 1) := by decide +kernel
theorem dX3_keeps_42 : decode cX3_keeps 42 = .ok (.getfield 70, 3) := by decide +kernel
theorem dX3_keeps_45 : decode cX3_keeps 45 = .ok (.iconst 1, 1) := by decide +kernel
theorem dX3_keeps_46 : decode cX3_keeps 46 = .ok (.isub, 1) := by decide +kernel
theorem dX3_keeps_47 : decode cX3_keeps 47 = .ok (.putfield 70, 3) := by decide +kernel
theorem dX3_keeps_50 : decode cX3_keeps 50 = .ok (.iconst 0, 1) := by decide +kernel
theorem dX3_keeps_51 : decode cX3_keeps 51 = .ok (.istore_n 1, 1) := by decide +kernel
theorem dX3_keeps_52 : decode cX3_keeps 52 = .ok (.iload_n 1, 1) := by decide +kernel
theorem dX3_keeps_53 : decode cX3_keeps 53 = .ok (.sipush 809, 3) := by decide +kernel
theorem dX3_keeps_56 : decode cX3_keeps 56 = .ok (.if_icmp .ge 30, 3) := by decide +kernel
theorem dX3_keeps_59 : decode cX3_keeps 59 = .ok (.aload_n 0, 1) := by decide +kernel
theorem dX3_keeps_60 : decode cX3_keeps 60 = .ok (.getfield 16, 3) := by decide +kernel
theorem dX3_keeps_63 : decode cX3_keeps 63 = .ok (.aload_n 0, 1) := by decide +kernel
theorem dX3_keeps_64 : decode cX3_keeps 64 = .ok (.getfield 70, 3) := by decide +kernel
theorem dX3_keeps_67 : decode cX3_keeps 67 = .ok (.sipush 809, 3) := by decide +kernel
theorem dX3_keeps_70 : decode cX3_keeps 70 = .ok (.imul, 1) := by decide +kernel
theorem dX3_keeps_71 : decode cX3_keeps 71 = .ok (.iload_n 1, 1) := by decide +kernel
theorem dX3_keeps_72 : decode cX3_keeps 72 = .ok (.iadd, 1) := by decide +kernel
theorem dX3_keeps_73 : decode cX3_keeps 73 = .ok (.aload_n 0, 1) := by decide +kernel
theorem dX3_keeps_74 : decode cX3_keeps 74 = .ok (.getfield 9, 3) := by decide +kernel
theorem dX3_keeps_77 : decode cX3_keeps 77 = .ok (.iload_n 1, 1) := by decide +kernel
theorem dX3_keeps_78 : decode cX3_keeps 78 = .ok (.iaload, 1) := by decide +kernel
theorem dX3_keeps_79 : decode cX3_keeps 79 = .ok (.iastore, 1) := by decide +kernel
theorem dX3_keeps_80 : decode cX3_keeps 80 = .ok (.iinc 1 1, 3) := by decide +kernel
theorem dX3_keeps_83 : decode cX3_keeps 83 = .ok (.goto (-31), 3) := by decide +kernel
theorem dX3_keeps_86 : decode cX3_keeps 86 = .ok (.aload_n 0, 1) := by decide +kernel
theorem dX3_keeps_87 : decode cX3_keeps 87 = .ok (.dup, 1) := by decide +kernel
theorem dX3_keeps_88 : decode cX3_keeps 88 = .ok (.getfield 70, 3) := by decide +kernel
theorem dX3_keeps_91 : decode cX3_keeps 91 = .ok (.iconst 1, 1) := by decide +kernel
theorem dX3_keeps_92 : decode cX3_keeps 92 = .ok (.iadd, 1) := by decide +kernel
theorem dX3_keeps_93 : decode cX3_keeps 93 = .ok (.putfield 70, 3) := by decide +kernel
theorem dX3_keeps_96 : decode cX3_keeps 96 = .ok (.return_, 1) := by decide +kernel
theorem dX3_copies_0 : decode cX3_copies 0 = .ok (.iconst 0, 1) := by decide +kernel
theorem dX3_copies_1 : decode cX3_copies 1 = .ok (.istore_n 2, 1) := by decide +kernel
theorem dX3_copies_2 : decode cX3_copies 2 = .ok (.iload_n 2, 1) := by decide +kernel
theorem dX3_copies_3 : decode cX3_copies 3 = .ok (.sipush 809, 3) := by decide +kernel
theorem dX3_copies_6 : decode cX3_copies 6 = .ok (.if_icmp .ge 15, 3) := by decide +kernel
theorem dX3_copies_9 : decode cX3_copies 9 = .ok (.aload_n 1, 1) := by decide +kernel
theorem dX3_copies_10 : decode cX3_copies 10 = .ok (.iload_n 2, 1) := by decide +kernel
theorem dX3_copies_11 : decode cX3_copies 11 = .ok (.aload_n 0, 1) := by decide +kernel
theorem dX3_copies_12 : decode cX3_copies 12 = .ok (.iload_n 2, 1) := by decide +kernel
theorem dX3_copies_13 : decode cX3_copies 13 = .ok (.iaload, 1) := by decide +kernel
theorem dX3_copies_14 : decode cX3_copies 14 = .ok (.iastore, 1) := by decide +kernel
theorem dX3_copies_15 : decode cX3_copies 15 = .ok (.iinc 2 1, 3) := by decide +kernel
theorem dX3_copies_18 : decode cX3_copies 18 = .ok (.goto (-16), 3) := by decide +kernel
theorem dX3_copies_21 : decode cX3_copies 21 = .ok (.return_, 1) := by decide +kernel
theorem dX3_multiplied_0 : decode cX3_multiplied 0 = .ok (.iconst 0, 1) := by decide +kernel
theorem dX3_multiplied_1 : decode cX3_multiplied 1 = .ok (.istore_n 2, 1) := by decide +kernel
theorem dX3_multiplied_2 : decode cX3_multiplied 2 = .ok (.iload_n 0, 1) := by decide +kernel
theorem dX3_multiplied_3 : decode cX3_multiplied 3 = .ok (.istore_n 3, 1) := by decide +kernel
theorem dX3_multiplied_4 : decode cX3_multiplied 4 = .ok (.iconst 0, 1) := by decide +kernel
theorem dX3_multiplied_5 : decode cX3_multiplied 5 = .ok (.istore 4, 2) := by decide +kernel
theorem dX3_multiplied_7 : decode cX3_multiplied 7 = .ok (.iload 4, 2) := by decide +kernel
theorem dX3_multiplied_9 : decode cX3_multiplied 9 = .ok (.iconst 4, 1) := by decide +kernel
theorem dX3_multiplied_10 : decode cX3_multiplied 10 = .ok (.if_icmp .ge 46, 3) := by decide +kernel
theorem dX3_multiplied_13 : decode cX3_multiplied 13 = .ok (.iload_n 2, 1) := by decide +kernel
theorem dX3_multiplied_14 : decode cX3_multiplied 14 = .ok (.iload_n 1, 1) := by decide +kernel
theorem dX3_multiplied_15 : decode cX3_multiplied 15 = .ok (.iload 4, 2) := by decide +kernel
theorem dX3_multiplied_17 : decode cX3_multiplied 17 = .ok (.ishr, 1) := by decide +kernel
theorem dX3_multiplied_18 : decode cX3_multiplied 18 = .ok (.iconst 1, 1) := by decide +kernel
theorem dX3_multiplied_19 : decode cX3_multiplied 19 = .ok (.iand, 1) := by decide +kernel
theorem dX3_multiplied_20 : decode cX3_multiplied 20 = .ok (.iconst 1, 1) := by decide +kernel
theorem dX3_multiplied_21 : decode cX3_multiplied 21 = .ok (.if_icmp .ne 7, 3) := by decide +kernel
theorem dX3_multiplied_24 : decode cX3_multiplied 24 = .ok (.iload_n 3, 1) := by decide +kernel
theorem dX3_multiplied_25 : decode cX3_multiplied 25 = .ok (.goto 4, 3) := by decide +kernel
theorem dX3_multiplied_28 : decode cX3_multiplied 28 = .ok (.iconst 0, 1) := by decide +kernel
theorem dX3_multiplied_29 : decode cX3_multiplied 29 = .ok (.ixor, 1) := by decide +kernel
theorem dX3_multiplied_30 : decode cX3_multiplied 30 = .ok (.istore_n 2, 1) := by decide +kernel
theorem dX3_multiplied_31 : decode cX3_multiplied 31 = .ok (.iload_n 3, 1) := by decide +kernel
theorem dX3_multiplied_32 : decode cX3_multiplied 32 = .ok (.bipush 8, 2) := by decide +kernel
theorem dX3_multiplied_34 : decode cX3_multiplied 34 = .ok (.if_icmp .ge 9, 3) := by decide +kernel
theorem dX3_multiplied_37 : decode cX3_multiplied 37 = .ok (.iload_n 3, 1) := by decide +kernel
theorem dX3_multiplied_38 : decode cX3_multiplied 38 = .ok (.iconst 2, 1) := by decide +kernel
theorem dX3_multiplied_39 : decode cX3_multiplied 39 = .ok (.imul, 1) := by decide +kernel
theorem dX3_multiplied_40 : decode cX3_multiplied 40 = .ok (.goto 9, 3) := by decide +kernel
theorem dX3_multiplied_43 : decode cX3_multiplied 43 = .ok (.iload_n 3, 1) := by decide +kernel
theorem dX3_multiplied_44 : decode cX3_multiplied 44 = .ok (.iconst 2, 1) := by decide +kernel
theorem dX3_multiplied_45 : decode cX3_multiplied 45 = .ok (.imul, 1) := by decide +kernel
theorem dX3_multiplied_46 : decode cX3_multiplied 46 = .ok (.bipush 19, 2) := by decide +kernel
theorem dX3_multiplied_48 : decode cX3_multiplied 48 = .ok (.ixor, 1) := by decide +kernel
theorem dX3_multiplied_49 : decode cX3_multiplied 49 = .ok (.istore_n 3, 1) := by decide +kernel
theorem dX3_multiplied_50 : decode cX3_multiplied 50 = .ok (.iinc 4 1, 3) := by decide +kernel
theorem dX3_multiplied_53 : decode cX3_multiplied 53 = .ok (.goto (-46), 3) := by decide +kernel
theorem dX3_multiplied_56 : decode cX3_multiplied 56 = .ok (.iload_n 2, 1) := by decide +kernel
theorem dX3_multiplied_57 : decode cX3_multiplied 57 = .ok (.ireturn, 1) := by decide +kernel
theorem dX3_times_0 : decode cX3_times 0 = .ok (.aload_n 0, 1) := by decide +kernel
theorem dX3_times_1 : decode cX3_times 1 = .ok (.getfield 30, 3) := by decide +kernel
theorem dX3_times_4 : decode cX3_times 4 = .ok (.bipush 16, 2) := by decide +kernel
theorem dX3_times_6 : decode cX3_times 6 = .ok (.iload_n 1, 1) := by decide +kernel
theorem dX3_times_7 : decode cX3_times 7 = .ok (.imul, 1) := by decide +kernel
theorem dX3_times_8 : decode cX3_times 8 = .ok (.iload_n 2, 1) := by decide +kernel
theorem dX3_times_9 : decode cX3_times 9 = .ok (.iadd, 1) := by decide +kernel
theorem dX3_times_10 : decode cX3_times 10 = .ok (.iaload, 1) := by decide +kernel
theorem dX3_times_11 : decode cX3_times 11 = .ok (.ireturn, 1) := by decide +kernel
theorem dX3_power_0 : decode cX3_power 0 = .ok (.aload_n 0, 1) := by decide +kernel
theorem dX3_power_1 : decode cX3_power 1 = .ok (.getfield 33, 3) := by decide +kernel
theorem dX3_power_4 : decode cX3_power 4 = .ok (.iload_n 1, 1) := by decide +kernel
theorem dX3_power_5 : decode cX3_power 5 = .ok (.bipush 15, 2) := by decide +kernel
theorem dX3_power_7 : decode cX3_power 7 = .ok (.irem, 1) := by decide +kernel
theorem dX3_power_8 : decode cX3_power 8 = .ok (.iaload, 1) := by decide +kernel
theorem dX3_power_9 : decode cX3_power 9 = .ok (.ireturn, 1) := by decide +kernel
theorem dX3_of_0 : decode cX3_of 0 = .ok (.aload_n 0, 1) := by decide +kernel
theorem dX3_of_1 : decode cX3_of 1 = .ok (.getfield 9, 3) := by decide +kernel
theorem dX3_of_4 : decode cX3_of 4 = .ok (.bipush 10, 2) := by decide +kernel
theorem dX3_of_6 : decode cX3_of 6 = .ok (.iload_n 1, 1) := by decide +kernel
theorem dX3_of_7 : decode cX3_of 7 = .ok (.imul, 1) := by decide +kernel
theorem dX3_of_8 : decode cX3_of 8 = .ok (.iload_n 2, 1) := by decide +kernel
theorem dX3_of_9 : decode cX3_of 9 = .ok (.iadd, 1) := by decide +kernel
theorem dX3_of_10 : decode cX3_of 10 = .ok (.iaload, 1) := by decide +kernel
theorem dX3_of_11 : decode cX3_of 11 = .ok (.ireturn, 1) := by decide +kernel
theorem dX3_isFile_0 : decode cX3_isFile 0 = .ok (.iload_n 1, 1) := by decide +kernel
theorem dX3_isFile_1 : decode cX3_isFile 1 = .ok (.iconst 0, 1) := by decide +kernel
theorem dX3_isFile_2 : decode cX3_isFile 2 = .ok (.bipush 7, 2) := by decide +kernel
theorem dX3_isFile_4 : decode cX3_isFile 4 = .ok (.invokestatic 73, 3) := by decide +kernel
theorem dX3_isFile_7 : decode cX3_isFile 7 = .ok (.ifCond .eq 17, 3) := by decide +kernel
theorem dX3_isFile_10 : decode cX3_isFile 10 = .ok (.aload_n 0, 1) := by decide +kernel
theorem dX3_isFile_11 : decode cX3_isFile 11 = .ok (.iload_n 1, 1) := by decide +kernel
theorem dX3_isFile_12 : decode cX3_isFile 12 = .ok (.iconst 0, 1) := by decide +kernel
theorem dX3_isFile_13 : decode cX3_isFile 13 = .ok (.invokevirtual 77, 3) := by decide +kernel
theorem dX3_isFile_16 : decode cX3_isFile 16 = .ok (.iconst 1, 1) := by decide +kernel
theorem dX3_isFile_17 : decode cX3_isFile 17 = .ok (.if_icmp .ne 7, 3) := by decide +kernel
theorem dX3_isFile_20 : decode cX3_isFile 20 = .ok (.iconst 1, 1) := by decide +kernel
theorem dX3_isFile_21 : decode cX3_isFile 21 = .ok (.goto 4, 3) := by decide +kernel
theorem dX3_isFile_24 : decode cX3_isFile 24 = .ok (.iconst 0, 1) := by decide +kernel
theorem dX3_isFile_25 : decode cX3_isFile 25 = .ok (.ireturn, 1) := by decide +kernel
theorem dX3_blocks_0 : decode cX3_blocks 0 = .ok (.aload_n 0, 1) := by decide +kernel
theorem dX3_blocks_1 : decode cX3_blocks 1 = .ok (.iload_n 1, 1) := by decide +kernel
theorem dX3_blocks_2 : decode cX3_blocks 2 = .ok (.iconst 1, 1) := by decide +kernel
theorem dX3_blocks_3 : decode cX3_blocks 3 = .ok (.invokevirtual 77, 3) := by decide +kernel
theorem dX3_blocks_6 : decode cX3_blocks 6 = .ok (.bipush 8, 2) := by decide +kernel
theorem dX3_blocks_8 : decode cX3_blocks 8 = .ok (.iadd, 1) := by decide +kernel
theorem dX3_blocks_9 : decode cX3_blocks 9 = .ok (.iconst 1, 1) := by decide +kernel
theorem dX3_blocks_10 : decode cX3_blocks 10 = .ok (.isub, 1) := by decide +kernel
theorem dX3_blocks_11 : decode cX3_blocks 11 = .ok (.bipush 8, 2) := by decide +kernel
theorem dX3_blocks_13 : decode cX3_blocks 13 = .ok (.idiv, 1) := by decide +kernel
theorem dX3_blocks_14 : decode cX3_blocks 14 = .ok (.ireturn, 1) := by decide +kernel
theorem dX3_size_0 : decode cX3_size 0 = .ok (.aload_n 0, 1) := by decide +kernel
theorem dX3_size_1 : decode cX3_size 1 = .ok (.iload_n 1, 1) := by decide +kernel
theorem dX3_size_2 : decode cX3_size 2 = .ok (.iconst 2, 1) := by decide +kernel
theorem dX3_size_3 : decode cX3_size 3 = .ok (.invokevirtual 77, 3) := by decide +kernel
theorem dX3_size_6 : decode cX3_size 6 = .ok (.bipush 8, 2) := by decide +kernel
theorem dX3_size_8 : decode cX3_size 8 = .ok (.iadd, 1) := by decide +kernel
theorem dX3_size_9 : decode cX3_size 9 = .ok (.ireturn, 1) := by decide +kernel
theorem dX3_cells_0 : decode cX3_cells 0 = .ok (.aload_n 0, 1) := by decide +kernel
theorem dX3_cells_1 : decode cX3_cells 1 = .ok (.iload_n 1, 1) := by decide +kernel
theorem dX3_cells_2 : decode cX3_cells 2 = .ok (.invokevirtual 80, 3) := by decide +kernel
theorem dX3_cells_5 : decode cX3_cells 5 = .ok (.aload_n 0, 1) := by decide +kernel
theorem dX3_cells_6 : decode cX3_cells 6 = .ok (.iload_n 1, 1) := by decide +kernel
theorem dX3_cells_7 : decode cX3_cells 7 = .ok (.invokevirtual 84, 3) := by decide +kernel
theorem dX3_cells_10 : decode cX3_cells 10 = .ok (.imul, 1) := by decide +kernel
theorem dX3_cells_11 : decode cX3_cells 11 = .ok (.ireturn, 1) := by decide +kernel
theorem dX3_isBlock_0 : decode cX3_isBlock 0 = .ok (.aload_n 0, 1) := by decide +kernel
theorem dX3_isBlock_1 : decode cX3_isBlock 1 = .ok (.iload_n 1, 1) := by decide +kernel
theorem dX3_isBlock_2 : decode cX3_isBlock 2 = .ok (.invokevirtual 87, 3) := by decide +kernel
theorem dX3_isBlock_5 : decode cX3_isBlock 5 = .ok (.ifCond .eq 22, 3) := by decide +kernel
theorem dX3_isBlock_8 : decode cX3_isBlock 8 = .ok (.iload_n 2, 1) := by decide +kernel
theorem dX3_isBlock_9 : decode cX3_isBlock 9 = .ok (.iconst 0, 1) := by decide +kernel
theorem dX3_isBlock_10 : decode cX3_isBlock 10 = .ok (.aload_n 0, 1) := by decide +kernel
theorem dX3_isBlock_11 : decode cX3_isBlock 11 = .ok (.iload_n 1, 1) := by decide +kernel
theorem dX3_isBlock_12 : decode cX3_isBlock 12 = .ok (.invokevirtual 80, 3) := by decide +kernel
theorem dX3_isBlock_15 : decode cX3_isBlock 15 = .ok (.iconst 1, 1) := by decide +kernel
theorem dX3_isBlock_16 : decode cX3_isBlock 16 = .ok (.isub, 1) := by decide +kernel
theorem dX3_isBlock_17 : decode cX3_isBlock 17 = .ok (.invokestatic 73, 3) := by decide +kernel
theorem dX3_isBlock_20 : decode cX3_isBlock 20 = .ok (.ifCond .eq 7, 3) := by decide +kernel
theorem dX3_isBlock_23 : decode cX3_isBlock 23 = .ok (.iconst 1, 1) := by decide +kernel
theorem dX3_isBlock_24 : decode cX3_isBlock 24 = .ok (.goto 4, 3) := by decide +kernel
theorem dX3_isBlock_27 : decode cX3_isBlock 27 = .ok (.iconst 0, 1) := by decide +kernel
theorem dX3_isBlock_28 : decode cX3_isBlock 28 = .ok (.ireturn, 1) := by decide +kernel
theorem dX3_cell_0 : decode cX3_cell 0 = .ok (.aload_n 0, 1) := by decide +kernel
theorem dX3_cell_1 : decode cX3_cell 1 = .ok (.iload_n 1, 1) := by decide +kernel
theorem dX3_cell_2 : decode cX3_cell 2 = .ok (.iconst 3, 1) := by decide +kernel
theorem dX3_cell_3 : decode cX3_cell 3 = .ok (.invokevirtual 77, 3) := by decide +kernel
theorem dX3_cell_6 : decode cX3_cell 6 = .ok (.istore 4, 2) := by decide +kernel
theorem dX3_cell_8 : decode cX3_cell 8 = .ok (.iload_n 2, 1) := by decide +kernel
theorem dX3_cell_9 : decode cX3_cell 9 = .ok (.iload 4, 2) := by decide +kernel
theorem dX3_cell_11 : decode cX3_cell 11 = .ok (.idiv, 1) := by decide +kernel
theorem dX3_cell_12 : decode cX3_cell 12 = .ok (.iload 4, 2) := by decide +kernel
theorem dX3_cell_14 : decode cX3_cell 14 = .ok (.imul, 1) := by decide +kernel
theorem dX3_cell_15 : decode cX3_cell 15 = .ok (.istore 5, 2) := by decide +kernel
theorem dX3_cell_17 : decode cX3_cell 17 = .ok (.aload_n 0, 1) := by decide +kernel
theorem dX3_cell_18 : decode cX3_cell 18 = .ok (.iload_n 1, 1) := by decide +kernel
theorem dX3_cell_19 : decode cX3_cell 19 = .ok (.invokevirtual 80, 3) := by decide +kernel
theorem dX3_cell_22 : decode cX3_cell 22 = .ok (.iload 5, 2) := by decide +kernel
theorem dX3_cell_24 : decode cX3_cell 24 = .ok (.isub, 1) := by decide +kernel
theorem dX3_cell_25 : decode cX3_cell 25 = .ok (.iload 4, 2) := by decide +kernel
theorem dX3_cell_27 : decode cX3_cell 27 = .ok (.if_icmp .ge 14, 3) := by decide +kernel
theorem dX3_cell_30 : decode cX3_cell 30 = .ok (.aload_n 0, 1) := by decide +kernel
theorem dX3_cell_31 : decode cX3_cell 31 = .ok (.iload_n 1, 1) := by decide +kernel
theorem dX3_cell_32 : decode cX3_cell 32 = .ok (.invokevirtual 80, 3) := by decide +kernel
theorem dX3_cell_35 : decode cX3_cell 35 = .ok (.iload 5, 2) := by decide +kernel
theorem dX3_cell_37 : decode cX3_cell 37 = .ok (.isub, 1) := by decide +kernel
theorem dX3_cell_38 : decode cX3_cell 38 = .ok (.goto 5, 3) := by decide +kernel
theorem dX3_cell_41 : decode cX3_cell 41 = .ok (.iload 4, 2) := by decide +kernel
theorem dX3_cell_43 : decode cX3_cell 43 = .ok (.istore 6, 2) := by decide +kernel
theorem dX3_cell_45 : decode cX3_cell 45 = .ok (.aload_n 0, 1) := by decide +kernel
theorem dX3_cell_46 : decode cX3_cell 46 = .ok (.iload_n 1, 1) := by decide +kernel
theorem dX3_cell_47 : decode cX3_cell 47 = .ok (.iconst 5, 1) := by decide +kernel
theorem dX3_cell_48 : decode cX3_cell 48 = .ok (.invokevirtual 77, 3) := by decide +kernel
theorem dX3_cell_51 : decode cX3_cell 51 = .ok (.iload 5, 2) := by decide +kernel
theorem dX3_cell_53 : decode cX3_cell 53 = .ok (.aload_n 0, 1) := by decide +kernel
theorem dX3_cell_54 : decode cX3_cell 54 = .ok (.iload_n 1, 1) := by decide +kernel
theorem dX3_cell_55 : decode cX3_cell 55 = .ok (.invokevirtual 84, 3) := by decide +kernel
theorem dX3_cell_58 : decode cX3_cell 58 = .ok (.imul, 1) := by decide +kernel
theorem dX3_cell_59 : decode cX3_cell 59 = .ok (.iadd, 1) := by decide +kernel
theorem dX3_cell_60 : decode cX3_cell 60 = .ok (.iload_n 3, 1) := by decide +kernel
theorem dX3_cell_61 : decode cX3_cell 61 = .ok (.iload 6, 2) := by decide +kernel
theorem dX3_cell_63 : decode cX3_cell 63 = .ok (.imul, 1) := by decide +kernel
theorem dX3_cell_64 : decode cX3_cell 64 = .ok (.iadd, 1) := by decide +kernel
theorem dX3_cell_65 : decode cX3_cell 65 = .ok (.iload_n 2, 1) := by decide +kernel
theorem dX3_cell_66 : decode cX3_cell 66 = .ok (.iadd, 1) := by decide +kernel
theorem dX3_cell_67 : decode cX3_cell 67 = .ok (.iload 5, 2) := by decide +kernel
theorem dX3_cell_69 : decode cX3_cell 69 = .ok (.isub, 1) := by decide +kernel
theorem dX3_cell_70 : decode cX3_cell 70 = .ok (.ireturn, 1) := by decide +kernel
theorem dX3_ownerOf_0 : decode cX3_ownerOf 0 = .ok (.iconst 0, 1) := by decide +kernel
theorem dX3_ownerOf_1 : decode cX3_ownerOf 1 = .ok (.istore_n 2, 1) := by decide +kernel
theorem dX3_ownerOf_2 : decode cX3_ownerOf 2 = .ok (.iload_n 2, 1) := by decide +kernel
theorem dX3_ownerOf_3 : decode cX3_ownerOf 3 = .ok (.bipush 8, 2) := by decide +kernel
theorem dX3_ownerOf_5 : decode cX3_ownerOf 5 = .ok (.if_icmp .ge 46, 3) := by decide +kernel
theorem dX3_ownerOf_8 : decode cX3_ownerOf 8 = .ok (.aload_n 0, 1) := by decide +kernel
theorem dX3_ownerOf_9 : decode cX3_ownerOf 9 = .ok (.iload_n 2, 1) := by decide +kernel
theorem dX3_ownerOf_10 : decode cX3_ownerOf 10 = .ok (.invokevirtual 87, 3) := by decide +kernel
theorem dX3_ownerOf_13 : decode cX3_ownerOf 13 = .ok (.ifCond .eq 32, 3) := by decide +kernel
theorem dX3_ownerOf_16 : decode cX3_ownerOf 16 = .ok (.iload_n 1, 1) := by decide +kernel
theorem dX3_ownerOf_17 : decode cX3_ownerOf 17 = .ok (.aload_n 0, 1) := by decide +kernel
theorem dX3_ownerOf_18 : decode cX3_ownerOf 18 = .ok (.iload_n 2, 1) := by decide +kernel
theorem dX3_ownerOf_19 : decode cX3_ownerOf 19 = .ok (.iconst 5, 1) := by decide +kernel
theorem dX3_ownerOf_20 : decode cX3_ownerOf 20 = .ok (.invokevirtual 77, 3) := by decide +kernel
theorem dX3_ownerOf_23 : decode cX3_ownerOf 23 = .ok (.aload_n 0, 1) := by decide +kernel
theorem dX3_ownerOf_24 : decode cX3_ownerOf 24 = .ok (.iload_n 2, 1) := by decide +kernel
theorem dX3_ownerOf_25 : decode cX3_ownerOf 25 = .ok (.iconst 5, 1) := by decide +kernel
theorem dX3_ownerOf_26 : decode cX3_ownerOf 26 = .ok (.invokevirtual 77, 3) := by decide +kernel
theorem dX3_ownerOf_29 : decode cX3_ownerOf 29 = .ok (.aload_n 0, 1) := by decide +kernel
theorem dX3_ownerOf_30 : decode cX3_ownerOf 30 = .ok (.iload_n 2, 1) := by decide +kernel
theorem dX3_ownerOf_31 : decode cX3_ownerOf 31 = .ok (.invokevirtual 91, 3) := by decide +kernel
theorem dX3_ownerOf_34 : decode cX3_ownerOf 34 = .ok (.iadd, 1) := by decide +kernel
theorem dX3_ownerOf_35 : decode cX3_ownerOf 35 = .ok (.iconst 1, 1) := by decide +kernel
theorem dX3_ownerOf_36 : decode cX3_ownerOf 36 = .ok (.isub, 1) := by decide +kernel
theorem dX3_ownerOf_37 : decode cX3_ownerOf 37 = .ok (.invokestatic 73, 3) := by decide +kernel
theorem dX3_ownerOf_40 : decode cX3_ownerOf 40 = .ok (.ifCond .eq 5, 3) := by decide +kernel
theorem dX3_ownerOf_43 : decode cX3_ownerOf 43 = .ok (.iload_n 2, 1) := by decide +kernel
theorem dX3_ownerOf_44 : decode cX3_ownerOf 44 = .ok (.ireturn, 1) := by decide +kernel
theorem dX3_ownerOf_45 : decode cX3_ownerOf 45 = .ok (.iinc 2 1, 3) := by decide +kernel
theorem dX3_ownerOf_48 : decode cX3_ownerOf 48 = .ok (.goto (-46), 3) := by decide +kernel
theorem dX3_ownerOf_51 : decode cX3_ownerOf 51 = .ok (.iconst (-1), 1) := by decide +kernel
theorem dX3_ownerOf_52 : decode cX3_ownerOf 52 = .ok (.ireturn, 1) := by decide +kernel
theorem dX3_many_0 : decode cX3_many 0 = .ok (.iconst 0, 1) := by decide +kernel
theorem dX3_many_1 : decode cX3_many 1 = .ok (.istore_n 1, 1) := by decide +kernel
theorem dX3_many_2 : decode cX3_many 2 = .ok (.iconst 0, 1) := by decide +kernel
theorem dX3_many_3 : decode cX3_many 3 = .ok (.istore_n 2, 1) := by decide +kernel
theorem dX3_many_4 : decode cX3_many 4 = .ok (.iload_n 2, 1) := by decide +kernel
theorem dX3_many_5 : decode cX3_many 5 = .ok (.bipush 8, 2) := by decide +kernel
theorem dX3_many_7 : decode cX3_many 7 = .ok (.if_icmp .ge 25, 3) := by decide +kernel
theorem dX3_many_10 : decode cX3_many 10 = .ok (.iload_n 1, 1) := by decide +kernel
theorem dX3_many_11 : decode cX3_many 11 = .ok (.aload_n 0, 1) := by decide +kernel
theorem dX3_many_12 : decode cX3_many 12 = .ok (.iload_n 2, 1) := by decide +kernel
theorem dX3_many_13 : decode cX3_many 13 = .ok (.invokevirtual 87, 3) := by decide +kernel
theorem dX3_many_16 : decode cX3_many 16 = .ok (.ifCond .eq 7, 3) := by decide +kernel
theorem dX3_many_19 : decode cX3_many 19 = .ok (.iconst 1, 1) := by decide +kernel
theorem dX3_many_20 : decode cX3_many 20 = .ok (.goto 4, 3) := by decide +kernel
theorem dX3_many_23 : decode cX3_many 23 = .ok (.iconst 0, 1) := by decide +kernel
theorem dX3_many_24 : decode cX3_many 24 = .ok (.iadd, 1) := by decide +kernel
theorem dX3_many_25 : decode cX3_many 25 = .ok (.istore_n 1, 1) := by decide +kernel
theorem dX3_many_26 : decode cX3_many 26 = .ok (.iinc 2 1, 3) := by decide +kernel
theorem dX3_many_29 : decode cX3_many 29 = .ok (.goto (-25), 3) := by decide +kernel
theorem dX3_many_32 : decode cX3_many 32 = .ok (.iload_n 1, 1) := by decide +kernel
theorem dX3_many_33 : decode cX3_many 33 = .ok (.ireturn, 1) := by decide +kernel
theorem dX3_clear_0 : decode cX3_clear 0 = .ok (.aload_n 0, 1) := by decide +kernel
theorem dX3_clear_1 : decode cX3_clear 1 = .ok (.iconst 0, 1) := by decide +kernel
theorem dX3_clear_2 : decode cX3_clear 2 = .ok (.putfield 67, 3) := by decide +kernel
theorem dX3_clear_5 : decode cX3_clear 5 = .ok (.aload_n 0, 1) := by decide +kernel
theorem dX3_clear_6 : decode cX3_clear 6 = .ok (.invokevirtual 94, 3) := by decide +kernel
theorem dX3_clear_9 : decode cX3_clear 9 = .ok (.istore_n 1, 1) := by decide +kernel
theorem dX3_clear_10 : decode cX3_clear 10 = .ok (.iconst 0, 1) := by decide +kernel
theorem dX3_clear_11 : decode cX3_clear 11 = .ok (.istore_n 2, 1) := by decide +kernel
theorem dX3_clear_12 : decode cX3_clear 12 = .ok (.iload_n 2, 1) := by decide +kernel
theorem dX3_clear_13 : decode cX3_clear 13 = .ok (.sipush 809, 3) := by decide +kernel
theorem dX3_clear_16 : decode cX3_clear 16 = .ok (.if_icmp .ge 16, 3) := by decide +kernel
theorem dX3_clear_19 : decode cX3_clear 19 = .ok (.aload_n 0, 1) := by decide +kernel
theorem dX3_clear_20 : decode cX3_clear 20 = .ok (.getfield 9, 3) := by decide +kernel
theorem dX3_clear_23 : decode cX3_clear 23 = .ok (.iload_n 2, 1) := by decide +kernel
theorem dX3_clear_24 : decode cX3_clear 24 = .ok (.iconst 0, 1) := by decide +kernel
theorem dX3_clear_25 : decode cX3_clear 25 = .ok (.iastore, 1) := by decide +kernel
theorem dX3_clear_26 : decode cX3_clear 26 = .ok (.iinc 2 1, 3) := by decide +kernel
theorem dX3_clear_29 : decode cX3_clear 29 = .ok (.goto (-17), 3) := by decide +kernel
theorem dX3_clear_32 : decode cX3_clear 32 = .ok (.aload_n 0, 1) := by decide +kernel
theorem dX3_clear_33 : decode cX3_clear 33 = .ok (.iconst 0, 1) := by decide +kernel
theorem dX3_clear_34 : decode cX3_clear 34 = .ok (.putfield 70, 3) := by decide +kernel
theorem dX3_clear_37 : decode cX3_clear 37 = .ok (.iload_n 1, 1) := by decide +kernel
theorem dX3_clear_38 : decode cX3_clear 38 = .ok (.ireturn, 1) := by decide +kernel
theorem dX3_append_0 : decode cX3_append 0 = .ok (.aload_n 0, 1) := by decide +kernel
theorem dX3_append_1 : decode cX3_append 1 = .ok (.iload_n 1, 1) := by decide +kernel
theorem dX3_append_2 : decode cX3_append 2 = .ok (.bipush 32, 2) := by decide +kernel
theorem dX3_append_4 : decode cX3_append 4 = .ok (.bipush 126, 2) := by decide +kernel
theorem dX3_append_6 : decode cX3_append 6 = .ok (.invokestatic 73, 3) := by decide +kernel
theorem dX3_append_9 : decode cX3_append 9 = .ok (.ifCond .ne 7, 3) := by decide +kernel
theorem dX3_append_12 : decode cX3_append 12 = .ok (.iconst 1, 1) := by decide +kernel
theorem dX3_append_13 : decode cX3_append 13 = .ok (.goto 17, 3) := by decide +kernel
theorem dX3_append_16 : decode cX3_append 16 = .ok (.aload_n 0, 1) := by decide +kernel
theorem dX3_append_17 : decode cX3_append 17 = .ok (.getfield 98, 3) := by decide +kernel
theorem dX3_append_20 : decode cX3_append 20 = .ok (.bipush 60, 2) := by decide +kernel
theorem dX3_append_22 : decode cX3_append 22 = .ok (.if_icmp .ne 7, 3) := by decide +kernel
theorem dX3_append_25 : decode cX3_append 25 = .ok (.iconst 2, 1) := by decide +kernel
theorem dX3_append_26 : decode cX3_append 26 = .ok (.goto 4, 3) := by decide +kernel
theorem dX3_append_29 : decode cX3_append 29 = .ok (.iconst 0, 1) := by decide +kernel
theorem dX3_append_30 : decode cX3_append 30 = .ok (.putfield 67, 3) := by decide +kernel
theorem dX3_append_33 : decode cX3_append 33 = .ok (.aload_n 0, 1) := by decide +kernel
theorem dX3_append_34 : decode cX3_append 34 = .ok (.getfield 67, 3) := by decide +kernel
theorem dX3_append_37 : decode cX3_append 37 = .ok (.ifCond .le 5, 3) := by decide +kernel
theorem dX3_append_40 : decode cX3_append 40 = .ok (.iconst 0, 1) := by decide +kernel
theorem dX3_append_41 : decode cX3_append 41 = .ok (.ireturn, 1) := by decide +kernel
theorem dX3_append_42 : decode cX3_append 42 = .ok (.aload_n 0, 1) := by decide +kernel
theorem dX3_append_43 : decode cX3_append 43 = .ok (.getfield 23, 3) := by decide +kernel
theorem dX3_append_46 : decode cX3_append 46 = .ok (.aload_n 0, 1) := by decide +kernel
theorem dX3_append_47 : decode cX3_append 47 = .ok (.getfield 98, 3) := by decide +kernel
theorem dX3_append_50 : decode cX3_append 50 = .ok (.iload_n 1, 1) := by decide +kernel
theorem dX3_append_51 : decode cX3_append 51 = .ok (.castore, 1) := by decide +kernel
theorem dX3_append_52 : decode cX3_append 52 = .ok (.aload_n 0, 1) := by decide +kernel
theorem dX3_append_53 : decode cX3_append 53 = .ok (.dup, 1) := by decide +kernel
theorem dX3_append_54 : decode cX3_append 54 = .ok (.getfield 98, 3) := by decide +kernel
theorem dX3_append_57 : decode cX3_append 57 = .ok (.iconst 1, 1) := by decide +kernel
theorem dX3_append_58 : decode cX3_append 58 = .ok (.iadd, 1) := by decide +kernel
theorem dX3_append_59 : decode cX3_append 59 = .ok (.putfield 98, 3) := by decide +kernel
theorem dX3_append_62 : decode cX3_append 62 = .ok (.aload_n 0, 1) := by decide +kernel
theorem dX3_append_63 : decode cX3_append 63 = .ok (.getfield 98, 3) := by decide +kernel
theorem dX3_append_66 : decode cX3_append 66 = .ok (.ireturn, 1) := by decide +kernel
theorem dX3_here_0 : decode cX3_here 0 = .ok (.aload_n 0, 1) := by decide +kernel
theorem dX3_here_1 : decode cX3_here 1 = .ok (.getfield 101, 3) := by decide +kernel
theorem dX3_here_4 : decode cX3_here 4 = .ok (.aload_n 0, 1) := by decide +kernel
theorem dX3_here_5 : decode cX3_here 5 = .ok (.getfield 98, 3) := by decide +kernel
theorem dX3_here_8 : decode cX3_here 8 = .ok (.if_icmp .ge 15, 3) := by decide +kernel
theorem dX3_here_11 : decode cX3_here 11 = .ok (.aload_n 0, 1) := by decide +kernel
theorem dX3_here_12 : decode cX3_here 12 = .ok (.getfield 23, 3) := by decide +kernel
theorem dX3_here_15 : decode cX3_here 15 = .ok (.aload_n 0, 1) := by decide +kernel
theorem dX3_here_16 : decode cX3_here 16 = .ok (.getfield 101, 3) := by decide +kernel
theorem dX3_here_19 : decode cX3_here 19 = .ok (.caload, 1) := by decide +kernel
theorem dX3_here_20 : decode cX3_here 20 = .ok (.goto 4, 3) := by decide +kernel
theorem dX3_here_23 : decode cX3_here 23 = .ok (.iconst (-1), 1) := by decide +kernel
theorem dX3_here_24 : decode cX3_here 24 = .ok (.ireturn, 1) := by decide +kernel
theorem dX3_digit_0 : decode cX3_digit 0 = .ok (.aload_n 0, 1) := by decide +kernel
theorem dX3_digit_1 : decode cX3_digit 1 = .ok (.invokevirtual 104, 3) := by decide +kernel
theorem dX3_digit_4 : decode cX3_digit 4 = .ok (.bipush 48, 2) := by decide +kernel
theorem dX3_digit_6 : decode cX3_digit 6 = .ok (.isub, 1) := by decide +kernel
theorem dX3_digit_7 : decode cX3_digit 7 = .ok (.istore_n 2, 1) := by decide +kernel
theorem dX3_digit_8 : decode cX3_digit 8 = .ok (.aload_n 0, 1) := by decide +kernel
theorem dX3_digit_9 : decode cX3_digit 9 = .ok (.dup, 1) := by decide +kernel
theorem dX3_digit_10 : decode cX3_digit 10 = .ok (.getfield 107, 3) := by decide +kernel
theorem dX3_digit_13 : decode cX3_digit 13 = .ok (.iload_n 2, 1) := by decide +kernel
theorem dX3_digit_14 : decode cX3_digit 14 = .ok (.iconst 1, 1) := by decide +kernel
theorem dX3_digit_15 : decode cX3_digit 15 = .ok (.iload_n 1, 1) := by decide +kernel
theorem dX3_digit_16 : decode cX3_digit 16 = .ok (.invokestatic 73, 3) := by decide +kernel
theorem dX3_digit_19 : decode cX3_digit 19 = .ok (.ifCond .ne 7, 3) := by decide +kernel
theorem dX3_digit_22 : decode cX3_digit 22 = .ok (.iconst 1, 1) := by decide +kernel
theorem dX3_digit_23 : decode cX3_digit 23 = .ok (.goto 4, 3) := by decide +kernel
theorem dX3_digit_26 : decode cX3_digit 26 = .ok (.iconst 0, 1) := by decide +kernel
theorem dX3_digit_27 : decode cX3_digit 27 = .ok (.ior, 1) := by decide +kernel
theorem dX3_digit_28 : decode cX3_digit 28 = .ok (.putfield 107, 3) := by decide +kernel
theorem dX3_digit_31 : decode cX3_digit 31 = .ok (.aload_n 0, 1) := by decide +kernel
theorem dX3_digit_32 : decode cX3_digit 32 = .ok (.dup, 1) := by decide +kernel
theorem dX3_digit_33 : decode cX3_digit 33 = .ok (.getfield 101, 3) := by decide +kernel
theorem dX3_digit_36 : decode cX3_digit 36 = .ok (.aload_n 0, 1) := by decide +kernel
theorem dX3_digit_37 : decode cX3_digit 37 = .ok (.getfield 107, 3) := by decide +kernel
theorem dX3_digit_40 : decode cX3_digit 40 = .ok (.ifCond .eq 7, 3) := by decide +kernel
theorem dX3_digit_43 : decode cX3_digit 43 = .ok (.iconst 0, 1) := by decide +kernel
theorem dX3_digit_44 : decode cX3_digit 44 = .ok (.goto 4, 3) := by decide +kernel
theorem dX3_digit_47 : decode cX3_digit 47 = .ok (.iconst 1, 1) := by decide +kernel
theorem dX3_digit_48 : decode cX3_digit 48 = .ok (.iadd, 1) := by decide +kernel
theorem dX3_digit_49 : decode cX3_digit 49 = .ok (.putfield 101, 3) := by decide +kernel
theorem dX3_digit_52 : decode cX3_digit 52 = .ok (.iload_n 2, 1) := by decide +kernel
theorem dX3_digit_53 : decode cX3_digit 53 = .ok (.ireturn, 1) := by decide +kernel
theorem dX3_takes_0 : decode cX3_takes 0 = .ok (.aload_n 0, 1) := by decide +kernel
theorem dX3_takes_1 : decode cX3_takes 1 = .ok (.dup, 1) := by decide +kernel
theorem dX3_takes_2 : decode cX3_takes 2 = .ok (.getfield 107, 3) := by decide +kernel
theorem dX3_takes_5 : decode cX3_takes 5 = .ok (.aload_n 0, 1) := by decide +kernel
theorem dX3_takes_6 : decode cX3_takes 6 = .ok (.invokevirtual 104, 3) := by decide +kernel
theorem dX3_takes_9 : decode cX3_takes 9 = .ok (.iload_n 1, 1) := by decide +kernel
theorem dX3_takes_10 : decode cX3_takes 10 = .ok (.if_icmp .eq 7, 3) := by decide +kernel
theorem dX3_takes_13 : decode cX3_takes 13 = .ok (.iconst 1, 1) := by decide +kernel
theorem dX3_takes_14 : decode cX3_takes 14 = .ok (.goto 4, 3) := by decide +kernel
theorem dX3_takes_17 : decode cX3_takes 17 = .ok (.iconst 0, 1) := by decide +kernel
theorem dX3_takes_18 : decode cX3_takes 18 = .ok (.ior, 1) := by decide +kernel
theorem dX3_takes_19 : decode cX3_takes 19 = .ok (.putfield 107, 3) := by decide +kernel
theorem dX3_takes_22 : decode cX3_takes 22 = .ok (.aload_n 0, 1) := by decide +kernel
theorem dX3_takes_23 : decode cX3_takes 23 = .ok (.dup, 1) := by decide +kernel
theorem dX3_takes_24 : decode cX3_takes 24 = .ok (.getfield 101, 3) := by decide +kernel
theorem dX3_takes_27 : decode cX3_takes 27 = .ok (.aload_n 0, 1) := by decide +kernel
theorem dX3_takes_28 : decode cX3_takes 28 = .ok (.getfield 107, 3) := by decide +kernel
theorem dX3_takes_31 : decode cX3_takes 31 = .ok (.ifCond .eq 7, 3) := by decide +kernel
theorem dX3_takes_34 : decode cX3_takes 34 = .ok (.iconst 0, 1) := by decide +kernel
theorem dX3_takes_35 : decode cX3_takes 35 = .ok (.goto 4, 3) := by decide +kernel
theorem dX3_takes_38 : decode cX3_takes 38 = .ok (.iconst 1, 1) := by decide +kernel
theorem dX3_takes_39 : decode cX3_takes 39 = .ok (.iadd, 1) := by decide +kernel
theorem dX3_takes_40 : decode cX3_takes 40 = .ok (.putfield 101, 3) := by decide +kernel
theorem dX3_takes_43 : decode cX3_takes 43 = .ok (.return_, 1) := by decide +kernel
theorem dX3_symbolOf_0 : decode cX3_symbolOf 0 = .ok (.iload_n 0, 1) := by decide +kernel
theorem dX3_symbolOf_1 : decode cX3_symbolOf 1 = .ok (.bipush 48, 2) := by decide +kernel
theorem dX3_symbolOf_3 : decode cX3_symbolOf 3 = .ok (.bipush 57, 2) := by decide +kernel
theorem dX3_symbolOf_5 : decode cX3_symbolOf 5 = .ok (.invokestatic 73, 3) := by decide +kernel
theorem dX3_symbolOf_8 : decode cX3_symbolOf 8 = .ok (.ifCond .eq 10, 3) := by decide +kernel
theorem dX3_symbolOf_11 : decode cX3_symbolOf 11 = .ok (.iload_n 0, 1) := by decide +kernel
theorem dX3_symbolOf_12 : decode cX3_symbolOf 12 = .ok (.bipush 48, 2) := by decide +kernel
theorem dX3_symbolOf_14 : decode cX3_symbolOf 14 = .ok (.isub, 1) := by decide +kernel
theorem dX3_symbolOf_15 : decode cX3_symbolOf 15 = .ok (.goto 25, 3) := by decide +kernel
theorem dX3_symbolOf_18 : decode cX3_symbolOf 18 = .ok (.iload_n 0, 1) := by decide +kernel
theorem dX3_symbolOf_19 : decode cX3_symbolOf 19 = .ok (.bipush 97, 2) := by decide +kernel
theorem dX3_symbolOf_21 : decode cX3_symbolOf 21 = .ok (.bipush 102, 2) := by decide +kernel
theorem dX3_symbolOf_23 : decode cX3_symbolOf 23 = .ok (.invokestatic 73, 3) := by decide +kernel
theorem dX3_symbolOf_26 : decode cX3_symbolOf 26 = .ok (.ifCond .eq 13, 3) := by decide +kernel
theorem dX3_symbolOf_29 : decode cX3_symbolOf 29 = .ok (.iload_n 0, 1) := by decide +kernel
theorem dX3_symbolOf_30 : decode cX3_symbolOf 30 = .ok (.bipush 97, 2) := by decide +kernel
theorem dX3_symbolOf_32 : decode cX3_symbolOf 32 = .ok (.isub, 1) := by decide +kernel
theorem dX3_symbolOf_33 : decode cX3_symbolOf 33 = .ok (.bipush 10, 2) := by decide +kernel
theorem dX3_symbolOf_35 : decode cX3_symbolOf 35 = .ok (.iadd, 1) := by decide +kernel
theorem dX3_symbolOf_36 : decode cX3_symbolOf 36 = .ok (.goto 4, 3) := by decide +kernel
theorem dX3_symbolOf_39 : decode cX3_symbolOf 39 = .ok (.iconst (-1), 1) := by decide +kernel
theorem dX3_symbolOf_40 : decode cX3_symbolOf 40 = .ok (.ireturn, 1) := by decide +kernel
theorem dX3_area_0 : decode cX3_area 0 = .ok (.iconst 0, 1) := by decide +kernel
theorem dX3_area_1 : decode cX3_area 1 = .ok (.istore_n 2, 1) := by decide +kernel
theorem dX3_area_2 : decode cX3_area 2 = .ok (.iconst 0, 1) := by decide +kernel
theorem dX3_area_3 : decode cX3_area 3 = .ok (.istore_n 3, 1) := by decide +kernel
theorem dX3_area_4 : decode cX3_area 4 = .ok (.iload_n 3, 1) := by decide +kernel
theorem dX3_area_5 : decode cX3_area 5 = .ok (.sipush 240, 3) := by decide +kernel
theorem dX3_area_8 : decode cX3_area 8 = .ok (.if_icmp .ge 36, 3) := by decide +kernel
theorem dX3_area_11 : decode cX3_area 11 = .ok (.aload_n 0, 1) := by decide +kernel
theorem dX3_area_12 : decode cX3_area 12 = .ok (.iload_n 3, 1) := by decide +kernel
theorem dX3_area_13 : decode cX3_area 13 = .ok (.invokevirtual 111, 3) := by decide +kernel
theorem dX3_area_16 : decode cX3_area 16 = .ok (.ifCond .ge 9, 3) := by decide +kernel
theorem dX3_area_19 : decode cX3_area 19 = .ok (.iload_n 2, 1) := by decide +kernel
theorem dX3_area_20 : decode cX3_area 20 = .ok (.iconst 1, 1) := by decide +kernel
theorem dX3_area_21 : decode cX3_area 21 = .ok (.iadd, 1) := by decide +kernel
theorem dX3_area_22 : decode cX3_area 22 = .ok (.goto 4, 3) := by decide +kernel
theorem dX3_area_25 : decode cX3_area 25 = .ok (.iconst 0, 1) := by decide +kernel
theorem dX3_area_26 : decode cX3_area 26 = .ok (.istore_n 2, 1) := by decide +kernel
theorem dX3_area_27 : decode cX3_area 27 = .ok (.iload_n 2, 1) := by decide +kernel
theorem dX3_area_28 : decode cX3_area 28 = .ok (.iload_n 1, 1) := by decide +kernel
theorem dX3_area_29 : decode cX3_area 29 = .ok (.if_icmp .ne 9, 3) := by decide +kernel
theorem dX3_area_32 : decode cX3_area 32 = .ok (.iload_n 3, 1) := by decide +kernel
theorem dX3_area_33 : decode cX3_area 33 = .ok (.iload_n 1, 1) := by decide +kernel
theorem dX3_area_34 : decode cX3_area 34 = .ok (.isub, 1) := by decide +kernel
theorem dX3_area_35 : decode cX3_area 35 = .ok (.iconst 1, 1) := by decide +kernel
theorem dX3_area_36 : decode cX3_area 36 = .ok (.iadd, 1) := by decide +kernel
theorem dX3_area_37 : decode cX3_area 37 = .ok (.ireturn, 1) := by decide +kernel
theorem dX3_area_38 : decode cX3_area 38 = .ok (.iinc 3 1, 3) := by decide +kernel
theorem dX3_area_41 : decode cX3_area 41 = .ok (.goto (-37), 3) := by decide +kernel
theorem dX3_area_44 : decode cX3_area 44 = .ok (.iconst (-1), 1) := by decide +kernel
theorem dX3_area_45 : decode cX3_area 45 = .ok (.ireturn, 1) := by decide +kernel
theorem dX3_writes_0 : decode cX3_writes 0 = .ok (.aload_n 0, 1) := by decide +kernel
theorem dX3_writes_1 : decode cX3_writes 1 = .ok (.getfield 9, 3) := by decide +kernel
theorem dX3_writes_4 : decode cX3_writes 4 = .ok (.bipush 80, 2) := by decide +kernel
theorem dX3_writes_6 : decode cX3_writes 6 = .ok (.iload_n 1, 1) := by decide +kernel
theorem dX3_writes_7 : decode cX3_writes 7 = .ok (.iadd, 1) := by decide +kernel
theorem dX3_writes_8 : decode cX3_writes 8 = .ok (.iload_n 2, 1) := by decide +kernel
theorem dX3_writes_9 : decode cX3_writes 9 = .ok (.iastore, 1) := by decide +kernel
theorem dX3_writes_10 : decode cX3_writes 10 = .ok (.aload_n 0, 1) := by decide +kernel
theorem dX3_writes_11 : decode cX3_writes 11 = .ok (.getfield 9, 3) := by decide +kernel
theorem dX3_writes_14 : decode cX3_writes 14 = .ok (.sipush 320, 3) := by decide +kernel
theorem dX3_writes_17 : decode cX3_writes 17 = .ok (.iload_n 1, 1) := by decide +kernel
theorem dX3_writes_18 : decode cX3_writes 18 = .ok (.iadd, 1) := by decide +kernel
theorem dX3_writes_19 : decode cX3_writes 19 = .ok (.iconst 0, 1) := by decide +kernel
theorem dX3_writes_20 : decode cX3_writes 20 = .ok (.iastore, 1) := by decide +kernel
theorem dX3_writes_21 : decode cX3_writes 21 = .ok (.aload_n 0, 1) := by decide +kernel
theorem dX3_writes_22 : decode cX3_writes 22 = .ok (.getfield 9, 3) := by decide +kernel
theorem dX3_writes_25 : decode cX3_writes 25 = .ok (.sipush 560, 3) := by decide +kernel
theorem dX3_writes_28 : decode cX3_writes 28 = .ok (.iload_n 1, 1) := by decide +kernel
theorem dX3_writes_29 : decode cX3_writes 29 = .ok (.iadd, 1) := by decide +kernel
theorem dX3_writes_30 : decode cX3_writes 30 = .ok (.iload_n 2, 1) := by decide +kernel
theorem dX3_writes_31 : decode cX3_writes 31 = .ok (.iastore, 1) := by decide +kernel
theorem dX3_writes_32 : decode cX3_writes 32 = .ok (.aload_n 0, 1) := by decide +kernel
theorem dX3_writes_33 : decode cX3_writes 33 = .ok (.getfield 9, 3) := by decide +kernel
theorem dX3_writes_36 : decode cX3_writes 36 = .ok (.sipush 808, 3) := by decide +kernel
theorem dX3_writes_39 : decode cX3_writes 39 = .ok (.dup2, 1) := by decide +kernel
theorem dX3_writes_40 : decode cX3_writes 40 = .ok (.iaload, 1) := by decide +kernel
theorem dX3_writes_41 : decode cX3_writes 41 = .ok (.iconst 1, 1) := by decide +kernel
theorem dX3_writes_42 : decode cX3_writes 42 = .ok (.iadd, 1) := by decide +kernel
theorem dX3_writes_43 : decode cX3_writes 43 = .ok (.iastore, 1) := by decide +kernel
theorem dX3_writes_44 : decode cX3_writes 44 = .ok (.return_, 1) := by decide +kernel
theorem dX3_store_0 : decode cX3_store 0 = .ok (.aload_n 0, 1) := by decide +kernel
theorem dX3_store_1 : decode cX3_store 1 = .ok (.iconst 0, 1) := by decide +kernel
theorem dX3_store_2 : decode cX3_store 2 = .ok (.putfield 67, 3) := by decide +kernel
theorem dX3_store_5 : decode cX3_store 5 = .ok (.aload_n 0, 1) := by decide +kernel
theorem dX3_store_6 : decode cX3_store 6 = .ok (.iconst 0, 1) := by decide +kernel
theorem dX3_store_7 : decode cX3_store 7 = .ok (.putfield 107, 3) := by decide +kernel
theorem dX3_store_10 : decode cX3_store 10 = .ok (.aload_n 0, 1) := by decide +kernel
theorem dX3_store_11 : decode cX3_store 11 = .ok (.iconst 0, 1) := by decide +kernel
theorem dX3_store_12 : decode cX3_store 12 = .ok (.putfield 101, 3) := by decide +kernel
theorem dX3_store_15 : decode cX3_store 15 = .ok (.aload_n 0, 1) := by decide +kernel
theorem dX3_store_16 : decode cX3_store 16 = .ok (.bipush 6, 2) := by decide +kernel
theorem dX3_store_18 : decode cX3_store 18 = .ok (.invokevirtual 114, 3) := by decide +kernel
theorem dX3_store_21 : decode cX3_store 21 = .ok (.istore_n 1, 1) := by decide +kernel
theorem dX3_store_22 : decode cX3_store 22 = .ok (.aload_n 0, 1) := by decide +kernel
theorem dX3_store_23 : decode cX3_store 23 = .ok (.getfield 107, 3) := by decide +kernel
theorem dX3_store_26 : decode cX3_store 26 = .ok (.ifCond .ne 9, 3) := by decide +kernel
theorem dX3_store_29 : decode cX3_store 29 = .ok (.aload_n 0, 1) := by decide +kernel
theorem dX3_store_30 : decode cX3_store 30 = .ok (.bipush 42, 2) := by decide +kernel
theorem dX3_store_32 : decode cX3_store 32 = .ok (.invokevirtual 117, 3) := by decide +kernel
theorem dX3_store_35 : decode cX3_store 35 = .ok (.aload_n 0, 1) := by decide +kernel
theorem dX3_store_36 : decode cX3_store 36 = .ok (.getfield 107, 3) := by decide +kernel
theorem dX3_store_39 : decode cX3_store 39 = .ok (.ifCond .eq 7, 3) := by decide +kernel
theorem dX3_store_42 : decode cX3_store 42 = .ok (.iconst 0, 1) := by decide +kernel
theorem dX3_store_43 : decode cX3_store 43 = .ok (.goto 8, 3) := by decide +kernel
theorem dX3_store_46 : decode cX3_store 46 = .ok (.aload_n 0, 1) := by decide +kernel
theorem dX3_store_47 : decode cX3_store 47 = .ok (.iconst 4, 1) := by decide +kernel
theorem dX3_store_48 : decode cX3_store 48 = .ok (.invokevirtual 114, 3) := by decide +kernel
theorem dX3_store_51 : decode cX3_store 51 = .ok (.istore_n 2, 1) := by decide +kernel
theorem dX3_store_52 : decode cX3_store 52 = .ok (.aload_n 0, 1) := by decide +kernel
theorem dX3_store_53 : decode cX3_store 53 = .ok (.getfield 107, 3) := by decide +kernel
theorem dX3_store_56 : decode cX3_store 56 = .ok (.ifCond .ne 9, 3) := by decide +kernel
theorem dX3_store_59 : decode cX3_store 59 = .ok (.aload_n 0, 1) := by decide +kernel
theorem dX3_store_60 : decode cX3_store 60 = .ok (.bipush 58, 2) := by decide +kernel
theorem dX3_store_62 : decode cX3_store 62 = .ok (.invokevirtual 117, 3) := by decide +kernel
theorem dX3_store_65 : decode cX3_store 65 = .ok (.iconst 0, 1) := by decide +kernel
theorem dX3_store_66 : decode cX3_store 66 = .ok (.istore_n 3, 1) := by decide +kernel
theorem dX3_store_67 : decode cX3_store 67 = .ok (.aload_n 0, 1) := by decide +kernel
theorem dX3_store_68 : decode cX3_store 68 = .ok (.getfield 107, 3) := by decide +kernel
theorem dX3_store_71 : decode cX3_store 71 = .ok (.ifCond .ne 48, 3) := by decide +kernel
theorem dX3_store_74 : decode cX3_store 74 = .ok (.iload_n 3, 1) := by decide +kernel
theorem dX3_store_75 : decode cX3_store 75 = .ok (.bipush 32, 2) := by decide +kernel
theorem dX3_store_77 : decode cX3_store 77 = .ok (.if_icmp .ge 42, 3) := by decide +kernel
theorem dX3_store_80 : decode cX3_store 80 = .ok (.aload_n 0, 1) := by decide +kernel
theorem dX3_store_81 : decode cX3_store 81 = .ok (.invokevirtual 104, 3) := by decide +kernel
theorem dX3_store_84 : decode cX3_store 84 = .ok (.invokestatic 121, 3) := by decide +kernel
theorem dX3_store_87 : decode cX3_store 87 = .ok (.ifCond .lt 32, 3) := by decide +kernel
theorem dX3_store_90 : decode cX3_store 90 = .ok (.aload_n 0, 1) := by decide +kernel
theorem dX3_store_91 : decode cX3_store 91 = .ok (.getfield 39, 3) := by decide +kernel
theorem dX3_store_94 : decode cX3_store 94 = .ok (.iload_n 3, 1) := by decide +kernel
theorem dX3_store_95 : decode cX3_store 95 = .ok (.aload_n 0, 1) := by decide +kernel
theorem dX3_store_96 : decode cX3_store 96 = .ok (.invokevirtual 104, 3) := by decide +kernel
theorem dX3_store_99 : decode cX3_store 99 = .ok (.invokestatic 121, 3) := by decide +kernel
theorem dX3_store_102 : decode cX3_store 102 = .ok (.iastore, 1) := by decide +kernel
theorem dX3_store_103 : decode cX3_store 103 = .ok (.iinc 3 1, 3) := by decide +kernel
theorem dX3_store_106 : decode cX3_store 106 = .ok (.aload_n 0, 1) := by decide +kernel
theorem dX3_store_107 : decode cX3_store 107 = .ok (.dup, 1) := by decide +kernel
theorem dX3_store_108 : decode cX3_store 108 = .ok (.getfield 101, 3) := by decide +kernel
theorem dX3_store_111 : decode cX3_store 111 = .ok (.iconst 1, 1) := by decide +kernel
theorem dX3_store_112 : decode cX3_store 112 = .ok (.iadd, 1) := by decide +kernel
theorem dX3_store_113 : decode cX3_store 113 = .ok (.putfield 101, 3) := by decide +kernel
theorem dX3_store_116 : decode cX3_store 116 = .ok (.goto (-49), 3) := by decide +kernel
theorem dX3_store_119 : decode cX3_store 119 = .ok (.aload_n 0, 1) := by decide +kernel
theorem dX3_store_120 : decode cX3_store 120 = .ok (.dup, 1) := by decide +kernel
theorem dX3_store_121 : decode cX3_store 121 = .ok (.getfield 107, 3) := by decide +kernel
theorem dX3_store_124 : decode cX3_store 124 = .ok (.iload_n 3, 1) := by decide +kernel
theorem dX3_store_125 : decode cX3_store 125 = .ok (.ifCond .eq 14, 3) := by decide +kernel
theorem dX3_store_128 : decode cX3_store 128 = .ok (.aload_n 0, 1) := by decide +kernel
theorem dX3_store_129 : decode cX3_store 129 = .ok (.getfield 101, 3) := by decide +kernel
theorem dX3_store_132 : decode cX3_store 132 = .ok (.aload_n 0, 1) := by decide +kernel
theorem dX3_store_133 : decode cX3_store 133 = .ok (.getfield 98, 3) := by decide +kernel
theorem dX3_store_136 : decode cX3_store 136 = .ok (.if_icmp .ge 7, 3) := by decide +kernel
theorem dX3_store_139 : decode cX3_store 139 = .ok (.iconst 1, 1) := by decide +kernel
theorem dX3_store_140 : decode cX3_store 140 = .ok (.goto 4, 3) := by decide +kernel
theorem dX3_store_143 : decode cX3_store 143 = .ok (.iconst 0, 1) := by decide +kernel
theorem dX3_store_144 : decode cX3_store 144 = .ok (.ior, 1) := by decide +kernel
theorem dX3_store_145 : decode cX3_store 145 = .ok (.putfield 107, 3) := by decide +kernel
theorem dX3_store_148 : decode cX3_store 148 = .ok (.aload_n 0, 1) := by decide +kernel
theorem dX3_store_149 : decode cX3_store 149 = .ok (.iconst 0, 1) := by decide +kernel
theorem dX3_store_150 : decode cX3_store 150 = .ok (.putfield 98, 3) := by decide +kernel
theorem dX3_store_153 : decode cX3_store 153 = .ok (.aload_n 0, 1) := by decide +kernel
theorem dX3_store_154 : decode cX3_store 154 = .ok (.getfield 107, 3) := by decide +kernel
theorem dX3_store_157 : decode cX3_store 157 = .ok (.ifCond .eq 17, 3) := by decide +kernel
theorem dX3_store_160 : decode cX3_store 160 = .ok (.aload_n 0, 1) := by decide +kernel
theorem dX3_store_161 : decode cX3_store 161 = .ok (.aload_n 0, 1) := by decide +kernel
theorem dX3_store_162 : decode cX3_store 162 = .ok (.getfield 101, 3) := by decide +kernel
theorem dX3_store_165 : decode cX3_store 165 = .ok (.putfield 19, 3) := by decide +kernel
theorem dX3_store_168 : decode cX3_store 168 = .ok (.aload_n 0, 1) := by decide +kernel
theorem dX3_store_169 : decode cX3_store 169 = .ok (.iconst 1, 1) := by decide +kernel
theorem dX3_store_170 : decode cX3_store 170 = .ok (.invokevirtual 124, 3) := by decide +kernel
theorem dX3_store_173 : decode cX3_store 173 = .ok (.ireturn, 1) := by decide +kernel
theorem dX3_store_174 : decode cX3_store 174 = .ok (.iconst 0, 1) := by decide +kernel
theorem dX3_store_175 : decode cX3_store 175 = .ok (.istore 4, 2) := by decide +kernel
theorem dX3_store_177 : decode cX3_store 177 = .ok (.iload 4, 2) := by decide +kernel
theorem dX3_store_179 : decode cX3_store 179 = .ok (.bipush 8, 2) := by decide +kernel
theorem dX3_store_181 : decode cX3_store 181 = .ok (.if_icmp .ge 18, 3) := by decide +kernel
theorem dX3_store_184 : decode cX3_store 184 = .ok (.aload_n 0, 1) := by decide +kernel
theorem dX3_store_185 : decode cX3_store 185 = .ok (.iload 4, 2) := by decide +kernel
theorem dX3_store_187 : decode cX3_store 187 = .ok (.invokevirtual 87, 3) := by decide +kernel
theorem dX3_store_190 : decode cX3_store 190 = .ok (.ifCond .eq 9, 3) := by decide +kernel
theorem dX3_store_193 : decode cX3_store 193 = .ok (.iinc 4 1, 3) := by decide +kernel
theorem dX3_store_196 : decode cX3_store 196 = .ok (.goto (-19), 3) := by decide +kernel
theorem dX3_store_199 : decode cX3_store 199 = .ok (.aload_n 0, 1) := by decide +kernel
theorem dX3_store_200 : decode cX3_store 200 = .ok (.iload_n 3, 1) := by decide +kernel
theorem dX3_store_201 : decode cX3_store 201 = .ok (.bipush 8, 2) := by decide +kernel
theorem dX3_store_203 : decode cX3_store 203 = .ok (.iadd, 1) := by decide +kernel
theorem dX3_store_204 : decode cX3_store 204 = .ok (.iconst 1, 1) := by decide +kernel
theorem dX3_store_205 : decode cX3_store 205 = .ok (.isub, 1) := by decide +kernel
theorem dX3_store_206 : decode cX3_store 206 = .ok (.bipush 8, 2) := by decide +kernel
theorem dX3_store_208 : decode cX3_store 208 = .ok (.idiv, 1) := by decide +kernel
theorem dX3_store_209 : decode cX3_store 209 = .ok (.iload_n 1, 1) := by decide +kernel
theorem dX3_store_210 : decode cX3_store 210 = .ok (.bipush 8, 2) := by decide +kernel
theorem dX3_store_212 : decode cX3_store 212 = .ok (.iadd, 1) := by decide +kernel
theorem dX3_store_213 : decode cX3_store 213 = .ok (.imul, 1) := by decide +kernel
theorem dX3_store_214 : decode cX3_store 214 = .ok (.invokevirtual 127, 3) := by decide +kernel
theorem dX3_store_217 : decode cX3_store 217 = .ok (.istore 5, 2) := by decide +kernel
theorem dX3_store_219 : decode cX3_store 219 = .ok (.iload 4, 2) := by decide +kernel
theorem dX3_store_221 : decode cX3_store 221 = .ok (.bipush 8, 2) := by decide +kernel
theorem dX3_store_223 : decode cX3_store 223 = .ok (.if_icmp .eq 8, 3) := by decide +kernel
theorem dX3_store_226 : decode cX3_store 226 = .ok (.iload 5, 2) := by decide +kernel
theorem dX3_store_228 : decode cX3_store 228 = .ok (.ifCond .ge 9, 3) := by decide +kernel
theorem dX3_store_231 : decode cX3_store 231 = .ok (.aload_n 0, 1) := by decide +kernel
theorem dX3_store_232 : decode cX3_store 232 = .ok (.iconst 2, 1) := by decide +kernel
theorem dX3_store_233 : decode cX3_store 233 = .ok (.invokevirtual 124, 3) := by decide +kernel
theorem dX3_store_236 : decode cX3_store 236 = .ok (.ireturn, 1) := by decide +kernel
theorem dX3_store_237 : decode cX3_store 237 = .ok (.aload_n 0, 1) := by decide +kernel
theorem dX3_store_238 : decode cX3_store 238 = .ok (.invokevirtual 130, 3) := by decide +kernel
theorem dX3_store_241 : decode cX3_store 241 = .ok (.bipush 10, 2) := by decide +kernel
theorem dX3_store_243 : decode cX3_store 243 = .ok (.iload 4, 2) := by decide +kernel
theorem dX3_store_245 : decode cX3_store 245 = .ok (.imul, 1) := by decide +kernel
theorem dX3_store_246 : decode cX3_store 246 = .ok (.istore 6, 2) := by decide +kernel
theorem dX3_store_248 : decode cX3_store 248 = .ok (.aload_n 0, 1) := by decide +kernel
theorem dX3_store_249 : decode cX3_store 249 = .ok (.getfield 9, 3) := by decide +kernel
theorem dX3_store_252 : decode cX3_store 252 = .ok (.iload 6, 2) := by decide +kernel
theorem dX3_store_254 : decode cX3_store 254 = .ok (.iconst 1, 1) := by decide +kernel
theorem dX3_store_255 : decode cX3_store 255 = .ok (.iastore, 1) := by decide +kernel
theorem dX3_store_256 : decode cX3_store 256 = .ok (.aload_n 0, 1) := by decide +kernel
theorem dX3_store_257 : decode cX3_store 257 = .ok (.getfield 9, 3) := by decide +kernel
theorem dX3_store_260 : decode cX3_store 260 = .ok (.iload 6, 2) := by decide +kernel
theorem dX3_store_262 : decode cX3_store 262 = .ok (.iconst 1, 1) := by decide +kernel
theorem dX3_store_263 : decode cX3_store 263 = .ok (.iadd, 1) := by decide +kernel
theorem dX3_store_264 : decode cX3_store 264 = .ok (.iload_n 3, 1) := by decide +kernel
theorem dX3_store_265 : decode cX3_store 265 = .ok (.iastore, 1) := by decide +kernel
theorem dX3_store_266 : decode cX3_store 266 = .ok (.aload_n 0, 1) := by decide +kernel
theorem dX3_store_267 : decode cX3_store 267 = .ok (.getfield 9, 3) := by decide +kernel
theorem dX3_store_270 : decode cX3_store 270 = .ok (.iload 6, 2) := by decide +kernel
theorem dX3_store_272 : decode cX3_store 272 = .ok (.iconst 2, 1) := by decide +kernel
theorem dX3_store_273 : decode cX3_store 273 = .ok (.iadd, 1) := by decide +kernel
theorem dX3_store_274 : decode cX3_store 274 = .ok (.iload_n 1, 1) := by decide +kernel
theorem dX3_store_275 : decode cX3_store 275 = .ok (.iastore, 1) := by decide +kernel
theorem dX3_store_276 : decode cX3_store 276 = .ok (.aload_n 0, 1) := by decide +kernel
theorem dX3_store_277 : decode cX3_store 277 = .ok (.getfield 9, 3) := by decide +kernel
theorem dX3_store_280 : decode cX3_store 280 = .ok (.iload 6, 2) := by decide +kernel
theorem dX3_store_282 : decode cX3_store 282 = .ok (.iconst 3, 1) := by decide +kernel
theorem dX3_store_283 : decode cX3_store 283 = .ok (.iadd, 1) := by decide +kernel
theorem dX3_store_284 : decode cX3_store 284 = .ok (.iload_n 2, 1) := by decide +kernel
theorem dX3_store_285 : decode cX3_store 285 = .ok (.iastore, 1) := by decide +kernel
theorem dX3_store_286 : decode cX3_store 286 = .ok (.aload_n 0, 1) := by decide +kernel
theorem dX3_store_287 : decode cX3_store 287 = .ok (.getfield 9, 3) := by decide +kernel
theorem dX3_store_290 : decode cX3_store 290 = .ok (.iload 6, 2) := by decide +kernel
theorem dX3_store_292 : decode cX3_store 292 = .ok (.iconst 5, 1) := by decide +kernel
theorem dX3_store_293 : decode cX3_store 293 = .ok (.iadd, 1) := by decide +kernel
theorem dX3_store_294 : decode cX3_store 294 = .ok (.iload 5, 2) := by decide +kernel
theorem dX3_store_296 : decode cX3_store 296 = .ok (.iastore, 1) := by decide +kernel
theorem dX3_store_297 : decode cX3_store 297 = .ok (.iconst 1, 1) := by decide +kernel
theorem dX3_store_298 : decode cX3_store 298 = .ok (.istore 7, 2) := by decide +kernel
theorem dX3_store_300 : decode cX3_store 300 = .ok (.iconst 0, 1) := by decide +kernel
theorem dX3_store_301 : decode cX3_store 301 = .ok (.istore 8, 2) := by decide +kernel
theorem dX3_store_303 : decode cX3_store 303 = .ok (.iload 8, 2) := by decide +kernel
theorem dX3_store_305 : decode cX3_store 305 = .ok (.iload_n 3, 1) := by decide +kernel
theorem dX3_store_306 : decode cX3_store 306 = .ok (.if_icmp .ge 28, 3) := by decide +kernel
theorem dX3_store_309 : decode cX3_store 309 = .ok (.iload 7, 2) := by decide +kernel
theorem dX3_store_311 : decode cX3_store 311 = .ok (.bipush 17, 2) := by decide +kernel
theorem dX3_store_313 : decode cX3_store 313 = .ok (.imul, 1) := by decide +kernel
theorem dX3_store_314 : decode cX3_store 314 = .ok (.aload_n 0, 1) := by decide +kernel
theorem dX3_store_315 : decode cX3_store 315 = .ok (.getfield 39, 3) := by decide +kernel
theorem dX3_store_318 : decode cX3_store 318 = .ok (.iload 8, 2) := by decide +kernel
theorem dX3_store_320 : decode cX3_store 320 = .ok (.iaload, 1) := by decide +kernel
theorem dX3_store_321 : decode cX3_store 321 = .ok (.iadd, 1) := by decide +kernel
theorem dX3_store_322 : decode cX3_store 322 = .ok (.sipush 251, 3) := by decide +kernel
theorem dX3_store_325 : decode cX3_store 325 = .ok (.irem, 1) := by decide +kernel
theorem dX3_store_326 : decode cX3_store 326 = .ok (.istore 7, 2) := by decide +kernel
theorem dX3_store_328 : decode cX3_store 328 = .ok (.iinc 8 1, 3) := by decide +kernel
theorem dX3_store_331 : decode cX3_store 331 = .ok (.goto (-28), 3) := by decide +kernel
theorem dX3_store_334 : decode cX3_store 334 = .ok (.aload_n 0, 1) := by decide +kernel
theorem dX3_store_335 : decode cX3_store 335 = .ok (.getfield 9, 3) := by decide +kernel
theorem dX3_store_338 : decode cX3_store 338 = .ok (.iload 6, 2) := by decide +kernel
theorem dX3_store_340 : decode cX3_store 340 = .ok (.iconst 4, 1) := by decide +kernel
theorem dX3_store_341 : decode cX3_store 341 = .ok (.iadd, 1) := by decide +kernel
theorem dX3_store_342 : decode cX3_store 342 = .ok (.iload 7, 2) := by decide +kernel
theorem dX3_store_344 : decode cX3_store 344 = .ok (.iastore, 1) := by decide +kernel
theorem dX3_store_345 : decode cX3_store 345 = .ok (.iconst 0, 1) := by decide +kernel
theorem dX3_store_346 : decode cX3_store 346 = .ok (.istore 8, 2) := by decide +kernel
theorem dX3_store_348 : decode cX3_store 348 = .ok (.iload 8, 2) := by decide +kernel
theorem dX3_store_350 : decode cX3_store 350 = .ok (.aload_n 0, 1) := by decide +kernel
theorem dX3_store_351 : decode cX3_store 351 = .ok (.iload 4, 2) := by decide +kernel
theorem dX3_store_353 : decode cX3_store 353 = .ok (.invokevirtual 80, 3) := by decide +kernel
theorem dX3_store_356 : decode cX3_store 356 = .ok (.if_icmp .ge 178, 3) := by decide +kernel
theorem dX3_store_359 : decode cX3_store 359 = .ok (.aload_n 0, 1) := by decide +kernel
theorem dX3_store_360 : decode cX3_store 360 = .ok (.getfield 9, 3) := by decide +kernel
theorem dX3_store_363 : decode cX3_store 363 = .ok (.iload 6, 2) := by decide +kernel
theorem dX3_store_365 : decode cX3_store 365 = .ok (.bipush 6, 2) := by decide +kernel
theorem dX3_store_367 : decode cX3_store 367 = .ok (.iadd, 1) := by decide +kernel
theorem dX3_store_368 : decode cX3_store 368 = .ok (.iload 8, 2) := by decide +kernel
theorem dX3_store_370 : decode cX3_store 370 = .ok (.iadd, 1) := by decide +kernel
theorem dX3_store_371 : decode cX3_store 371 = .ok (.aload_n 0, 1) := by decide +kernel
theorem dX3_store_372 : decode cX3_store 372 = .ok (.getfield 9, 3) := by decide +kernel
theorem dX3_store_375 : decode cX3_store 375 = .ok (.sipush 800, 3) := by decide +kernel
theorem dX3_store_378 : decode cX3_store 378 = .ok (.iaload, 1) := by decide +kernel
theorem dX3_store_379 : decode cX3_store 379 = .ok (.iastore, 1) := by decide +kernel
theorem dX3_store_380 : decode cX3_store 380 = .ok (.aload_n 0, 1) := by decide +kernel
theorem dX3_store_381 : decode cX3_store 381 = .ok (.aload_n 0, 1) := by decide +kernel
theorem dX3_store_382 : decode cX3_store 382 = .ok (.iload 4, 2) := by decide +kernel
theorem dX3_store_384 : decode cX3_store 384 = .ok (.invokevirtual 84, 3) := by decide +kernel
theorem dX3_store_387 : decode cX3_store 387 = .ok (.putfield 133, 3) := by decide +kernel
theorem dX3_store_390 : decode cX3_store 390 = .ok (.aload_n 0, 1) := by decide +kernel
theorem dX3_store_391 : decode cX3_store 391 = .ok (.iload_n 1, 1) := by decide +kernel
theorem dX3_store_392 : decode cX3_store 392 = .ok (.putfield 135, 3) := by decide +kernel
theorem dX3_store_395 : decode cX3_store 395 = .ok (.aload_n 0, 1) := by decide +kernel
theorem dX3_store_396 : decode cX3_store 396 = .ok (.iconst 0, 1) := by decide +kernel
theorem dX3_store_397 : decode cX3_store 397 = .ok (.putfield 138, 3) := by decide +kernel
theorem dX3_store_400 : decode cX3_store 400 = .ok (.iconst 0, 1) := by decide +kernel
theorem dX3_store_401 : decode cX3_store 401 = .ok (.istore 9, 2) := by decide +kernel
theorem dX3_store_403 : decode cX3_store 403 = .ok (.iload 9, 2) := by decide +kernel
theorem dX3_store_405 : decode cX3_store 405 = .ok (.aload_n 0, 1) := by decide +kernel
theorem dX3_store_406 : decode cX3_store 406 = .ok (.getfield 133, 3) := by decide +kernel
theorem dX3_store_409 : decode cX3_store 409 = .ok (.if_icmp .ge 74, 3) := by decide +kernel
theorem dX3_store_412 : decode cX3_store 412 = .ok (.bipush 8, 2) := by decide +kernel
theorem dX3_store_414 : decode cX3_store 414 = .ok (.iload 8, 2) := by decide +kernel
theorem dX3_store_416 : decode cX3_store 416 = .ok (.imul, 1) := by decide +kernel
theorem dX3_store_417 : decode cX3_store 417 = .ok (.iload 9, 2) := by decide +kernel
theorem dX3_store_419 : decode cX3_store 419 = .ok (.iadd, 1) := by decide +kernel
theorem dX3_store_420 : decode cX3_store 420 = .ok (.iload_n 1, 1) := by decide +kernel
theorem dX3_store_421 : decode cX3_store 421 = .ok (.isub, 1) := by decide +kernel
theorem dX3_store_422 : decode cX3_store 422 = .ok (.istore 10, 2) := by decide +kernel
theorem dX3_store_424 : decode cX3_store 424 = .ok (.aload_n 0, 1) := by decide +kernel
theorem dX3_store_425 : decode cX3_store 425 = .ok (.getfield 42, 3) := by decide +kernel
theorem dX3_store_428 : decode cX3_store 428 = .ok (.iload 9, 2) := by decide +kernel
theorem dX3_store_430 : decode cX3_store 430 = .ok (.iload 9, 2) := by decide +kernel
theorem dX3_store_432 : decode cX3_store 432 = .ok (.iload_n 1, 1) := by decide +kernel
theorem dX3_store_433 : decode cX3_store 433 = .ok (.if_icmp .lt 19, 3) := by decide +kernel
theorem dX3_store_436 : decode cX3_store 436 = .ok (.iload 10, 2) := by decide +kernel
theorem dX3_store_438 : decode cX3_store 438 = .ok (.iload_n 3, 1) := by decide +kernel
theorem dX3_store_439 : decode cX3_store 439 = .ok (.if_icmp .ge 13, 3) := by decide +kernel
theorem dX3_store_442 : decode cX3_store 442 = .ok (.aload_n 0, 1) := by decide +kernel
theorem dX3_store_443 : decode cX3_store 443 = .ok (.getfield 39, 3) := by decide +kernel
theorem dX3_store_446 : decode cX3_store 446 = .ok (.iload 10, 2) := by decide +kernel
theorem dX3_store_448 : decode cX3_store 448 = .ok (.iaload, 1) := by decide +kernel
theorem dX3_store_449 : decode cX3_store 449 = .ok (.goto 4, 3) := by decide +kernel
theorem dX3_store_452 : decode cX3_store 452 = .ok (.iconst 0, 1) := by decide +kernel
theorem dX3_store_453 : decode cX3_store 453 = .ok (.iastore, 1) := by decide +kernel
theorem dX3_store_454 : decode cX3_store 454 = .ok (.aload_n 0, 1) := by decide +kernel
theorem dX3_store_455 : decode cX3_store 455 = .ok (.dup, 1) := by decide +kernel
theorem dX3_store_456 : decode cX3_store 456 = .ok (.getfield 138, 3) := by decide +kernel
theorem dX3_store_459 : decode cX3_store 459 = .ok (.iload 9, 2) := by decide +kernel
theorem dX3_store_461 : decode cX3_store 461 = .ok (.iload_n 1, 1) := by decide +kernel
theorem dX3_store_462 : decode cX3_store 462 = .ok (.if_icmp .ge 10, 3) := by decide +kernel
theorem dX3_store_465 : decode cX3_store 465 = .ok (.iconst 1, 1) := by decide +kernel
theorem dX3_store_466 : decode cX3_store 466 = .ok (.iload 9, 2) := by decide +kernel
theorem dX3_store_468 : decode cX3_store 468 = .ok (.ishl, 1) := by decide +kernel
theorem dX3_store_469 : decode cX3_store 469 = .ok (.goto 4, 3) := by decide +kernel
theorem dX3_store_472 : decode cX3_store 472 = .ok (.iconst 0, 1) := by decide +kernel
theorem dX3_store_473 : decode cX3_store 473 = .ok (.ior, 1) := by decide +kernel
theorem dX3_store_474 : decode cX3_store 474 = .ok (.putfield 138, 3) := by decide +kernel
theorem dX3_store_477 : decode cX3_store 477 = .ok (.iinc 9 1, 3) := by decide +kernel
theorem dX3_store_480 : decode cX3_store 480 = .ok (.goto (-77), 3) := by decide +kernel
theorem dX3_store_483 : decode cX3_store 483 = .ok (.aload_n 0, 1) := by decide +kernel
theorem dX3_store_484 : decode cX3_store 484 = .ok (.invokevirtual 141, 3) := by decide +kernel
theorem dX3_store_487 : decode cX3_store 487 = .ok (.istore 9, 2) := by decide +kernel
theorem dX3_store_489 : decode cX3_store 489 = .ok (.iconst 0, 1) := by decide +kernel
theorem dX3_store_490 : decode cX3_store 490 = .ok (.istore 10, 2) := by decide +kernel
theorem dX3_store_492 : decode cX3_store 492 = .ok (.iload 10, 2) := by decide +kernel
theorem dX3_store_494 : decode cX3_store 494 = .ok (.aload_n 0, 1) := by decide +kernel
theorem dX3_store_495 : decode cX3_store 495 = .ok (.getfield 133, 3) := by decide +kernel
theorem dX3_store_498 : decode cX3_store 498 = .ok (.if_icmp .ge 30, 3) := by decide +kernel
theorem dX3_store_501 : decode cX3_store 501 = .ok (.aload_n 0, 1) := by decide +kernel
theorem dX3_store_502 : decode cX3_store 502 = .ok (.aload_n 0, 1) := by decide +kernel
theorem dX3_store_503 : decode cX3_store 503 = .ok (.iload 4, 2) := by decide +kernel
theorem dX3_store_505 : decode cX3_store 505 = .ok (.iload 8, 2) := by decide +kernel
theorem dX3_store_507 : decode cX3_store 507 = .ok (.iload 10, 2) := by decide +kernel
theorem dX3_store_509 : decode cX3_store 509 = .ok (.invokevirtual 145, 3) := by decide +kernel
theorem dX3_store_512 : decode cX3_store 512 = .ok (.aload_n 0, 1) := by decide +kernel
theorem dX3_store_513 : decode cX3_store 513 = .ok (.getfield 45, 3) := by decide +kernel
theorem dX3_store_516 : decode cX3_store 516 = .ok (.iload 10, 2) := by decide +kernel
theorem dX3_store_518 : decode cX3_store 518 = .ok (.iaload, 1) := by decide +kernel
theorem dX3_store_519 : decode cX3_store 519 = .ok (.invokevirtual 149, 3) := by decide +kernel
theorem dX3_store_522 : decode cX3_store 522 = .ok (.iinc 10 1, 3) := by decide +kernel
theorem dX3_store_525 : decode cX3_store 525 = .ok (.goto (-33), 3) := by decide +kernel
theorem dX3_store_528 : decode cX3_store 528 = .ok (.iinc 8 1, 3) := by decide +kernel
theorem dX3_store_531 : decode cX3_store 531 = .ok (.goto (-183), 3) := by decide +kernel
theorem dX3_store_534 : decode cX3_store 534 = .ok (.iload 4, 2) := by decide +kernel
theorem dX3_store_536 : decode cX3_store 536 = .ok (.ireturn, 1) := by decide +kernel
theorem dX3_errorPosition_0 : decode cX3_errorPosition 0 = .ok (.aload_n 0, 1) := by decide +kernel
theorem dX3_errorPosition_1 : decode cX3_errorPosition 1 = .ok (.aload_n 0, 1) := by decide +kernel
theorem dX3_errorPosition_2 : decode cX3_errorPosition 2 = .ok (.getfield 19, 3) := by decide +kernel
theorem dX3_errorPosition_5 : decode cX3_errorPosition 5 = .ok (.ifCond .ge 7, 3) := by decide +kernel
theorem dX3_errorPosition_8 : decode cX3_errorPosition 8 = .ok (.iconst 1, 1) := by decide +kernel
theorem dX3_errorPosition_9 : decode cX3_errorPosition 9 = .ok (.goto 4, 3) := by decide +kernel
theorem dX3_errorPosition_12 : decode cX3_errorPosition 12 = .ok (.iconst 0, 1) := by decide +kernel
theorem dX3_errorPosition_13 : decode cX3_errorPosition 13 = .ok (.putfield 67, 3) := by decide +kernel
theorem dX3_errorPosition_16 : decode cX3_errorPosition 16 = .ok (.aload_n 0, 1) := by decide +kernel
theorem dX3_errorPosition_17 : decode cX3_errorPosition 17 = .ok (.getfield 67, 3) := by decide +kernel
theorem dX3_errorPosition_20 : decode cX3_errorPosition 20 = .ok (.ifCond .ne 10, 3) := by decide +kernel
theorem dX3_errorPosition_23 : decode cX3_errorPosition 23 = .ok (.aload_n 0, 1) := by decide +kernel
theorem dX3_errorPosition_24 : decode cX3_errorPosition 24 = .ok (.getfield 19, 3) := by decide +kernel
theorem dX3_errorPosition_27 : decode cX3_errorPosition 27 = .ok (.goto 4, 3) := by decide +kernel
theorem dX3_errorPosition_30 : decode cX3_errorPosition 30 = .ok (.iconst 0, 1) := by decide +kernel
theorem dX3_errorPosition_31 : decode cX3_errorPosition 31 = .ok (.ireturn, 1) := by decide +kernel
theorem dX3_remove_0 : decode cX3_remove 0 = .ok (.aload_n 0, 1) := by decide +kernel
theorem dX3_remove_1 : decode cX3_remove 1 = .ok (.aload_n 0, 1) := by decide +kernel
theorem dX3_remove_2 : decode cX3_remove 2 = .ok (.iload_n 1, 1) := by decide +kernel
theorem dX3_remove_3 : decode cX3_remove 3 = .ok (.invokevirtual 87, 3) := by decide +kernel
theorem dX3_remove_6 : decode cX3_remove 6 = .ok (.ifCond .eq 7, 3) := by decide +kernel
theorem dX3_remove_9 : decode cX3_remove 9 = .ok (.iconst 0, 1) := by decide +kernel
theorem dX3_remove_10 : decode cX3_remove 10 = .ok (.goto 4, 3) := by decide +kernel
theorem dX3_remove_13 : decode cX3_remove 13 = .ok (.iconst 1, 1) := by decide +kernel
theorem dX3_remove_14 : decode cX3_remove 14 = .ok (.putfield 67, 3) := by decide +kernel
theorem dX3_remove_17 : decode cX3_remove 17 = .ok (.aload_n 0, 1) := by decide +kernel
theorem dX3_remove_18 : decode cX3_remove 18 = .ok (.getfield 67, 3) := by decide +kernel
theorem dX3_remove_21 : decode cX3_remove 21 = .ok (.iconst 1, 1) := by decide +kernel
theorem dX3_remove_22 : decode cX3_remove 22 = .ok (.if_icmp .ne 5, 3) := by decide +kernel
theorem dX3_remove_25 : decode cX3_remove 25 = .ok (.iconst 0, 1) := by decide +kernel
theorem dX3_remove_26 : decode cX3_remove 26 = .ok (.ireturn, 1) := by decide +kernel
theorem dX3_remove_27 : decode cX3_remove 27 = .ok (.aload_n 0, 1) := by decide +kernel
theorem dX3_remove_28 : decode cX3_remove 28 = .ok (.invokevirtual 130, 3) := by decide +kernel
theorem dX3_remove_31 : decode cX3_remove 31 = .ok (.iconst 0, 1) := by decide +kernel
theorem dX3_remove_32 : decode cX3_remove 32 = .ok (.istore_n 2, 1) := by decide +kernel
theorem dX3_remove_33 : decode cX3_remove 33 = .ok (.iload_n 2, 1) := by decide +kernel
theorem dX3_remove_34 : decode cX3_remove 34 = .ok (.bipush 10, 2) := by decide +kernel
theorem dX3_remove_36 : decode cX3_remove 36 = .ok (.if_icmp .ge 21, 3) := by decide +kernel
theorem dX3_remove_39 : decode cX3_remove 39 = .ok (.aload_n 0, 1) := by decide +kernel
theorem dX3_remove_40 : decode cX3_remove 40 = .ok (.getfield 9, 3) := by decide +kernel
theorem dX3_remove_43 : decode cX3_remove 43 = .ok (.bipush 10, 2) := by decide +kernel
theorem dX3_remove_45 : decode cX3_remove 45 = .ok (.iload_n 1, 1) := by decide +kernel
theorem dX3_remove_46 : decode cX3_remove 46 = .ok (.imul, 1) := by decide +kernel
theorem dX3_remove_47 : decode cX3_remove 47 = .ok (.iload_n 2, 1) := by decide +kernel
theorem dX3_remove_48 : decode cX3_remove 48 = .ok (.iadd, 1) := by decide +kernel
theorem dX3_remove_49 : decode cX3_remove 49 = .ok (.iconst 0, 1) := by decide +kernel
theorem dX3_remove_50 : decode cX3_remove 50 = .ok (.iastore, 1) := by decide +kernel
theorem dX3_remove_51 : decode cX3_remove 51 = .ok (.iinc 2 1, 3) := by decide +kernel
theorem dX3_remove_54 : decode cX3_remove 54 = .ok (.goto (-21), 3) := by decide +kernel
theorem dX3_remove_57 : decode cX3_remove 57 = .ok (.aload_n 0, 1) := by decide +kernel
theorem dX3_remove_58 : decode cX3_remove 58 = .ok (.invokevirtual 94, 3) := by decide +kernel
theorem dX3_remove_61 : decode cX3_remove 61 = .ok (.ireturn, 1) := by decide +kernel
theorem dX3_file_0 : decode cX3_file 0 = .ok (.aload_n 0, 1) := by decide +kernel
theorem dX3_file_1 : decode cX3_file 1 = .ok (.aload_n 0, 1) := by decide +kernel
theorem dX3_file_2 : decode cX3_file 2 = .ok (.iload_n 1, 1) := by decide +kernel
theorem dX3_file_3 : decode cX3_file 3 = .ok (.invokevirtual 87, 3) := by decide +kernel
theorem dX3_file_6 : decode cX3_file 6 = .ok (.ifCond .ne 7, 3) := by decide +kernel
theorem dX3_file_9 : decode cX3_file 9 = .ok (.iconst 1, 1) := by decide +kernel
theorem dX3_file_10 : decode cX3_file 10 = .ok (.goto 18, 3) := by decide +kernel
theorem dX3_file_13 : decode cX3_file 13 = .ok (.iload_n 2, 1) := by decide +kernel
theorem dX3_file_14 : decode cX3_file 14 = .ok (.iconst 0, 1) := by decide +kernel
theorem dX3_file_15 : decode cX3_file 15 = .ok (.bipush 6, 2) := by decide +kernel
theorem dX3_file_17 : decode cX3_file 17 = .ok (.invokestatic 73, 3) := by decide +kernel
theorem dX3_file_20 : decode cX3_file 20 = .ok (.ifCond .ne 7, 3) := by decide +kernel
theorem dX3_file_23 : decode cX3_file 23 = .ok (.iconst 2, 1) := by decide +kernel
theorem dX3_file_24 : decode cX3_file 24 = .ok (.goto 4, 3) := by decide +kernel
theorem dX3_file_27 : decode cX3_file 27 = .ok (.iconst 0, 1) := by decide +kernel
theorem dX3_file_28 : decode cX3_file 28 = .ok (.putfield 67, 3) := by decide +kernel
theorem dX3_file_31 : decode cX3_file 31 = .ok (.aload_n 0, 1) := by decide +kernel
theorem dX3_file_32 : decode cX3_file 32 = .ok (.getfield 67, 3) := by decide +kernel
theorem dX3_file_35 : decode cX3_file 35 = .ok (.ifCond .le 5, 3) := by decide +kernel
theorem dX3_file_38 : decode cX3_file 38 = .ok (.iconst 0, 1) := by decide +kernel
theorem dX3_file_39 : decode cX3_file 39 = .ok (.ireturn, 1) := by decide +kernel
theorem dX3_file_40 : decode cX3_file 40 = .ok (.iload_n 2, 1) := by decide +kernel
theorem dX3_file_41 : decode cX3_file 41 = .ok (.iconst 4, 1) := by decide +kernel
theorem dX3_file_42 : decode cX3_file 42 = .ok (.if_icmp .ge 14, 3) := by decide +kernel
theorem dX3_file_45 : decode cX3_file 45 = .ok (.aload_n 0, 1) := by decide +kernel
theorem dX3_file_46 : decode cX3_file 46 = .ok (.iload_n 1, 1) := by decide +kernel
theorem dX3_file_47 : decode cX3_file 47 = .ok (.iconst 1, 1) := by decide +kernel
theorem dX3_file_48 : decode cX3_file 48 = .ok (.iload_n 2, 1) := by decide +kernel
theorem dX3_file_49 : decode cX3_file 49 = .ok (.iadd, 1) := by decide +kernel
theorem dX3_file_50 : decode cX3_file 50 = .ok (.invokevirtual 77, 3) := by decide +kernel
theorem dX3_file_53 : decode cX3_file 53 = .ok (.goto 35, 3) := by decide +kernel
theorem dX3_file_56 : decode cX3_file 56 = .ok (.iload_n 2, 1) := by decide +kernel
theorem dX3_file_57 : decode cX3_file 57 = .ok (.iconst 4, 1) := by decide +kernel
theorem dX3_file_58 : decode cX3_file 58 = .ok (.if_icmp .ne 11, 3) := by decide +kernel
theorem dX3_file_61 : decode cX3_file 61 = .ok (.aload_n 0, 1) := by decide +kernel
theorem dX3_file_62 : decode cX3_file 62 = .ok (.iload_n 1, 1) := by decide +kernel
theorem dX3_file_63 : decode cX3_file 63 = .ok (.invokevirtual 80, 3) := by decide +kernel
theorem dX3_file_66 : decode cX3_file 66 = .ok (.goto 22, 3) := by decide +kernel
theorem dX3_file_69 : decode cX3_file 69 = .ok (.iload_n 2, 1) := by decide +kernel
theorem dX3_file_70 : decode cX3_file 70 = .ok (.iconst 5, 1) := by decide +kernel
theorem dX3_file_71 : decode cX3_file 71 = .ok (.if_icmp .ne 12, 3) := by decide +kernel
theorem dX3_file_74 : decode cX3_file 74 = .ok (.aload_n 0, 1) := by decide +kernel
theorem dX3_file_75 : decode cX3_file 75 = .ok (.iload_n 1, 1) := by decide +kernel
theorem dX3_file_76 : decode cX3_file 76 = .ok (.iconst 5, 1) := by decide +kernel
theorem dX3_file_77 : decode cX3_file 77 = .ok (.invokevirtual 77, 3) := by decide +kernel
theorem dX3_file_80 : decode cX3_file 80 = .ok (.goto 8, 3) := by decide +kernel
theorem dX3_file_83 : decode cX3_file 83 = .ok (.aload_n 0, 1) := by decide +kernel
theorem dX3_file_84 : decode cX3_file 84 = .ok (.iload_n 1, 1) := by decide +kernel
theorem dX3_file_85 : decode cX3_file 85 = .ok (.invokevirtual 91, 3) := by decide +kernel
theorem dX3_file_88 : decode cX3_file 88 = .ok (.ireturn, 1) := by decide +kernel
theorem dX3_files_0 : decode cX3_files 0 = .ok (.aload_n 0, 1) := by decide +kernel
theorem dX3_files_1 : decode cX3_files 1 = .ok (.iconst 0, 1) := by decide +kernel
theorem dX3_files_2 : decode cX3_files 2 = .ok (.putfield 67, 3) := by decide +kernel
theorem dX3_files_5 : decode cX3_files 5 = .ok (.iconst 0, 1) := by decide +kernel
theorem dX3_files_6 : decode cX3_files 6 = .ok (.istore_n 1, 1) := by decide +kernel
theorem dX3_files_7 : decode cX3_files 7 = .ok (.iconst 0, 1) := by decide +kernel
theorem dX3_files_8 : decode cX3_files 8 = .ok (.istore_n 2, 1) := by decide +kernel
theorem dX3_files_9 : decode cX3_files 9 = .ok (.iload_n 2, 1) := by decide +kernel
theorem dX3_files_10 : decode cX3_files 10 = .ok (.bipush 8, 2) := by decide +kernel
theorem dX3_files_12 : decode cX3_files 12 = .ok (.if_icmp .ge 27, 3) := by decide +kernel
theorem dX3_files_15 : decode cX3_files 15 = .ok (.iload_n 1, 1) := by decide +kernel
theorem dX3_files_16 : decode cX3_files 16 = .ok (.aload_n 0, 1) := by decide +kernel
theorem dX3_files_17 : decode cX3_files 17 = .ok (.iload_n 2, 1) := by decide +kernel
theorem dX3_files_18 : decode cX3_files 18 = .ok (.invokevirtual 87, 3) := by decide +kernel
theorem dX3_files_21 : decode cX3_files 21 = .ok (.ifCond .eq 9, 3) := by decide +kernel
theorem dX3_files_24 : decode cX3_files 24 = .ok (.iconst 1, 1) := by decide +kernel
theorem dX3_files_25 : decode cX3_files 25 = .ok (.iload_n 2, 1) := by decide +kernel
theorem dX3_files_26 : decode cX3_files 26 = .ok (.ishl, 1) := by decide +kernel
theorem dX3_files_27 : decode cX3_files 27 = .ok (.goto 4, 3) := by decide +kernel
theorem dX3_files_30 : decode cX3_files 30 = .ok (.iconst 0, 1) := by decide +kernel
theorem dX3_files_31 : decode cX3_files 31 = .ok (.ior, 1) := by decide +kernel
theorem dX3_files_32 : decode cX3_files 32 = .ok (.istore_n 1, 1) := by decide +kernel
theorem dX3_files_33 : decode cX3_files 33 = .ok (.iinc 2 1, 3) := by decide +kernel
theorem dX3_files_36 : decode cX3_files 36 = .ok (.goto (-27), 3) := by decide +kernel
theorem dX3_files_39 : decode cX3_files 39 = .ok (.iload_n 1, 1) := by decide +kernel
theorem dX3_files_40 : decode cX3_files 40 = .ok (.ireturn, 1) := by decide +kernel
theorem dX3_isPlace_0 : decode cX3_isPlace 0 = .ok (.aload_n 0, 1) := by decide +kernel
theorem dX3_isPlace_1 : decode cX3_isPlace 1 = .ok (.aload_n 0, 1) := by decide +kernel
theorem dX3_isPlace_2 : decode cX3_isPlace 2 = .ok (.iload_n 1, 1) := by decide +kernel
theorem dX3_isPlace_3 : decode cX3_isPlace 3 = .ok (.iload_n 2, 1) := by decide +kernel
theorem dX3_isPlace_4 : decode cX3_isPlace 4 = .ok (.invokevirtual 153, 3) := by decide +kernel
theorem dX3_isPlace_7 : decode cX3_isPlace 7 = .ok (.ifCond .eq 22, 3) := by decide +kernel
theorem dX3_isPlace_10 : decode cX3_isPlace 10 = .ok (.iload_n 3, 1) := by decide +kernel
theorem dX3_isPlace_11 : decode cX3_isPlace 11 = .ok (.iconst 0, 1) := by decide +kernel
theorem dX3_isPlace_12 : decode cX3_isPlace 12 = .ok (.aload_n 0, 1) := by decide +kernel
theorem dX3_isPlace_13 : decode cX3_isPlace 13 = .ok (.iload_n 1, 1) := by decide +kernel
theorem dX3_isPlace_14 : decode cX3_isPlace 14 = .ok (.invokevirtual 84, 3) := by decide +kernel
theorem dX3_isPlace_17 : decode cX3_isPlace 17 = .ok (.iconst 1, 1) := by decide +kernel
theorem dX3_isPlace_18 : decode cX3_isPlace 18 = .ok (.isub, 1) := by decide +kernel
theorem dX3_isPlace_19 : decode cX3_isPlace 19 = .ok (.invokestatic 73, 3) := by decide +kernel
theorem dX3_isPlace_22 : decode cX3_isPlace 22 = .ok (.ifCond .eq 7, 3) := by decide +kernel
theorem dX3_isPlace_25 : decode cX3_isPlace 25 = .ok (.iconst 0, 1) := by decide +kernel
theorem dX3_isPlace_26 : decode cX3_isPlace 26 = .ok (.goto 4, 3) := by decide +kernel
theorem dX3_isPlace_29 : decode cX3_isPlace 29 = .ok (.iconst 1, 1) := by decide +kernel
theorem dX3_isPlace_30 : decode cX3_isPlace 30 = .ok (.putfield 67, 3) := by decide +kernel
theorem dX3_isPlace_33 : decode cX3_isPlace 33 = .ok (.aload_n 0, 1) := by decide +kernel
theorem dX3_isPlace_34 : decode cX3_isPlace 34 = .ok (.getfield 67, 3) := by decide +kernel
theorem dX3_isPlace_37 : decode cX3_isPlace 37 = .ok (.ifCond .ne 7, 3) := by decide +kernel
theorem dX3_isPlace_40 : decode cX3_isPlace 40 = .ok (.iconst 1, 1) := by decide +kernel
theorem dX3_isPlace_41 : decode cX3_isPlace 41 = .ok (.goto 4, 3) := by decide +kernel
theorem dX3_isPlace_44 : decode cX3_isPlace 44 = .ok (.iconst 0, 1) := by decide +kernel
theorem dX3_isPlace_45 : decode cX3_isPlace 45 = .ok (.ireturn, 1) := by decide +kernel
theorem dX3_cellOf_0 : decode cX3_cellOf 0 = .ok (.aload_n 0, 1) := by decide +kernel
theorem dX3_cellOf_1 : decode cX3_cellOf 1 = .ok (.iload_n 1, 1) := by decide +kernel
theorem dX3_cellOf_2 : decode cX3_cellOf 2 = .ok (.iload_n 2, 1) := by decide +kernel
theorem dX3_cellOf_3 : decode cX3_cellOf 3 = .ok (.iload_n 3, 1) := by decide +kernel
theorem dX3_cellOf_4 : decode cX3_cellOf 4 = .ok (.invokevirtual 157, 3) := by decide +kernel
theorem dX3_cellOf_7 : decode cX3_cellOf 7 = .ok (.ifCond .eq 13, 3) := by decide +kernel
theorem dX3_cellOf_10 : decode cX3_cellOf 10 = .ok (.aload_n 0, 1) := by decide +kernel
theorem dX3_cellOf_11 : decode cX3_cellOf 11 = .ok (.iload_n 1, 1) := by decide +kernel
theorem dX3_cellOf_12 : decode cX3_cellOf 12 = .ok (.iload_n 2, 1) := by decide +kernel
theorem dX3_cellOf_13 : decode cX3_cellOf 13 = .ok (.iload_n 3, 1) := by decide +kernel
theorem dX3_cellOf_14 : decode cX3_cellOf 14 = .ok (.invokevirtual 145, 3) := by decide +kernel
theorem dX3_cellOf_17 : decode cX3_cellOf 17 = .ok (.goto 4, 3) := by decide +kernel
theorem dX3_cellOf_20 : decode cX3_cellOf 20 = .ok (.iconst 0, 1) := by decide +kernel
theorem dX3_cellOf_21 : decode cX3_cellOf 21 = .ok (.ireturn, 1) := by decide +kernel
theorem dX3_isCell_0 : decode cX3_isCell 0 = .ok (.aload_n 0, 1) := by decide +kernel
theorem dX3_isCell_1 : decode cX3_isCell 1 = .ok (.iload_n 1, 1) := by decide +kernel
theorem dX3_isCell_2 : decode cX3_isCell 2 = .ok (.iconst 0, 1) := by decide +kernel
theorem dX3_isCell_3 : decode cX3_isCell 3 = .ok (.sipush 239, 3) := by decide +kernel
theorem dX3_isCell_6 : decode cX3_isCell 6 = .ok (.invokestatic 73, 3) := by decide +kernel
theorem dX3_isCell_9 : decode cX3_isCell 9 = .ok (.ifCond .eq 7, 3) := by decide +kernel
theorem dX3_isCell_12 : decode cX3_isCell 12 = .ok (.iconst 0, 1) := by decide +kernel
theorem dX3_isCell_13 : decode cX3_isCell 13 = .ok (.goto 4, 3) := by decide +kernel
theorem dX3_isCell_16 : decode cX3_isCell 16 = .ok (.iconst 1, 1) := by decide +kernel
theorem dX3_isCell_17 : decode cX3_isCell 17 = .ok (.putfield 67, 3) := by decide +kernel
theorem dX3_isCell_20 : decode cX3_isCell 20 = .ok (.aload_n 0, 1) := by decide +kernel
theorem dX3_isCell_21 : decode cX3_isCell 21 = .ok (.getfield 67, 3) := by decide +kernel
theorem dX3_isCell_24 : decode cX3_isCell 24 = .ok (.ifCond .ne 7, 3) := by decide +kernel
theorem dX3_isCell_27 : decode cX3_isCell 27 = .ok (.iconst 1, 1) := by decide +kernel
theorem dX3_isCell_28 : decode cX3_isCell 28 = .ok (.goto 4, 3) := by decide +kernel
theorem dX3_isCell_31 : decode cX3_isCell 31 = .ok (.iconst 0, 1) := by decide +kernel
theorem dX3_isCell_32 : decode cX3_isCell 32 = .ok (.ireturn, 1) := by decide +kernel
theorem dX3_owner_0 : decode cX3_owner 0 = .ok (.aload_n 0, 1) := by decide +kernel
theorem dX3_owner_1 : decode cX3_owner 1 = .ok (.iload_n 1, 1) := by decide +kernel
theorem dX3_owner_2 : decode cX3_owner 2 = .ok (.invokevirtual 160, 3) := by decide +kernel
theorem dX3_owner_5 : decode cX3_owner 5 = .ok (.ifCond .eq 11, 3) := by decide +kernel
theorem dX3_owner_8 : decode cX3_owner 8 = .ok (.aload_n 0, 1) := by decide +kernel
theorem dX3_owner_9 : decode cX3_owner 9 = .ok (.iload_n 1, 1) := by decide +kernel
theorem dX3_owner_10 : decode cX3_owner 10 = .ok (.invokevirtual 111, 3) := by decide +kernel
theorem dX3_owner_13 : decode cX3_owner 13 = .ok (.goto 4, 3) := by decide +kernel
theorem dX3_owner_16 : decode cX3_owner 16 = .ok (.iconst 0, 1) := by decide +kernel
theorem dX3_owner_17 : decode cX3_owner 17 = .ok (.ireturn, 1) := by decide +kernel
theorem dX3_placeOf_0 : decode cX3_placeOf 0 = .ok (.aload_n 0, 1) := by decide +kernel
theorem dX3_placeOf_1 : decode cX3_placeOf 1 = .ok (.iload_n 1, 1) := by decide +kernel
theorem dX3_placeOf_2 : decode cX3_placeOf 2 = .ok (.invokevirtual 160, 3) := by decide +kernel
theorem dX3_placeOf_5 : decode cX3_placeOf 5 = .ok (.ifCond .ne 5, 3) := by decide +kernel
theorem dX3_placeOf_8 : decode cX3_placeOf 8 = .ok (.iconst 0, 1) := by decide +kernel
theorem dX3_placeOf_9 : decode cX3_placeOf 9 = .ok (.ireturn, 1) := by decide +kernel
theorem dX3_placeOf_10 : decode cX3_placeOf 10 = .ok (.aload_n 0, 1) := by decide +kernel
theorem dX3_placeOf_11 : decode cX3_placeOf 11 = .ok (.iload_n 1, 1) := by decide +kernel
theorem dX3_placeOf_12 : decode cX3_placeOf 12 = .ok (.invokevirtual 111, 3) := by decide +kernel
theorem dX3_placeOf_15 : decode cX3_placeOf 15 = .ok (.istore_n 2, 1) := by decide +kernel
theorem dX3_placeOf_16 : decode cX3_placeOf 16 = .ok (.iload_n 2, 1) := by decide +kernel
theorem dX3_placeOf_17 : decode cX3_placeOf 17 = .ok (.ifCond .ge 9, 3) := by decide +kernel
theorem dX3_placeOf_20 : decode cX3_placeOf 20 = .ok (.aload_n 0, 1) := by decide +kernel
theorem dX3_placeOf_21 : decode cX3_placeOf 21 = .ok (.iconst 2, 1) := by decide +kernel
theorem dX3_placeOf_22 : decode cX3_placeOf 22 = .ok (.invokevirtual 124, 3) := by decide +kernel
theorem dX3_placeOf_25 : decode cX3_placeOf 25 = .ok (.ireturn, 1) := by decide +kernel
theorem dX3_placeOf_26 : decode cX3_placeOf 26 = .ok (.iconst 0, 1) := by decide +kernel
theorem dX3_placeOf_27 : decode cX3_placeOf 27 = .ok (.istore_n 3, 1) := by decide +kernel
theorem dX3_placeOf_28 : decode cX3_placeOf 28 = .ok (.iload_n 3, 1) := by decide +kernel
theorem dX3_placeOf_29 : decode cX3_placeOf 29 = .ok (.aload_n 0, 1) := by decide +kernel
theorem dX3_placeOf_30 : decode cX3_placeOf 30 = .ok (.iload_n 2, 1) := by decide +kernel
theorem dX3_placeOf_31 : decode cX3_placeOf 31 = .ok (.invokevirtual 80, 3) := by decide +kernel
theorem dX3_placeOf_34 : decode cX3_placeOf 34 = .ok (.if_icmp .ge 48, 3) := by decide +kernel
theorem dX3_placeOf_37 : decode cX3_placeOf 37 = .ok (.iconst 0, 1) := by decide +kernel
theorem dX3_placeOf_38 : decode cX3_placeOf 38 = .ok (.istore 4, 2) := by decide +kernel
theorem dX3_placeOf_40 : decode cX3_placeOf 40 = .ok (.iload 4, 2) := by decide +kernel
theorem dX3_placeOf_42 : decode cX3_placeOf 42 = .ok (.aload_n 0, 1) := by decide +kernel
theorem dX3_placeOf_43 : decode cX3_placeOf 43 = .ok (.iload_n 2, 1) := by decide +kernel
theorem dX3_placeOf_44 : decode cX3_placeOf 44 = .ok (.invokevirtual 84, 3) := by decide +kernel
theorem dX3_placeOf_47 : decode cX3_placeOf 47 = .ok (.if_icmp .ge 29, 3) := by decide +kernel
theorem dX3_placeOf_50 : decode cX3_placeOf 50 = .ok (.aload_n 0, 1) := by decide +kernel
theorem dX3_placeOf_51 : decode cX3_placeOf 51 = .ok (.iload_n 2, 1) := by decide +kernel
theorem dX3_placeOf_52 : decode cX3_placeOf 52 = .ok (.iload_n 3, 1) := by decide +kernel
theorem dX3_placeOf_53 : decode cX3_placeOf 53 = .ok (.iload 4, 2) := by decide +kernel
theorem dX3_placeOf_55 : decode cX3_placeOf 55 = .ok (.invokevirtual 145, 3) := by decide +kernel
theorem dX3_placeOf_58 : decode cX3_placeOf 58 = .ok (.iload_n 1, 1) := by decide +kernel
theorem dX3_placeOf_59 : decode cX3_placeOf 59 = .ok (.if_icmp .ne 11, 3) := by decide +kernel
theorem dX3_placeOf_62 : decode cX3_placeOf 62 = .ok (.bipush 100, 2) := by decide +kernel
theorem dX3_placeOf_64 : decode cX3_placeOf 64 = .ok (.iload_n 3, 1) := by decide +kernel
theorem dX3_placeOf_65 : decode cX3_placeOf 65 = .ok (.imul, 1) := by decide +kernel
theorem dX3_placeOf_66 : decode cX3_placeOf 66 = .ok (.iload 4, 2) := by decide +kernel
theorem dX3_placeOf_68 : decode cX3_placeOf 68 = .ok (.iadd, 1) := by decide +kernel
theorem dX3_placeOf_69 : decode cX3_placeOf 69 = .ok (.ireturn, 1) := by decide +kernel
theorem dX3_placeOf_70 : decode cX3_placeOf 70 = .ok (.iinc 4 1, 3) := by decide +kernel
theorem dX3_placeOf_73 : decode cX3_placeOf 73 = .ok (.goto (-33), 3) := by decide +kernel
theorem dX3_placeOf_76 : decode cX3_placeOf 76 = .ok (.iinc 3 1, 3) := by decide +kernel
theorem dX3_placeOf_79 : decode cX3_placeOf 79 = .ok (.goto (-51), 3) := by decide +kernel
theorem dX3_placeOf_82 : decode cX3_placeOf 82 = .ok (.iconst 0, 1) := by decide +kernel
theorem dX3_placeOf_83 : decode cX3_placeOf 83 = .ok (.ireturn, 1) := by decide +kernel
theorem dX3_room_0 : decode cX3_room 0 = .ok (.aload_n 0, 1) := by decide +kernel
theorem dX3_room_1 : decode cX3_room 1 = .ok (.iconst 0, 1) := by decide +kernel
theorem dX3_room_2 : decode cX3_room 2 = .ok (.putfield 67, 3) := by decide +kernel
theorem dX3_room_5 : decode cX3_room 5 = .ok (.iconst 0, 1) := by decide +kernel
theorem dX3_room_6 : decode cX3_room 6 = .ok (.istore_n 1, 1) := by decide +kernel
theorem dX3_room_7 : decode cX3_room 7 = .ok (.iconst 0, 1) := by decide +kernel
theorem dX3_room_8 : decode cX3_room 8 = .ok (.istore_n 2, 1) := by decide +kernel
theorem dX3_room_9 : decode cX3_room 9 = .ok (.iconst 0, 1) := by decide +kernel
theorem dX3_room_10 : decode cX3_room 10 = .ok (.istore_n 3, 1) := by decide +kernel
theorem dX3_room_11 : decode cX3_room 11 = .ok (.iload_n 3, 1) := by decide +kernel
theorem dX3_room_12 : decode cX3_room 12 = .ok (.sipush 240, 3) := by decide +kernel
theorem dX3_room_15 : decode cX3_room 15 = .ok (.if_icmp .ge 36, 3) := by decide +kernel
theorem dX3_room_18 : decode cX3_room 18 = .ok (.aload_n 0, 1) := by decide +kernel
theorem dX3_room_19 : decode cX3_room 19 = .ok (.iload_n 3, 1) := by decide +kernel
theorem dX3_room_20 : decode cX3_room 20 = .ok (.invokevirtual 111, 3) := by decide +kernel
theorem dX3_room_23 : decode cX3_room 23 = .ok (.ifCond .ge 9, 3) := by decide +kernel
theorem dX3_room_26 : decode cX3_room 26 = .ok (.iload_n 2, 1) := by decide +kernel
theorem dX3_room_27 : decode cX3_room 27 = .ok (.iconst 1, 1) := by decide +kernel
theorem dX3_room_28 : decode cX3_room 28 = .ok (.iadd, 1) := by decide +kernel
theorem dX3_room_29 : decode cX3_room 29 = .ok (.goto 4, 3) := by decide +kernel
theorem dX3_room_32 : decode cX3_room 32 = .ok (.iconst 0, 1) := by decide +kernel
theorem dX3_room_33 : decode cX3_room 33 = .ok (.istore_n 2, 1) := by decide +kernel
theorem dX3_room_34 : decode cX3_room 34 = .ok (.iload_n 2, 1) := by decide +kernel
theorem dX3_room_35 : decode cX3_room 35 = .ok (.iload_n 1, 1) := by decide +kernel
theorem dX3_room_36 : decode cX3_room 36 = .ok (.if_icmp .le 7, 3) := by decide +kernel
theorem dX3_room_39 : decode cX3_room 39 = .ok (.iload_n 2, 1) := by decide +kernel
theorem dX3_room_40 : decode cX3_room 40 = .ok (.goto 4, 3) := by decide +kernel
theorem dX3_room_43 : decode cX3_room 43 = .ok (.iload_n 1, 1) := by decide +kernel
theorem dX3_room_44 : decode cX3_room 44 = .ok (.istore_n 1, 1) := by decide +kernel
theorem dX3_room_45 : decode cX3_room 45 = .ok (.iinc 3 1, 3) := by decide +kernel
theorem dX3_room_48 : decode cX3_room 48 = .ok (.goto (-37), 3) := by decide +kernel
theorem dX3_room_51 : decode cX3_room 51 = .ok (.iload_n 1, 1) := by decide +kernel
theorem dX3_room_52 : decode cX3_room 52 = .ok (.ireturn, 1) := by decide +kernel
theorem dX3_symbol_0 : decode cX3_symbol 0 = .ok (.aload_n 0, 1) := by decide +kernel
theorem dX3_symbol_1 : decode cX3_symbol 1 = .ok (.iload_n 1, 1) := by decide +kernel
theorem dX3_symbol_2 : decode cX3_symbol 2 = .ok (.invokevirtual 160, 3) := by decide +kernel
theorem dX3_symbol_5 : decode cX3_symbol 5 = .ok (.ifCond .eq 15, 3) := by decide +kernel
theorem dX3_symbol_8 : decode cX3_symbol 8 = .ok (.aload_n 0, 1) := by decide +kernel
theorem dX3_symbol_9 : decode cX3_symbol 9 = .ok (.getfield 9, 3) := by decide +kernel
theorem dX3_symbol_12 : decode cX3_symbol 12 = .ok (.bipush 80, 2) := by decide +kernel
theorem dX3_symbol_14 : decode cX3_symbol 14 = .ok (.iload_n 1, 1) := by decide +kernel
theorem dX3_symbol_15 : decode cX3_symbol 15 = .ok (.iadd, 1) := by decide +kernel
theorem dX3_symbol_16 : decode cX3_symbol 16 = .ok (.iaload, 1) := by decide +kernel
theorem dX3_symbol_17 : decode cX3_symbol 17 = .ok (.goto 4, 3) := by decide +kernel
theorem dX3_symbol_20 : decode cX3_symbol 20 = .ok (.iconst 0, 1) := by decide +kernel
theorem dX3_symbol_21 : decode cX3_symbol 21 = .ok (.ireturn, 1) := by decide +kernel
theorem dX3_isErased_0 : decode cX3_isErased 0 = .ok (.aload_n 0, 1) := by decide +kernel
theorem dX3_isErased_1 : decode cX3_isErased 1 = .ok (.iload_n 1, 1) := by decide +kernel
theorem dX3_isErased_2 : decode cX3_isErased 2 = .ok (.invokevirtual 160, 3) := by decide +kernel
theorem dX3_isErased_5 : decode cX3_isErased 5 = .ok (.ifCond .eq 21, 3) := by decide +kernel
theorem dX3_isErased_8 : decode cX3_isErased 8 = .ok (.aload_n 0, 1) := by decide +kernel
theorem dX3_isErased_9 : decode cX3_isErased 9 = .ok (.getfield 9, 3) := by decide +kernel
theorem dX3_isErased_12 : decode cX3_isErased 12 = .ok (.sipush 320, 3) := by decide +kernel
theorem dX3_isErased_15 : decode cX3_isErased 15 = .ok (.iload_n 1, 1) := by decide +kernel
theorem dX3_isErased_16 : decode cX3_isErased 16 = .ok (.iadd, 1) := by decide +kernel
theorem dX3_isErased_17 : decode cX3_isErased 17 = .ok (.iaload, 1) := by decide +kernel
theorem dX3_isErased_18 : decode cX3_isErased 18 = .ok (.iconst 1, 1) := by decide +kernel
theorem dX3_isErased_19 : decode cX3_isErased 19 = .ok (.if_icmp .ne 7, 3) := by decide +kernel
theorem dX3_isErased_22 : decode cX3_isErased 22 = .ok (.iconst 1, 1) := by decide +kernel
theorem dX3_isErased_23 : decode cX3_isErased 23 = .ok (.goto 4, 3) := by decide +kernel
theorem dX3_isErased_26 : decode cX3_isErased 26 = .ok (.iconst 0, 1) := by decide +kernel
theorem dX3_isErased_27 : decode cX3_isErased 27 = .ok (.ireturn, 1) := by decide +kernel
theorem dX3_flip_0 : decode cX3_flip 0 = .ok (.aload_n 0, 1) := by decide +kernel
theorem dX3_flip_1 : decode cX3_flip 1 = .ok (.iload_n 1, 1) := by decide +kernel
theorem dX3_flip_2 : decode cX3_flip 2 = .ok (.iconst 0, 1) := by decide +kernel
theorem dX3_flip_3 : decode cX3_flip 3 = .ok (.sipush 239, 3) := by decide +kernel
theorem dX3_flip_6 : decode cX3_flip 6 = .ok (.invokestatic 73, 3) := by decide +kernel
theorem dX3_flip_9 : decode cX3_flip 9 = .ok (.ifCond .ne 7, 3) := by decide +kernel
theorem dX3_flip_12 : decode cX3_flip 12 = .ok (.iconst 1, 1) := by decide +kernel
theorem dX3_flip_13 : decode cX3_flip 13 = .ok (.goto 18, 3) := by decide +kernel
theorem dX3_flip_16 : decode cX3_flip 16 = .ok (.iload_n 2, 1) := by decide +kernel
theorem dX3_flip_17 : decode cX3_flip 17 = .ok (.iconst 1, 1) := by decide +kernel
theorem dX3_flip_18 : decode cX3_flip 18 = .ok (.bipush 15, 2) := by decide +kernel
theorem dX3_flip_20 : decode cX3_flip 20 = .ok (.invokestatic 73, 3) := by decide +kernel
theorem dX3_flip_23 : decode cX3_flip 23 = .ok (.ifCond .ne 7, 3) := by decide +kernel
theorem dX3_flip_26 : decode cX3_flip 26 = .ok (.iconst 2, 1) := by decide +kernel
theorem dX3_flip_27 : decode cX3_flip 27 = .ok (.goto 4, 3) := by decide +kernel
theorem dX3_flip_30 : decode cX3_flip 30 = .ok (.iconst 0, 1) := by decide +kernel
theorem dX3_flip_31 : decode cX3_flip 31 = .ok (.putfield 67, 3) := by decide +kernel
theorem dX3_flip_34 : decode cX3_flip 34 = .ok (.aload_n 0, 1) := by decide +kernel
theorem dX3_flip_35 : decode cX3_flip 35 = .ok (.getfield 67, 3) := by decide +kernel
theorem dX3_flip_38 : decode cX3_flip 38 = .ok (.ifCond .le 5, 3) := by decide +kernel
theorem dX3_flip_41 : decode cX3_flip 41 = .ok (.iconst 0, 1) := by decide +kernel
theorem dX3_flip_42 : decode cX3_flip 42 = .ok (.ireturn, 1) := by decide +kernel
theorem dX3_flip_43 : decode cX3_flip 43 = .ok (.aload_n 0, 1) := by decide +kernel
theorem dX3_flip_44 : decode cX3_flip 44 = .ok (.invokevirtual 130, 3) := by decide +kernel
theorem dX3_flip_47 : decode cX3_flip 47 = .ok (.aload_n 0, 1) := by decide +kernel
theorem dX3_flip_48 : decode cX3_flip 48 = .ok (.getfield 9, 3) := by decide +kernel
theorem dX3_flip_51 : decode cX3_flip 51 = .ok (.bipush 80, 2) := by decide +kernel
theorem dX3_flip_53 : decode cX3_flip 53 = .ok (.iload_n 1, 1) := by decide +kernel
theorem dX3_flip_54 : decode cX3_flip 54 = .ok (.iadd, 1) := by decide +kernel
theorem dX3_flip_55 : decode cX3_flip 55 = .ok (.dup2, 1) := by decide +kernel
theorem dX3_flip_56 : decode cX3_flip 56 = .ok (.iaload, 1) := by decide +kernel
theorem dX3_flip_57 : decode cX3_flip 57 = .ok (.iload_n 2, 1) := by decide +kernel
theorem dX3_flip_58 : decode cX3_flip 58 = .ok (.ixor, 1) := by decide +kernel
theorem dX3_flip_59 : decode cX3_flip 59 = .ok (.iastore, 1) := by decide +kernel
theorem dX3_flip_60 : decode cX3_flip 60 = .ok (.aload_n 0, 1) := by decide +kernel
theorem dX3_flip_61 : decode cX3_flip 61 = .ok (.getfield 9, 3) := by decide +kernel
theorem dX3_flip_64 : decode cX3_flip 64 = .ok (.bipush 80, 2) := by decide +kernel
theorem dX3_flip_66 : decode cX3_flip 66 = .ok (.iload_n 1, 1) := by decide +kernel
theorem dX3_flip_67 : decode cX3_flip 67 = .ok (.iadd, 1) := by decide +kernel
theorem dX3_flip_68 : decode cX3_flip 68 = .ok (.iaload, 1) := by decide +kernel
theorem dX3_flip_69 : decode cX3_flip 69 = .ok (.ireturn, 1) := by decide +kernel
theorem dX3_erase_0 : decode cX3_erase 0 = .ok (.aload_n 0, 1) := by decide +kernel
theorem dX3_erase_1 : decode cX3_erase 1 = .ok (.iload_n 1, 1) := by decide +kernel
theorem dX3_erase_2 : decode cX3_erase 2 = .ok (.invokevirtual 160, 3) := by decide +kernel
theorem dX3_erase_5 : decode cX3_erase 5 = .ok (.ifCond .ne 5, 3) := by decide +kernel
theorem dX3_erase_8 : decode cX3_erase 8 = .ok (.iconst 0, 1) := by decide +kernel
theorem dX3_erase_9 : decode cX3_erase 9 = .ok (.ireturn, 1) := by decide +kernel
theorem dX3_erase_10 : decode cX3_erase 10 = .ok (.aload_n 0, 1) := by decide +kernel
theorem dX3_erase_11 : decode cX3_erase 11 = .ok (.invokevirtual 130, 3) := by decide +kernel
theorem dX3_erase_14 : decode cX3_erase 14 = .ok (.iconst 1, 1) := by decide +kernel
theorem dX3_erase_15 : decode cX3_erase 15 = .ok (.aload_n 0, 1) := by decide +kernel
theorem dX3_erase_16 : decode cX3_erase 16 = .ok (.getfield 9, 3) := by decide +kernel
theorem dX3_erase_19 : decode cX3_erase 19 = .ok (.sipush 320, 3) := by decide +kernel
theorem dX3_erase_22 : decode cX3_erase 22 = .ok (.iload_n 1, 1) := by decide +kernel
theorem dX3_erase_23 : decode cX3_erase 23 = .ok (.iadd, 1) := by decide +kernel
theorem dX3_erase_24 : decode cX3_erase 24 = .ok (.iaload, 1) := by decide +kernel
theorem dX3_erase_25 : decode cX3_erase 25 = .ok (.isub, 1) := by decide +kernel
theorem dX3_erase_26 : decode cX3_erase 26 = .ok (.istore_n 2, 1) := by decide +kernel
theorem dX3_erase_27 : decode cX3_erase 27 = .ok (.aload_n 0, 1) := by decide +kernel
theorem dX3_erase_28 : decode cX3_erase 28 = .ok (.getfield 9, 3) := by decide +kernel
theorem dX3_erase_31 : decode cX3_erase 31 = .ok (.sipush 320, 3) := by decide +kernel
theorem dX3_erase_34 : decode cX3_erase 34 = .ok (.iload_n 1, 1) := by decide +kernel
theorem dX3_erase_35 : decode cX3_erase 35 = .ok (.iadd, 1) := by decide +kernel
theorem dX3_erase_36 : decode cX3_erase 36 = .ok (.iconst 1, 1) := by decide +kernel
theorem dX3_erase_37 : decode cX3_erase 37 = .ok (.iastore, 1) := by decide +kernel
theorem dX3_erase_38 : decode cX3_erase 38 = .ok (.iload_n 2, 1) := by decide +kernel
theorem dX3_erase_39 : decode cX3_erase 39 = .ok (.ireturn, 1) := by decide +kernel
theorem dX3_burst_0 : decode cX3_burst 0 = .ok (.aload_n 0, 1) := by decide +kernel
theorem dX3_burst_1 : decode cX3_burst 1 = .ok (.iload_n 1, 1) := by decide +kernel
theorem dX3_burst_2 : decode cX3_burst 2 = .ok (.iconst 0, 1) := by decide +kernel
theorem dX3_burst_3 : decode cX3_burst 3 = .ok (.sipush 239, 3) := by decide +kernel
theorem dX3_burst_6 : decode cX3_burst 6 = .ok (.invokestatic 73, 3) := by decide +kernel
theorem dX3_burst_9 : decode cX3_burst 9 = .ok (.ifCond .ne 7, 3) := by decide +kernel
theorem dX3_burst_12 : decode cX3_burst 12 = .ok (.iconst 1, 1) := by decide +kernel
theorem dX3_burst_13 : decode cX3_burst 13 = .ok (.goto 31, 3) := by decide +kernel
theorem dX3_burst_16 : decode cX3_burst 16 = .ok (.iload_n 2, 1) := by decide +kernel
theorem dX3_burst_17 : decode cX3_burst 17 = .ok (.iconst 1, 1) := by decide +kernel
theorem dX3_burst_18 : decode cX3_burst 18 = .ok (.sipush 240, 3) := by decide +kernel
theorem dX3_burst_21 : decode cX3_burst 21 = .ok (.iload_n 1, 1) := by decide +kernel
theorem dX3_burst_22 : decode cX3_burst 22 = .ok (.isub, 1) := by decide +kernel
theorem dX3_burst_23 : decode cX3_burst 23 = .ok (.invokestatic 73, 3) := by decide +kernel
theorem dX3_burst_26 : decode cX3_burst 26 = .ok (.ifCond .eq 13, 3) := by decide +kernel
theorem dX3_burst_29 : decode cX3_burst 29 = .ok (.iload_n 3, 1) := by decide +kernel
theorem dX3_burst_30 : decode cX3_burst 30 = .ok (.iconst 0, 1) := by decide +kernel
theorem dX3_burst_31 : decode cX3_burst 31 = .ok (.bipush 15, 2) := by decide +kernel
theorem dX3_burst_33 : decode cX3_burst 33 = .ok (.invokestatic 73, 3) := by decide +kernel
theorem dX3_burst_36 : decode cX3_burst 36 = .ok (.ifCond .ne 7, 3) := by decide +kernel
theorem dX3_burst_39 : decode cX3_burst 39 = .ok (.iconst 2, 1) := by decide +kernel
theorem dX3_burst_40 : decode cX3_burst 40 = .ok (.goto 4, 3) := by decide +kernel
theorem dX3_burst_43 : decode cX3_burst 43 = .ok (.iconst 0, 1) := by decide +kernel
theorem dX3_burst_44 : decode cX3_burst 44 = .ok (.putfield 67, 3) := by decide +kernel
theorem dX3_burst_47 : decode cX3_burst 47 = .ok (.aload_n 0, 1) := by decide +kernel
theorem dX3_burst_48 : decode cX3_burst 48 = .ok (.getfield 67, 3) := by decide +kernel
theorem dX3_burst_51 : decode cX3_burst 51 = .ok (.ifCond .le 5, 3) := by decide +kernel
theorem dX3_burst_54 : decode cX3_burst 54 = .ok (.iconst 0, 1) := by decide +kernel
theorem dX3_burst_55 : decode cX3_burst 55 = .ok (.ireturn, 1) := by decide +kernel
theorem dX3_burst_56 : decode cX3_burst 56 = .ok (.aload_n 0, 1) := by decide +kernel
theorem dX3_burst_57 : decode cX3_burst 57 = .ok (.invokevirtual 130, 3) := by decide +kernel
theorem dX3_burst_60 : decode cX3_burst 60 = .ok (.iconst 0, 1) := by decide +kernel
theorem dX3_burst_61 : decode cX3_burst 61 = .ok (.istore 4, 2) := by decide +kernel
theorem dX3_burst_63 : decode cX3_burst 63 = .ok (.iload_n 1, 1) := by decide +kernel
theorem dX3_burst_64 : decode cX3_burst 64 = .ok (.istore 5, 2) := by decide +kernel
theorem dX3_burst_66 : decode cX3_burst 66 = .ok (.iload 5, 2) := by decide +kernel
theorem dX3_burst_68 : decode cX3_burst 68 = .ok (.iload_n 1, 1) := by decide +kernel
theorem dX3_burst_69 : decode cX3_burst 69 = .ok (.iload_n 2, 1) := by decide +kernel
theorem dX3_burst_70 : decode cX3_burst 70 = .ok (.iadd, 1) := by decide +kernel
theorem dX3_burst_71 : decode cX3_burst 71 = .ok (.if_icmp .ge 72, 3) := by decide +kernel
theorem dX3_burst_74 : decode cX3_burst 74 = .ok (.iload 4, 2) := by decide +kernel
theorem dX3_burst_76 : decode cX3_burst 76 = .ok (.aload_n 0, 1) := by decide +kernel
theorem dX3_burst_77 : decode cX3_burst 77 = .ok (.iload 5, 2) := by decide +kernel
theorem dX3_burst_79 : decode cX3_burst 79 = .ok (.invokevirtual 111, 3) := by decide +kernel
theorem dX3_burst_82 : decode cX3_burst 82 = .ok (.ifCond .lt 7, 3) := by decide +kernel
theorem dX3_burst_85 : decode cX3_burst 85 = .ok (.iconst 1, 1) := by decide +kernel
theorem dX3_burst_86 : decode cX3_burst 86 = .ok (.goto 4, 3) := by decide +kernel
theorem dX3_burst_89 : decode cX3_burst 89 = .ok (.iconst 0, 1) := by decide +kernel
theorem dX3_burst_90 : decode cX3_burst 90 = .ok (.iadd, 1) := by decide +kernel
theorem dX3_burst_91 : decode cX3_burst 91 = .ok (.istore 4, 2) := by decide +kernel
theorem dX3_burst_93 : decode cX3_burst 93 = .ok (.aload_n 0, 1) := by decide +kernel
theorem dX3_burst_94 : decode cX3_burst 94 = .ok (.getfield 9, 3) := by decide +kernel
theorem dX3_burst_97 : decode cX3_burst 97 = .ok (.bipush 80, 2) := by decide +kernel
theorem dX3_burst_99 : decode cX3_burst 99 = .ok (.iload 5, 2) := by decide +kernel
theorem dX3_burst_101 : decode cX3_burst 101 = .ok (.iadd, 1) := by decide +kernel
theorem dX3_burst_102 : decode cX3_burst 102 = .ok (.dup2, 1) := by decide +kernel
theorem dX3_burst_103 : decode cX3_burst 103 = .ok (.iaload, 1) := by decide +kernel
theorem dX3_burst_104 : decode cX3_burst 104 = .ok (.iload_n 3, 1) := by decide +kernel
theorem dX3_burst_105 : decode cX3_burst 105 = .ok (.ixor, 1) := by decide +kernel
theorem dX3_burst_106 : decode cX3_burst 106 = .ok (.iastore, 1) := by decide +kernel
theorem dX3_burst_107 : decode cX3_burst 107 = .ok (.aload_n 0, 1) := by decide +kernel
theorem dX3_burst_108 : decode cX3_burst 108 = .ok (.getfield 9, 3) := by decide +kernel
theorem dX3_burst_111 : decode cX3_burst 111 = .ok (.sipush 320, 3) := by decide +kernel
theorem dX3_burst_114 : decode cX3_burst 114 = .ok (.iload 5, 2) := by decide +kernel
theorem dX3_burst_116 : decode cX3_burst 116 = .ok (.iadd, 1) := by decide +kernel
theorem dX3_burst_117 : decode cX3_burst 117 = .ok (.iload_n 3, 1) := by decide +kernel
theorem dX3_burst_118 : decode cX3_burst 118 = .ok (.ifCond .ne 7, 3) := by decide +kernel
theorem dX3_burst_121 : decode cX3_burst 121 = .ok (.iconst 1, 1) := by decide +kernel
theorem dX3_burst_122 : decode cX3_burst 122 = .ok (.goto 14, 3) := by decide +kernel
theorem dX3_burst_125 : decode cX3_burst 125 = .ok (.aload_n 0, 1) := by decide +kernel
theorem dX3_burst_126 : decode cX3_burst 126 = .ok (.getfield 9, 3) := by decide +kernel
theorem dX3_burst_129 : decode cX3_burst 129 = .ok (.sipush 320, 3) := by decide +kernel
theorem dX3_burst_132 : decode cX3_burst 132 = .ok (.iload 5, 2) := by decide +kernel
theorem dX3_burst_134 : decode cX3_burst 134 = .ok (.iadd, 1) := by decide +kernel
theorem dX3_burst_135 : decode cX3_burst 135 = .ok (.iaload, 1) := by decide +kernel
theorem dX3_burst_136 : decode cX3_burst 136 = .ok (.iastore, 1) := by decide +kernel
theorem dX3_burst_137 : decode cX3_burst 137 = .ok (.iinc 5 1, 3) := by decide +kernel
theorem dX3_burst_140 : decode cX3_burst 140 = .ok (.goto (-74), 3) := by decide +kernel
theorem dX3_burst_143 : decode cX3_burst 143 = .ok (.iload 4, 2) := by decide +kernel
theorem dX3_burst_145 : decode cX3_burst 145 = .ok (.ireturn, 1) := by decide +kernel
theorem dX3_isWrong_0 : decode cX3_isWrong 0 = .ok (.aload_n 0, 1) := by decide +kernel
theorem dX3_isWrong_1 : decode cX3_isWrong 1 = .ok (.getfield 9, 3) := by decide +kernel
theorem dX3_isWrong_4 : decode cX3_isWrong 4 = .ok (.bipush 80, 2) := by decide +kernel
theorem dX3_isWrong_6 : decode cX3_isWrong 6 = .ok (.iload_n 1, 1) := by decide +kernel
theorem dX3_isWrong_7 : decode cX3_isWrong 7 = .ok (.iadd, 1) := by decide +kernel
theorem dX3_isWrong_8 : decode cX3_isWrong 8 = .ok (.iaload, 1) := by decide +kernel
theorem dX3_isWrong_9 : decode cX3_isWrong 9 = .ok (.aload_n 0, 1) := by decide +kernel
theorem dX3_isWrong_10 : decode cX3_isWrong 10 = .ok (.getfield 9, 3) := by decide +kernel
theorem dX3_isWrong_13 : decode cX3_isWrong 13 = .ok (.sipush 560, 3) := by decide +kernel
theorem dX3_isWrong_16 : decode cX3_isWrong 16 = .ok (.iload_n 1, 1) := by decide +kernel
theorem dX3_isWrong_17 : decode cX3_isWrong 17 = .ok (.iadd, 1) := by decide +kernel
theorem dX3_isWrong_18 : decode cX3_isWrong 18 = .ok (.iaload, 1) := by decide +kernel
theorem dX3_isWrong_19 : decode cX3_isWrong 19 = .ok (.if_icmp .eq 7, 3) := by decide +kernel
theorem dX3_isWrong_22 : decode cX3_isWrong 22 = .ok (.iconst 1, 1) := by decide +kernel
theorem dX3_isWrong_23 : decode cX3_isWrong 23 = .ok (.goto 4, 3) := by decide +kernel
theorem dX3_isWrong_26 : decode cX3_isWrong 26 = .ok (.iconst 0, 1) := by decide +kernel
theorem dX3_isWrong_27 : decode cX3_isWrong 27 = .ok (.ireturn, 1) := by decide +kernel
theorem dX3_isFileOrAll_0 : decode cX3_isFileOrAll 0 = .ok (.aload_n 0, 1) := by decide +kernel
theorem dX3_isFileOrAll_1 : decode cX3_isFileOrAll 1 = .ok (.iload_n 1, 1) := by decide +kernel
theorem dX3_isFileOrAll_2 : decode cX3_isFileOrAll 2 = .ok (.iconst (-1), 1) := by decide +kernel
theorem dX3_isFileOrAll_3 : decode cX3_isFileOrAll 3 = .ok (.if_icmp .eq 11, 3) := by decide +kernel
theorem dX3_isFileOrAll_6 : decode cX3_isFileOrAll 6 = .ok (.aload_n 0, 1) := by decide +kernel
theorem dX3_isFileOrAll_7 : decode cX3_isFileOrAll 7 = .ok (.iload_n 1, 1) := by decide +kernel
theorem dX3_isFileOrAll_8 : decode cX3_isFileOrAll 8 = .ok (.invokevirtual 87, 3) := by decide +kernel
theorem dX3_isFileOrAll_11 : decode cX3_isFileOrAll 11 = .ok (.ifCond .eq 7, 3) := by decide +kernel
theorem dX3_isFileOrAll_14 : decode cX3_isFileOrAll 14 = .ok (.iconst 0, 1) := by decide +kernel
theorem dX3_isFileOrAll_15 : decode cX3_isFileOrAll 15 = .ok (.goto 4, 3) := by decide +kernel
theorem dX3_isFileOrAll_18 : decode cX3_isFileOrAll 18 = .ok (.iconst 1, 1) := by decide +kernel
theorem dX3_isFileOrAll_19 : decode cX3_isFileOrAll 19 = .ok (.putfield 67, 3) := by decide +kernel
theorem dX3_isFileOrAll_22 : decode cX3_isFileOrAll 22 = .ok (.aload_n 0, 1) := by decide +kernel
theorem dX3_isFileOrAll_23 : decode cX3_isFileOrAll 23 = .ok (.getfield 67, 3) := by decide +kernel
theorem dX3_isFileOrAll_26 : decode cX3_isFileOrAll 26 = .ok (.ifCond .ne 7, 3) := by decide +kernel
theorem dX3_isFileOrAll_29 : decode cX3_isFileOrAll 29 = .ok (.iconst 1, 1) := by decide +kernel
theorem dX3_isFileOrAll_30 : decode cX3_isFileOrAll 30 = .ok (.goto 4, 3) := by decide +kernel
theorem dX3_isFileOrAll_33 : decode cX3_isFileOrAll 33 = .ok (.iconst 0, 1) := by decide +kernel
theorem dX3_isFileOrAll_34 : decode cX3_isFileOrAll 34 = .ok (.ireturn, 1) := by decide +kernel
theorem dX3_wrong_0 : decode cX3_wrong 0 = .ok (.aload_n 0, 1) := by decide +kernel
theorem dX3_wrong_1 : decode cX3_wrong 1 = .ok (.iload_n 1, 1) := by decide +kernel
theorem dX3_wrong_2 : decode cX3_wrong 2 = .ok (.invokevirtual 163, 3) := by decide +kernel
theorem dX3_wrong_5 : decode cX3_wrong 5 = .ok (.ifCond .ne 5, 3) := by decide +kernel
theorem dX3_wrong_8 : decode cX3_wrong 8 = .ok (.iconst 0, 1) := by decide +kernel
theorem dX3_wrong_9 : decode cX3_wrong 9 = .ok (.ireturn, 1) := by decide +kernel
theorem dX3_wrong_10 : decode cX3_wrong 10 = .ok (.iconst 0, 1) := by decide +kernel
theorem dX3_wrong_11 : decode cX3_wrong 11 = .ok (.istore_n 2, 1) := by decide +kernel
theorem dX3_wrong_12 : decode cX3_wrong 12 = .ok (.iconst 0, 1) := by decide +kernel
theorem dX3_wrong_13 : decode cX3_wrong 13 = .ok (.istore_n 3, 1) := by decide +kernel
theorem dX3_wrong_14 : decode cX3_wrong 14 = .ok (.iload_n 3, 1) := by decide +kernel
theorem dX3_wrong_15 : decode cX3_wrong 15 = .ok (.sipush 240, 3) := by decide +kernel
theorem dX3_wrong_18 : decode cX3_wrong 18 = .ok (.if_icmp .ge 38, 3) := by decide +kernel
theorem dX3_wrong_21 : decode cX3_wrong 21 = .ok (.iload_n 2, 1) := by decide +kernel
theorem dX3_wrong_22 : decode cX3_wrong 22 = .ok (.iload_n 1, 1) := by decide +kernel
theorem dX3_wrong_23 : decode cX3_wrong 23 = .ok (.ifCond .lt 12, 3) := by decide +kernel
theorem dX3_wrong_26 : decode cX3_wrong 26 = .ok (.aload_n 0, 1) := by decide +kernel
theorem dX3_wrong_27 : decode cX3_wrong 27 = .ok (.iload_n 3, 1) := by decide +kernel
theorem dX3_wrong_28 : decode cX3_wrong 28 = .ok (.invokevirtual 111, 3) := by decide +kernel
theorem dX3_wrong_31 : decode cX3_wrong 31 = .ok (.iload_n 1, 1) := by decide +kernel
theorem dX3_wrong_32 : decode cX3_wrong 32 = .ok (.if_icmp .ne 15, 3) := by decide +kernel
theorem dX3_wrong_35 : decode cX3_wrong 35 = .ok (.aload_n 0, 1) := by decide +kernel
theorem dX3_wrong_36 : decode cX3_wrong 36 = .ok (.iload_n 3, 1) := by decide +kernel
theorem dX3_wrong_37 : decode cX3_wrong 37 = .ok (.invokevirtual 166, 3) := by decide +kernel
theorem dX3_wrong_40 : decode cX3_wrong 40 = .ok (.ifCond .eq 7, 3) := by decide +kernel
theorem dX3_wrong_43 : decode cX3_wrong 43 = .ok (.iconst 1, 1) := by decide +kernel
theorem dX3_wrong_44 : decode cX3_wrong 44 = .ok (.goto 4, 3) := by decide +kernel
theorem dX3_wrong_47 : decode cX3_wrong 47 = .ok (.iconst 0, 1) := by decide +kernel
theorem dX3_wrong_48 : decode cX3_wrong 48 = .ok (.iadd, 1) := by decide +kernel
theorem dX3_wrong_49 : decode cX3_wrong 49 = .ok (.istore_n 2, 1) := by decide +kernel
theorem dX3_wrong_50 : decode cX3_wrong 50 = .ok (.iinc 3 1, 3) := by decide +kernel
theorem dX3_wrong_53 : decode cX3_wrong 53 = .ok (.goto (-39), 3) := by decide +kernel
theorem dX3_wrong_56 : decode cX3_wrong 56 = .ok (.iload_n 2, 1) := by decide +kernel
theorem dX3_wrong_57 : decode cX3_wrong 57 = .ok (.ireturn, 1) := by decide +kernel
theorem dX3_erased_0 : decode cX3_erased 0 = .ok (.aload_n 0, 1) := by decide +kernel
theorem dX3_erased_1 : decode cX3_erased 1 = .ok (.iload_n 1, 1) := by decide +kernel
theorem dX3_erased_2 : decode cX3_erased 2 = .ok (.invokevirtual 163, 3) := by decide +kernel
theorem dX3_erased_5 : decode cX3_erased 5 = .ok (.ifCond .ne 5, 3) := by decide +kernel
theorem dX3_erased_8 : decode cX3_erased 8 = .ok (.iconst 0, 1) := by decide +kernel
theorem dX3_erased_9 : decode cX3_erased 9 = .ok (.ireturn, 1) := by decide +kernel
theorem dX3_erased_10 : decode cX3_erased 10 = .ok (.iconst 0, 1) := by decide +kernel
theorem dX3_erased_11 : decode cX3_erased 11 = .ok (.istore_n 2, 1) := by decide +kernel
theorem dX3_erased_12 : decode cX3_erased 12 = .ok (.iconst 0, 1) := by decide +kernel
theorem dX3_erased_13 : decode cX3_erased 13 = .ok (.istore_n 3, 1) := by decide +kernel
theorem dX3_erased_14 : decode cX3_erased 14 = .ok (.iload_n 3, 1) := by decide +kernel
theorem dX3_erased_15 : decode cX3_erased 15 = .ok (.sipush 240, 3) := by decide +kernel
theorem dX3_erased_18 : decode cX3_erased 18 = .ok (.if_icmp .ge 44, 3) := by decide +kernel
theorem dX3_erased_21 : decode cX3_erased 21 = .ok (.iload_n 2, 1) := by decide +kernel
theorem dX3_erased_22 : decode cX3_erased 22 = .ok (.iload_n 1, 1) := by decide +kernel
theorem dX3_erased_23 : decode cX3_erased 23 = .ok (.ifCond .lt 12, 3) := by decide +kernel
theorem dX3_erased_26 : decode cX3_erased 26 = .ok (.aload_n 0, 1) := by decide +kernel
theorem dX3_erased_27 : decode cX3_erased 27 = .ok (.iload_n 3, 1) := by decide +kernel
theorem dX3_erased_28 : decode cX3_erased 28 = .ok (.invokevirtual 111, 3) := by decide +kernel
theorem dX3_erased_31 : decode cX3_erased 31 = .ok (.iload_n 1, 1) := by decide +kernel
theorem dX3_erased_32 : decode cX3_erased 32 = .ok (.if_icmp .ne 21, 3) := by decide +kernel
theorem dX3_erased_35 : decode cX3_erased 35 = .ok (.aload_n 0, 1) := by decide +kernel
theorem dX3_erased_36 : decode cX3_erased 36 = .ok (.getfield 9, 3) := by decide +kernel
theorem dX3_erased_39 : decode cX3_erased 39 = .ok (.sipush 320, 3) := by decide +kernel
theorem dX3_erased_42 : decode cX3_erased 42 = .ok (.iload_n 3, 1) := by decide +kernel
theorem dX3_erased_43 : decode cX3_erased 43 = .ok (.iadd, 1) := by decide +kernel
theorem dX3_erased_44 : decode cX3_erased 44 = .ok (.iaload, 1) := by decide +kernel
theorem dX3_erased_45 : decode cX3_erased 45 = .ok (.iconst 1, 1) := by decide +kernel
theorem dX3_erased_46 : decode cX3_erased 46 = .ok (.if_icmp .ne 7, 3) := by decide +kernel
theorem dX3_erased_49 : decode cX3_erased 49 = .ok (.iconst 1, 1) := by decide +kernel
theorem dX3_erased_50 : decode cX3_erased 50 = .ok (.goto 4, 3) := by decide +kernel
theorem dX3_erased_53 : decode cX3_erased 53 = .ok (.iconst 0, 1) := by decide +kernel
theorem dX3_erased_54 : decode cX3_erased 54 = .ok (.iadd, 1) := by decide +kernel
theorem dX3_erased_55 : decode cX3_erased 55 = .ok (.istore_n 2, 1) := by decide +kernel
theorem dX3_erased_56 : decode cX3_erased 56 = .ok (.iinc 3 1, 3) := by decide +kernel
theorem dX3_erased_59 : decode cX3_erased 59 = .ok (.goto (-45), 3) := by decide +kernel
theorem dX3_erased_62 : decode cX3_erased 62 = .ok (.iload_n 2, 1) := by decide +kernel
theorem dX3_erased_63 : decode cX3_erased 63 = .ok (.ireturn, 1) := by decide +kernel
theorem dX3_looks_0 : decode cX3_looks 0 = .ok (.aload_n 0, 1) := by decide +kernel
theorem dX3_looks_1 : decode cX3_looks 1 = .ok (.aload_n 0, 1) := by decide +kernel
theorem dX3_looks_2 : decode cX3_looks 2 = .ok (.iload_n 1, 1) := by decide +kernel
theorem dX3_looks_3 : decode cX3_looks 3 = .ok (.invokevirtual 84, 3) := by decide +kernel
theorem dX3_looks_6 : decode cX3_looks 6 = .ok (.putfield 133, 3) := by decide +kernel
theorem dX3_looks_9 : decode cX3_looks 9 = .ok (.aload_n 0, 1) := by decide +kernel
theorem dX3_looks_10 : decode cX3_looks 10 = .ok (.aload_n 0, 1) := by decide +kernel
theorem dX3_looks_11 : decode cX3_looks 11 = .ok (.iload_n 1, 1) := by decide +kernel
theorem dX3_looks_12 : decode cX3_looks 12 = .ok (.iconst 2, 1) := by decide +kernel
theorem dX3_looks_13 : decode cX3_looks 13 = .ok (.invokevirtual 77, 3) := by decide +kernel
theorem dX3_looks_16 : decode cX3_looks 16 = .ok (.putfield 135, 3) := by decide +kernel
theorem dX3_looks_19 : decode cX3_looks 19 = .ok (.aload_n 0, 1) := by decide +kernel
theorem dX3_looks_20 : decode cX3_looks 20 = .ok (.iconst 0, 1) := by decide +kernel
theorem dX3_looks_21 : decode cX3_looks 21 = .ok (.putfield 138, 3) := by decide +kernel
theorem dX3_looks_24 : decode cX3_looks 24 = .ok (.iconst 0, 1) := by decide +kernel
theorem dX3_looks_25 : decode cX3_looks 25 = .ok (.istore_n 3, 1) := by decide +kernel
theorem dX3_looks_26 : decode cX3_looks 26 = .ok (.iload_n 3, 1) := by decide +kernel
theorem dX3_looks_27 : decode cX3_looks 27 = .ok (.aload_n 0, 1) := by decide +kernel
theorem dX3_looks_28 : decode cX3_looks 28 = .ok (.getfield 133, 3) := by decide +kernel
theorem dX3_looks_31 : decode cX3_looks 31 = .ok (.if_icmp .ge 65, 3) := by decide +kernel
theorem dX3_looks_34 : decode cX3_looks 34 = .ok (.aload_n 0, 1) := by decide +kernel
theorem dX3_looks_35 : decode cX3_looks 35 = .ok (.iload_n 1, 1) := by decide +kernel
theorem dX3_looks_36 : decode cX3_looks 36 = .ok (.iload_n 2, 1) := by decide +kernel
theorem dX3_looks_37 : decode cX3_looks 37 = .ok (.iload_n 3, 1) := by decide +kernel
theorem dX3_looks_38 : decode cX3_looks 38 = .ok (.invokevirtual 145, 3) := by decide +kernel
theorem dX3_looks_41 : decode cX3_looks 41 = .ok (.istore 4, 2) := by decide +kernel
theorem dX3_looks_43 : decode cX3_looks 43 = .ok (.aload_n 0, 1) := by decide +kernel
theorem dX3_looks_44 : decode cX3_looks 44 = .ok (.getfield 42, 3) := by decide +kernel
theorem dX3_looks_47 : decode cX3_looks 47 = .ok (.iload_n 3, 1) := by decide +kernel
theorem dX3_looks_48 : decode cX3_looks 48 = .ok (.aload_n 0, 1) := by decide +kernel
theorem dX3_looks_49 : decode cX3_looks 49 = .ok (.getfield 9, 3) := by decide +kernel
theorem dX3_looks_52 : decode cX3_looks 52 = .ok (.bipush 80, 2) := by decide +kernel
theorem dX3_looks_54 : decode cX3_looks 54 = .ok (.iload 4, 2) := by decide +kernel
theorem dX3_looks_56 : decode cX3_looks 56 = .ok (.iadd, 1) := by decide +kernel
theorem dX3_looks_57 : decode cX3_looks 57 = .ok (.iaload, 1) := by decide +kernel
theorem dX3_looks_58 : decode cX3_looks 58 = .ok (.iastore, 1) := by decide +kernel
theorem dX3_looks_59 : decode cX3_looks 59 = .ok (.aload_n 0, 1) := by decide +kernel
theorem dX3_looks_60 : decode cX3_looks 60 = .ok (.dup, 1) := by decide +kernel
theorem dX3_looks_61 : decode cX3_looks 61 = .ok (.getfield 138, 3) := by decide +kernel
theorem dX3_looks_64 : decode cX3_looks 64 = .ok (.aload_n 0, 1) := by decide +kernel
theorem dX3_looks_65 : decode cX3_looks 65 = .ok (.getfield 9, 3) := by decide +kernel
theorem dX3_looks_68 : decode cX3_looks 68 = .ok (.sipush 320, 3) := by decide +kernel
theorem dX3_looks_71 : decode cX3_looks 71 = .ok (.iload 4, 2) := by decide +kernel
theorem dX3_looks_73 : decode cX3_looks 73 = .ok (.iadd, 1) := by decide +kernel
theorem dX3_looks_74 : decode cX3_looks 74 = .ok (.iaload, 1) := by decide +kernel
theorem dX3_looks_75 : decode cX3_looks 75 = .ok (.iconst 1, 1) := by decide +kernel
theorem dX3_looks_76 : decode cX3_looks 76 = .ok (.if_icmp .ne 9, 3) := by decide +kernel
theorem dX3_looks_79 : decode cX3_looks 79 = .ok (.iconst 1, 1) := by decide +kernel
theorem dX3_looks_80 : decode cX3_looks 80 = .ok (.iload_n 3, 1) := by decide +kernel
theorem dX3_looks_81 : decode cX3_looks 81 = .ok (.ishl, 1) := by decide +kernel
theorem dX3_looks_82 : decode cX3_looks 82 = .ok (.goto 4, 3) := by decide +kernel
theorem dX3_looks_85 : decode cX3_looks 85 = .ok (.iconst 0, 1) := by decide +kernel
theorem dX3_looks_86 : decode cX3_looks 86 = .ok (.ior, 1) := by decide +kernel
theorem dX3_looks_87 : decode cX3_looks 87 = .ok (.putfield 138, 3) := by decide +kernel
theorem dX3_looks_90 : decode cX3_looks 90 = .ok (.iinc 3 1, 3) := by decide +kernel
theorem dX3_looks_93 : decode cX3_looks 93 = .ok (.goto (-67), 3) := by decide +kernel
theorem dX3_looks_96 : decode cX3_looks 96 = .ok (.return_, 1) := by decide +kernel
theorem dX3_sumOf_0 : decode cX3_sumOf 0 = .ok (.iconst 0, 1) := by decide +kernel
theorem dX3_sumOf_1 : decode cX3_sumOf 1 = .ok (.istore_n 2, 1) := by decide +kernel
theorem dX3_sumOf_2 : decode cX3_sumOf 2 = .ok (.iconst 0, 1) := by decide +kernel
theorem dX3_sumOf_3 : decode cX3_sumOf 3 = .ok (.istore_n 3, 1) := by decide +kernel
theorem dX3_sumOf_4 : decode cX3_sumOf 4 = .ok (.iload_n 3, 1) := by decide +kernel
theorem dX3_sumOf_5 : decode cX3_sumOf 5 = .ok (.aload_n 0, 1) := by decide +kernel
theorem dX3_sumOf_6 : decode cX3_sumOf 6 = .ok (.getfield 133, 3) := by decide +kernel
theorem dX3_sumOf_9 : decode cX3_sumOf 9 = .ok (.if_icmp .ge 29, 3) := by decide +kernel
theorem dX3_sumOf_12 : decode cX3_sumOf 12 = .ok (.iload_n 2, 1) := by decide +kernel
theorem dX3_sumOf_13 : decode cX3_sumOf 13 = .ok (.aload_n 0, 1) := by decide +kernel
theorem dX3_sumOf_14 : decode cX3_sumOf 14 = .ok (.aload_n 0, 1) := by decide +kernel
theorem dX3_sumOf_15 : decode cX3_sumOf 15 = .ok (.getfield 42, 3) := by decide +kernel
theorem dX3_sumOf_18 : decode cX3_sumOf 18 = .ok (.iload_n 3, 1) := by decide +kernel
theorem dX3_sumOf_19 : decode cX3_sumOf 19 = .ok (.iaload, 1) := by decide +kernel
theorem dX3_sumOf_20 : decode cX3_sumOf 20 = .ok (.aload_n 0, 1) := by decide +kernel
theorem dX3_sumOf_21 : decode cX3_sumOf 21 = .ok (.iload_n 3, 1) := by decide +kernel
theorem dX3_sumOf_22 : decode cX3_sumOf 22 = .ok (.iload_n 1, 1) := by decide +kernel
theorem dX3_sumOf_23 : decode cX3_sumOf 23 = .ok (.imul, 1) := by decide +kernel
theorem dX3_sumOf_24 : decode cX3_sumOf 24 = .ok (.invokevirtual 169, 3) := by decide +kernel
theorem dX3_sumOf_27 : decode cX3_sumOf 27 = .ok (.invokevirtual 172, 3) := by decide +kernel
theorem dX3_sumOf_30 : decode cX3_sumOf 30 = .ok (.ixor, 1) := by decide +kernel
theorem dX3_sumOf_31 : decode cX3_sumOf 31 = .ok (.istore_n 2, 1) := by decide +kernel
theorem dX3_sumOf_32 : decode cX3_sumOf 32 = .ok (.iinc 3 1, 3) := by decide +kernel
theorem dX3_sumOf_35 : decode cX3_sumOf 35 = .ok (.goto (-31), 3) := by decide +kernel
theorem dX3_sumOf_38 : decode cX3_sumOf 38 = .ok (.iload_n 2, 1) := by decide +kernel
theorem dX3_sumOf_39 : decode cX3_sumOf 39 = .ok (.ireturn, 1) := by decide +kernel
theorem dX3_bits_0 : decode cX3_bits 0 = .ok (.iconst 0, 1) := by decide +kernel
theorem dX3_bits_1 : decode cX3_bits 1 = .ok (.istore_n 1, 1) := by decide +kernel
theorem dX3_bits_2 : decode cX3_bits 2 = .ok (.iconst 0, 1) := by decide +kernel
theorem dX3_bits_3 : decode cX3_bits 3 = .ok (.istore_n 2, 1) := by decide +kernel
theorem dX3_bits_4 : decode cX3_bits 4 = .ok (.iload_n 2, 1) := by decide +kernel
theorem dX3_bits_5 : decode cX3_bits 5 = .ok (.bipush 14, 2) := by decide +kernel
theorem dX3_bits_7 : decode cX3_bits 7 = .ok (.if_icmp .ge 17, 3) := by decide +kernel
theorem dX3_bits_10 : decode cX3_bits 10 = .ok (.iload_n 1, 1) := by decide +kernel
theorem dX3_bits_11 : decode cX3_bits 11 = .ok (.iload_n 0, 1) := by decide +kernel
theorem dX3_bits_12 : decode cX3_bits 12 = .ok (.iload_n 2, 1) := by decide +kernel
theorem dX3_bits_13 : decode cX3_bits 13 = .ok (.ishr, 1) := by decide +kernel
theorem dX3_bits_14 : decode cX3_bits 14 = .ok (.iconst 1, 1) := by decide +kernel
theorem dX3_bits_15 : decode cX3_bits 15 = .ok (.iand, 1) := by decide +kernel
theorem dX3_bits_16 : decode cX3_bits 16 = .ok (.iadd, 1) := by decide +kernel
theorem dX3_bits_17 : decode cX3_bits 17 = .ok (.istore_n 1, 1) := by decide +kernel
theorem dX3_bits_18 : decode cX3_bits 18 = .ok (.iinc 2 1, 3) := by decide +kernel
theorem dX3_bits_21 : decode cX3_bits 21 = .ok (.goto (-17), 3) := by decide +kernel
theorem dX3_bits_24 : decode cX3_bits 24 = .ok (.iload_n 1, 1) := by decide +kernel
theorem dX3_bits_25 : decode cX3_bits 25 = .ok (.ireturn, 1) := by decide +kernel
theorem dX3_isSolved_0 : decode cX3_isSolved 0 = .ok (.iconst 0, 1) := by decide +kernel
theorem dX3_isSolved_1 : decode cX3_isSolved 1 = .ok (.istore_n 2, 1) := by decide +kernel
theorem dX3_isSolved_2 : decode cX3_isSolved 2 = .ok (.iconst 0, 1) := by decide +kernel
theorem dX3_isSolved_3 : decode cX3_isSolved 3 = .ok (.istore_n 3, 1) := by decide +kernel
theorem dX3_isSolved_4 : decode cX3_isSolved 4 = .ok (.iload_n 3, 1) := by decide +kernel
theorem dX3_isSolved_5 : decode cX3_isSolved 5 = .ok (.aload_n 0, 1) := by decide +kernel
theorem dX3_isSolved_6 : decode cX3_isSolved 6 = .ok (.getfield 133, 3) := by decide +kernel
theorem dX3_isSolved_9 : decode cX3_isSolved 9 = .ok (.if_icmp .ge 30, 3) := by decide +kernel
theorem dX3_isSolved_12 : decode cX3_isSolved 12 = .ok (.iload_n 1, 1) := by decide +kernel
theorem dX3_isSolved_13 : decode cX3_isSolved 13 = .ok (.iload_n 3, 1) := by decide +kernel
theorem dX3_isSolved_14 : decode cX3_isSolved 14 = .ok (.ishr, 1) := by decide +kernel
theorem dX3_isSolved_15 : decode cX3_isSolved 15 = .ok (.iconst 1, 1) := by decide +kernel
theorem dX3_isSolved_16 : decode cX3_isSolved 16 = .ok (.iand, 1) := by decide +kernel
theorem dX3_isSolved_17 : decode cX3_isSolved 17 = .ok (.ifCond .ne 6, 3) := by decide +kernel
theorem dX3_isSolved_20 : decode cX3_isSolved 20 = .ok (.goto 13, 3) := by decide +kernel
theorem dX3_isSolved_23 : decode cX3_isSolved 23 = .ok (.aload_n 0, 1) := by decide +kernel
theorem dX3_isSolved_24 : decode cX3_isSolved 24 = .ok (.getfield 48, 3) := by decide +kernel
theorem dX3_isSolved_27 : decode cX3_isSolved 27 = .ok (.iload_n 2, 1) := by decide +kernel
theorem dX3_isSolved_28 : decode cX3_isSolved 28 = .ok (.iload_n 3, 1) := by decide +kernel
theorem dX3_isSolved_29 : decode cX3_isSolved 29 = .ok (.iastore, 1) := by decide +kernel
theorem dX3_isSolved_30 : decode cX3_isSolved 30 = .ok (.iinc 2 1, 3) := by decide +kernel
theorem dX3_isSolved_33 : decode cX3_isSolved 33 = .ok (.iinc 3 1, 3) := by decide +kernel
theorem dX3_isSolved_36 : decode cX3_isSolved 36 = .ok (.goto (-32), 3) := by decide +kernel
theorem dX3_isSolved_39 : decode cX3_isSolved 39 = .ok (.iconst 0, 1) := by decide +kernel
theorem dX3_isSolved_40 : decode cX3_isSolved 40 = .ok (.istore_n 3, 1) := by decide +kernel
theorem dX3_isSolved_41 : decode cX3_isSolved 41 = .ok (.iload_n 3, 1) := by decide +kernel
theorem dX3_isSolved_42 : decode cX3_isSolved 42 = .ok (.aload_n 0, 1) := by decide +kernel
theorem dX3_isSolved_43 : decode cX3_isSolved 43 = .ok (.getfield 135, 3) := by decide +kernel
theorem dX3_isSolved_46 : decode cX3_isSolved 46 = .ok (.if_icmp .ge 67, 3) := by decide +kernel
theorem dX3_isSolved_49 : decode cX3_isSolved 49 = .ok (.iconst 0, 1) := by decide +kernel
theorem dX3_isSolved_50 : decode cX3_isSolved 50 = .ok (.istore 4, 2) := by decide +kernel
theorem dX3_isSolved_52 : decode cX3_isSolved 52 = .ok (.iload 4, 2) := by decide +kernel
theorem dX3_isSolved_54 : decode cX3_isSolved 54 = .ok (.iload_n 2, 1) := by decide +kernel
theorem dX3_isSolved_55 : decode cX3_isSolved 55 = .ok (.if_icmp .ge 34, 3) := by decide +kernel
theorem dX3_isSolved_58 : decode cX3_isSolved 58 = .ok (.aload_n 0, 1) := by decide +kernel
theorem dX3_isSolved_59 : decode cX3_isSolved 59 = .ok (.getfield 54, 3) := by decide +kernel
theorem dX3_isSolved_62 : decode cX3_isSolved 62 = .ok (.bipush 8, 2) := by decide +kernel
theorem dX3_isSolved_64 : decode cX3_isSolved 64 = .ok (.iload_n 3, 1) := by decide +kernel
theorem dX3_isSolved_65 : decode cX3_isSolved 65 = .ok (.imul, 1) := by decide +kernel
theorem dX3_isSolved_66 : decode cX3_isSolved 66 = .ok (.iload 4, 2) := by decide +kernel
theorem dX3_isSolved_68 : decode cX3_isSolved 68 = .ok (.iadd, 1) := by decide +kernel
theorem dX3_isSolved_69 : decode cX3_isSolved 69 = .ok (.aload_n 0, 1) := by decide +kernel
theorem dX3_isSolved_70 : decode cX3_isSolved 70 = .ok (.aload_n 0, 1) := by decide +kernel
theorem dX3_isSolved_71 : decode cX3_isSolved 71 = .ok (.getfield 48, 3) := by decide +kernel
theorem dX3_isSolved_74 : decode cX3_isSolved 74 = .ok (.iload 4, 2) := by decide +kernel
theorem dX3_isSolved_76 : decode cX3_isSolved 76 = .ok (.iaload, 1) := by decide +kernel
theorem dX3_isSolved_77 : decode cX3_isSolved 77 = .ok (.iload_n 3, 1) := by decide +kernel
theorem dX3_isSolved_78 : decode cX3_isSolved 78 = .ok (.imul, 1) := by decide +kernel
theorem dX3_isSolved_79 : decode cX3_isSolved 79 = .ok (.invokevirtual 169, 3) := by decide +kernel
theorem dX3_isSolved_82 : decode cX3_isSolved 82 = .ok (.iastore, 1) := by decide +kernel
theorem dX3_isSolved_83 : decode cX3_isSolved 83 = .ok (.iinc 4 1, 3) := by decide +kernel
theorem dX3_isSolved_86 : decode cX3_isSolved 86 = .ok (.goto (-34), 3) := by decide +kernel
theorem dX3_isSolved_89 : decode cX3_isSolved 89 = .ok (.aload_n 0, 1) := by decide +kernel
theorem dX3_isSolved_90 : decode cX3_isSolved 90 = .ok (.getfield 54, 3) := by decide +kernel
theorem dX3_isSolved_93 : decode cX3_isSolved 93 = .ok (.bipush 8, 2) := by decide +kernel
theorem dX3_isSolved_95 : decode cX3_isSolved 95 = .ok (.iload_n 3, 1) := by decide +kernel
theorem dX3_isSolved_96 : decode cX3_isSolved 96 = .ok (.imul, 1) := by decide +kernel
theorem dX3_isSolved_97 : decode cX3_isSolved 97 = .ok (.bipush 7, 2) := by decide +kernel
theorem dX3_isSolved_99 : decode cX3_isSolved 99 = .ok (.iadd, 1) := by decide +kernel
theorem dX3_isSolved_100 : decode cX3_isSolved 100 = .ok (.aload_n 0, 1) := by decide +kernel
theorem dX3_isSolved_101 : decode cX3_isSolved 101 = .ok (.getfield 57, 3) := by decide +kernel
theorem dX3_isSolved_104 : decode cX3_isSolved 104 = .ok (.iload_n 3, 1) := by decide +kernel
theorem dX3_isSolved_105 : decode cX3_isSolved 105 = .ok (.iaload, 1) := by decide +kernel
theorem dX3_isSolved_106 : decode cX3_isSolved 106 = .ok (.iastore, 1) := by decide +kernel
theorem dX3_isSolved_107 : decode cX3_isSolved 107 = .ok (.iinc 3 1, 3) := by decide +kernel
theorem dX3_isSolved_110 : decode cX3_isSolved 110 = .ok (.goto (-69), 3) := by decide +kernel
theorem dX3_isSolved_113 : decode cX3_isSolved 113 = .ok (.iconst 0, 1) := by decide +kernel
theorem dX3_isSolved_114 : decode cX3_isSolved 114 = .ok (.istore_n 3, 1) := by decide +kernel
theorem dX3_isSolved_115 : decode cX3_isSolved 115 = .ok (.iload_n 3, 1) := by decide +kernel
theorem dX3_isSolved_116 : decode cX3_isSolved 116 = .ok (.iload_n 2, 1) := by decide +kernel
theorem dX3_isSolved_117 : decode cX3_isSolved 117 = .ok (.if_icmp .ge 216, 3) := by decide +kernel
theorem dX3_isSolved_120 : decode cX3_isSolved 120 = .ok (.iload_n 3, 1) := by decide +kernel
theorem dX3_isSolved_121 : decode cX3_isSolved 121 = .ok (.istore 4, 2) := by decide +kernel
theorem dX3_isSolved_123 : decode cX3_isSolved 123 = .ok (.aload_n 0, 1) := by decide +kernel
theorem dX3_isSolved_124 : decode cX3_isSolved 124 = .ok (.getfield 54, 3) := by decide +kernel
theorem dX3_isSolved_127 : decode cX3_isSolved 127 = .ok (.bipush 8, 2) := by decide +kernel
theorem dX3_isSolved_129 : decode cX3_isSolved 129 = .ok (.iload 4, 2) := by decide +kernel
theorem dX3_isSolved_131 : decode cX3_isSolved 131 = .ok (.imul, 1) := by decide +kernel
theorem dX3_isSolved_132 : decode cX3_isSolved 132 = .ok (.iload_n 3, 1) := by decide +kernel
theorem dX3_isSolved_133 : decode cX3_isSolved 133 = .ok (.iadd, 1) := by decide +kernel
theorem dX3_isSolved_134 : decode cX3_isSolved 134 = .ok (.iaload, 1) := by decide +kernel
theorem dX3_isSolved_135 : decode cX3_isSolved 135 = .ok (.ifCond .ne 9, 3) := by decide +kernel
theorem dX3_isSolved_138 : decode cX3_isSolved 138 = .ok (.iinc 4 1, 3) := by decide +kernel
theorem dX3_isSolved_141 : decode cX3_isSolved 141 = .ok (.goto (-18), 3) := by decide +kernel
theorem dX3_isSolved_144 : decode cX3_isSolved 144 = .ok (.aload_n 0, 1) := by decide +kernel
theorem dX3_isSolved_145 : decode cX3_isSolved 145 = .ok (.getfield 36, 3) := by decide +kernel
theorem dX3_isSolved_148 : decode cX3_isSolved 148 = .ok (.aload_n 0, 1) := by decide +kernel
theorem dX3_isSolved_149 : decode cX3_isSolved 149 = .ok (.getfield 54, 3) := by decide +kernel
theorem dX3_isSolved_152 : decode cX3_isSolved 152 = .ok (.bipush 8, 2) := by decide +kernel
theorem dX3_isSolved_154 : decode cX3_isSolved 154 = .ok (.iload 4, 2) := by decide +kernel
theorem dX3_isSolved_156 : decode cX3_isSolved 156 = .ok (.imul, 1) := by decide +kernel
theorem dX3_isSolved_157 : decode cX3_isSolved 157 = .ok (.iload_n 3, 1) := by decide +kernel
theorem dX3_isSolved_158 : decode cX3_isSolved 158 = .ok (.iadd, 1) := by decide +kernel
theorem dX3_isSolved_159 : decode cX3_isSolved 159 = .ok (.iaload, 1) := by decide +kernel
theorem dX3_isSolved_160 : decode cX3_isSolved 160 = .ok (.iaload, 1) := by decide +kernel
theorem dX3_isSolved_161 : decode cX3_isSolved 161 = .ok (.istore 5, 2) := by decide +kernel
theorem dX3_isSolved_163 : decode cX3_isSolved 163 = .ok (.iconst 0, 1) := by decide +kernel
theorem dX3_isSolved_164 : decode cX3_isSolved 164 = .ok (.istore 6, 2) := by decide +kernel
theorem dX3_isSolved_166 : decode cX3_isSolved 166 = .ok (.iload 6, 2) := by decide +kernel
theorem dX3_isSolved_168 : decode cX3_isSolved 168 = .ok (.bipush 8, 2) := by decide +kernel
theorem dX3_isSolved_170 : decode cX3_isSolved 170 = .ok (.if_icmp .ge 69, 3) := by decide +kernel
theorem dX3_isSolved_173 : decode cX3_isSolved 173 = .ok (.aload_n 0, 1) := by decide +kernel
theorem dX3_isSolved_174 : decode cX3_isSolved 174 = .ok (.aload_n 0, 1) := by decide +kernel
theorem dX3_isSolved_175 : decode cX3_isSolved 175 = .ok (.getfield 54, 3) := by decide +kernel
theorem dX3_isSolved_178 : decode cX3_isSolved 178 = .ok (.bipush 8, 2) := by decide +kernel
theorem dX3_isSolved_180 : decode cX3_isSolved 180 = .ok (.iload 4, 2) := by decide +kernel
theorem dX3_isSolved_182 : decode cX3_isSolved 182 = .ok (.imul, 1) := by decide +kernel
theorem dX3_isSolved_183 : decode cX3_isSolved 183 = .ok (.iload 6, 2) := by decide +kernel
theorem dX3_isSolved_185 : decode cX3_isSolved 185 = .ok (.iadd, 1) := by decide +kernel
theorem dX3_isSolved_186 : decode cX3_isSolved 186 = .ok (.iaload, 1) := by decide +kernel
theorem dX3_isSolved_187 : decode cX3_isSolved 187 = .ok (.iload 5, 2) := by decide +kernel
theorem dX3_isSolved_189 : decode cX3_isSolved 189 = .ok (.invokevirtual 172, 3) := by decide +kernel
theorem dX3_isSolved_192 : decode cX3_isSolved 192 = .ok (.istore 7, 2) := by decide +kernel
theorem dX3_isSolved_194 : decode cX3_isSolved 194 = .ok (.aload_n 0, 1) := by decide +kernel
theorem dX3_isSolved_195 : decode cX3_isSolved 195 = .ok (.getfield 54, 3) := by decide +kernel
theorem dX3_isSolved_198 : decode cX3_isSolved 198 = .ok (.bipush 8, 2) := by decide +kernel
theorem dX3_isSolved_200 : decode cX3_isSolved 200 = .ok (.iload 4, 2) := by decide +kernel
theorem dX3_isSolved_202 : decode cX3_isSolved 202 = .ok (.imul, 1) := by decide +kernel
theorem dX3_isSolved_203 : decode cX3_isSolved 203 = .ok (.iload 6, 2) := by decide +kernel
theorem dX3_isSolved_205 : decode cX3_isSolved 205 = .ok (.iadd, 1) := by decide +kernel
theorem dX3_isSolved_206 : decode cX3_isSolved 206 = .ok (.aload_n 0, 1) := by decide +kernel
theorem dX3_isSolved_207 : decode cX3_isSolved 207 = .ok (.getfield 54, 3) := by decide +kernel
theorem dX3_isSolved_210 : decode cX3_isSolved 210 = .ok (.bipush 8, 2) := by decide +kernel
theorem dX3_isSolved_212 : decode cX3_isSolved 212 = .ok (.iload_n 3, 1) := by decide +kernel
theorem dX3_isSolved_213 : decode cX3_isSolved 213 = .ok (.imul, 1) := by decide +kernel
theorem dX3_isSolved_214 : decode cX3_isSolved 214 = .ok (.iload 6, 2) := by decide +kernel
theorem dX3_isSolved_216 : decode cX3_isSolved 216 = .ok (.iadd, 1) := by decide +kernel
theorem dX3_isSolved_217 : decode cX3_isSolved 217 = .ok (.iaload, 1) := by decide +kernel
theorem dX3_isSolved_218 : decode cX3_isSolved 218 = .ok (.iastore, 1) := by decide +kernel
theorem dX3_isSolved_219 : decode cX3_isSolved 219 = .ok (.aload_n 0, 1) := by decide +kernel
theorem dX3_isSolved_220 : decode cX3_isSolved 220 = .ok (.getfield 54, 3) := by decide +kernel
theorem dX3_isSolved_223 : decode cX3_isSolved 223 = .ok (.bipush 8, 2) := by decide +kernel
theorem dX3_isSolved_225 : decode cX3_isSolved 225 = .ok (.iload_n 3, 1) := by decide +kernel
theorem dX3_isSolved_226 : decode cX3_isSolved 226 = .ok (.imul, 1) := by decide +kernel
theorem dX3_isSolved_227 : decode cX3_isSolved 227 = .ok (.iload 6, 2) := by decide +kernel
theorem dX3_isSolved_229 : decode cX3_isSolved 229 = .ok (.iadd, 1) := by decide +kernel
theorem dX3_isSolved_230 : decode cX3_isSolved 230 = .ok (.iload 7, 2) := by decide +kernel
theorem dX3_isSolved_232 : decode cX3_isSolved 232 = .ok (.iastore, 1) := by decide +kernel
theorem dX3_isSolved_233 : decode cX3_isSolved 233 = .ok (.iinc 6 1, 3) := by decide +kernel
theorem dX3_isSolved_236 : decode cX3_isSolved 236 = .ok (.goto (-70), 3) := by decide +kernel
theorem dX3_isSolved_239 : decode cX3_isSolved 239 = .ok (.iconst 0, 1) := by decide +kernel
theorem dX3_isSolved_240 : decode cX3_isSolved 240 = .ok (.istore 6, 2) := by decide +kernel
theorem dX3_isSolved_242 : decode cX3_isSolved 242 = .ok (.iload 6, 2) := by decide +kernel
theorem dX3_isSolved_244 : decode cX3_isSolved 244 = .ok (.aload_n 0, 1) := by decide +kernel
theorem dX3_isSolved_245 : decode cX3_isSolved 245 = .ok (.getfield 135, 3) := by decide +kernel
theorem dX3_isSolved_248 : decode cX3_isSolved 248 = .ok (.if_icmp .ge 79, 3) := by decide +kernel
theorem dX3_isSolved_251 : decode cX3_isSolved 251 = .ok (.aload_n 0, 1) := by decide +kernel
theorem dX3_isSolved_252 : decode cX3_isSolved 252 = .ok (.getfield 54, 3) := by decide +kernel
theorem dX3_isSolved_255 : decode cX3_isSolved 255 = .ok (.bipush 8, 2) := by decide +kernel
theorem dX3_isSolved_257 : decode cX3_isSolved 257 = .ok (.iload 6, 2) := by decide +kernel
theorem dX3_isSolved_259 : decode cX3_isSolved 259 = .ok (.imul, 1) := by decide +kernel
theorem dX3_isSolved_260 : decode cX3_isSolved 260 = .ok (.iload_n 3, 1) := by decide +kernel
theorem dX3_isSolved_261 : decode cX3_isSolved 261 = .ok (.iadd, 1) := by decide +kernel
theorem dX3_isSolved_262 : decode cX3_isSolved 262 = .ok (.iaload, 1) := by decide +kernel
theorem dX3_isSolved_263 : decode cX3_isSolved 263 = .ok (.istore 7, 2) := by decide +kernel
theorem dX3_isSolved_265 : decode cX3_isSolved 265 = .ok (.iconst 0, 1) := by decide +kernel
theorem dX3_isSolved_266 : decode cX3_isSolved 266 = .ok (.istore 8, 2) := by decide +kernel
theorem dX3_isSolved_268 : decode cX3_isSolved 268 = .ok (.iload 8, 2) := by decide +kernel
theorem dX3_isSolved_270 : decode cX3_isSolved 270 = .ok (.bipush 8, 2) := by decide +kernel
theorem dX3_isSolved_272 : decode cX3_isSolved 272 = .ok (.if_icmp .ge 49, 3) := by decide +kernel
theorem dX3_isSolved_275 : decode cX3_isSolved 275 = .ok (.iload 6, 2) := by decide +kernel
theorem dX3_isSolved_277 : decode cX3_isSolved 277 = .ok (.iload_n 3, 1) := by decide +kernel
theorem dX3_isSolved_278 : decode cX3_isSolved 278 = .ok (.if_icmp .eq 43, 3) := by decide +kernel
theorem dX3_isSolved_281 : decode cX3_isSolved 281 = .ok (.aload_n 0, 1) := by decide +kernel
theorem dX3_isSolved_282 : decode cX3_isSolved 282 = .ok (.getfield 54, 3) := by decide +kernel
theorem dX3_isSolved_285 : decode cX3_isSolved 285 = .ok (.bipush 8, 2) := by decide +kernel
theorem dX3_isSolved_287 : decode cX3_isSolved 287 = .ok (.iload 6, 2) := by decide +kernel
theorem dX3_isSolved_289 : decode cX3_isSolved 289 = .ok (.imul, 1) := by decide +kernel
theorem dX3_isSolved_290 : decode cX3_isSolved 290 = .ok (.iload 8, 2) := by decide +kernel
theorem dX3_isSolved_292 : decode cX3_isSolved 292 = .ok (.iadd, 1) := by decide +kernel
theorem dX3_isSolved_293 : decode cX3_isSolved 293 = .ok (.dup2, 1) := by decide +kernel
theorem dX3_isSolved_294 : decode cX3_isSolved 294 = .ok (.iaload, 1) := by decide +kernel
theorem dX3_isSolved_295 : decode cX3_isSolved 295 = .ok (.aload_n 0, 1) := by decide +kernel
theorem dX3_isSolved_296 : decode cX3_isSolved 296 = .ok (.iload 7, 2) := by decide +kernel
theorem dX3_isSolved_298 : decode cX3_isSolved 298 = .ok (.aload_n 0, 1) := by decide +kernel
theorem dX3_isSolved_299 : decode cX3_isSolved 299 = .ok (.getfield 54, 3) := by decide +kernel
theorem dX3_isSolved_302 : decode cX3_isSolved 302 = .ok (.bipush 8, 2) := by decide +kernel
theorem dX3_isSolved_304 : decode cX3_isSolved 304 = .ok (.iload_n 3, 1) := by decide +kernel
theorem dX3_isSolved_305 : decode cX3_isSolved 305 = .ok (.imul, 1) := by decide +kernel
theorem dX3_isSolved_306 : decode cX3_isSolved 306 = .ok (.iload 8, 2) := by decide +kernel
theorem dX3_isSolved_308 : decode cX3_isSolved 308 = .ok (.iadd, 1) := by decide +kernel
theorem dX3_isSolved_309 : decode cX3_isSolved 309 = .ok (.iaload, 1) := by decide +kernel
theorem dX3_isSolved_310 : decode cX3_isSolved 310 = .ok (.invokevirtual 172, 3) := by decide +kernel
theorem dX3_isSolved_313 : decode cX3_isSolved 313 = .ok (.ixor, 1) := by decide +kernel
theorem dX3_isSolved_314 : decode cX3_isSolved 314 = .ok (.iastore, 1) := by decide +kernel
theorem dX3_isSolved_315 : decode cX3_isSolved 315 = .ok (.iinc 8 1, 3) := by decide +kernel
theorem dX3_isSolved_318 : decode cX3_isSolved 318 = .ok (.goto (-50), 3) := by decide +kernel
theorem dX3_isSolved_321 : decode cX3_isSolved 321 = .ok (.iinc 6 1, 3) := by decide +kernel
theorem dX3_isSolved_324 : decode cX3_isSolved 324 = .ok (.goto (-82), 3) := by decide +kernel
theorem dX3_isSolved_327 : decode cX3_isSolved 327 = .ok (.iinc 3 1, 3) := by decide +kernel
theorem dX3_isSolved_330 : decode cX3_isSolved 330 = .ok (.goto (-215), 3) := by decide +kernel
theorem dX3_isSolved_333 : decode cX3_isSolved 333 = .ok (.iload_n 2, 1) := by decide +kernel
theorem dX3_isSolved_334 : decode cX3_isSolved 334 = .ok (.istore_n 3, 1) := by decide +kernel
theorem dX3_isSolved_335 : decode cX3_isSolved 335 = .ok (.iload_n 3, 1) := by decide +kernel
theorem dX3_isSolved_336 : decode cX3_isSolved 336 = .ok (.aload_n 0, 1) := by decide +kernel
theorem dX3_isSolved_337 : decode cX3_isSolved 337 = .ok (.getfield 135, 3) := by decide +kernel
theorem dX3_isSolved_340 : decode cX3_isSolved 340 = .ok (.if_icmp .ge 26, 3) := by decide +kernel
theorem dX3_isSolved_343 : decode cX3_isSolved 343 = .ok (.aload_n 0, 1) := by decide +kernel
theorem dX3_isSolved_344 : decode cX3_isSolved 344 = .ok (.getfield 54, 3) := by decide +kernel
theorem dX3_isSolved_347 : decode cX3_isSolved 347 = .ok (.bipush 8, 2) := by decide +kernel
theorem dX3_isSolved_349 : decode cX3_isSolved 349 = .ok (.iload_n 3, 1) := by decide +kernel
theorem dX3_isSolved_350 : decode cX3_isSolved 350 = .ok (.imul, 1) := by decide +kernel
theorem dX3_isSolved_351 : decode cX3_isSolved 351 = .ok (.bipush 7, 2) := by decide +kernel
theorem dX3_isSolved_353 : decode cX3_isSolved 353 = .ok (.iadd, 1) := by decide +kernel
theorem dX3_isSolved_354 : decode cX3_isSolved 354 = .ok (.iaload, 1) := by decide +kernel
theorem dX3_isSolved_355 : decode cX3_isSolved 355 = .ok (.ifCond .eq 5, 3) := by decide +kernel
theorem dX3_isSolved_358 : decode cX3_isSolved 358 = .ok (.iconst 0, 1) := by decide +kernel
theorem dX3_isSolved_359 : decode cX3_isSolved 359 = .ok (.ireturn, 1) := by decide +kernel
theorem dX3_isSolved_360 : decode cX3_isSolved 360 = .ok (.iinc 3 1, 3) := by decide +kernel
theorem dX3_isSolved_363 : decode cX3_isSolved 363 = .ok (.goto (-28), 3) := by decide +kernel
theorem dX3_isSolved_366 : decode cX3_isSolved 366 = .ok (.iconst 0, 1) := by decide +kernel
theorem dX3_isSolved_367 : decode cX3_isSolved 367 = .ok (.istore_n 3, 1) := by decide +kernel
theorem dX3_isSolved_368 : decode cX3_isSolved 368 = .ok (.iload_n 3, 1) := by decide +kernel
theorem dX3_isSolved_369 : decode cX3_isSolved 369 = .ok (.aload_n 0, 1) := by decide +kernel
theorem dX3_isSolved_370 : decode cX3_isSolved 370 = .ok (.getfield 133, 3) := by decide +kernel
theorem dX3_isSolved_373 : decode cX3_isSolved 373 = .ok (.if_icmp .ge 16, 3) := by decide +kernel
theorem dX3_isSolved_376 : decode cX3_isSolved 376 = .ok (.aload_n 0, 1) := by decide +kernel
theorem dX3_isSolved_377 : decode cX3_isSolved 377 = .ok (.getfield 51, 3) := by decide +kernel
theorem dX3_isSolved_380 : decode cX3_isSolved 380 = .ok (.iload_n 3, 1) := by decide +kernel
theorem dX3_isSolved_381 : decode cX3_isSolved 381 = .ok (.iconst 0, 1) := by decide +kernel
theorem dX3_isSolved_382 : decode cX3_isSolved 382 = .ok (.iastore, 1) := by decide +kernel
theorem dX3_isSolved_383 : decode cX3_isSolved 383 = .ok (.iinc 3 1, 3) := by decide +kernel
theorem dX3_isSolved_386 : decode cX3_isSolved 386 = .ok (.goto (-18), 3) := by decide +kernel
theorem dX3_isSolved_389 : decode cX3_isSolved 389 = .ok (.iconst 0, 1) := by decide +kernel
theorem dX3_isSolved_390 : decode cX3_isSolved 390 = .ok (.istore_n 3, 1) := by decide +kernel
theorem dX3_isSolved_391 : decode cX3_isSolved 391 = .ok (.iload_n 3, 1) := by decide +kernel
theorem dX3_isSolved_392 : decode cX3_isSolved 392 = .ok (.iload_n 2, 1) := by decide +kernel
theorem dX3_isSolved_393 : decode cX3_isSolved 393 = .ok (.if_icmp .ge 32, 3) := by decide +kernel
theorem dX3_isSolved_396 : decode cX3_isSolved 396 = .ok (.aload_n 0, 1) := by decide +kernel
theorem dX3_isSolved_397 : decode cX3_isSolved 397 = .ok (.getfield 51, 3) := by decide +kernel
theorem dX3_isSolved_400 : decode cX3_isSolved 400 = .ok (.aload_n 0, 1) := by decide +kernel
theorem dX3_isSolved_401 : decode cX3_isSolved 401 = .ok (.getfield 48, 3) := by decide +kernel
theorem dX3_isSolved_404 : decode cX3_isSolved 404 = .ok (.iload_n 3, 1) := by decide +kernel
theorem dX3_isSolved_405 : decode cX3_isSolved 405 = .ok (.iaload, 1) := by decide +kernel
theorem dX3_isSolved_406 : decode cX3_isSolved 406 = .ok (.aload_n 0, 1) := by decide +kernel
theorem dX3_isSolved_407 : decode cX3_isSolved 407 = .ok (.getfield 54, 3) := by decide +kernel
theorem dX3_isSolved_410 : decode cX3_isSolved 410 = .ok (.bipush 8, 2) := by decide +kernel
theorem dX3_isSolved_412 : decode cX3_isSolved 412 = .ok (.iload_n 3, 1) := by decide +kernel
theorem dX3_isSolved_413 : decode cX3_isSolved 413 = .ok (.imul, 1) := by decide +kernel
theorem dX3_isSolved_414 : decode cX3_isSolved 414 = .ok (.bipush 7, 2) := by decide +kernel
theorem dX3_isSolved_416 : decode cX3_isSolved 416 = .ok (.iadd, 1) := by decide +kernel
theorem dX3_isSolved_417 : decode cX3_isSolved 417 = .ok (.iaload, 1) := by decide +kernel
theorem dX3_isSolved_418 : decode cX3_isSolved 418 = .ok (.iastore, 1) := by decide +kernel
theorem dX3_isSolved_419 : decode cX3_isSolved 419 = .ok (.iinc 3 1, 3) := by decide +kernel
theorem dX3_isSolved_422 : decode cX3_isSolved 422 = .ok (.goto (-31), 3) := by decide +kernel
theorem dX3_isSolved_425 : decode cX3_isSolved 425 = .ok (.iconst 1, 1) := by decide +kernel
theorem dX3_isSolved_426 : decode cX3_isSolved 426 = .ok (.ireturn, 1) := by decide +kernel
theorem dX3_isDecoded_0 : decode cX3_isDecoded 0 = .ok (.aload_n 0, 1) := by decide +kernel
theorem dX3_isDecoded_1 : decode cX3_isDecoded 1 = .ok (.aload_n 0, 1) := by decide +kernel
theorem dX3_isDecoded_2 : decode cX3_isDecoded 2 = .ok (.getfield 138, 3) := by decide +kernel
theorem dX3_isDecoded_5 : decode cX3_isDecoded 5 = .ok (.invokestatic 175, 3) := by decide +kernel
theorem dX3_isDecoded_8 : decode cX3_isDecoded 8 = .ok (.putfield 178, 3) := by decide +kernel
theorem dX3_isDecoded_11 : decode cX3_isDecoded 11 = .ok (.iconst 0, 1) := by decide +kernel
theorem dX3_isDecoded_12 : decode cX3_isDecoded 12 = .ok (.istore_n 1, 1) := by decide +kernel
theorem dX3_isDecoded_13 : decode cX3_isDecoded 13 = .ok (.iload_n 1, 1) := by decide +kernel
theorem dX3_isDecoded_14 : decode cX3_isDecoded 14 = .ok (.aload_n 0, 1) := by decide +kernel
theorem dX3_isDecoded_15 : decode cX3_isDecoded 15 = .ok (.getfield 135, 3) := by decide +kernel
theorem dX3_isDecoded_18 : decode cX3_isDecoded 18 = .ok (.if_icmp .ge 20, 3) := by decide +kernel
theorem dX3_isDecoded_21 : decode cX3_isDecoded 21 = .ok (.aload_n 0, 1) := by decide +kernel
theorem dX3_isDecoded_22 : decode cX3_isDecoded 22 = .ok (.getfield 57, 3) := by decide +kernel
theorem dX3_isDecoded_25 : decode cX3_isDecoded 25 = .ok (.iload_n 1, 1) := by decide +kernel
theorem dX3_isDecoded_26 : decode cX3_isDecoded 26 = .ok (.aload_n 0, 1) := by decide +kernel
theorem dX3_isDecoded_27 : decode cX3_isDecoded 27 = .ok (.iload_n 1, 1) := by decide +kernel
theorem dX3_isDecoded_28 : decode cX3_isDecoded 28 = .ok (.invokevirtual 181, 3) := by decide +kernel
theorem dX3_isDecoded_31 : decode cX3_isDecoded 31 = .ok (.iastore, 1) := by decide +kernel
theorem dX3_isDecoded_32 : decode cX3_isDecoded 32 = .ok (.iinc 1 1, 3) := by decide +kernel
theorem dX3_isDecoded_35 : decode cX3_isDecoded 35 = .ok (.goto (-22), 3) := by decide +kernel
theorem dX3_isDecoded_38 : decode cX3_isDecoded 38 = .ok (.aload_n 0, 1) := by decide +kernel
theorem dX3_isDecoded_39 : decode cX3_isDecoded 39 = .ok (.iconst 0, 1) := by decide +kernel
theorem dX3_isDecoded_40 : decode cX3_isDecoded 40 = .ok (.putfield 184, 3) := by decide +kernel
theorem dX3_isDecoded_43 : decode cX3_isDecoded 43 = .ok (.iconst 2, 1) := by decide +kernel
theorem dX3_isDecoded_44 : decode cX3_isDecoded 44 = .ok (.aload_n 0, 1) := by decide +kernel
theorem dX3_isDecoded_45 : decode cX3_isDecoded 45 = .ok (.getfield 184, 3) := by decide +kernel
theorem dX3_isDecoded_48 : decode cX3_isDecoded 48 = .ok (.imul, 1) := by decide +kernel
theorem dX3_isDecoded_49 : decode cX3_isDecoded 49 = .ok (.aload_n 0, 1) := by decide +kernel
theorem dX3_isDecoded_50 : decode cX3_isDecoded 50 = .ok (.getfield 178, 3) := by decide +kernel
theorem dX3_isDecoded_53 : decode cX3_isDecoded 53 = .ok (.iadd, 1) := by decide +kernel
theorem dX3_isDecoded_54 : decode cX3_isDecoded 54 = .ok (.aload_n 0, 1) := by decide +kernel
theorem dX3_isDecoded_55 : decode cX3_isDecoded 55 = .ok (.getfield 135, 3) := by decide +kernel
theorem dX3_isDecoded_58 : decode cX3_isDecoded 58 = .ok (.if_icmp .gt 127, 3) := by decide +kernel
theorem dX3_isDecoded_61 : decode cX3_isDecoded 61 = .ok (.aload_n 0, 1) := by decide +kernel
theorem dX3_isDecoded_62 : decode cX3_isDecoded 62 = .ok (.iconst 1, 1) := by decide +kernel
theorem dX3_isDecoded_63 : decode cX3_isDecoded 63 = .ok (.aload_n 0, 1) := by decide +kernel
theorem dX3_isDecoded_64 : decode cX3_isDecoded 64 = .ok (.getfield 184, 3) := by decide +kernel
theorem dX3_isDecoded_67 : decode cX3_isDecoded 67 = .ok (.ishl, 1) := by decide +kernel
theorem dX3_isDecoded_68 : decode cX3_isDecoded 68 = .ok (.iconst 1, 1) := by decide +kernel
theorem dX3_isDecoded_69 : decode cX3_isDecoded 69 = .ok (.isub, 1) := by decide +kernel
theorem dX3_isDecoded_70 : decode cX3_isDecoded 70 = .ok (.putfield 187, 3) := by decide +kernel
theorem dX3_isDecoded_73 : decode cX3_isDecoded 73 = .ok (.aload_n 0, 1) := by decide +kernel
theorem dX3_isDecoded_74 : decode cX3_isDecoded 74 = .ok (.getfield 187, 3) := by decide +kernel
theorem dX3_isDecoded_77 : decode cX3_isDecoded 77 = .ok (.iconst 1, 1) := by decide +kernel
theorem dX3_isDecoded_78 : decode cX3_isDecoded 78 = .ok (.aload_n 0, 1) := by decide +kernel
theorem dX3_isDecoded_79 : decode cX3_isDecoded 79 = .ok (.getfield 133, 3) := by decide +kernel
theorem dX3_isDecoded_82 : decode cX3_isDecoded 82 = .ok (.ishl, 1) := by decide +kernel
theorem dX3_isDecoded_83 : decode cX3_isDecoded 83 = .ok (.if_icmp .ge 89, 3) := by decide +kernel
theorem dX3_isDecoded_86 : decode cX3_isDecoded 86 = .ok (.aload_n 0, 1) := by decide +kernel
theorem dX3_isDecoded_87 : decode cX3_isDecoded 87 = .ok (.getfield 187, 3) := by decide +kernel
theorem dX3_isDecoded_90 : decode cX3_isDecoded 90 = .ok (.aload_n 0, 1) := by decide +kernel
theorem dX3_isDecoded_91 : decode cX3_isDecoded 91 = .ok (.getfield 138, 3) := by decide +kernel
theorem dX3_isDecoded_94 : decode cX3_isDecoded 94 = .ok (.iand, 1) := by decide +kernel
theorem dX3_isDecoded_95 : decode cX3_isDecoded 95 = .ok (.ifCond .ne 59, 3) := by decide +kernel
theorem dX3_isDecoded_98 : decode cX3_isDecoded 98 = .ok (.aload_n 0, 1) := by decide +kernel
theorem dX3_isDecoded_99 : decode cX3_isDecoded 99 = .ok (.aload_n 0, 1) := by decide +kernel
theorem dX3_isDecoded_100 : decode cX3_isDecoded 100 = .ok (.getfield 187, 3) := by decide +kernel
theorem dX3_isDecoded_103 : decode cX3_isDecoded 103 = .ok (.aload_n 0, 1) := by decide +kernel
theorem dX3_isDecoded_104 : decode cX3_isDecoded 104 = .ok (.getfield 138, 3) := by decide +kernel
theorem dX3_isDecoded_107 : decode cX3_isDecoded 107 = .ok (.ior, 1) := by decide +kernel
theorem dX3_isDecoded_108 : decode cX3_isDecoded 108 = .ok (.invokevirtual 190, 3) := by decide +kernel
theorem dX3_isDecoded_111 : decode cX3_isDecoded 111 = .ok (.ifCond .ne 6, 3) := by decide +kernel
theorem dX3_isDecoded_114 : decode cX3_isDecoded 114 = .ok (.goto 40, 3) := by decide +kernel
theorem dX3_isDecoded_117 : decode cX3_isDecoded 117 = .ok (.iconst 0, 1) := by decide +kernel
theorem dX3_isDecoded_118 : decode cX3_isDecoded 118 = .ok (.istore_n 1, 1) := by decide +kernel
theorem dX3_isDecoded_119 : decode cX3_isDecoded 119 = .ok (.iload_n 1, 1) := by decide +kernel
theorem dX3_isDecoded_120 : decode cX3_isDecoded 120 = .ok (.aload_n 0, 1) := by decide +kernel
theorem dX3_isDecoded_121 : decode cX3_isDecoded 121 = .ok (.getfield 133, 3) := by decide +kernel
theorem dX3_isDecoded_124 : decode cX3_isDecoded 124 = .ok (.if_icmp .ge 28, 3) := by decide +kernel
theorem dX3_isDecoded_127 : decode cX3_isDecoded 127 = .ok (.aload_n 0, 1) := by decide +kernel
theorem dX3_isDecoded_128 : decode cX3_isDecoded 128 = .ok (.getfield 45, 3) := by decide +kernel
theorem dX3_isDecoded_131 : decode cX3_isDecoded 131 = .ok (.iload_n 1, 1) := by decide +kernel
theorem dX3_isDecoded_132 : decode cX3_isDecoded 132 = .ok (.aload_n 0, 1) := by decide +kernel
theorem dX3_isDecoded_133 : decode cX3_isDecoded 133 = .ok (.getfield 42, 3) := by decide +kernel
theorem dX3_isDecoded_136 : decode cX3_isDecoded 136 = .ok (.iload_n 1, 1) := by decide +kernel
theorem dX3_isDecoded_137 : decode cX3_isDecoded 137 = .ok (.iaload, 1) := by decide +kernel
theorem dX3_isDecoded_138 : decode cX3_isDecoded 138 = .ok (.aload_n 0, 1) := by decide +kernel
theorem dX3_isDecoded_139 : decode cX3_isDecoded 139 = .ok (.getfield 51, 3) := by decide +kernel
theorem dX3_isDecoded_142 : decode cX3_isDecoded 142 = .ok (.iload_n 1, 1) := by decide +kernel
theorem dX3_isDecoded_143 : decode cX3_isDecoded 143 = .ok (.iaload, 1) := by decide +kernel
theorem dX3_isDecoded_144 : decode cX3_isDecoded 144 = .ok (.ixor, 1) := by decide +kernel
theorem dX3_isDecoded_145 : decode cX3_isDecoded 145 = .ok (.iastore, 1) := by decide +kernel
theorem dX3_isDecoded_146 : decode cX3_isDecoded 146 = .ok (.iinc 1 1, 3) := by decide +kernel
theorem dX3_isDecoded_149 : decode cX3_isDecoded 149 = .ok (.goto (-30), 3) := by decide +kernel
theorem dX3_isDecoded_152 : decode cX3_isDecoded 152 = .ok (.iconst 1, 1) := by decide +kernel
theorem dX3_isDecoded_153 : decode cX3_isDecoded 153 = .ok (.ireturn, 1) := by decide +kernel
theorem dX3_isDecoded_154 : decode cX3_isDecoded 154 = .ok (.aload_n 0, 1) := by decide +kernel
theorem dX3_isDecoded_155 : decode cX3_isDecoded 155 = .ok (.aload_n 0, 1) := by decide +kernel
theorem dX3_isDecoded_156 : decode cX3_isDecoded 156 = .ok (.getfield 187, 3) := by decide +kernel
theorem dX3_isDecoded_159 : decode cX3_isDecoded 159 = .ok (.aload_n 0, 1) := by decide +kernel
theorem dX3_isDecoded_160 : decode cX3_isDecoded 160 = .ok (.getfield 133, 3) := by decide +kernel
theorem dX3_isDecoded_163 : decode cX3_isDecoded 163 = .ok (.invokestatic 193, 3) := by decide +kernel
theorem dX3_isDecoded_166 : decode cX3_isDecoded 166 = .ok (.putfield 187, 3) := by decide +kernel
theorem dX3_isDecoded_169 : decode cX3_isDecoded 169 = .ok (.goto (-96), 3) := by decide +kernel
theorem dX3_isDecoded_172 : decode cX3_isDecoded 172 = .ok (.aload_n 0, 1) := by decide +kernel
theorem dX3_isDecoded_173 : decode cX3_isDecoded 173 = .ok (.dup, 1) := by decide +kernel
theorem dX3_isDecoded_174 : decode cX3_isDecoded 174 = .ok (.getfield 184, 3) := by decide +kernel
theorem dX3_isDecoded_177 : decode cX3_isDecoded 177 = .ok (.iconst 1, 1) := by decide +kernel
theorem dX3_isDecoded_178 : decode cX3_isDecoded 178 = .ok (.iadd, 1) := by decide +kernel
theorem dX3_isDecoded_179 : decode cX3_isDecoded 179 = .ok (.putfield 184, 3) := by decide +kernel
theorem dX3_isDecoded_182 : decode cX3_isDecoded 182 = .ok (.goto (-139), 3) := by decide +kernel
theorem dX3_isDecoded_185 : decode cX3_isDecoded 185 = .ok (.iconst 0, 1) := by decide +kernel
theorem dX3_isDecoded_186 : decode cX3_isDecoded 186 = .ok (.ireturn, 1) := by decide +kernel
theorem dX3_behind_0 : decode cX3_behind 0 = .ok (.iload_n 0, 1) := by decide +kernel
theorem dX3_behind_1 : decode cX3_behind 1 = .ok (.ifCond .ne 7, 3) := by decide +kernel
theorem dX3_behind_4 : decode cX3_behind 4 = .ok (.iconst 1, 1) := by decide +kernel
theorem dX3_behind_5 : decode cX3_behind 5 = .ok (.iload_n 1, 1) := by decide +kernel
theorem dX3_behind_6 : decode cX3_behind 6 = .ok (.ishl, 1) := by decide +kernel
theorem dX3_behind_7 : decode cX3_behind 7 = .ok (.ireturn, 1) := by decide +kernel
theorem dX3_behind_8 : decode cX3_behind 8 = .ok (.iload_n 0, 1) := by decide +kernel
theorem dX3_behind_9 : decode cX3_behind 9 = .ok (.iload_n 0, 1) := by decide +kernel
theorem dX3_behind_10 : decode cX3_behind 10 = .ok (.ineg, 1) := by decide +kernel
theorem dX3_behind_11 : decode cX3_behind 11 = .ok (.iand, 1) := by decide +kernel
theorem dX3_behind_12 : decode cX3_behind 12 = .ok (.istore_n 2, 1) := by decide +kernel
theorem dX3_behind_13 : decode cX3_behind 13 = .ok (.iload_n 0, 1) := by decide +kernel
theorem dX3_behind_14 : decode cX3_behind 14 = .ok (.iload_n 2, 1) := by decide +kernel
theorem dX3_behind_15 : decode cX3_behind 15 = .ok (.iadd, 1) := by decide +kernel
theorem dX3_behind_16 : decode cX3_behind 16 = .ok (.istore_n 3, 1) := by decide +kernel
theorem dX3_behind_17 : decode cX3_behind 17 = .ok (.iload_n 3, 1) := by decide +kernel
theorem dX3_behind_18 : decode cX3_behind 18 = .ok (.iload_n 0, 1) := by decide +kernel
theorem dX3_behind_19 : decode cX3_behind 19 = .ok (.ixor, 1) := by decide +kernel
theorem dX3_behind_20 : decode cX3_behind 20 = .ok (.iconst 2, 1) := by decide +kernel
theorem dX3_behind_21 : decode cX3_behind 21 = .ok (.ishr, 1) := by decide +kernel
theorem dX3_behind_22 : decode cX3_behind 22 = .ok (.iload_n 2, 1) := by decide +kernel
theorem dX3_behind_23 : decode cX3_behind 23 = .ok (.idiv, 1) := by decide +kernel
theorem dX3_behind_24 : decode cX3_behind 24 = .ok (.iload_n 3, 1) := by decide +kernel
theorem dX3_behind_25 : decode cX3_behind 25 = .ok (.ior, 1) := by decide +kernel
theorem dX3_behind_26 : decode cX3_behind 26 = .ok (.ireturn, 1) := by decide +kernel
theorem dX3_isDecoded__0 : decode cX3_isDecoded_ 0 = .ok (.aload_n 0, 1) := by decide +kernel
theorem dX3_isDecoded__1 : decode cX3_isDecoded_ 1 = .ok (.iload_n 1, 1) := by decide +kernel
theorem dX3_isDecoded__2 : decode cX3_isDecoded_ 2 = .ok (.iload_n 2, 1) := by decide +kernel
theorem dX3_isDecoded__3 : decode cX3_isDecoded_ 3 = .ok (.invokevirtual 196, 3) := by decide +kernel
theorem dX3_isDecoded__6 : decode cX3_isDecoded_ 6 = .ok (.aload_n 0, 1) := by decide +kernel
theorem dX3_isDecoded__7 : decode cX3_isDecoded_ 7 = .ok (.invokevirtual 141, 3) := by decide +kernel
theorem dX3_isDecoded__10 : decode cX3_isDecoded_ 10 = .ok (.ireturn, 1) := by decide +kernel
theorem dX3_isClean_0 : decode cX3_isClean 0 = .ok (.aload_n 0, 1) := by decide +kernel
theorem dX3_isClean_1 : decode cX3_isClean 1 = .ok (.getfield 138, 3) := by decide +kernel
theorem dX3_isClean_4 : decode cX3_isClean 4 = .ok (.ifCond .ne 14, 3) := by decide +kernel
theorem dX3_isClean_7 : decode cX3_isClean 7 = .ok (.aload_n 0, 1) := by decide +kernel
theorem dX3_isClean_8 : decode cX3_isClean 8 = .ok (.getfield 184, 3) := by decide +kernel
theorem dX3_isClean_11 : decode cX3_isClean 11 = .ok (.ifCond .ne 7, 3) := by decide +kernel
theorem dX3_isClean_14 : decode cX3_isClean 14 = .ok (.iconst 1, 1) := by decide +kernel
theorem dX3_isClean_15 : decode cX3_isClean 15 = .ok (.goto 4, 3) := by decide +kernel
theorem dX3_isClean_18 : decode cX3_isClean 18 = .ok (.iconst 0, 1) := by decide +kernel
theorem dX3_isClean_19 : decode cX3_isClean 19 = .ok (.ireturn, 1) := by decide +kernel
theorem dX3_isThere_0 : decode cX3_isThere 0 = .ok (.aload_n 0, 1) := by decide +kernel
theorem dX3_isThere_1 : decode cX3_isThere 1 = .ok (.aload_n 0, 1) := by decide +kernel
theorem dX3_isThere_2 : decode cX3_isThere 2 = .ok (.iload_n 1, 1) := by decide +kernel
theorem dX3_isThere_3 : decode cX3_isThere 3 = .ok (.iload_n 2, 1) := by decide +kernel
theorem dX3_isThere_4 : decode cX3_isThere 4 = .ok (.invokevirtual 153, 3) := by decide +kernel
theorem dX3_isThere_7 : decode cX3_isThere 7 = .ok (.ifCond .eq 7, 3) := by decide +kernel
theorem dX3_isThere_10 : decode cX3_isThere 10 = .ok (.iconst 0, 1) := by decide +kernel
theorem dX3_isThere_11 : decode cX3_isThere 11 = .ok (.goto 4, 3) := by decide +kernel
theorem dX3_isThere_14 : decode cX3_isThere 14 = .ok (.iconst 1, 1) := by decide +kernel
theorem dX3_isThere_15 : decode cX3_isThere 15 = .ok (.putfield 67, 3) := by decide +kernel
theorem dX3_isThere_18 : decode cX3_isThere 18 = .ok (.aload_n 0, 1) := by decide +kernel
theorem dX3_isThere_19 : decode cX3_isThere 19 = .ok (.getfield 67, 3) := by decide +kernel
theorem dX3_isThere_22 : decode cX3_isThere 22 = .ok (.ifCond .ne 7, 3) := by decide +kernel
theorem dX3_isThere_25 : decode cX3_isThere 25 = .ok (.iconst 1, 1) := by decide +kernel
theorem dX3_isThere_26 : decode cX3_isThere 26 = .ok (.goto 4, 3) := by decide +kernel
theorem dX3_isThere_29 : decode cX3_isThere 29 = .ok (.iconst 0, 1) := by decide +kernel
theorem dX3_isThere_30 : decode cX3_isThere 30 = .ok (.ireturn, 1) := by decide +kernel
theorem dX3_sum_0 : decode cX3_sum 0 = .ok (.aload_n 0, 1) := by decide +kernel
theorem dX3_sum_1 : decode cX3_sum 1 = .ok (.aload_n 0, 1) := by decide +kernel
theorem dX3_sum_2 : decode cX3_sum 2 = .ok (.iload_n 1, 1) := by decide +kernel
theorem dX3_sum_3 : decode cX3_sum 3 = .ok (.iload_n 2, 1) := by decide +kernel
theorem dX3_sum_4 : decode cX3_sum 4 = .ok (.invokevirtual 153, 3) := by decide +kernel
theorem dX3_sum_7 : decode cX3_sum 7 = .ok (.ifCond .eq 23, 3) := by decide +kernel
theorem dX3_sum_10 : decode cX3_sum 10 = .ok (.iload_n 3, 1) := by decide +kernel
theorem dX3_sum_11 : decode cX3_sum 11 = .ok (.iconst 0, 1) := by decide +kernel
theorem dX3_sum_12 : decode cX3_sum 12 = .ok (.aload_n 0, 1) := by decide +kernel
theorem dX3_sum_13 : decode cX3_sum 13 = .ok (.iload_n 1, 1) := by decide +kernel
theorem dX3_sum_14 : decode cX3_sum 14 = .ok (.iconst 2, 1) := by decide +kernel
theorem dX3_sum_15 : decode cX3_sum 15 = .ok (.invokevirtual 77, 3) := by decide +kernel
theorem dX3_sum_18 : decode cX3_sum 18 = .ok (.iconst 1, 1) := by decide +kernel
theorem dX3_sum_19 : decode cX3_sum 19 = .ok (.isub, 1) := by decide +kernel
theorem dX3_sum_20 : decode cX3_sum 20 = .ok (.invokestatic 73, 3) := by decide +kernel
theorem dX3_sum_23 : decode cX3_sum 23 = .ok (.ifCond .eq 7, 3) := by decide +kernel
theorem dX3_sum_26 : decode cX3_sum 26 = .ok (.iconst 0, 1) := by decide +kernel
theorem dX3_sum_27 : decode cX3_sum 27 = .ok (.goto 4, 3) := by decide +kernel
theorem dX3_sum_30 : decode cX3_sum 30 = .ok (.iconst 1, 1) := by decide +kernel
theorem dX3_sum_31 : decode cX3_sum 31 = .ok (.putfield 67, 3) := by decide +kernel
theorem dX3_sum_34 : decode cX3_sum 34 = .ok (.aload_n 0, 1) := by decide +kernel
theorem dX3_sum_35 : decode cX3_sum 35 = .ok (.getfield 67, 3) := by decide +kernel
theorem dX3_sum_38 : decode cX3_sum 38 = .ok (.iconst 1, 1) := by decide +kernel
theorem dX3_sum_39 : decode cX3_sum 39 = .ok (.if_icmp .ne 5, 3) := by decide +kernel
theorem dX3_sum_42 : decode cX3_sum 42 = .ok (.iconst 0, 1) := by decide +kernel
theorem dX3_sum_43 : decode cX3_sum 43 = .ok (.ireturn, 1) := by decide +kernel
theorem dX3_sum_44 : decode cX3_sum 44 = .ok (.aload_n 0, 1) := by decide +kernel
theorem dX3_sum_45 : decode cX3_sum 45 = .ok (.iload_n 1, 1) := by decide +kernel
theorem dX3_sum_46 : decode cX3_sum 46 = .ok (.iload_n 2, 1) := by decide +kernel
theorem dX3_sum_47 : decode cX3_sum 47 = .ok (.invokevirtual 196, 3) := by decide +kernel
theorem dX3_sum_50 : decode cX3_sum 50 = .ok (.aload_n 0, 1) := by decide +kernel
theorem dX3_sum_51 : decode cX3_sum 51 = .ok (.iload_n 3, 1) := by decide +kernel
theorem dX3_sum_52 : decode cX3_sum 52 = .ok (.invokevirtual 181, 3) := by decide +kernel
theorem dX3_sum_55 : decode cX3_sum 55 = .ok (.ireturn, 1) := by decide +kernel
theorem dX3_decoded_0 : decode cX3_decoded 0 = .ok (.aload_n 0, 1) := by decide +kernel
theorem dX3_decoded_1 : decode cX3_decoded 1 = .ok (.iload_n 1, 1) := by decide +kernel
theorem dX3_decoded_2 : decode cX3_decoded 2 = .ok (.iload_n 2, 1) := by decide +kernel
theorem dX3_decoded_3 : decode cX3_decoded 3 = .ok (.invokevirtual 199, 3) := by decide +kernel
theorem dX3_decoded_6 : decode cX3_decoded 6 = .ok (.ifCond .ne 5, 3) := by decide +kernel
theorem dX3_decoded_9 : decode cX3_decoded 9 = .ok (.iconst 0, 1) := by decide +kernel
theorem dX3_decoded_10 : decode cX3_decoded 10 = .ok (.ireturn, 1) := by decide +kernel
theorem dX3_decoded_11 : decode cX3_decoded 11 = .ok (.iload_n 3, 1) := by decide +kernel
theorem dX3_decoded_12 : decode cX3_decoded 12 = .ok (.iconst 0, 1) := by decide +kernel
theorem dX3_decoded_13 : decode cX3_decoded 13 = .ok (.iconst 2, 1) := by decide +kernel
theorem dX3_decoded_14 : decode cX3_decoded 14 = .ok (.invokestatic 73, 3) := by decide +kernel
theorem dX3_decoded_17 : decode cX3_decoded 17 = .ok (.ifCond .ne 9, 3) := by decide +kernel
theorem dX3_decoded_20 : decode cX3_decoded 20 = .ok (.aload_n 0, 1) := by decide +kernel
theorem dX3_decoded_21 : decode cX3_decoded 21 = .ok (.iconst 2, 1) := by decide +kernel
theorem dX3_decoded_22 : decode cX3_decoded 22 = .ok (.invokevirtual 124, 3) := by decide +kernel
theorem dX3_decoded_25 : decode cX3_decoded 25 = .ok (.ireturn, 1) := by decide +kernel
theorem dX3_decoded_26 : decode cX3_decoded 26 = .ok (.aload_n 0, 1) := by decide +kernel
theorem dX3_decoded_27 : decode cX3_decoded 27 = .ok (.iload_n 1, 1) := by decide +kernel
theorem dX3_decoded_28 : decode cX3_decoded 28 = .ok (.iload_n 2, 1) := by decide +kernel
theorem dX3_decoded_29 : decode cX3_decoded 29 = .ok (.invokevirtual 202, 3) := by decide +kernel
theorem dX3_decoded_32 : decode cX3_decoded 32 = .ok (.istore 4, 2) := by decide +kernel
theorem dX3_decoded_34 : decode cX3_decoded 34 = .ok (.iload_n 3, 1) := by decide +kernel
theorem dX3_decoded_35 : decode cX3_decoded 35 = .ok (.ifCond .ne 11, 3) := by decide +kernel
theorem dX3_decoded_38 : decode cX3_decoded 38 = .ok (.aload_n 0, 1) := by decide +kernel
theorem dX3_decoded_39 : decode cX3_decoded 39 = .ok (.getfield 138, 3) := by decide +kernel
theorem dX3_decoded_42 : decode cX3_decoded 42 = .ok (.invokestatic 175, 3) := by decide +kernel
theorem dX3_decoded_45 : decode cX3_decoded 45 = .ok (.ireturn, 1) := by decide +kernel
theorem dX3_decoded_46 : decode cX3_decoded 46 = .ok (.iload 4, 2) := by decide +kernel
theorem dX3_decoded_48 : decode cX3_decoded 48 = .ok (.ifCond .ne 11, 3) := by decide +kernel
theorem dX3_decoded_51 : decode cX3_decoded 51 = .ok (.aload_n 0, 1) := by decide +kernel
theorem dX3_decoded_52 : decode cX3_decoded 52 = .ok (.iconst 3, 1) := by decide +kernel
theorem dX3_decoded_53 : decode cX3_decoded 53 = .ok (.invokevirtual 124, 3) := by decide +kernel
theorem dX3_decoded_56 : decode cX3_decoded 56 = .ok (.goto 19, 3) := by decide +kernel
theorem dX3_decoded_59 : decode cX3_decoded 59 = .ok (.iload_n 3, 1) := by decide +kernel
theorem dX3_decoded_60 : decode cX3_decoded 60 = .ok (.iconst 1, 1) := by decide +kernel
theorem dX3_decoded_61 : decode cX3_decoded 61 = .ok (.if_icmp .ne 10, 3) := by decide +kernel
theorem dX3_decoded_64 : decode cX3_decoded 64 = .ok (.aload_n 0, 1) := by decide +kernel
theorem dX3_decoded_65 : decode cX3_decoded 65 = .ok (.getfield 184, 3) := by decide +kernel
theorem dX3_decoded_68 : decode cX3_decoded 68 = .ok (.goto 7, 3) := by decide +kernel
theorem dX3_decoded_71 : decode cX3_decoded 71 = .ok (.aload_n 0, 1) := by decide +kernel
theorem dX3_decoded_72 : decode cX3_decoded 72 = .ok (.getfield 187, 3) := by decide +kernel
theorem dX3_decoded_75 : decode cX3_decoded 75 = .ok (.ireturn, 1) := by decide +kernel
theorem dX3_found_0 : decode cX3_found 0 = .ok (.aload_n 0, 1) := by decide +kernel
theorem dX3_found_1 : decode cX3_found 1 = .ok (.iload_n 1, 1) := by decide +kernel
theorem dX3_found_2 : decode cX3_found 2 = .ok (.iload_n 2, 1) := by decide +kernel
theorem dX3_found_3 : decode cX3_found 3 = .ok (.iload_n 3, 1) := by decide +kernel
theorem dX3_found_4 : decode cX3_found 4 = .ok (.invokevirtual 157, 3) := by decide +kernel
theorem dX3_found_7 : decode cX3_found 7 = .ok (.ifCond .ne 5, 3) := by decide +kernel
theorem dX3_found_10 : decode cX3_found 10 = .ok (.iconst 0, 1) := by decide +kernel
theorem dX3_found_11 : decode cX3_found 11 = .ok (.ireturn, 1) := by decide +kernel
theorem dX3_found_12 : decode cX3_found 12 = .ok (.aload_n 0, 1) := by decide +kernel
theorem dX3_found_13 : decode cX3_found 13 = .ok (.iload_n 1, 1) := by decide +kernel
theorem dX3_found_14 : decode cX3_found 14 = .ok (.iload_n 2, 1) := by decide +kernel
theorem dX3_found_15 : decode cX3_found 15 = .ok (.invokevirtual 202, 3) := by decide +kernel
theorem dX3_found_18 : decode cX3_found 18 = .ok (.ifCond .eq 12, 3) := by decide +kernel
theorem dX3_found_21 : decode cX3_found 21 = .ok (.aload_n 0, 1) := by decide +kernel
theorem dX3_found_22 : decode cX3_found 22 = .ok (.getfield 45, 3) := by decide +kernel
theorem dX3_found_25 : decode cX3_found 25 = .ok (.iload_n 3, 1) := by decide +kernel
theorem dX3_found_26 : decode cX3_found 26 = .ok (.iaload, 1) := by decide +kernel
theorem dX3_found_27 : decode cX3_found 27 = .ok (.goto 8, 3) := by decide +kernel
theorem dX3_found_30 : decode cX3_found 30 = .ok (.aload_n 0, 1) := by decide +kernel
theorem dX3_found_31 : decode cX3_found 31 = .ok (.iconst 2, 1) := by decide +kernel
theorem dX3_found_32 : decode cX3_found 32 = .ok (.invokevirtual 124, 3) := by decide +kernel
theorem dX3_found_35 : decode cX3_found 35 = .ok (.ireturn, 1) := by decide +kernel
theorem dX3_read_0 : decode cX3_read 0 = .ok (.aload_n 0, 1) := by decide +kernel
theorem dX3_read_1 : decode cX3_read 1 = .ok (.aload_n 0, 1) := by decide +kernel
theorem dX3_read_2 : decode cX3_read 2 = .ok (.iload_n 1, 1) := by decide +kernel
theorem dX3_read_3 : decode cX3_read 3 = .ok (.invokevirtual 87, 3) := by decide +kernel
theorem dX3_read_6 : decode cX3_read 6 = .ok (.ifCond .eq 23, 3) := by decide +kernel
theorem dX3_read_9 : decode cX3_read 9 = .ok (.iload_n 2, 1) := by decide +kernel
theorem dX3_read_10 : decode cX3_read 10 = .ok (.iconst 0, 1) := by decide +kernel
theorem dX3_read_11 : decode cX3_read 11 = .ok (.aload_n 0, 1) := by decide +kernel
theorem dX3_read_12 : decode cX3_read 12 = .ok (.iload_n 1, 1) := by decide +kernel
theorem dX3_read_13 : decode cX3_read 13 = .ok (.iconst 1, 1) := by decide +kernel
theorem dX3_read_14 : decode cX3_read 14 = .ok (.invokevirtual 77, 3) := by decide +kernel
theorem dX3_read_17 : decode cX3_read 17 = .ok (.iconst 1, 1) := by decide +kernel
theorem dX3_read_18 : decode cX3_read 18 = .ok (.isub, 1) := by decide +kernel
theorem dX3_read_19 : decode cX3_read 19 = .ok (.invokestatic 73, 3) := by decide +kernel
theorem dX3_read_22 : decode cX3_read 22 = .ok (.ifCond .eq 7, 3) := by decide +kernel
theorem dX3_read_25 : decode cX3_read 25 = .ok (.iconst 0, 1) := by decide +kernel
theorem dX3_read_26 : decode cX3_read 26 = .ok (.goto 4, 3) := by decide +kernel
theorem dX3_read_29 : decode cX3_read 29 = .ok (.iconst 1, 1) := by decide +kernel
theorem dX3_read_30 : decode cX3_read 30 = .ok (.putfield 67, 3) := by decide +kernel
theorem dX3_read_33 : decode cX3_read 33 = .ok (.aload_n 0, 1) := by decide +kernel
theorem dX3_read_34 : decode cX3_read 34 = .ok (.getfield 67, 3) := by decide +kernel
theorem dX3_read_37 : decode cX3_read 37 = .ok (.iconst 1, 1) := by decide +kernel
theorem dX3_read_38 : decode cX3_read 38 = .ok (.if_icmp .ne 5, 3) := by decide +kernel
theorem dX3_read_41 : decode cX3_read 41 = .ok (.iconst 0, 1) := by decide +kernel
theorem dX3_read_42 : decode cX3_read 42 = .ok (.ireturn, 1) := by decide +kernel
theorem dX3_read_43 : decode cX3_read 43 = .ok (.aload_n 0, 1) := by decide +kernel
theorem dX3_read_44 : decode cX3_read 44 = .ok (.iload_n 1, 1) := by decide +kernel
theorem dX3_read_45 : decode cX3_read 45 = .ok (.iload_n 2, 1) := by decide +kernel
theorem dX3_read_46 : decode cX3_read 46 = .ok (.bipush 8, 2) := by decide +kernel
theorem dX3_read_48 : decode cX3_read 48 = .ok (.idiv, 1) := by decide +kernel
theorem dX3_read_49 : decode cX3_read 49 = .ok (.invokevirtual 202, 3) := by decide +kernel
theorem dX3_read_52 : decode cX3_read 52 = .ok (.ifCond .eq 22, 3) := by decide +kernel
theorem dX3_read_55 : decode cX3_read 55 = .ok (.aload_n 0, 1) := by decide +kernel
theorem dX3_read_56 : decode cX3_read 56 = .ok (.getfield 45, 3) := by decide +kernel
theorem dX3_read_59 : decode cX3_read 59 = .ok (.aload_n 0, 1) := by decide +kernel
theorem dX3_read_60 : decode cX3_read 60 = .ok (.iload_n 1, 1) := by decide +kernel
theorem dX3_read_61 : decode cX3_read 61 = .ok (.iconst 2, 1) := by decide +kernel
theorem dX3_read_62 : decode cX3_read 62 = .ok (.invokevirtual 77, 3) := by decide +kernel
theorem dX3_read_65 : decode cX3_read 65 = .ok (.iload_n 2, 1) := by decide +kernel
theorem dX3_read_66 : decode cX3_read 66 = .ok (.bipush 8, 2) := by decide +kernel
theorem dX3_read_68 : decode cX3_read 68 = .ok (.irem, 1) := by decide +kernel
theorem dX3_read_69 : decode cX3_read 69 = .ok (.iadd, 1) := by decide +kernel
theorem dX3_read_70 : decode cX3_read 70 = .ok (.iaload, 1) := by decide +kernel
theorem dX3_read_71 : decode cX3_read 71 = .ok (.goto 8, 3) := by decide +kernel
theorem dX3_read_74 : decode cX3_read 74 = .ok (.aload_n 0, 1) := by decide +kernel
theorem dX3_read_75 : decode cX3_read 75 = .ok (.iconst 2, 1) := by decide +kernel
theorem dX3_read_76 : decode cX3_read 76 = .ok (.invokevirtual 124, 3) := by decide +kernel
theorem dX3_read_79 : decode cX3_read 79 = .ok (.ireturn, 1) := by decide +kernel
theorem dX3_isWhole_0 : decode cX3_isWhole 0 = .ok (.aload_n 0, 1) := by decide +kernel
theorem dX3_isWhole_1 : decode cX3_isWhole 1 = .ok (.iconst 1, 1) := by decide +kernel
theorem dX3_isWhole_2 : decode cX3_isWhole 2 = .ok (.putfield 204, 3) := by decide +kernel
theorem dX3_isWhole_5 : decode cX3_isWhole 5 = .ok (.iconst 0, 1) := by decide +kernel
theorem dX3_isWhole_6 : decode cX3_isWhole 6 = .ok (.istore_n 2, 1) := by decide +kernel
theorem dX3_isWhole_7 : decode cX3_isWhole 7 = .ok (.iload_n 2, 1) := by decide +kernel
theorem dX3_isWhole_8 : decode cX3_isWhole 8 = .ok (.aload_n 0, 1) := by decide +kernel
theorem dX3_isWhole_9 : decode cX3_isWhole 9 = .ok (.iload_n 1, 1) := by decide +kernel
theorem dX3_isWhole_10 : decode cX3_isWhole 10 = .ok (.invokevirtual 80, 3) := by decide +kernel
theorem dX3_isWhole_13 : decode cX3_isWhole 13 = .ok (.if_icmp .ge 69, 3) := by decide +kernel
theorem dX3_isWhole_16 : decode cX3_isWhole 16 = .ok (.aload_n 0, 1) := by decide +kernel
theorem dX3_isWhole_17 : decode cX3_isWhole 17 = .ok (.iload_n 1, 1) := by decide +kernel
theorem dX3_isWhole_18 : decode cX3_isWhole 18 = .ok (.iload_n 2, 1) := by decide +kernel
theorem dX3_isWhole_19 : decode cX3_isWhole 19 = .ok (.invokevirtual 202, 3) := by decide +kernel
theorem dX3_isWhole_22 : decode cX3_isWhole 22 = .ok (.ifCond .ne 5, 3) := by decide +kernel
theorem dX3_isWhole_25 : decode cX3_isWhole 25 = .ok (.iconst 0, 1) := by decide +kernel
theorem dX3_isWhole_26 : decode cX3_isWhole 26 = .ok (.ireturn, 1) := by decide +kernel
theorem dX3_isWhole_27 : decode cX3_isWhole 27 = .ok (.aload_n 0, 1) := by decide +kernel
theorem dX3_isWhole_28 : decode cX3_isWhole 28 = .ok (.dup, 1) := by decide +kernel
theorem dX3_isWhole_29 : decode cX3_isWhole 29 = .ok (.getfield 204, 3) := by decide +kernel
theorem dX3_isWhole_32 : decode cX3_isWhole 32 = .ok (.aload_n 0, 1) := by decide +kernel
theorem dX3_isWhole_33 : decode cX3_isWhole 33 = .ok (.invokevirtual 207, 3) := by decide +kernel
theorem dX3_isWhole_36 : decode cX3_isWhole 36 = .ok (.iand, 1) := by decide +kernel
theorem dX3_isWhole_37 : decode cX3_isWhole 37 = .ok (.putfield 204, 3) := by decide +kernel
theorem dX3_isWhole_40 : decode cX3_isWhole 40 = .ok (.iconst 0, 1) := by decide +kernel
theorem dX3_isWhole_41 : decode cX3_isWhole 41 = .ok (.istore_n 3, 1) := by decide +kernel
theorem dX3_isWhole_42 : decode cX3_isWhole 42 = .ok (.iload_n 3, 1) := by decide +kernel
theorem dX3_isWhole_43 : decode cX3_isWhole 43 = .ok (.bipush 8, 2) := by decide +kernel
theorem dX3_isWhole_45 : decode cX3_isWhole 45 = .ok (.if_icmp .ge 31, 3) := by decide +kernel
theorem dX3_isWhole_48 : decode cX3_isWhole 48 = .ok (.aload_n 0, 1) := by decide +kernel
theorem dX3_isWhole_49 : decode cX3_isWhole 49 = .ok (.getfield 60, 3) := by decide +kernel
theorem dX3_isWhole_52 : decode cX3_isWhole 52 = .ok (.bipush 8, 2) := by decide +kernel
theorem dX3_isWhole_54 : decode cX3_isWhole 54 = .ok (.iload_n 2, 1) := by decide +kernel
theorem dX3_isWhole_55 : decode cX3_isWhole 55 = .ok (.imul, 1) := by decide +kernel
theorem dX3_isWhole_56 : decode cX3_isWhole 56 = .ok (.iload_n 3, 1) := by decide +kernel
theorem dX3_isWhole_57 : decode cX3_isWhole 57 = .ok (.iadd, 1) := by decide +kernel
theorem dX3_isWhole_58 : decode cX3_isWhole 58 = .ok (.aload_n 0, 1) := by decide +kernel
theorem dX3_isWhole_59 : decode cX3_isWhole 59 = .ok (.getfield 45, 3) := by decide +kernel
theorem dX3_isWhole_62 : decode cX3_isWhole 62 = .ok (.aload_n 0, 1) := by decide +kernel
theorem dX3_isWhole_63 : decode cX3_isWhole 63 = .ok (.getfield 135, 3) := by decide +kernel
theorem dX3_isWhole_66 : decode cX3_isWhole 66 = .ok (.iload_n 3, 1) := by decide +kernel
theorem dX3_isWhole_67 : decode cX3_isWhole 67 = .ok (.iadd, 1) := by decide +kernel
theorem dX3_isWhole_68 : decode cX3_isWhole 68 = .ok (.iaload, 1) := by decide +kernel
theorem dX3_isWhole_69 : decode cX3_isWhole 69 = .ok (.iastore, 1) := by decide +kernel
theorem dX3_isWhole_70 : decode cX3_isWhole 70 = .ok (.iinc 3 1, 3) := by decide +kernel
theorem dX3_isWhole_73 : decode cX3_isWhole 73 = .ok (.goto (-31), 3) := by decide +kernel
theorem dX3_isWhole_76 : decode cX3_isWhole 76 = .ok (.iinc 2 1, 3) := by decide +kernel
theorem dX3_isWhole_79 : decode cX3_isWhole 79 = .ok (.goto (-72), 3) := by decide +kernel
theorem dX3_isWhole_82 : decode cX3_isWhole 82 = .ok (.iconst 1, 1) := by decide +kernel
theorem dX3_isWhole_83 : decode cX3_isWhole 83 = .ok (.ireturn, 1) := by decide +kernel
theorem dX3_condition_0 : decode cX3_condition 0 = .ok (.aload_n 0, 1) := by decide +kernel
theorem dX3_condition_1 : decode cX3_condition 1 = .ok (.aload_n 0, 1) := by decide +kernel
theorem dX3_condition_2 : decode cX3_condition 2 = .ok (.iload_n 1, 1) := by decide +kernel
theorem dX3_condition_3 : decode cX3_condition 3 = .ok (.invokevirtual 87, 3) := by decide +kernel
theorem dX3_condition_6 : decode cX3_condition 6 = .ok (.ifCond .eq 7, 3) := by decide +kernel
theorem dX3_condition_9 : decode cX3_condition 9 = .ok (.iconst 0, 1) := by decide +kernel
theorem dX3_condition_10 : decode cX3_condition 10 = .ok (.goto 4, 3) := by decide +kernel
theorem dX3_condition_13 : decode cX3_condition 13 = .ok (.iconst 1, 1) := by decide +kernel
theorem dX3_condition_14 : decode cX3_condition 14 = .ok (.putfield 67, 3) := by decide +kernel
theorem dX3_condition_17 : decode cX3_condition 17 = .ok (.aload_n 0, 1) := by decide +kernel
theorem dX3_condition_18 : decode cX3_condition 18 = .ok (.getfield 67, 3) := by decide +kernel
theorem dX3_condition_21 : decode cX3_condition 21 = .ok (.iconst 1, 1) := by decide +kernel
theorem dX3_condition_22 : decode cX3_condition 22 = .ok (.if_icmp .ne 5, 3) := by decide +kernel
theorem dX3_condition_25 : decode cX3_condition 25 = .ok (.iconst 0, 1) := by decide +kernel
theorem dX3_condition_26 : decode cX3_condition 26 = .ok (.ireturn, 1) := by decide +kernel
theorem dX3_condition_27 : decode cX3_condition 27 = .ok (.aload_n 0, 1) := by decide +kernel
theorem dX3_condition_28 : decode cX3_condition 28 = .ok (.iload_n 1, 1) := by decide +kernel
theorem dX3_condition_29 : decode cX3_condition 29 = .ok (.invokevirtual 210, 3) := by decide +kernel
theorem dX3_condition_32 : decode cX3_condition 32 = .ok (.ifCond .ne 5, 3) := by decide +kernel
theorem dX3_condition_35 : decode cX3_condition 35 = .ok (.iconst 3, 1) := by decide +kernel
theorem dX3_condition_36 : decode cX3_condition 36 = .ok (.ireturn, 1) := by decide +kernel
theorem dX3_condition_37 : decode cX3_condition 37 = .ok (.iconst 1, 1) := by decide +kernel
theorem dX3_condition_38 : decode cX3_condition 38 = .ok (.istore_n 2, 1) := by decide +kernel
theorem dX3_condition_39 : decode cX3_condition 39 = .ok (.iconst 0, 1) := by decide +kernel
theorem dX3_condition_40 : decode cX3_condition 40 = .ok (.istore_n 3, 1) := by decide +kernel
theorem dX3_condition_41 : decode cX3_condition 41 = .ok (.iload_n 3, 1) := by decide +kernel
theorem dX3_condition_42 : decode cX3_condition 42 = .ok (.aload_n 0, 1) := by decide +kernel
theorem dX3_condition_43 : decode cX3_condition 43 = .ok (.iload_n 1, 1) := by decide +kernel
theorem dX3_condition_44 : decode cX3_condition 44 = .ok (.iconst 1, 1) := by decide +kernel
theorem dX3_condition_45 : decode cX3_condition 45 = .ok (.invokevirtual 77, 3) := by decide +kernel
theorem dX3_condition_48 : decode cX3_condition 48 = .ok (.if_icmp .ge 25, 3) := by decide +kernel
theorem dX3_condition_51 : decode cX3_condition 51 = .ok (.iload_n 2, 1) := by decide +kernel
theorem dX3_condition_52 : decode cX3_condition 52 = .ok (.bipush 17, 2) := by decide +kernel
theorem dX3_condition_54 : decode cX3_condition 54 = .ok (.imul, 1) := by decide +kernel
theorem dX3_condition_55 : decode cX3_condition 55 = .ok (.aload_n 0, 1) := by decide +kernel
theorem dX3_condition_56 : decode cX3_condition 56 = .ok (.getfield 60, 3) := by decide +kernel
theorem dX3_condition_59 : decode cX3_condition 59 = .ok (.iload_n 3, 1) := by decide +kernel
theorem dX3_condition_60 : decode cX3_condition 60 = .ok (.iaload, 1) := by decide +kernel
theorem dX3_condition_61 : decode cX3_condition 61 = .ok (.iadd, 1) := by decide +kernel
theorem dX3_condition_62 : decode cX3_condition 62 = .ok (.sipush 251, 3) := by decide +kernel
theorem dX3_condition_65 : decode cX3_condition 65 = .ok (.irem, 1) := by decide +kernel
theorem dX3_condition_66 : decode cX3_condition 66 = .ok (.istore_n 2, 1) := by decide +kernel
theorem dX3_condition_67 : decode cX3_condition 67 = .ok (.iinc 3 1, 3) := by decide +kernel
theorem dX3_condition_70 : decode cX3_condition 70 = .ok (.goto (-29), 3) := by decide +kernel
theorem dX3_condition_73 : decode cX3_condition 73 = .ok (.iload_n 2, 1) := by decide +kernel
theorem dX3_condition_74 : decode cX3_condition 74 = .ok (.aload_n 0, 1) := by decide +kernel
theorem dX3_condition_75 : decode cX3_condition 75 = .ok (.iload_n 1, 1) := by decide +kernel
theorem dX3_condition_76 : decode cX3_condition 76 = .ok (.iconst 4, 1) := by decide +kernel
theorem dX3_condition_77 : decode cX3_condition 77 = .ok (.invokevirtual 77, 3) := by decide +kernel
theorem dX3_condition_80 : decode cX3_condition 80 = .ok (.if_icmp .eq 7, 3) := by decide +kernel
theorem dX3_condition_83 : decode cX3_condition 83 = .ok (.iconst 2, 1) := by decide +kernel
theorem dX3_condition_84 : decode cX3_condition 84 = .ok (.goto 15, 3) := by decide +kernel
theorem dX3_condition_87 : decode cX3_condition 87 = .ok (.aload_n 0, 1) := by decide +kernel
theorem dX3_condition_88 : decode cX3_condition 88 = .ok (.getfield 204, 3) := by decide +kernel
theorem dX3_condition_91 : decode cX3_condition 91 = .ok (.ifCond .eq 7, 3) := by decide +kernel
theorem dX3_condition_94 : decode cX3_condition 94 = .ok (.iconst 0, 1) := by decide +kernel
theorem dX3_condition_95 : decode cX3_condition 95 = .ok (.goto 4, 3) := by decide +kernel
theorem dX3_condition_98 : decode cX3_condition 98 = .ok (.iconst 1, 1) := by decide +kernel
theorem dX3_condition_99 : decode cX3_condition 99 = .ok (.ireturn, 1) := by decide +kernel
theorem dX3_undecodable_0 : decode cX3_undecodable 0 = .ok (.aload_n 0, 1) := by decide +kernel
theorem dX3_undecodable_1 : decode cX3_undecodable 1 = .ok (.aload_n 0, 1) := by decide +kernel
theorem dX3_undecodable_2 : decode cX3_undecodable 2 = .ok (.iload_n 1, 1) := by decide +kernel
theorem dX3_undecodable_3 : decode cX3_undecodable 3 = .ok (.invokevirtual 87, 3) := by decide +kernel
theorem dX3_undecodable_6 : decode cX3_undecodable 6 = .ok (.ifCond .eq 7, 3) := by decide +kernel
theorem dX3_undecodable_9 : decode cX3_undecodable 9 = .ok (.iconst 0, 1) := by decide +kernel
theorem dX3_undecodable_10 : decode cX3_undecodable 10 = .ok (.goto 4, 3) := by decide +kernel
theorem dX3_undecodable_13 : decode cX3_undecodable 13 = .ok (.iconst 1, 1) := by decide +kernel
theorem dX3_undecodable_14 : decode cX3_undecodable 14 = .ok (.putfield 67, 3) := by decide +kernel
theorem dX3_undecodable_17 : decode cX3_undecodable 17 = .ok (.aload_n 0, 1) := by decide +kernel
theorem dX3_undecodable_18 : decode cX3_undecodable 18 = .ok (.getfield 67, 3) := by decide +kernel
theorem dX3_undecodable_21 : decode cX3_undecodable 21 = .ok (.iconst 1, 1) := by decide +kernel
theorem dX3_undecodable_22 : decode cX3_undecodable 22 = .ok (.if_icmp .ne 5, 3) := by decide +kernel
theorem dX3_undecodable_25 : decode cX3_undecodable 25 = .ok (.iconst 0, 1) := by decide +kernel
theorem dX3_undecodable_26 : decode cX3_undecodable 26 = .ok (.ireturn, 1) := by decide +kernel
theorem dX3_undecodable_27 : decode cX3_undecodable 27 = .ok (.iconst 0, 1) := by decide +kernel
theorem dX3_undecodable_28 : decode cX3_undecodable 28 = .ok (.istore_n 2, 1) := by decide +kernel
theorem dX3_undecodable_29 : decode cX3_undecodable 29 = .ok (.iconst 0, 1) := by decide +kernel
theorem dX3_undecodable_30 : decode cX3_undecodable 30 = .ok (.istore_n 3, 1) := by decide +kernel
theorem dX3_undecodable_31 : decode cX3_undecodable 31 = .ok (.iload_n 3, 1) := by decide +kernel
theorem dX3_undecodable_32 : decode cX3_undecodable 32 = .ok (.aload_n 0, 1) := by decide +kernel
theorem dX3_undecodable_33 : decode cX3_undecodable 33 = .ok (.iload_n 1, 1) := by decide +kernel
theorem dX3_undecodable_34 : decode cX3_undecodable 34 = .ok (.invokevirtual 80, 3) := by decide +kernel
theorem dX3_undecodable_37 : decode cX3_undecodable 37 = .ok (.if_icmp .ge 28, 3) := by decide +kernel
theorem dX3_undecodable_40 : decode cX3_undecodable 40 = .ok (.iload_n 2, 1) := by decide +kernel
theorem dX3_undecodable_41 : decode cX3_undecodable 41 = .ok (.aload_n 0, 1) := by decide +kernel
theorem dX3_undecodable_42 : decode cX3_undecodable 42 = .ok (.iload_n 1, 1) := by decide +kernel
theorem dX3_undecodable_43 : decode cX3_undecodable 43 = .ok (.iload_n 3, 1) := by decide +kernel
theorem dX3_undecodable_44 : decode cX3_undecodable 44 = .ok (.invokevirtual 202, 3) := by decide +kernel
theorem dX3_undecodable_47 : decode cX3_undecodable 47 = .ok (.ifCond .eq 7, 3) := by decide +kernel
theorem dX3_undecodable_50 : decode cX3_undecodable 50 = .ok (.iconst 0, 1) := by decide +kernel
theorem dX3_undecodable_51 : decode cX3_undecodable 51 = .ok (.goto 6, 3) := by decide +kernel
theorem dX3_undecodable_54 : decode cX3_undecodable 54 = .ok (.iconst 1, 1) := by decide +kernel
theorem dX3_undecodable_55 : decode cX3_undecodable 55 = .ok (.iload_n 3, 1) := by decide +kernel
theorem dX3_undecodable_56 : decode cX3_undecodable 56 = .ok (.ishl, 1) := by decide +kernel
theorem dX3_undecodable_57 : decode cX3_undecodable 57 = .ok (.ior, 1) := by decide +kernel
theorem dX3_undecodable_58 : decode cX3_undecodable 58 = .ok (.istore_n 2, 1) := by decide +kernel
theorem dX3_undecodable_59 : decode cX3_undecodable 59 = .ok (.iinc 3 1, 3) := by decide +kernel
theorem dX3_undecodable_62 : decode cX3_undecodable 62 = .ok (.goto (-31), 3) := by decide +kernel
theorem dX3_undecodable_65 : decode cX3_undecodable 65 = .ok (.iload_n 2, 1) := by decide +kernel
theorem dX3_undecodable_66 : decode cX3_undecodable 66 = .ok (.ireturn, 1) := by decide +kernel
theorem dX3_margin_0 : decode cX3_margin 0 = .ok (.aload_n 0, 1) := by decide +kernel
theorem dX3_margin_1 : decode cX3_margin 1 = .ok (.iload_n 1, 1) := by decide +kernel
theorem dX3_margin_2 : decode cX3_margin 2 = .ok (.iload_n 2, 1) := by decide +kernel
theorem dX3_margin_3 : decode cX3_margin 3 = .ok (.invokevirtual 199, 3) := by decide +kernel
theorem dX3_margin_6 : decode cX3_margin 6 = .ok (.ifCond .ne 5, 3) := by decide +kernel
theorem dX3_margin_9 : decode cX3_margin 9 = .ok (.iconst 0, 1) := by decide +kernel
theorem dX3_margin_10 : decode cX3_margin 10 = .ok (.ireturn, 1) := by decide +kernel
theorem dX3_margin_11 : decode cX3_margin 11 = .ok (.aload_n 0, 1) := by decide +kernel
theorem dX3_margin_12 : decode cX3_margin 12 = .ok (.iload_n 1, 1) := by decide +kernel
theorem dX3_margin_13 : decode cX3_margin 13 = .ok (.iload_n 2, 1) := by decide +kernel
theorem dX3_margin_14 : decode cX3_margin 14 = .ok (.invokevirtual 202, 3) := by decide +kernel
theorem dX3_margin_17 : decode cX3_margin 17 = .ok (.ifCond .eq 22, 3) := by decide +kernel
theorem dX3_margin_20 : decode cX3_margin 20 = .ok (.aload_n 0, 1) := by decide +kernel
theorem dX3_margin_21 : decode cX3_margin 21 = .ok (.getfield 135, 3) := by decide +kernel
theorem dX3_margin_24 : decode cX3_margin 24 = .ok (.iconst 2, 1) := by decide +kernel
theorem dX3_margin_25 : decode cX3_margin 25 = .ok (.aload_n 0, 1) := by decide +kernel
theorem dX3_margin_26 : decode cX3_margin 26 = .ok (.getfield 184, 3) := by decide +kernel
theorem dX3_margin_29 : decode cX3_margin 29 = .ok (.imul, 1) := by decide +kernel
theorem dX3_margin_30 : decode cX3_margin 30 = .ok (.isub, 1) := by decide +kernel
theorem dX3_margin_31 : decode cX3_margin 31 = .ok (.aload_n 0, 1) := by decide +kernel
theorem dX3_margin_32 : decode cX3_margin 32 = .ok (.getfield 178, 3) := by decide +kernel
theorem dX3_margin_35 : decode cX3_margin 35 = .ok (.isub, 1) := by decide +kernel
theorem dX3_margin_36 : decode cX3_margin 36 = .ok (.goto 8, 3) := by decide +kernel
theorem dX3_margin_39 : decode cX3_margin 39 = .ok (.aload_n 0, 1) := by decide +kernel
theorem dX3_margin_40 : decode cX3_margin 40 = .ok (.iconst 2, 1) := by decide +kernel
theorem dX3_margin_41 : decode cX3_margin 41 = .ok (.invokevirtual 124, 3) := by decide +kernel
theorem dX3_margin_44 : decode cX3_margin 44 = .ok (.ireturn, 1) := by decide +kernel
theorem dX3_isStood_0 : decode cX3_isStood 0 = .ok (.iconst 0, 1) := by decide +kernel
theorem dX3_isStood_1 : decode cX3_isStood 1 = .ok (.istore 4, 2) := by decide +kernel
theorem dX3_isStood_3 : decode cX3_isStood 3 = .ok (.iload 4, 2) := by decide +kernel
theorem dX3_isStood_5 : decode cX3_isStood 5 = .ok (.aload_n 0, 1) := by decide +kernel
theorem dX3_isStood_6 : decode cX3_isStood 6 = .ok (.iload_n 1, 1) := by decide +kernel
theorem dX3_isStood_7 : decode cX3_isStood 7 = .ok (.invokevirtual 80, 3) := by decide +kernel
theorem dX3_isStood_10 : decode cX3_isStood 10 = .ok (.if_icmp .ge 75, 3) := by decide +kernel
theorem dX3_isStood_13 : decode cX3_isStood 13 = .ok (.iconst 0, 1) := by decide +kernel
theorem dX3_isStood_14 : decode cX3_isStood 14 = .ok (.istore 5, 2) := by decide +kernel
theorem dX3_isStood_16 : decode cX3_isStood 16 = .ok (.iconst 0, 1) := by decide +kernel
theorem dX3_isStood_17 : decode cX3_isStood 17 = .ok (.istore 6, 2) := by decide +kernel
theorem dX3_isStood_19 : decode cX3_isStood 19 = .ok (.iload 6, 2) := by decide +kernel
theorem dX3_isStood_21 : decode cX3_isStood 21 = .ok (.aload_n 0, 1) := by decide +kernel
theorem dX3_isStood_22 : decode cX3_isStood 22 = .ok (.iload_n 1, 1) := by decide +kernel
theorem dX3_isStood_23 : decode cX3_isStood 23 = .ok (.invokevirtual 84, 3) := by decide +kernel
theorem dX3_isStood_26 : decode cX3_isStood 26 = .ok (.if_icmp .ge 40, 3) := by decide +kernel
theorem dX3_isStood_29 : decode cX3_isStood 29 = .ok (.iload 5, 2) := by decide +kernel
theorem dX3_isStood_31 : decode cX3_isStood 31 = .ok (.aload_n 0, 1) := by decide +kernel
theorem dX3_isStood_32 : decode cX3_isStood 32 = .ok (.iload_n 1, 1) := by decide +kernel
theorem dX3_isStood_33 : decode cX3_isStood 33 = .ok (.iload 4, 2) := by decide +kernel
theorem dX3_isStood_35 : decode cX3_isStood 35 = .ok (.iload 6, 2) := by decide +kernel
theorem dX3_isStood_37 : decode cX3_isStood 37 = .ok (.invokevirtual 145, 3) := by decide +kernel
theorem dX3_isStood_40 : decode cX3_isStood 40 = .ok (.iload_n 2, 1) := by decide +kernel
theorem dX3_isStood_41 : decode cX3_isStood 41 = .ok (.iload_n 2, 1) := by decide +kernel
theorem dX3_isStood_42 : decode cX3_isStood 42 = .ok (.iload_n 3, 1) := by decide +kernel
theorem dX3_isStood_43 : decode cX3_isStood 43 = .ok (.iadd, 1) := by decide +kernel
theorem dX3_isStood_44 : decode cX3_isStood 44 = .ok (.iconst 1, 1) := by decide +kernel
theorem dX3_isStood_45 : decode cX3_isStood 45 = .ok (.isub, 1) := by decide +kernel
theorem dX3_isStood_46 : decode cX3_isStood 46 = .ok (.invokestatic 73, 3) := by decide +kernel
theorem dX3_isStood_49 : decode cX3_isStood 49 = .ok (.ifCond .eq 7, 3) := by decide +kernel
theorem dX3_isStood_52 : decode cX3_isStood 52 = .ok (.iconst 1, 1) := by decide +kernel
theorem dX3_isStood_53 : decode cX3_isStood 53 = .ok (.goto 4, 3) := by decide +kernel
theorem dX3_isStood_56 : decode cX3_isStood 56 = .ok (.iconst 0, 1) := by decide +kernel
theorem dX3_isStood_57 : decode cX3_isStood 57 = .ok (.iadd, 1) := by decide +kernel
theorem dX3_isStood_58 : decode cX3_isStood 58 = .ok (.istore 5, 2) := by decide +kernel
theorem dX3_isStood_60 : decode cX3_isStood 60 = .ok (.iinc 6 1, 3) := by decide +kernel
theorem dX3_isStood_63 : decode cX3_isStood 63 = .ok (.goto (-44), 3) := by decide +kernel
theorem dX3_isStood_66 : decode cX3_isStood 66 = .ok (.iload 5, 2) := by decide +kernel
theorem dX3_isStood_68 : decode cX3_isStood 68 = .ok (.aload_n 0, 1) := by decide +kernel
theorem dX3_isStood_69 : decode cX3_isStood 69 = .ok (.iload_n 1, 1) := by decide +kernel
theorem dX3_isStood_70 : decode cX3_isStood 70 = .ok (.iconst 2, 1) := by decide +kernel
theorem dX3_isStood_71 : decode cX3_isStood 71 = .ok (.invokevirtual 77, 3) := by decide +kernel
theorem dX3_isStood_74 : decode cX3_isStood 74 = .ok (.if_icmp .le 5, 3) := by decide +kernel
theorem dX3_isStood_77 : decode cX3_isStood 77 = .ok (.iconst 0, 1) := by decide +kernel
theorem dX3_isStood_78 : decode cX3_isStood 78 = .ok (.ireturn, 1) := by decide +kernel
theorem dX3_isStood_79 : decode cX3_isStood 79 = .ok (.iinc 4 1, 3) := by decide +kernel
theorem dX3_isStood_82 : decode cX3_isStood 82 = .ok (.goto (-79), 3) := by decide +kernel
theorem dX3_isStood_85 : decode cX3_isStood 85 = .ok (.iconst 1, 1) := by decide +kernel
theorem dX3_isStood_86 : decode cX3_isStood 86 = .ok (.ireturn, 1) := by decide +kernel
theorem dX3_burstLimit_0 : decode cX3_burstLimit 0 = .ok (.aload_n 0, 1) := by decide +kernel
theorem dX3_burstLimit_1 : decode cX3_burstLimit 1 = .ok (.aload_n 0, 1) := by decide +kernel
theorem dX3_burstLimit_2 : decode cX3_burstLimit 2 = .ok (.iload_n 1, 1) := by decide +kernel
theorem dX3_burstLimit_3 : decode cX3_burstLimit 3 = .ok (.invokevirtual 87, 3) := by decide +kernel
theorem dX3_burstLimit_6 : decode cX3_burstLimit 6 = .ok (.ifCond .eq 7, 3) := by decide +kernel
theorem dX3_burstLimit_9 : decode cX3_burstLimit 9 = .ok (.iconst 0, 1) := by decide +kernel
theorem dX3_burstLimit_10 : decode cX3_burstLimit 10 = .ok (.goto 4, 3) := by decide +kernel
theorem dX3_burstLimit_13 : decode cX3_burstLimit 13 = .ok (.iconst 1, 1) := by decide +kernel
theorem dX3_burstLimit_14 : decode cX3_burstLimit 14 = .ok (.putfield 67, 3) := by decide +kernel
theorem dX3_burstLimit_17 : decode cX3_burstLimit 17 = .ok (.aload_n 0, 1) := by decide +kernel
theorem dX3_burstLimit_18 : decode cX3_burstLimit 18 = .ok (.getfield 67, 3) := by decide +kernel
theorem dX3_burstLimit_21 : decode cX3_burstLimit 21 = .ok (.iconst 1, 1) := by decide +kernel
theorem dX3_burstLimit_22 : decode cX3_burstLimit 22 = .ok (.if_icmp .ne 5, 3) := by decide +kernel
theorem dX3_burstLimit_25 : decode cX3_burstLimit 25 = .ok (.iconst 0, 1) := by decide +kernel
theorem dX3_burstLimit_26 : decode cX3_burstLimit 26 = .ok (.ireturn, 1) := by decide +kernel
theorem dX3_burstLimit_27 : decode cX3_burstLimit 27 = .ok (.iconst 1, 1) := by decide +kernel
theorem dX3_burstLimit_28 : decode cX3_burstLimit 28 = .ok (.istore_n 2, 1) := by decide +kernel
theorem dX3_burstLimit_29 : decode cX3_burstLimit 29 = .ok (.iload_n 2, 1) := by decide +kernel
theorem dX3_burstLimit_30 : decode cX3_burstLimit 30 = .ok (.aload_n 0, 1) := by decide +kernel
theorem dX3_burstLimit_31 : decode cX3_burstLimit 31 = .ok (.iload_n 1, 1) := by decide +kernel
theorem dX3_burstLimit_32 : decode cX3_burstLimit 32 = .ok (.invokevirtual 91, 3) := by decide +kernel
theorem dX3_burstLimit_35 : decode cX3_burstLimit 35 = .ok (.if_icmp .gt 59, 3) := by decide +kernel
theorem dX3_burstLimit_38 : decode cX3_burstLimit 38 = .ok (.aload_n 0, 1) := by decide +kernel
theorem dX3_burstLimit_39 : decode cX3_burstLimit 39 = .ok (.iload_n 1, 1) := by decide +kernel
theorem dX3_burstLimit_40 : decode cX3_burstLimit 40 = .ok (.iconst 5, 1) := by decide +kernel
theorem dX3_burstLimit_41 : decode cX3_burstLimit 41 = .ok (.invokevirtual 77, 3) := by decide +kernel
theorem dX3_burstLimit_44 : decode cX3_burstLimit 44 = .ok (.aload_n 0, 1) := by decide +kernel
theorem dX3_burstLimit_45 : decode cX3_burstLimit 45 = .ok (.iload_n 1, 1) := by decide +kernel
theorem dX3_burstLimit_46 : decode cX3_burstLimit 46 = .ok (.invokevirtual 91, 3) := by decide +kernel
theorem dX3_burstLimit_49 : decode cX3_burstLimit 49 = .ok (.iadd, 1) := by decide +kernel
theorem dX3_burstLimit_50 : decode cX3_burstLimit 50 = .ok (.iload_n 2, 1) := by decide +kernel
theorem dX3_burstLimit_51 : decode cX3_burstLimit 51 = .ok (.isub, 1) := by decide +kernel
theorem dX3_burstLimit_52 : decode cX3_burstLimit 52 = .ok (.istore_n 3, 1) := by decide +kernel
theorem dX3_burstLimit_53 : decode cX3_burstLimit 53 = .ok (.aload_n 0, 1) := by decide +kernel
theorem dX3_burstLimit_54 : decode cX3_burstLimit 54 = .ok (.iload_n 1, 1) := by decide +kernel
theorem dX3_burstLimit_55 : decode cX3_burstLimit 55 = .ok (.iconst 5, 1) := by decide +kernel
theorem dX3_burstLimit_56 : decode cX3_burstLimit 56 = .ok (.invokevirtual 77, 3) := by decide +kernel
theorem dX3_burstLimit_59 : decode cX3_burstLimit 59 = .ok (.istore 4, 2) := by decide +kernel
theorem dX3_burstLimit_61 : decode cX3_burstLimit 61 = .ok (.iload 4, 2) := by decide +kernel
theorem dX3_burstLimit_63 : decode cX3_burstLimit 63 = .ok (.iload_n 3, 1) := by decide +kernel
theorem dX3_burstLimit_64 : decode cX3_burstLimit 64 = .ok (.if_icmp .gt 24, 3) := by decide +kernel
theorem dX3_burstLimit_67 : decode cX3_burstLimit 67 = .ok (.aload_n 0, 1) := by decide +kernel
theorem dX3_burstLimit_68 : decode cX3_burstLimit 68 = .ok (.iload_n 1, 1) := by decide +kernel
theorem dX3_burstLimit_69 : decode cX3_burstLimit 69 = .ok (.iload 4, 2) := by decide +kernel
theorem dX3_burstLimit_71 : decode cX3_burstLimit 71 = .ok (.iload_n 2, 1) := by decide +kernel
theorem dX3_burstLimit_72 : decode cX3_burstLimit 72 = .ok (.invokevirtual 213, 3) := by decide +kernel
theorem dX3_burstLimit_75 : decode cX3_burstLimit 75 = .ok (.ifCond .ne 7, 3) := by decide +kernel
theorem dX3_burstLimit_78 : decode cX3_burstLimit 78 = .ok (.iload_n 2, 1) := by decide +kernel
theorem dX3_burstLimit_79 : decode cX3_burstLimit 79 = .ok (.iconst 1, 1) := by decide +kernel
theorem dX3_burstLimit_80 : decode cX3_burstLimit 80 = .ok (.isub, 1) := by decide +kernel
theorem dX3_burstLimit_81 : decode cX3_burstLimit 81 = .ok (.ireturn, 1) := by decide +kernel
theorem dX3_burstLimit_82 : decode cX3_burstLimit 82 = .ok (.iinc 4 1, 3) := by decide +kernel
theorem dX3_burstLimit_85 : decode cX3_burstLimit 85 = .ok (.goto (-24), 3) := by decide +kernel
theorem dX3_burstLimit_88 : decode cX3_burstLimit 88 = .ok (.iinc 2 1, 3) := by decide +kernel
theorem dX3_burstLimit_91 : decode cX3_burstLimit 91 = .ok (.goto (-62), 3) := by decide +kernel
theorem dX3_burstLimit_94 : decode cX3_burstLimit 94 = .ok (.aload_n 0, 1) := by decide +kernel
theorem dX3_burstLimit_95 : decode cX3_burstLimit 95 = .ok (.iload_n 1, 1) := by decide +kernel
theorem dX3_burstLimit_96 : decode cX3_burstLimit 96 = .ok (.invokevirtual 91, 3) := by decide +kernel
theorem dX3_burstLimit_99 : decode cX3_burstLimit 99 = .ok (.ireturn, 1) := by decide +kernel
theorem dX3_advance_0 : decode cX3_advance 0 = .ok (.aload_n 0, 1) := by decide +kernel
theorem dX3_advance_1 : decode cX3_advance 1 = .ok (.iload_n 1, 1) := by decide +kernel
theorem dX3_advance_2 : decode cX3_advance 2 = .ok (.iconst 1, 1) := by decide +kernel
theorem dX3_advance_3 : decode cX3_advance 3 = .ok (.bipush 100, 2) := by decide +kernel
theorem dX3_advance_5 : decode cX3_advance 5 = .ok (.invokestatic 73, 3) := by decide +kernel
theorem dX3_advance_8 : decode cX3_advance 8 = .ok (.ifCond .ne 7, 3) := by decide +kernel
theorem dX3_advance_11 : decode cX3_advance 11 = .ok (.iconst 1, 1) := by decide +kernel
theorem dX3_advance_12 : decode cX3_advance 12 = .ok (.goto 24, 3) := by decide +kernel
theorem dX3_advance_15 : decode cX3_advance 15 = .ok (.aload_n 0, 1) := by decide +kernel
theorem dX3_advance_16 : decode cX3_advance 16 = .ok (.getfield 9, 3) := by decide +kernel
theorem dX3_advance_19 : decode cX3_advance 19 = .ok (.sipush 800, 3) := by decide +kernel
theorem dX3_advance_22 : decode cX3_advance 22 = .ok (.iaload, 1) := by decide +kernel
theorem dX3_advance_23 : decode cX3_advance 23 = .ok (.iload_n 1, 1) := by decide +kernel
theorem dX3_advance_24 : decode cX3_advance 24 = .ok (.iadd, 1) := by decide +kernel
theorem dX3_advance_25 : decode cX3_advance 25 = .ok (.sipush 10000, 3) := by decide +kernel
theorem dX3_advance_28 : decode cX3_advance 28 = .ok (.if_icmp .le 7, 3) := by decide +kernel
theorem dX3_advance_31 : decode cX3_advance 31 = .ok (.iconst 2, 1) := by decide +kernel
theorem dX3_advance_32 : decode cX3_advance 32 = .ok (.goto 4, 3) := by decide +kernel
theorem dX3_advance_35 : decode cX3_advance 35 = .ok (.iconst 0, 1) := by decide +kernel
theorem dX3_advance_36 : decode cX3_advance 36 = .ok (.putfield 67, 3) := by decide +kernel
theorem dX3_advance_39 : decode cX3_advance 39 = .ok (.aload_n 0, 1) := by decide +kernel
theorem dX3_advance_40 : decode cX3_advance 40 = .ok (.getfield 67, 3) := by decide +kernel
theorem dX3_advance_43 : decode cX3_advance 43 = .ok (.ifCond .le 5, 3) := by decide +kernel
theorem dX3_advance_46 : decode cX3_advance 46 = .ok (.iconst 0, 1) := by decide +kernel
theorem dX3_advance_47 : decode cX3_advance 47 = .ok (.ireturn, 1) := by decide +kernel
theorem dX3_advance_48 : decode cX3_advance 48 = .ok (.aload_n 0, 1) := by decide +kernel
theorem dX3_advance_49 : decode cX3_advance 49 = .ok (.invokevirtual 130, 3) := by decide +kernel
theorem dX3_advance_52 : decode cX3_advance 52 = .ok (.aload_n 0, 1) := by decide +kernel
theorem dX3_advance_53 : decode cX3_advance 53 = .ok (.getfield 9, 3) := by decide +kernel
theorem dX3_advance_56 : decode cX3_advance 56 = .ok (.sipush 800, 3) := by decide +kernel
theorem dX3_advance_59 : decode cX3_advance 59 = .ok (.dup2, 1) := by decide +kernel
theorem dX3_advance_60 : decode cX3_advance 60 = .ok (.iaload, 1) := by decide +kernel
theorem dX3_advance_61 : decode cX3_advance 61 = .ok (.iload_n 1, 1) := by decide +kernel
theorem dX3_advance_62 : decode cX3_advance 62 = .ok (.iadd, 1) := by decide +kernel
theorem dX3_advance_63 : decode cX3_advance 63 = .ok (.iastore, 1) := by decide +kernel
theorem dX3_advance_64 : decode cX3_advance 64 = .ok (.aload_n 0, 1) := by decide +kernel
theorem dX3_advance_65 : decode cX3_advance 65 = .ok (.getfield 9, 3) := by decide +kernel
theorem dX3_advance_68 : decode cX3_advance 68 = .ok (.sipush 800, 3) := by decide +kernel
theorem dX3_advance_71 : decode cX3_advance 71 = .ok (.iaload, 1) := by decide +kernel
theorem dX3_advance_72 : decode cX3_advance 72 = .ok (.ireturn, 1) := by decide +kernel
theorem dX3_next_0 : decode cX3_next 0 = .ok (.iconst (-1), 1) := by decide +kernel
theorem dX3_next_1 : decode cX3_next 1 = .ok (.istore_n 1, 1) := by decide +kernel
theorem dX3_next_2 : decode cX3_next 2 = .ok (.aload_n 0, 1) := by decide +kernel
theorem dX3_next_3 : decode cX3_next 3 = .ok (.getfield 9, 3) := by decide +kernel
theorem dX3_next_6 : decode cX3_next 6 = .ok (.sipush 800, 3) := by decide +kernel
theorem dX3_next_9 : decode cX3_next 9 = .ok (.iaload, 1) := by decide +kernel
theorem dX3_next_10 : decode cX3_next 10 = .ok (.istore_n 2, 1) := by decide +kernel
theorem dX3_next_11 : decode cX3_next 11 = .ok (.iconst 0, 1) := by decide +kernel
theorem dX3_next_12 : decode cX3_next 12 = .ok (.istore_n 3, 1) := by decide +kernel
theorem dX3_next_13 : decode cX3_next 13 = .ok (.iload_n 3, 1) := by decide +kernel
theorem dX3_next_14 : decode cX3_next 14 = .ok (.bipush 8, 2) := by decide +kernel
theorem dX3_next_16 : decode cX3_next 16 = .ok (.if_icmp .ge 72, 3) := by decide +kernel
theorem dX3_next_19 : decode cX3_next 19 = .ok (.iconst 0, 1) := by decide +kernel
theorem dX3_next_20 : decode cX3_next 20 = .ok (.istore 4, 2) := by decide +kernel
theorem dX3_next_22 : decode cX3_next 22 = .ok (.aload_n 0, 1) := by decide +kernel
theorem dX3_next_23 : decode cX3_next 23 = .ok (.iload_n 3, 1) := by decide +kernel
theorem dX3_next_24 : decode cX3_next 24 = .ok (.invokevirtual 87, 3) := by decide +kernel
theorem dX3_next_27 : decode cX3_next 27 = .ok (.ifCond .eq 55, 3) := by decide +kernel
theorem dX3_next_30 : decode cX3_next 30 = .ok (.iload 4, 2) := by decide +kernel
theorem dX3_next_32 : decode cX3_next 32 = .ok (.aload_n 0, 1) := by decide +kernel
theorem dX3_next_33 : decode cX3_next 33 = .ok (.iload_n 3, 1) := by decide +kernel
theorem dX3_next_34 : decode cX3_next 34 = .ok (.invokevirtual 80, 3) := by decide +kernel
theorem dX3_next_37 : decode cX3_next 37 = .ok (.if_icmp .ge 45, 3) := by decide +kernel
theorem dX3_next_40 : decode cX3_next 40 = .ok (.aload_n 0, 1) := by decide +kernel
theorem dX3_next_41 : decode cX3_next 41 = .ok (.iload_n 3, 1) := by decide +kernel
theorem dX3_next_42 : decode cX3_next 42 = .ok (.bipush 6, 2) := by decide +kernel
theorem dX3_next_44 : decode cX3_next 44 = .ok (.iload 4, 2) := by decide +kernel
theorem dX3_next_46 : decode cX3_next 46 = .ok (.iadd, 1) := by decide +kernel
theorem dX3_next_47 : decode cX3_next 47 = .ok (.invokevirtual 77, 3) := by decide +kernel
theorem dX3_next_50 : decode cX3_next 50 = .ok (.iload_n 2, 1) := by decide +kernel
theorem dX3_next_51 : decode cX3_next 51 = .ok (.if_icmp .lt 6, 3) := by decide +kernel
theorem dX3_next_54 : decode cX3_next 54 = .ok (.goto 22, 3) := by decide +kernel
theorem dX3_next_57 : decode cX3_next 57 = .ok (.aload_n 0, 1) := by decide +kernel
theorem dX3_next_58 : decode cX3_next 58 = .ok (.iload_n 3, 1) := by decide +kernel
theorem dX3_next_59 : decode cX3_next 59 = .ok (.bipush 6, 2) := by decide +kernel
theorem dX3_next_61 : decode cX3_next 61 = .ok (.iload 4, 2) := by decide +kernel
theorem dX3_next_63 : decode cX3_next 63 = .ok (.iadd, 1) := by decide +kernel
theorem dX3_next_64 : decode cX3_next 64 = .ok (.invokevirtual 77, 3) := by decide +kernel
theorem dX3_next_67 : decode cX3_next 67 = .ok (.istore_n 2, 1) := by decide +kernel
theorem dX3_next_68 : decode cX3_next 68 = .ok (.bipush 100, 2) := by decide +kernel
theorem dX3_next_70 : decode cX3_next 70 = .ok (.iload_n 3, 1) := by decide +kernel
theorem dX3_next_71 : decode cX3_next 71 = .ok (.imul, 1) := by decide +kernel
theorem dX3_next_72 : decode cX3_next 72 = .ok (.iload 4, 2) := by decide +kernel
theorem dX3_next_74 : decode cX3_next 74 = .ok (.iadd, 1) := by decide +kernel
theorem dX3_next_75 : decode cX3_next 75 = .ok (.istore_n 1, 1) := by decide +kernel
theorem dX3_next_76 : decode cX3_next 76 = .ok (.iinc 4 1, 3) := by decide +kernel
theorem dX3_next_79 : decode cX3_next 79 = .ok (.goto (-57), 3) := by decide +kernel
theorem dX3_next_82 : decode cX3_next 82 = .ok (.iinc 3 1, 3) := by decide +kernel
theorem dX3_next_85 : decode cX3_next 85 = .ok (.goto (-72), 3) := by decide +kernel
theorem dX3_next_88 : decode cX3_next 88 = .ok (.iload_n 1, 1) := by decide +kernel
theorem dX3_next_89 : decode cX3_next 89 = .ok (.ireturn, 1) := by decide +kernel
theorem dX3_tells_0 : decode cX3_tells 0 = .ok (.aload_n 0, 1) := by decide +kernel
theorem dX3_tells_1 : decode cX3_tells 1 = .ok (.getfield 27, 3) := by decide +kernel
theorem dX3_tells_4 : decode cX3_tells 4 = .ok (.iconst 4, 1) := by decide +kernel
theorem dX3_tells_5 : decode cX3_tells 5 = .ok (.aload_n 0, 1) := by decide +kernel
theorem dX3_tells_6 : decode cX3_tells 6 = .ok (.getfield 216, 3) := by decide +kernel
theorem dX3_tells_9 : decode cX3_tells 9 = .ok (.imul, 1) := by decide +kernel
theorem dX3_tells_10 : decode cX3_tells 10 = .ok (.iload_n 1, 1) := by decide +kernel
theorem dX3_tells_11 : decode cX3_tells 11 = .ok (.iastore, 1) := by decide +kernel
theorem dX3_tells_12 : decode cX3_tells 12 = .ok (.aload_n 0, 1) := by decide +kernel
theorem dX3_tells_13 : decode cX3_tells 13 = .ok (.getfield 27, 3) := by decide +kernel
theorem dX3_tells_16 : decode cX3_tells 16 = .ok (.iconst 4, 1) := by decide +kernel
theorem dX3_tells_17 : decode cX3_tells 17 = .ok (.aload_n 0, 1) := by decide +kernel
theorem dX3_tells_18 : decode cX3_tells 18 = .ok (.getfield 216, 3) := by decide +kernel
theorem dX3_tells_21 : decode cX3_tells 21 = .ok (.imul, 1) := by decide +kernel
theorem dX3_tells_22 : decode cX3_tells 22 = .ok (.iconst 1, 1) := by decide +kernel
theorem dX3_tells_23 : decode cX3_tells 23 = .ok (.iadd, 1) := by decide +kernel
theorem dX3_tells_24 : decode cX3_tells 24 = .ok (.iload_n 2, 1) := by decide +kernel
theorem dX3_tells_25 : decode cX3_tells 25 = .ok (.iastore, 1) := by decide +kernel
theorem dX3_tells_26 : decode cX3_tells 26 = .ok (.aload_n 0, 1) := by decide +kernel
theorem dX3_tells_27 : decode cX3_tells 27 = .ok (.getfield 27, 3) := by decide +kernel
theorem dX3_tells_30 : decode cX3_tells 30 = .ok (.iconst 4, 1) := by decide +kernel
theorem dX3_tells_31 : decode cX3_tells 31 = .ok (.aload_n 0, 1) := by decide +kernel
theorem dX3_tells_32 : decode cX3_tells 32 = .ok (.getfield 216, 3) := by decide +kernel
theorem dX3_tells_35 : decode cX3_tells 35 = .ok (.imul, 1) := by decide +kernel
theorem dX3_tells_36 : decode cX3_tells 36 = .ok (.iconst 2, 1) := by decide +kernel
theorem dX3_tells_37 : decode cX3_tells 37 = .ok (.iadd, 1) := by decide +kernel
theorem dX3_tells_38 : decode cX3_tells 38 = .ok (.iload_n 3, 1) := by decide +kernel
theorem dX3_tells_39 : decode cX3_tells 39 = .ok (.iastore, 1) := by decide +kernel
theorem dX3_tells_40 : decode cX3_tells 40 = .ok (.aload_n 0, 1) := by decide +kernel
theorem dX3_tells_41 : decode cX3_tells 41 = .ok (.getfield 27, 3) := by decide +kernel
theorem dX3_tells_44 : decode cX3_tells 44 = .ok (.iconst 4, 1) := by decide +kernel
theorem dX3_tells_45 : decode cX3_tells 45 = .ok (.aload_n 0, 1) := by decide +kernel
theorem dX3_tells_46 : decode cX3_tells 46 = .ok (.getfield 216, 3) := by decide +kernel
theorem dX3_tells_49 : decode cX3_tells 49 = .ok (.imul, 1) := by decide +kernel
theorem dX3_tells_50 : decode cX3_tells 50 = .ok (.iconst 3, 1) := by decide +kernel
theorem dX3_tells_51 : decode cX3_tells 51 = .ok (.iadd, 1) := by decide +kernel
theorem dX3_tells_52 : decode cX3_tells 52 = .ok (.iload 4, 2) := by decide +kernel
theorem dX3_tells_54 : decode cX3_tells 54 = .ok (.iastore, 1) := by decide +kernel
theorem dX3_tells_55 : decode cX3_tells 55 = .ok (.aload_n 0, 1) := by decide +kernel
theorem dX3_tells_56 : decode cX3_tells 56 = .ok (.dup, 1) := by decide +kernel
theorem dX3_tells_57 : decode cX3_tells 57 = .ok (.getfield 216, 3) := by decide +kernel
theorem dX3_tells_60 : decode cX3_tells 60 = .ok (.iconst 1, 1) := by decide +kernel
theorem dX3_tells_61 : decode cX3_tells 61 = .ok (.iadd, 1) := by decide +kernel
theorem dX3_tells_62 : decode cX3_tells 62 = .ok (.putfield 216, 3) := by decide +kernel
theorem dX3_tells_65 : decode cX3_tells 65 = .ok (.aload_n 0, 1) := by decide +kernel
theorem dX3_tells_66 : decode cX3_tells 66 = .ok (.getfield 9, 3) := by decide +kernel
theorem dX3_tells_69 : decode cX3_tells 69 = .ok (.sipush 801, 3) := by decide +kernel
theorem dX3_tells_72 : decode cX3_tells 72 = .ok (.iload_n 3, 1) := by decide +kernel
theorem dX3_tells_73 : decode cX3_tells 73 = .ok (.iadd, 1) := by decide +kernel
theorem dX3_tells_74 : decode cX3_tells 74 = .ok (.dup2, 1) := by decide +kernel
theorem dX3_tells_75 : decode cX3_tells 75 = .ok (.iaload, 1) := by decide +kernel
theorem dX3_tells_76 : decode cX3_tells 76 = .ok (.iconst 1, 1) := by decide +kernel
theorem dX3_tells_77 : decode cX3_tells 77 = .ok (.iadd, 1) := by decide +kernel
theorem dX3_tells_78 : decode cX3_tells 78 = .ok (.iastore, 1) := by decide +kernel
theorem dX3_tells_79 : decode cX3_tells 79 = .ok (.return_, 1) := by decide +kernel
theorem dX3_mends_0 : decode cX3_mends 0 = .ok (.aload_n 0, 1) := by decide +kernel
theorem dX3_mends_1 : decode cX3_mends 1 = .ok (.getfield 187, 3) := by decide +kernel
theorem dX3_mends_4 : decode cX3_mends 4 = .ok (.aload_n 0, 1) := by decide +kernel
theorem dX3_mends_5 : decode cX3_mends 5 = .ok (.getfield 138, 3) := by decide +kernel
theorem dX3_mends_8 : decode cX3_mends 8 = .ok (.ior, 1) := by decide +kernel
theorem dX3_mends_9 : decode cX3_mends 9 = .ok (.istore_n 3, 1) := by decide +kernel
theorem dX3_mends_10 : decode cX3_mends 10 = .ok (.iconst 0, 1) := by decide +kernel
theorem dX3_mends_11 : decode cX3_mends 11 = .ok (.istore 4, 2) := by decide +kernel
theorem dX3_mends_13 : decode cX3_mends 13 = .ok (.iload 4, 2) := by decide +kernel
theorem dX3_mends_15 : decode cX3_mends 15 = .ok (.aload_n 0, 1) := by decide +kernel
theorem dX3_mends_16 : decode cX3_mends 16 = .ok (.getfield 133, 3) := by decide +kernel
theorem dX3_mends_19 : decode cX3_mends 19 = .ok (.if_icmp .ge 38, 3) := by decide +kernel
theorem dX3_mends_22 : decode cX3_mends 22 = .ok (.iload_n 3, 1) := by decide +kernel
theorem dX3_mends_23 : decode cX3_mends 23 = .ok (.iload 4, 2) := by decide +kernel
theorem dX3_mends_25 : decode cX3_mends 25 = .ok (.ishr, 1) := by decide +kernel
theorem dX3_mends_26 : decode cX3_mends 26 = .ok (.iconst 1, 1) := by decide +kernel
theorem dX3_mends_27 : decode cX3_mends 27 = .ok (.iand, 1) := by decide +kernel
theorem dX3_mends_28 : decode cX3_mends 28 = .ok (.iconst 1, 1) := by decide +kernel
theorem dX3_mends_29 : decode cX3_mends 29 = .ok (.if_icmp .ne 22, 3) := by decide +kernel
theorem dX3_mends_32 : decode cX3_mends 32 = .ok (.aload_n 0, 1) := by decide +kernel
theorem dX3_mends_33 : decode cX3_mends 33 = .ok (.aload_n 0, 1) := by decide +kernel
theorem dX3_mends_34 : decode cX3_mends 34 = .ok (.iload_n 1, 1) := by decide +kernel
theorem dX3_mends_35 : decode cX3_mends 35 = .ok (.iload_n 2, 1) := by decide +kernel
theorem dX3_mends_36 : decode cX3_mends 36 = .ok (.iload 4, 2) := by decide +kernel
theorem dX3_mends_38 : decode cX3_mends 38 = .ok (.invokevirtual 145, 3) := by decide +kernel
theorem dX3_mends_41 : decode cX3_mends 41 = .ok (.aload_n 0, 1) := by decide +kernel
theorem dX3_mends_42 : decode cX3_mends 42 = .ok (.getfield 45, 3) := by decide +kernel
theorem dX3_mends_45 : decode cX3_mends 45 = .ok (.iload 4, 2) := by decide +kernel
theorem dX3_mends_47 : decode cX3_mends 47 = .ok (.iaload, 1) := by decide +kernel
theorem dX3_mends_48 : decode cX3_mends 48 = .ok (.invokevirtual 149, 3) := by decide +kernel
theorem dX3_mends_51 : decode cX3_mends 51 = .ok (.iinc 4 1, 3) := by decide +kernel
theorem dX3_mends_54 : decode cX3_mends 54 = .ok (.goto (-41), 3) := by decide +kernel
theorem dX3_mends_57 : decode cX3_mends 57 = .ok (.iload_n 3, 1) := by decide +kernel
theorem dX3_mends_58 : decode cX3_mends 58 = .ok (.invokestatic 175, 3) := by decide +kernel
theorem dX3_mends_61 : decode cX3_mends 61 = .ok (.ireturn, 1) := by decide +kernel
theorem dX3_scrub_0 : decode cX3_scrub 0 = .ok (.aload_n 0, 1) := by decide +kernel
theorem dX3_scrub_1 : decode cX3_scrub 1 = .ok (.iload_n 1, 1) := by decide +kernel
theorem dX3_scrub_2 : decode cX3_scrub 2 = .ok (.iconst 0, 1) := by decide +kernel
theorem dX3_scrub_3 : decode cX3_scrub 3 = .ok (.sipush 200, 3) := by decide +kernel
theorem dX3_scrub_6 : decode cX3_scrub 6 = .ok (.invokestatic 73, 3) := by decide +kernel
theorem dX3_scrub_9 : decode cX3_scrub 9 = .ok (.ifCond .eq 7, 3) := by decide +kernel
theorem dX3_scrub_12 : decode cX3_scrub 12 = .ok (.iconst 0, 1) := by decide +kernel
theorem dX3_scrub_13 : decode cX3_scrub 13 = .ok (.goto 4, 3) := by decide +kernel
theorem dX3_scrub_16 : decode cX3_scrub 16 = .ok (.iconst 1, 1) := by decide +kernel
theorem dX3_scrub_17 : decode cX3_scrub 17 = .ok (.putfield 67, 3) := by decide +kernel
theorem dX3_scrub_20 : decode cX3_scrub 20 = .ok (.aload_n 0, 1) := by decide +kernel
theorem dX3_scrub_21 : decode cX3_scrub 21 = .ok (.getfield 67, 3) := by decide +kernel
theorem dX3_scrub_24 : decode cX3_scrub 24 = .ok (.iconst 1, 1) := by decide +kernel
theorem dX3_scrub_25 : decode cX3_scrub 25 = .ok (.if_icmp .ne 5, 3) := by decide +kernel
theorem dX3_scrub_28 : decode cX3_scrub 28 = .ok (.iconst 0, 1) := by decide +kernel
theorem dX3_scrub_29 : decode cX3_scrub 29 = .ok (.ireturn, 1) := by decide +kernel
theorem dX3_scrub_30 : decode cX3_scrub 30 = .ok (.aload_n 0, 1) := by decide +kernel
theorem dX3_scrub_31 : decode cX3_scrub 31 = .ok (.invokevirtual 130, 3) := by decide +kernel
theorem dX3_scrub_34 : decode cX3_scrub 34 = .ok (.aload_n 0, 1) := by decide +kernel
theorem dX3_scrub_35 : decode cX3_scrub 35 = .ok (.iconst 0, 1) := by decide +kernel
theorem dX3_scrub_36 : decode cX3_scrub 36 = .ok (.putfield 216, 3) := by decide +kernel
theorem dX3_scrub_39 : decode cX3_scrub 39 = .ok (.iload_n 1, 1) := by decide +kernel
theorem dX3_scrub_40 : decode cX3_scrub 40 = .ok (.istore_n 2, 1) := by decide +kernel
theorem dX3_scrub_41 : decode cX3_scrub 41 = .ok (.aload_n 0, 1) := by decide +kernel
theorem dX3_scrub_42 : decode cX3_scrub 42 = .ok (.invokevirtual 219, 3) := by decide +kernel
theorem dX3_scrub_45 : decode cX3_scrub 45 = .ok (.istore_n 3, 1) := by decide +kernel
theorem dX3_scrub_46 : decode cX3_scrub 46 = .ok (.iload_n 3, 1) := by decide +kernel
theorem dX3_scrub_47 : decode cX3_scrub 47 = .ok (.ifCond .lt 210, 3) := by decide +kernel
theorem dX3_scrub_50 : decode cX3_scrub 50 = .ok (.iload_n 2, 1) := by decide +kernel
theorem dX3_scrub_51 : decode cX3_scrub 51 = .ok (.ifCond .le 206, 3) := by decide +kernel
theorem dX3_scrub_54 : decode cX3_scrub 54 = .ok (.iload_n 3, 1) := by decide +kernel
theorem dX3_scrub_55 : decode cX3_scrub 55 = .ok (.bipush 100, 2) := by decide +kernel
theorem dX3_scrub_57 : decode cX3_scrub 57 = .ok (.idiv, 1) := by decide +kernel
theorem dX3_scrub_58 : decode cX3_scrub 58 = .ok (.istore 4, 2) := by decide +kernel
theorem dX3_scrub_60 : decode cX3_scrub 60 = .ok (.iload_n 3, 1) := by decide +kernel
theorem dX3_scrub_61 : decode cX3_scrub 61 = .ok (.bipush 100, 2) := by decide +kernel
theorem dX3_scrub_63 : decode cX3_scrub 63 = .ok (.irem, 1) := by decide +kernel
theorem dX3_scrub_64 : decode cX3_scrub 64 = .ok (.istore 5, 2) := by decide +kernel
theorem dX3_scrub_66 : decode cX3_scrub 66 = .ok (.iinc 2 (-1), 3) := by decide +kernel
theorem dX3_scrub_69 : decode cX3_scrub 69 = .ok (.aload_n 0, 1) := by decide +kernel
theorem dX3_scrub_70 : decode cX3_scrub 70 = .ok (.getfield 9, 3) := by decide +kernel
theorem dX3_scrub_73 : decode cX3_scrub 73 = .ok (.sipush 807, 3) := by decide +kernel
theorem dX3_scrub_76 : decode cX3_scrub 76 = .ok (.dup2, 1) := by decide +kernel
theorem dX3_scrub_77 : decode cX3_scrub 77 = .ok (.iaload, 1) := by decide +kernel
theorem dX3_scrub_78 : decode cX3_scrub 78 = .ok (.iconst 1, 1) := by decide +kernel
theorem dX3_scrub_79 : decode cX3_scrub 79 = .ok (.iadd, 1) := by decide +kernel
theorem dX3_scrub_80 : decode cX3_scrub 80 = .ok (.iastore, 1) := by decide +kernel
theorem dX3_scrub_81 : decode cX3_scrub 81 = .ok (.aload_n 0, 1) := by decide +kernel
theorem dX3_scrub_82 : decode cX3_scrub 82 = .ok (.iload 4, 2) := by decide +kernel
theorem dX3_scrub_84 : decode cX3_scrub 84 = .ok (.iload 5, 2) := by decide +kernel
theorem dX3_scrub_86 : decode cX3_scrub 86 = .ok (.invokevirtual 202, 3) := by decide +kernel
theorem dX3_scrub_89 : decode cX3_scrub 89 = .ok (.istore 6, 2) := by decide +kernel
theorem dX3_scrub_91 : decode cX3_scrub 91 = .ok (.iload 6, 2) := by decide +kernel
theorem dX3_scrub_93 : decode cX3_scrub 93 = .ok (.ifCond .eq 15, 3) := by decide +kernel
theorem dX3_scrub_96 : decode cX3_scrub 96 = .ok (.aload_n 0, 1) := by decide +kernel
theorem dX3_scrub_97 : decode cX3_scrub 97 = .ok (.getfield 184, 3) := by decide +kernel
theorem dX3_scrub_100 : decode cX3_scrub 100 = .ok (.aload_n 0, 1) := by decide +kernel
theorem dX3_scrub_101 : decode cX3_scrub 101 = .ok (.getfield 178, 3) := by decide +kernel
theorem dX3_scrub_104 : decode cX3_scrub 104 = .ok (.iadd, 1) := by decide +kernel
theorem dX3_scrub_105 : decode cX3_scrub 105 = .ok (.goto 4, 3) := by decide +kernel
theorem dX3_scrub_108 : decode cX3_scrub 108 = .ok (.iconst 0, 1) := by decide +kernel
theorem dX3_scrub_109 : decode cX3_scrub 109 = .ok (.istore 7, 2) := by decide +kernel
theorem dX3_scrub_111 : decode cX3_scrub 111 = .ok (.iload 7, 2) := by decide +kernel
theorem dX3_scrub_113 : decode cX3_scrub 113 = .ok (.iload_n 2, 1) := by decide +kernel
theorem dX3_scrub_114 : decode cX3_scrub 114 = .ok (.if_icmp .le 16, 3) := by decide +kernel
theorem dX3_scrub_117 : decode cX3_scrub 117 = .ok (.aload_n 0, 1) := by decide +kernel
theorem dX3_scrub_118 : decode cX3_scrub 118 = .ok (.iload 4, 2) := by decide +kernel
theorem dX3_scrub_120 : decode cX3_scrub 120 = .ok (.iload 5, 2) := by decide +kernel
theorem dX3_scrub_122 : decode cX3_scrub 122 = .ok (.iconst 3, 1) := by decide +kernel
theorem dX3_scrub_123 : decode cX3_scrub 123 = .ok (.iload 7, 2) := by decide +kernel
theorem dX3_scrub_125 : decode cX3_scrub 125 = .ok (.invokevirtual 222, 3) := by decide +kernel
theorem dX3_scrub_128 : decode cX3_scrub 128 = .ok (.iload_n 2, 1) := by decide +kernel
theorem dX3_scrub_129 : decode cX3_scrub 129 = .ok (.ireturn, 1) := by decide +kernel
theorem dX3_scrub_130 : decode cX3_scrub 130 = .ok (.aload_n 0, 1) := by decide +kernel
theorem dX3_scrub_131 : decode cX3_scrub 131 = .ok (.getfield 9, 3) := by decide +kernel
theorem dX3_scrub_134 : decode cX3_scrub 134 = .ok (.bipush 10, 2) := by decide +kernel
theorem dX3_scrub_136 : decode cX3_scrub 136 = .ok (.iload 4, 2) := by decide +kernel
theorem dX3_scrub_138 : decode cX3_scrub 138 = .ok (.imul, 1) := by decide +kernel
theorem dX3_scrub_139 : decode cX3_scrub 139 = .ok (.bipush 6, 2) := by decide +kernel
theorem dX3_scrub_141 : decode cX3_scrub 141 = .ok (.iadd, 1) := by decide +kernel
theorem dX3_scrub_142 : decode cX3_scrub 142 = .ok (.iload 5, 2) := by decide +kernel
theorem dX3_scrub_144 : decode cX3_scrub 144 = .ok (.iadd, 1) := by decide +kernel
theorem dX3_scrub_145 : decode cX3_scrub 145 = .ok (.aload_n 0, 1) := by decide +kernel
theorem dX3_scrub_146 : decode cX3_scrub 146 = .ok (.getfield 9, 3) := by decide +kernel
theorem dX3_scrub_149 : decode cX3_scrub 149 = .ok (.sipush 800, 3) := by decide +kernel
theorem dX3_scrub_152 : decode cX3_scrub 152 = .ok (.iaload, 1) := by decide +kernel
theorem dX3_scrub_153 : decode cX3_scrub 153 = .ok (.iastore, 1) := by decide +kernel
theorem dX3_scrub_154 : decode cX3_scrub 154 = .ok (.aload_n 0, 1) := by decide +kernel
theorem dX3_scrub_155 : decode cX3_scrub 155 = .ok (.iload 4, 2) := by decide +kernel
theorem dX3_scrub_157 : decode cX3_scrub 157 = .ok (.iload 5, 2) := by decide +kernel
theorem dX3_scrub_159 : decode cX3_scrub 159 = .ok (.iload 6, 2) := by decide +kernel
theorem dX3_scrub_161 : decode cX3_scrub 161 = .ok (.ifCond .ne 7, 3) := by decide +kernel
theorem dX3_scrub_164 : decode cX3_scrub 164 = .ok (.iconst 2, 1) := by decide +kernel
theorem dX3_scrub_165 : decode cX3_scrub 165 = .ok (.goto 13, 3) := by decide +kernel
theorem dX3_scrub_168 : decode cX3_scrub 168 = .ok (.iload 7, 2) := by decide +kernel
theorem dX3_scrub_170 : decode cX3_scrub 170 = .ok (.ifCond .le 7, 3) := by decide +kernel
theorem dX3_scrub_173 : decode cX3_scrub 173 = .ok (.iconst 1, 1) := by decide +kernel
theorem dX3_scrub_174 : decode cX3_scrub 174 = .ok (.goto 4, 3) := by decide +kernel
theorem dX3_scrub_177 : decode cX3_scrub 177 = .ok (.iconst 0, 1) := by decide +kernel
theorem dX3_scrub_178 : decode cX3_scrub 178 = .ok (.iload 7, 2) := by decide +kernel
theorem dX3_scrub_180 : decode cX3_scrub 180 = .ok (.invokevirtual 222, 3) := by decide +kernel
theorem dX3_scrub_183 : decode cX3_scrub 183 = .ok (.iload 7, 2) := by decide +kernel
theorem dX3_scrub_185 : decode cX3_scrub 185 = .ok (.ifCond .ne 6, 3) := by decide +kernel
theorem dX3_scrub_188 : decode cX3_scrub 188 = .ok (.goto 61, 3) := by decide +kernel
theorem dX3_scrub_191 : decode cX3_scrub 191 = .ok (.aload_n 0, 1) := by decide +kernel
theorem dX3_scrub_192 : decode cX3_scrub 192 = .ok (.iload 4, 2) := by decide +kernel
theorem dX3_scrub_194 : decode cX3_scrub 194 = .ok (.iload 5, 2) := by decide +kernel
theorem dX3_scrub_196 : decode cX3_scrub 196 = .ok (.invokevirtual 226, 3) := by decide +kernel
theorem dX3_scrub_199 : decode cX3_scrub 199 = .ok (.istore 8, 2) := by decide +kernel
theorem dX3_scrub_201 : decode cX3_scrub 201 = .ok (.iload_n 2, 1) := by decide +kernel
theorem dX3_scrub_202 : decode cX3_scrub 202 = .ok (.iload 8, 2) := by decide +kernel
theorem dX3_scrub_204 : decode cX3_scrub 204 = .ok (.isub, 1) := by decide +kernel
theorem dX3_scrub_205 : decode cX3_scrub 205 = .ok (.istore_n 2, 1) := by decide +kernel
theorem dX3_scrub_206 : decode cX3_scrub 206 = .ok (.aload_n 0, 1) := by decide +kernel
theorem dX3_scrub_207 : decode cX3_scrub 207 = .ok (.getfield 9, 3) := by decide +kernel
theorem dX3_scrub_210 : decode cX3_scrub 210 = .ok (.sipush 805, 3) := by decide +kernel
theorem dX3_scrub_213 : decode cX3_scrub 213 = .ok (.dup2, 1) := by decide +kernel
theorem dX3_scrub_214 : decode cX3_scrub 214 = .ok (.iaload, 1) := by decide +kernel
theorem dX3_scrub_215 : decode cX3_scrub 215 = .ok (.aload_n 0, 1) := by decide +kernel
theorem dX3_scrub_216 : decode cX3_scrub 216 = .ok (.getfield 184, 3) := by decide +kernel
theorem dX3_scrub_219 : decode cX3_scrub 219 = .ok (.iadd, 1) := by decide +kernel
theorem dX3_scrub_220 : decode cX3_scrub 220 = .ok (.iastore, 1) := by decide +kernel
theorem dX3_scrub_221 : decode cX3_scrub 221 = .ok (.aload_n 0, 1) := by decide +kernel
theorem dX3_scrub_222 : decode cX3_scrub 222 = .ok (.getfield 9, 3) := by decide +kernel
theorem dX3_scrub_225 : decode cX3_scrub 225 = .ok (.sipush 806, 3) := by decide +kernel
theorem dX3_scrub_228 : decode cX3_scrub 228 = .ok (.dup2, 1) := by decide +kernel
theorem dX3_scrub_229 : decode cX3_scrub 229 = .ok (.iaload, 1) := by decide +kernel
theorem dX3_scrub_230 : decode cX3_scrub 230 = .ok (.aload_n 0, 1) := by decide +kernel
theorem dX3_scrub_231 : decode cX3_scrub 231 = .ok (.getfield 178, 3) := by decide +kernel
theorem dX3_scrub_234 : decode cX3_scrub 234 = .ok (.iadd, 1) := by decide +kernel
theorem dX3_scrub_235 : decode cX3_scrub 235 = .ok (.iastore, 1) := by decide +kernel
theorem dX3_scrub_236 : decode cX3_scrub 236 = .ok (.aload_n 0, 1) := by decide +kernel
theorem dX3_scrub_237 : decode cX3_scrub 237 = .ok (.getfield 9, 3) := by decide +kernel
theorem dX3_scrub_240 : decode cX3_scrub 240 = .ok (.sipush 807, 3) := by decide +kernel
theorem dX3_scrub_243 : decode cX3_scrub 243 = .ok (.dup2, 1) := by decide +kernel
theorem dX3_scrub_244 : decode cX3_scrub 244 = .ok (.iaload, 1) := by decide +kernel
theorem dX3_scrub_245 : decode cX3_scrub 245 = .ok (.iload 8, 2) := by decide +kernel
theorem dX3_scrub_247 : decode cX3_scrub 247 = .ok (.iadd, 1) := by decide +kernel
theorem dX3_scrub_248 : decode cX3_scrub 248 = .ok (.iastore, 1) := by decide +kernel
theorem dX3_scrub_249 : decode cX3_scrub 249 = .ok (.aload_n 0, 1) := by decide +kernel
theorem dX3_scrub_250 : decode cX3_scrub 250 = .ok (.invokevirtual 219, 3) := by decide +kernel
theorem dX3_scrub_253 : decode cX3_scrub 253 = .ok (.istore_n 3, 1) := by decide +kernel
theorem dX3_scrub_254 : decode cX3_scrub 254 = .ok (.goto (-208), 3) := by decide +kernel
theorem dX3_scrub_257 : decode cX3_scrub 257 = .ok (.iload_n 2, 1) := by decide +kernel
theorem dX3_scrub_258 : decode cX3_scrub 258 = .ok (.ireturn, 1) := by decide +kernel
theorem dX3_report_0 : decode cX3_report 0 = .ok (.aload_n 0, 1) := by decide +kernel
theorem dX3_report_1 : decode cX3_report 1 = .ok (.iload_n 1, 1) := by decide +kernel
theorem dX3_report_2 : decode cX3_report 2 = .ok (.iconst 0, 1) := by decide +kernel
theorem dX3_report_3 : decode cX3_report 3 = .ok (.aload_n 0, 1) := by decide +kernel
theorem dX3_report_4 : decode cX3_report 4 = .ok (.getfield 216, 3) := by decide +kernel
theorem dX3_report_7 : decode cX3_report 7 = .ok (.iconst 1, 1) := by decide +kernel
theorem dX3_report_8 : decode cX3_report 8 = .ok (.isub, 1) := by decide +kernel
theorem dX3_report_9 : decode cX3_report 9 = .ok (.invokestatic 73, 3) := by decide +kernel
theorem dX3_report_12 : decode cX3_report 12 = .ok (.ifCond .ne 7, 3) := by decide +kernel
theorem dX3_report_15 : decode cX3_report 15 = .ok (.iconst 1, 1) := by decide +kernel
theorem dX3_report_16 : decode cX3_report 16 = .ok (.goto 17, 3) := by decide +kernel
theorem dX3_report_19 : decode cX3_report 19 = .ok (.iload_n 2, 1) := by decide +kernel
theorem dX3_report_20 : decode cX3_report 20 = .ok (.iconst 0, 1) := by decide +kernel
theorem dX3_report_21 : decode cX3_report 21 = .ok (.iconst 3, 1) := by decide +kernel
theorem dX3_report_22 : decode cX3_report 22 = .ok (.invokestatic 73, 3) := by decide +kernel
theorem dX3_report_25 : decode cX3_report 25 = .ok (.ifCond .ne 7, 3) := by decide +kernel
theorem dX3_report_28 : decode cX3_report 28 = .ok (.iconst 2, 1) := by decide +kernel
theorem dX3_report_29 : decode cX3_report 29 = .ok (.goto 4, 3) := by decide +kernel
theorem dX3_report_32 : decode cX3_report 32 = .ok (.iconst 0, 1) := by decide +kernel
theorem dX3_report_33 : decode cX3_report 33 = .ok (.putfield 67, 3) := by decide +kernel
theorem dX3_report_36 : decode cX3_report 36 = .ok (.aload_n 0, 1) := by decide +kernel
theorem dX3_report_37 : decode cX3_report 37 = .ok (.getfield 67, 3) := by decide +kernel
theorem dX3_report_40 : decode cX3_report 40 = .ok (.ifCond .ne 16, 3) := by decide +kernel
theorem dX3_report_43 : decode cX3_report 43 = .ok (.aload_n 0, 1) := by decide +kernel
theorem dX3_report_44 : decode cX3_report 44 = .ok (.getfield 27, 3) := by decide +kernel
theorem dX3_report_47 : decode cX3_report 47 = .ok (.iconst 4, 1) := by decide +kernel
theorem dX3_report_48 : decode cX3_report 48 = .ok (.iload_n 1, 1) := by decide +kernel
theorem dX3_report_49 : decode cX3_report 49 = .ok (.imul, 1) := by decide +kernel
theorem dX3_report_50 : decode cX3_report 50 = .ok (.iload_n 2, 1) := by decide +kernel
theorem dX3_report_51 : decode cX3_report 51 = .ok (.iadd, 1) := by decide +kernel
theorem dX3_report_52 : decode cX3_report 52 = .ok (.iaload, 1) := by decide +kernel
theorem dX3_report_53 : decode cX3_report 53 = .ok (.goto 4, 3) := by decide +kernel
theorem dX3_report_56 : decode cX3_report 56 = .ok (.iconst 0, 1) := by decide +kernel
theorem dX3_report_57 : decode cX3_report 57 = .ok (.ireturn, 1) := by decide +kernel
theorem dX3_reportLines_0 : decode cX3_reportLines 0 = .ok (.aload_n 0, 1) := by decide +kernel
theorem dX3_reportLines_1 : decode cX3_reportLines 1 = .ok (.iconst 0, 1) := by decide +kernel
theorem dX3_reportLines_2 : decode cX3_reportLines 2 = .ok (.putfield 67, 3) := by decide +kernel
theorem dX3_reportLines_5 : decode cX3_reportLines 5 = .ok (.aload_n 0, 1) := by decide +kernel
theorem dX3_reportLines_6 : decode cX3_reportLines 6 = .ok (.getfield 216, 3) := by decide +kernel
theorem dX3_reportLines_9 : decode cX3_reportLines 9 = .ok (.ireturn, 1) := by decide +kernel
theorem dX3_repair_0 : decode cX3_repair 0 = .ok (.aload_n 0, 1) := by decide +kernel
theorem dX3_repair_1 : decode cX3_repair 1 = .ok (.iload_n 1, 1) := by decide +kernel
theorem dX3_repair_2 : decode cX3_repair 2 = .ok (.iload_n 2, 1) := by decide +kernel
theorem dX3_repair_3 : decode cX3_repair 3 = .ok (.invokevirtual 199, 3) := by decide +kernel
theorem dX3_repair_6 : decode cX3_repair 6 = .ok (.ifCond .ne 5, 3) := by decide +kernel
theorem dX3_repair_9 : decode cX3_repair 9 = .ok (.iconst 0, 1) := by decide +kernel
theorem dX3_repair_10 : decode cX3_repair 10 = .ok (.ireturn, 1) := by decide +kernel
theorem dX3_repair_11 : decode cX3_repair 11 = .ok (.aload_n 0, 1) := by decide +kernel
theorem dX3_repair_12 : decode cX3_repair 12 = .ok (.iload_n 1, 1) := by decide +kernel
theorem dX3_repair_13 : decode cX3_repair 13 = .ok (.iload_n 2, 1) := by decide +kernel
theorem dX3_repair_14 : decode cX3_repair 14 = .ok (.invokevirtual 202, 3) := by decide +kernel
theorem dX3_repair_17 : decode cX3_repair 17 = .ok (.ifCond .ne 9, 3) := by decide +kernel
theorem dX3_repair_20 : decode cX3_repair 20 = .ok (.aload_n 0, 1) := by decide +kernel
theorem dX3_repair_21 : decode cX3_repair 21 = .ok (.iconst 2, 1) := by decide +kernel
theorem dX3_repair_22 : decode cX3_repair 22 = .ok (.invokevirtual 124, 3) := by decide +kernel
theorem dX3_repair_25 : decode cX3_repair 25 = .ok (.ireturn, 1) := by decide +kernel
theorem dX3_repair_26 : decode cX3_repair 26 = .ok (.aload_n 0, 1) := by decide +kernel
theorem dX3_repair_27 : decode cX3_repair 27 = .ok (.invokevirtual 130, 3) := by decide +kernel
theorem dX3_repair_30 : decode cX3_repair 30 = .ok (.aload_n 0, 1) := by decide +kernel
theorem dX3_repair_31 : decode cX3_repair 31 = .ok (.iload_n 1, 1) := by decide +kernel
theorem dX3_repair_32 : decode cX3_repair 32 = .ok (.iload_n 2, 1) := by decide +kernel
theorem dX3_repair_33 : decode cX3_repair 33 = .ok (.invokevirtual 226, 3) := by decide +kernel
theorem dX3_repair_36 : decode cX3_repair 36 = .ok (.ireturn, 1) := by decide +kernel
theorem dX3_checked_0 : decode cX3_checked 0 = .ok (.aload_n 0, 1) := by decide +kernel
theorem dX3_checked_1 : decode cX3_checked 1 = .ok (.iload_n 1, 1) := by decide +kernel
theorem dX3_checked_2 : decode cX3_checked 2 = .ok (.iload_n 2, 1) := by decide +kernel
theorem dX3_checked_3 : decode cX3_checked 3 = .ok (.invokevirtual 199, 3) := by decide +kernel
theorem dX3_checked_6 : decode cX3_checked 6 = .ok (.ifCond .eq 15, 3) := by decide +kernel
theorem dX3_checked_9 : decode cX3_checked 9 = .ok (.aload_n 0, 1) := by decide +kernel
theorem dX3_checked_10 : decode cX3_checked 10 = .ok (.iload_n 1, 1) := by decide +kernel
theorem dX3_checked_11 : decode cX3_checked 11 = .ok (.bipush 6, 2) := by decide +kernel
theorem dX3_checked_13 : decode cX3_checked 13 = .ok (.iload_n 2, 1) := by decide +kernel
theorem dX3_checked_14 : decode cX3_checked 14 = .ok (.iadd, 1) := by decide +kernel
theorem dX3_checked_15 : decode cX3_checked 15 = .ok (.invokevirtual 77, 3) := by decide +kernel
theorem dX3_checked_18 : decode cX3_checked 18 = .ok (.goto 4, 3) := by decide +kernel
theorem dX3_checked_21 : decode cX3_checked 21 = .ok (.iconst 0, 1) := by decide +kernel
theorem dX3_checked_22 : decode cX3_checked 22 = .ok (.ireturn, 1) := by decide +kernel
theorem dX3_nextToCheck_0 : decode cX3_nextToCheck 0 = .ok (.aload_n 0, 1) := by decide +kernel
theorem dX3_nextToCheck_1 : decode cX3_nextToCheck 1 = .ok (.invokevirtual 219, 3) := by decide +kernel
theorem dX3_nextToCheck_4 : decode cX3_nextToCheck 4 = .ok (.istore_n 1, 1) := by decide +kernel
theorem dX3_nextToCheck_5 : decode cX3_nextToCheck 5 = .ok (.aload_n 0, 1) := by decide +kernel
theorem dX3_nextToCheck_6 : decode cX3_nextToCheck 6 = .ok (.iload_n 1, 1) := by decide +kernel
theorem dX3_nextToCheck_7 : decode cX3_nextToCheck 7 = .ok (.ifCond .ge 7, 3) := by decide +kernel
theorem dX3_nextToCheck_10 : decode cX3_nextToCheck 10 = .ok (.iconst 1, 1) := by decide +kernel
theorem dX3_nextToCheck_11 : decode cX3_nextToCheck 11 = .ok (.goto 4, 3) := by decide +kernel
theorem dX3_nextToCheck_14 : decode cX3_nextToCheck 14 = .ok (.iconst 0, 1) := by decide +kernel
theorem dX3_nextToCheck_15 : decode cX3_nextToCheck 15 = .ok (.putfield 67, 3) := by decide +kernel
theorem dX3_nextToCheck_18 : decode cX3_nextToCheck 18 = .ok (.iload_n 1, 1) := by decide +kernel
theorem dX3_nextToCheck_19 : decode cX3_nextToCheck 19 = .ok (.ifCond .ge 7, 3) := by decide +kernel
theorem dX3_nextToCheck_22 : decode cX3_nextToCheck 22 = .ok (.iconst 0, 1) := by decide +kernel
theorem dX3_nextToCheck_23 : decode cX3_nextToCheck 23 = .ok (.goto 4, 3) := by decide +kernel
theorem dX3_nextToCheck_26 : decode cX3_nextToCheck 26 = .ok (.iload_n 1, 1) := by decide +kernel
theorem dX3_nextToCheck_27 : decode cX3_nextToCheck 27 = .ok (.ireturn, 1) := by decide +kernel
theorem dX3_needed_0 : decode cX3_needed 0 = .ok (.aload_n 0, 1) := by decide +kernel
theorem dX3_needed_1 : decode cX3_needed 1 = .ok (.iconst 0, 1) := by decide +kernel
theorem dX3_needed_2 : decode cX3_needed 2 = .ok (.putfield 67, 3) := by decide +kernel
theorem dX3_needed_5 : decode cX3_needed 5 = .ok (.iconst 0, 1) := by decide +kernel
theorem dX3_needed_6 : decode cX3_needed 6 = .ok (.istore_n 1, 1) := by decide +kernel
theorem dX3_needed_7 : decode cX3_needed 7 = .ok (.iconst 0, 1) := by decide +kernel
theorem dX3_needed_8 : decode cX3_needed 8 = .ok (.istore_n 2, 1) := by decide +kernel
theorem dX3_needed_9 : decode cX3_needed 9 = .ok (.iload_n 2, 1) := by decide +kernel
theorem dX3_needed_10 : decode cX3_needed 10 = .ok (.bipush 8, 2) := by decide +kernel
theorem dX3_needed_12 : decode cX3_needed 12 = .ok (.if_icmp .ge 84, 3) := by decide +kernel
theorem dX3_needed_15 : decode cX3_needed 15 = .ok (.iconst 0, 1) := by decide +kernel
theorem dX3_needed_16 : decode cX3_needed 16 = .ok (.istore_n 3, 1) := by decide +kernel
theorem dX3_needed_17 : decode cX3_needed 17 = .ok (.aload_n 0, 1) := by decide +kernel
theorem dX3_needed_18 : decode cX3_needed 18 = .ok (.iload_n 2, 1) := by decide +kernel
theorem dX3_needed_19 : decode cX3_needed 19 = .ok (.invokevirtual 87, 3) := by decide +kernel
theorem dX3_needed_22 : decode cX3_needed 22 = .ok (.ifCond .eq 68, 3) := by decide +kernel
theorem dX3_needed_25 : decode cX3_needed 25 = .ok (.iload_n 3, 1) := by decide +kernel
theorem dX3_needed_26 : decode cX3_needed 26 = .ok (.aload_n 0, 1) := by decide +kernel
theorem dX3_needed_27 : decode cX3_needed 27 = .ok (.iload_n 2, 1) := by decide +kernel
theorem dX3_needed_28 : decode cX3_needed 28 = .ok (.invokevirtual 80, 3) := by decide +kernel
theorem dX3_needed_31 : decode cX3_needed 31 = .ok (.if_icmp .ge 59, 3) := by decide +kernel
theorem dX3_needed_34 : decode cX3_needed 34 = .ok (.aload_n 0, 1) := by decide +kernel
theorem dX3_needed_35 : decode cX3_needed 35 = .ok (.iload_n 2, 1) := by decide +kernel
theorem dX3_needed_36 : decode cX3_needed 36 = .ok (.bipush 6, 2) := by decide +kernel
theorem dX3_needed_38 : decode cX3_needed 38 = .ok (.iload_n 3, 1) := by decide +kernel
theorem dX3_needed_39 : decode cX3_needed 39 = .ok (.iadd, 1) := by decide +kernel
theorem dX3_needed_40 : decode cX3_needed 40 = .ok (.invokevirtual 77, 3) := by decide +kernel
theorem dX3_needed_43 : decode cX3_needed 43 = .ok (.aload_n 0, 1) := by decide +kernel
theorem dX3_needed_44 : decode cX3_needed 44 = .ok (.getfield 9, 3) := by decide +kernel
theorem dX3_needed_47 : decode cX3_needed 47 = .ok (.sipush 800, 3) := by decide +kernel
theorem dX3_needed_50 : decode cX3_needed 50 = .ok (.iaload, 1) := by decide +kernel
theorem dX3_needed_51 : decode cX3_needed 51 = .ok (.if_icmp .ne 6, 3) := by decide +kernel
theorem dX3_needed_54 : decode cX3_needed 54 = .ok (.goto 30, 3) := by decide +kernel
theorem dX3_needed_57 : decode cX3_needed 57 = .ok (.iload_n 1, 1) := by decide +kernel
theorem dX3_needed_58 : decode cX3_needed 58 = .ok (.iconst 1, 1) := by decide +kernel
theorem dX3_needed_59 : decode cX3_needed 59 = .ok (.aload_n 0, 1) := by decide +kernel
theorem dX3_needed_60 : decode cX3_needed 60 = .ok (.iload_n 2, 1) := by decide +kernel
theorem dX3_needed_61 : decode cX3_needed 61 = .ok (.iload_n 3, 1) := by decide +kernel
theorem dX3_needed_62 : decode cX3_needed 62 = .ok (.invokevirtual 202, 3) := by decide +kernel
theorem dX3_needed_65 : decode cX3_needed 65 = .ok (.ifCond .eq 15, 3) := by decide +kernel
theorem dX3_needed_68 : decode cX3_needed 68 = .ok (.aload_n 0, 1) := by decide +kernel
theorem dX3_needed_69 : decode cX3_needed 69 = .ok (.getfield 184, 3) := by decide +kernel
theorem dX3_needed_72 : decode cX3_needed 72 = .ok (.aload_n 0, 1) := by decide +kernel
theorem dX3_needed_73 : decode cX3_needed 73 = .ok (.getfield 178, 3) := by decide +kernel
theorem dX3_needed_76 : decode cX3_needed 76 = .ok (.iadd, 1) := by decide +kernel
theorem dX3_needed_77 : decode cX3_needed 77 = .ok (.goto 4, 3) := by decide +kernel
theorem dX3_needed_80 : decode cX3_needed 80 = .ok (.iconst 0, 1) := by decide +kernel
theorem dX3_needed_81 : decode cX3_needed 81 = .ok (.iadd, 1) := by decide +kernel
theorem dX3_needed_82 : decode cX3_needed 82 = .ok (.iadd, 1) := by decide +kernel
theorem dX3_needed_83 : decode cX3_needed 83 = .ok (.istore_n 1, 1) := by decide +kernel
theorem dX3_needed_84 : decode cX3_needed 84 = .ok (.iinc 3 1, 3) := by decide +kernel
theorem dX3_needed_87 : decode cX3_needed 87 = .ok (.goto (-70), 3) := by decide +kernel
theorem dX3_needed_90 : decode cX3_needed 90 = .ok (.iinc 2 1, 3) := by decide +kernel
theorem dX3_needed_93 : decode cX3_needed 93 = .ok (.goto (-84), 3) := by decide +kernel
theorem dX3_needed_96 : decode cX3_needed 96 = .ok (.iload_n 1, 1) := by decide +kernel
theorem dX3_needed_97 : decode cX3_needed 97 = .ok (.ireturn, 1) := by decide +kernel
theorem dX3_account_0 : decode cX3_account 0 = .ok (.aload_n 0, 1) := by decide +kernel
theorem dX3_account_1 : decode cX3_account 1 = .ok (.iload_n 1, 1) := by decide +kernel
theorem dX3_account_2 : decode cX3_account 2 = .ok (.iconst 0, 1) := by decide +kernel
theorem dX3_account_3 : decode cX3_account 3 = .ok (.bipush 7, 2) := by decide +kernel
theorem dX3_account_5 : decode cX3_account 5 = .ok (.invokestatic 73, 3) := by decide +kernel
theorem dX3_account_8 : decode cX3_account 8 = .ok (.ifCond .eq 7, 3) := by decide +kernel
theorem dX3_account_11 : decode cX3_account 11 = .ok (.iconst 0, 1) := by decide +kernel
theorem dX3_account_12 : decode cX3_account 12 = .ok (.goto 4, 3) := by decide +kernel
theorem dX3_account_15 : decode cX3_account 15 = .ok (.iconst 1, 1) := by decide +kernel
theorem dX3_account_16 : decode cX3_account 16 = .ok (.putfield 67, 3) := by decide +kernel
theorem dX3_account_19 : decode cX3_account 19 = .ok (.aload_n 0, 1) := by decide +kernel
theorem dX3_account_20 : decode cX3_account 20 = .ok (.getfield 67, 3) := by decide +kernel
theorem dX3_account_23 : decode cX3_account 23 = .ok (.ifCond .ne 16, 3) := by decide +kernel
theorem dX3_account_26 : decode cX3_account 26 = .ok (.aload_n 0, 1) := by decide +kernel
theorem dX3_account_27 : decode cX3_account 27 = .ok (.getfield 9, 3) := by decide +kernel
theorem dX3_account_30 : decode cX3_account 30 = .ok (.sipush 801, 3) := by decide +kernel
theorem dX3_account_33 : decode cX3_account 33 = .ok (.iload_n 1, 1) := by decide +kernel
theorem dX3_account_34 : decode cX3_account 34 = .ok (.iadd, 1) := by decide +kernel
theorem dX3_account_35 : decode cX3_account 35 = .ok (.iaload, 1) := by decide +kernel
theorem dX3_account_36 : decode cX3_account 36 = .ok (.goto 4, 3) := by decide +kernel
theorem dX3_account_39 : decode cX3_account 39 = .ok (.iconst 0, 1) := by decide +kernel
theorem dX3_account_40 : decode cX3_account 40 = .ok (.ireturn, 1) := by decide +kernel
theorem dX3_day_0 : decode cX3_day 0 = .ok (.aload_n 0, 1) := by decide +kernel
theorem dX3_day_1 : decode cX3_day 1 = .ok (.iconst 0, 1) := by decide +kernel
theorem dX3_day_2 : decode cX3_day 2 = .ok (.putfield 67, 3) := by decide +kernel
theorem dX3_day_5 : decode cX3_day 5 = .ok (.aload_n 0, 1) := by decide +kernel
theorem dX3_day_6 : decode cX3_day 6 = .ok (.getfield 9, 3) := by decide +kernel
theorem dX3_day_9 : decode cX3_day 9 = .ok (.sipush 800, 3) := by decide +kernel
theorem dX3_day_12 : decode cX3_day 12 = .ok (.iaload, 1) := by decide +kernel
theorem dX3_day_13 : decode cX3_day 13 = .ok (.ireturn, 1) := by decide +kernel
theorem dX3_health_0 : decode cX3_health 0 = .ok (.iconst 0, 1) := by decide +kernel
theorem dX3_health_1 : decode cX3_health 1 = .ok (.istore_n 1, 1) := by decide +kernel
theorem dX3_health_2 : decode cX3_health 2 = .ok (.iconst 0, 1) := by decide +kernel
theorem dX3_health_3 : decode cX3_health 3 = .ok (.istore_n 2, 1) := by decide +kernel
theorem dX3_health_4 : decode cX3_health 4 = .ok (.iconst 0, 1) := by decide +kernel
theorem dX3_health_5 : decode cX3_health 5 = .ok (.istore_n 3, 1) := by decide +kernel
theorem dX3_health_6 : decode cX3_health 6 = .ok (.iload_n 3, 1) := by decide +kernel
theorem dX3_health_7 : decode cX3_health 7 = .ok (.sipush 240, 3) := by decide +kernel
theorem dX3_health_10 : decode cX3_health 10 = .ok (.if_icmp .ge 53, 3) := by decide +kernel
theorem dX3_health_13 : decode cX3_health 13 = .ok (.aload_n 0, 1) := by decide +kernel
theorem dX3_health_14 : decode cX3_health 14 = .ok (.iload_n 3, 1) := by decide +kernel
theorem dX3_health_15 : decode cX3_health 15 = .ok (.invokevirtual 111, 3) := by decide +kernel
theorem dX3_health_18 : decode cX3_health 18 = .ok (.ifCond .ge 6, 3) := by decide +kernel
theorem dX3_health_21 : decode cX3_health 21 = .ok (.goto 36, 3) := by decide +kernel
theorem dX3_health_24 : decode cX3_health 24 = .ok (.iinc 1 1, 3) := by decide +kernel
theorem dX3_health_27 : decode cX3_health 27 = .ok (.iload_n 2, 1) := by decide +kernel
theorem dX3_health_28 : decode cX3_health 28 = .ok (.aload_n 0, 1) := by decide +kernel
theorem dX3_health_29 : decode cX3_health 29 = .ok (.iload_n 3, 1) := by decide +kernel
theorem dX3_health_30 : decode cX3_health 30 = .ok (.invokevirtual 166, 3) := by decide +kernel
theorem dX3_health_33 : decode cX3_health 33 = .ok (.ifCond .ne 17, 3) := by decide +kernel
theorem dX3_health_36 : decode cX3_health 36 = .ok (.aload_n 0, 1) := by decide +kernel
theorem dX3_health_37 : decode cX3_health 37 = .ok (.getfield 9, 3) := by decide +kernel
theorem dX3_health_40 : decode cX3_health 40 = .ok (.sipush 320, 3) := by decide +kernel
theorem dX3_health_43 : decode cX3_health 43 = .ok (.iload_n 3, 1) := by decide +kernel
theorem dX3_health_44 : decode cX3_health 44 = .ok (.iadd, 1) := by decide +kernel
theorem dX3_health_45 : decode cX3_health 45 = .ok (.iaload, 1) := by decide +kernel
theorem dX3_health_46 : decode cX3_health 46 = .ok (.iconst 1, 1) := by decide +kernel
theorem dX3_health_47 : decode cX3_health 47 = .ok (.if_icmp .ne 7, 3) := by decide +kernel
theorem dX3_health_50 : decode cX3_health 50 = .ok (.iconst 0, 1) := by decide +kernel
theorem dX3_health_51 : decode cX3_health 51 = .ok (.goto 4, 3) := by decide +kernel
theorem dX3_health_54 : decode cX3_health 54 = .ok (.iconst 1, 1) := by decide +kernel
theorem dX3_health_55 : decode cX3_health 55 = .ok (.iadd, 1) := by decide +kernel
theorem dX3_health_56 : decode cX3_health 56 = .ok (.istore_n 2, 1) := by decide +kernel
theorem dX3_health_57 : decode cX3_health 57 = .ok (.iinc 3 1, 3) := by decide +kernel
theorem dX3_health_60 : decode cX3_health 60 = .ok (.goto (-54), 3) := by decide +kernel
theorem dX3_health_63 : decode cX3_health 63 = .ok (.aload_n 0, 1) := by decide +kernel
theorem dX3_health_64 : decode cX3_health 64 = .ok (.iload_n 1, 1) := by decide +kernel
theorem dX3_health_65 : decode cX3_health 65 = .ok (.ifCond .ne 7, 3) := by decide +kernel
theorem dX3_health_68 : decode cX3_health 68 = .ok (.iconst 1, 1) := by decide +kernel
theorem dX3_health_69 : decode cX3_health 69 = .ok (.goto 4, 3) := by decide +kernel
theorem dX3_health_72 : decode cX3_health 72 = .ok (.iconst 0, 1) := by decide +kernel
theorem dX3_health_73 : decode cX3_health 73 = .ok (.putfield 67, 3) := by decide +kernel
theorem dX3_health_76 : decode cX3_health 76 = .ok (.iload_n 1, 1) := by decide +kernel
theorem dX3_health_77 : decode cX3_health 77 = .ok (.ifCond .ne 7, 3) := by decide +kernel
theorem dX3_health_80 : decode cX3_health 80 = .ok (.dconst 0, 1) := by decide +kernel
theorem dX3_health_81 : decode cX3_health 81 = .ok (.goto 8, 3) := by decide +kernel
theorem dX3_health_84 : decode cX3_health 84 = .ok (.iload_n 2, 1) := by decide +kernel
theorem dX3_health_85 : decode cX3_health 85 = .ok (.i2d, 1) := by decide +kernel
theorem dX3_health_86 : decode cX3_health 86 = .ok (.iload_n 1, 1) := by decide +kernel
theorem dX3_health_87 : decode cX3_health 87 = .ok (.i2d, 1) := by decide +kernel
theorem dX3_health_88 : decode cX3_health 88 = .ok (.ddiv, 1) := by decide +kernel
theorem dX3_health_89 : decode cX3_health 89 = .ok (.dreturn, 1) := by decide +kernel
theorem dX3_describe_0 : decode cX3_describe 0 = .ok (.aload_n 0, 1) := by decide +kernel
theorem dX3_describe_1 : decode cX3_describe 1 = .ok (.aload_n 0, 1) := by decide +kernel
theorem dX3_describe_2 : decode cX3_describe 2 = .ok (.iload_n 1, 1) := by decide +kernel
theorem dX3_describe_3 : decode cX3_describe 3 = .ok (.invokevirtual 87, 3) := by decide +kernel
theorem dX3_describe_6 : decode cX3_describe 6 = .ok (.ifCond .eq 7, 3) := by decide +kernel
theorem dX3_describe_9 : decode cX3_describe 9 = .ok (.iconst 0, 1) := by decide +kernel
theorem dX3_describe_10 : decode cX3_describe 10 = .ok (.goto 4, 3) := by decide +kernel
theorem dX3_describe_13 : decode cX3_describe 13 = .ok (.iconst 1, 1) := by decide +kernel
theorem dX3_describe_14 : decode cX3_describe 14 = .ok (.putfield 67, 3) := by decide +kernel
theorem dX3_describe_17 : decode cX3_describe 17 = .ok (.aload_n 0, 1) := by decide +kernel
theorem dX3_describe_18 : decode cX3_describe 18 = .ok (.getfield 67, 3) := by decide +kernel
theorem dX3_describe_21 : decode cX3_describe 21 = .ok (.iconst 1, 1) := by decide +kernel
theorem dX3_describe_22 : decode cX3_describe 22 = .ok (.if_icmp .ne 5, 3) := by decide +kernel
theorem dX3_describe_25 : decode cX3_describe 25 = .ok (.iconst 0, 1) := by decide +kernel
theorem dX3_describe_26 : decode cX3_describe 26 = .ok (.ireturn, 1) := by decide +kernel
theorem dX3_describe_27 : decode cX3_describe 27 = .ok (.aload_n 0, 1) := by decide +kernel
theorem dX3_describe_28 : decode cX3_describe 28 = .ok (.iload_n 1, 1) := by decide +kernel
theorem dX3_describe_29 : decode cX3_describe 29 = .ok (.invokevirtual 210, 3) := by decide +kernel
theorem dX3_describe_32 : decode cX3_describe 32 = .ok (.ifCond .ne 9, 3) := by decide +kernel
theorem dX3_describe_35 : decode cX3_describe 35 = .ok (.aload_n 0, 1) := by decide +kernel
theorem dX3_describe_36 : decode cX3_describe 36 = .ok (.iconst 2, 1) := by decide +kernel
theorem dX3_describe_37 : decode cX3_describe 37 = .ok (.invokevirtual 124, 3) := by decide +kernel
theorem dX3_describe_40 : decode cX3_describe 40 = .ok (.ireturn, 1) := by decide +kernel
theorem dX3_describe_41 : decode cX3_describe 41 = .ok (.iload_n 2, 1) := by decide +kernel
theorem dX3_describe_42 : decode cX3_describe 42 = .ok (.iconst (-1), 1) := by decide +kernel
theorem dX3_describe_43 : decode cX3_describe 43 = .ok (.aload_n 0, 1) := by decide +kernel
theorem dX3_describe_44 : decode cX3_describe 44 = .ok (.iload_n 1, 1) := by decide +kernel
theorem dX3_describe_45 : decode cX3_describe 45 = .ok (.iconst 1, 1) := by decide +kernel
theorem dX3_describe_46 : decode cX3_describe 46 = .ok (.invokevirtual 77, 3) := by decide +kernel
theorem dX3_describe_49 : decode cX3_describe 49 = .ok (.iconst 3, 1) := by decide +kernel
theorem dX3_describe_50 : decode cX3_describe 50 = .ok (.iadd, 1) := by decide +kernel
theorem dX3_describe_51 : decode cX3_describe 51 = .ok (.invokestatic 73, 3) := by decide +kernel
theorem dX3_describe_54 : decode cX3_describe 54 = .ok (.ifCond .ne 9, 3) := by decide +kernel
theorem dX3_describe_57 : decode cX3_describe 57 = .ok (.aload_n 0, 1) := by decide +kernel
theorem dX3_describe_58 : decode cX3_describe 58 = .ok (.iconst 3, 1) := by decide +kernel
theorem dX3_describe_59 : decode cX3_describe 59 = .ok (.invokevirtual 124, 3) := by decide +kernel
theorem dX3_describe_62 : decode cX3_describe 62 = .ok (.ireturn, 1) := by decide +kernel
theorem dX3_describe_63 : decode cX3_describe 63 = .ok (.iload_n 2, 1) := by decide +kernel
theorem dX3_describe_64 : decode cX3_describe 64 = .ok (.iconst (-1), 1) := by decide +kernel
theorem dX3_describe_65 : decode cX3_describe 65 = .ok (.if_icmp .ne 12, 3) := by decide +kernel
theorem dX3_describe_68 : decode cX3_describe 68 = .ok (.aload_n 0, 1) := by decide +kernel
theorem dX3_describe_69 : decode cX3_describe 69 = .ok (.iload_n 1, 1) := by decide +kernel
theorem dX3_describe_70 : decode cX3_describe 70 = .ok (.iconst 1, 1) := by decide +kernel
theorem dX3_describe_71 : decode cX3_describe 71 = .ok (.invokevirtual 77, 3) := by decide +kernel
theorem dX3_describe_74 : decode cX3_describe 74 = .ok (.iconst 4, 1) := by decide +kernel
theorem dX3_describe_75 : decode cX3_describe 75 = .ok (.iadd, 1) := by decide +kernel
theorem dX3_describe_76 : decode cX3_describe 76 = .ok (.ireturn, 1) := by decide +kernel
theorem dX3_describe_77 : decode cX3_describe 77 = .ok (.iload_n 2, 1) := by decide +kernel
theorem dX3_describe_78 : decode cX3_describe 78 = .ok (.iconst 1, 1) := by decide +kernel
theorem dX3_describe_79 : decode cX3_describe 79 = .ok (.if_icmp .ne 6, 3) := by decide +kernel
theorem dX3_describe_82 : decode cX3_describe 82 = .ok (.bipush 42, 2) := by decide +kernel
theorem dX3_describe_84 : decode cX3_describe 84 = .ok (.ireturn, 1) := by decide +kernel
theorem dX3_describe_85 : decode cX3_describe 85 = .ok (.iload_n 2, 1) := by decide +kernel
theorem dX3_describe_86 : decode cX3_describe 86 = .ok (.iconst 3, 1) := by decide +kernel
theorem dX3_describe_87 : decode cX3_describe 87 = .ok (.if_icmp .ne 6, 3) := by decide +kernel
theorem dX3_describe_90 : decode cX3_describe 90 = .ok (.bipush 58, 2) := by decide +kernel
theorem dX3_describe_92 : decode cX3_describe 92 = .ok (.ireturn, 1) := by decide +kernel
theorem dX3_describe_93 : decode cX3_describe 93 = .ok (.iload_n 2, 1) := by decide +kernel
theorem dX3_describe_94 : decode cX3_describe 94 = .ok (.iconst 3, 1) := by decide +kernel
theorem dX3_describe_95 : decode cX3_describe 95 = .ok (.if_icmp .ge 21, 3) := by decide +kernel
theorem dX3_describe_98 : decode cX3_describe 98 = .ok (.bipush 48, 2) := by decide +kernel
theorem dX3_describe_100 : decode cX3_describe 100 = .ok (.aload_n 0, 1) := by decide +kernel
theorem dX3_describe_101 : decode cX3_describe 101 = .ok (.iload_n 1, 1) := by decide +kernel
theorem dX3_describe_102 : decode cX3_describe 102 = .ok (.iload_n 2, 1) := by decide +kernel
theorem dX3_describe_103 : decode cX3_describe 103 = .ok (.ifCond .ne 7, 3) := by decide +kernel
theorem dX3_describe_106 : decode cX3_describe 106 = .ok (.iconst 2, 1) := by decide +kernel
theorem dX3_describe_107 : decode cX3_describe 107 = .ok (.goto 4, 3) := by decide +kernel
theorem dX3_describe_110 : decode cX3_describe 110 = .ok (.iconst 3, 1) := by decide +kernel
theorem dX3_describe_111 : decode cX3_describe 111 = .ok (.invokevirtual 77, 3) := by decide +kernel
theorem dX3_describe_114 : decode cX3_describe 114 = .ok (.iadd, 1) := by decide +kernel
theorem dX3_describe_115 : decode cX3_describe 115 = .ok (.ireturn, 1) := by decide +kernel
theorem dX3_describe_116 : decode cX3_describe 116 = .ok (.aload_n 0, 1) := by decide +kernel
theorem dX3_describe_117 : decode cX3_describe 117 = .ok (.getfield 60, 3) := by decide +kernel
theorem dX3_describe_120 : decode cX3_describe 120 = .ok (.iload_n 2, 1) := by decide +kernel
theorem dX3_describe_121 : decode cX3_describe 121 = .ok (.iconst 4, 1) := by decide +kernel
theorem dX3_describe_122 : decode cX3_describe 122 = .ok (.isub, 1) := by decide +kernel
theorem dX3_describe_123 : decode cX3_describe 123 = .ok (.iaload, 1) := by decide +kernel
theorem dX3_describe_124 : decode cX3_describe 124 = .ok (.istore_n 3, 1) := by decide +kernel
theorem dX3_describe_125 : decode cX3_describe 125 = .ok (.iload_n 3, 1) := by decide +kernel
theorem dX3_describe_126 : decode cX3_describe 126 = .ok (.bipush 10, 2) := by decide +kernel
theorem dX3_describe_128 : decode cX3_describe 128 = .ok (.if_icmp .ge 10, 3) := by decide +kernel
theorem dX3_describe_131 : decode cX3_describe 131 = .ok (.bipush 48, 2) := by decide +kernel
theorem dX3_describe_133 : decode cX3_describe 133 = .ok (.iload_n 3, 1) := by decide +kernel
theorem dX3_describe_134 : decode cX3_describe 134 = .ok (.iadd, 1) := by decide +kernel
theorem dX3_describe_135 : decode cX3_describe 135 = .ok (.goto 10, 3) := by decide +kernel
theorem dX3_describe_138 : decode cX3_describe 138 = .ok (.bipush 97, 2) := by decide +kernel
theorem dX3_describe_140 : decode cX3_describe 140 = .ok (.iload_n 3, 1) := by decide +kernel
theorem dX3_describe_141 : decode cX3_describe 141 = .ok (.iadd, 1) := by decide +kernel
theorem dX3_describe_142 : decode cX3_describe 142 = .ok (.bipush 10, 2) := by decide +kernel
theorem dX3_describe_144 : decode cX3_describe 144 = .ok (.isub, 1) := by decide +kernel
theorem dX3_describe_145 : decode cX3_describe 145 = .ok (.ireturn, 1) := by decide +kernel
theorem dX3_undo_0 : decode cX3_undo 0 = .ok (.aload_n 0, 1) := by decide +kernel
theorem dX3_undo_1 : decode cX3_undo 1 = .ok (.aload_n 0, 1) := by decide +kernel
theorem dX3_undo_2 : decode cX3_undo 2 = .ok (.getfield 70, 3) := by decide +kernel
theorem dX3_undo_5 : decode cX3_undo 5 = .ok (.ifCond .ne 7, 3) := by decide +kernel
theorem dX3_undo_8 : decode cX3_undo 8 = .ok (.iconst 1, 1) := by decide +kernel
theorem dX3_undo_9 : decode cX3_undo 9 = .ok (.goto 4, 3) := by decide +kernel
theorem dX3_undo_12 : decode cX3_undo 12 = .ok (.iconst 0, 1) := by decide +kernel
theorem dX3_undo_13 : decode cX3_undo 13 = .ok (.putfield 67, 3) := by decide +kernel
theorem dX3_undo_16 : decode cX3_undo 16 = .ok (.aload_n 0, 1) := by decide +kernel
theorem dX3_undo_17 : decode cX3_undo 17 = .ok (.getfield 67, 3) := by decide +kernel
theorem dX3_undo_20 : decode cX3_undo 20 = .ok (.iconst 1, 1) := by decide +kernel
theorem dX3_undo_21 : decode cX3_undo 21 = .ok (.if_icmp .ne 5, 3) := by decide +kernel
theorem dX3_undo_24 : decode cX3_undo 24 = .ok (.iconst 0, 1) := by decide +kernel
theorem dX3_undo_25 : decode cX3_undo 25 = .ok (.ireturn, 1) := by decide +kernel
theorem dX3_undo_26 : decode cX3_undo 26 = .ok (.aload_n 0, 1) := by decide +kernel
theorem dX3_undo_27 : decode cX3_undo 27 = .ok (.dup, 1) := by decide +kernel
theorem dX3_undo_28 : decode cX3_undo 28 = .ok (.getfield 70, 3) := by decide +kernel
theorem dX3_undo_31 : decode cX3_undo 31 = .ok (.iconst 1, 1) := by decide +kernel
theorem dX3_undo_32 : decode cX3_undo 32 = .ok (.isub, 1) := by decide +kernel
theorem dX3_undo_33 : decode cX3_undo 33 = .ok (.putfield 70, 3) := by decide +kernel
theorem dX3_undo_36 : decode cX3_undo 36 = .ok (.iconst 0, 1) := by decide +kernel
theorem dX3_undo_37 : decode cX3_undo 37 = .ok (.istore_n 1, 1) := by decide +kernel
theorem dX3_undo_38 : decode cX3_undo 38 = .ok (.iload_n 1, 1) := by decide +kernel
theorem dX3_undo_39 : decode cX3_undo 39 = .ok (.sipush 809, 3) := by decide +kernel
theorem dX3_undo_42 : decode cX3_undo 42 = .ok (.if_icmp .ge 30, 3) := by decide +kernel
theorem dX3_undo_45 : decode cX3_undo 45 = .ok (.aload_n 0, 1) := by decide +kernel
theorem dX3_undo_46 : decode cX3_undo 46 = .ok (.getfield 9, 3) := by decide +kernel
theorem dX3_undo_49 : decode cX3_undo 49 = .ok (.iload_n 1, 1) := by decide +kernel
theorem dX3_undo_50 : decode cX3_undo 50 = .ok (.aload_n 0, 1) := by decide +kernel
theorem dX3_undo_51 : decode cX3_undo 51 = .ok (.getfield 16, 3) := by decide +kernel
theorem dX3_undo_54 : decode cX3_undo 54 = .ok (.aload_n 0, 1) := by decide +kernel
theorem dX3_undo_55 : decode cX3_undo 55 = .ok (.getfield 70, 3) := by decide +kernel
theorem dX3_undo_58 : decode cX3_undo 58 = .ok (.sipush 809, 3) := by decide +kernel
theorem dX3_undo_61 : decode cX3_undo 61 = .ok (.imul, 1) := by decide +kernel
theorem dX3_undo_62 : decode cX3_undo 62 = .ok (.iload_n 1, 1) := by decide +kernel
theorem dX3_undo_63 : decode cX3_undo 63 = .ok (.iadd, 1) := by decide +kernel
theorem dX3_undo_64 : decode cX3_undo 64 = .ok (.iaload, 1) := by decide +kernel
theorem dX3_undo_65 : decode cX3_undo 65 = .ok (.iastore, 1) := by decide +kernel
theorem dX3_undo_66 : decode cX3_undo 66 = .ok (.iinc 1 1, 3) := by decide +kernel
theorem dX3_undo_69 : decode cX3_undo 69 = .ok (.goto (-31), 3) := by decide +kernel
theorem dX3_undo_72 : decode cX3_undo 72 = .ok (.aload_n 0, 1) := by decide +kernel
theorem dX3_undo_73 : decode cX3_undo 73 = .ok (.getfield 70, 3) := by decide +kernel
theorem dX3_undo_76 : decode cX3_undo 76 = .ok (.ireturn, 1) := by decide +kernel
theorem dX3_save_0 : decode cX3_save 0 = .ok (.aload_n 0, 1) := by decide +kernel
theorem dX3_save_1 : decode cX3_save 1 = .ok (.iconst 0, 1) := by decide +kernel
theorem dX3_save_2 : decode cX3_save 2 = .ok (.putfield 67, 3) := by decide +kernel
theorem dX3_save_5 : decode cX3_save 5 = .ok (.aload_n 0, 1) := by decide +kernel
theorem dX3_save_6 : decode cX3_save 6 = .ok (.getfield 9, 3) := by decide +kernel
theorem dX3_save_9 : decode cX3_save 9 = .ok (.aload_n 0, 1) := by decide +kernel
theorem dX3_save_10 : decode cX3_save 10 = .ok (.getfield 13, 3) := by decide +kernel
theorem dX3_save_13 : decode cX3_save 13 = .ok (.invokestatic 229, 3) := by decide +kernel
theorem dX3_save_16 : decode cX3_save 16 = .ok (.aload_n 0, 1) := by decide +kernel
theorem dX3_save_17 : decode cX3_save 17 = .ok (.iconst 1, 1) := by decide +kernel
theorem dX3_save_18 : decode cX3_save 18 = .ok (.putfield 233, 3) := by decide +kernel
theorem dX3_save_21 : decode cX3_save 21 = .ok (.aload_n 0, 1) := by decide +kernel
theorem dX3_save_22 : decode cX3_save 22 = .ok (.invokevirtual 94, 3) := by decide +kernel
theorem dX3_save_25 : decode cX3_save 25 = .ok (.ireturn, 1) := by decide +kernel
theorem dX3_restore_0 : decode cX3_restore 0 = .ok (.aload_n 0, 1) := by decide +kernel
theorem dX3_restore_1 : decode cX3_restore 1 = .ok (.aload_n 0, 1) := by decide +kernel
theorem dX3_restore_2 : decode cX3_restore 2 = .ok (.getfield 233, 3) := by decide +kernel
theorem dX3_restore_5 : decode cX3_restore 5 = .ok (.ifCond .eq 7, 3) := by decide +kernel
theorem dX3_restore_8 : decode cX3_restore 8 = .ok (.iconst 0, 1) := by decide +kernel
theorem dX3_restore_9 : decode cX3_restore 9 = .ok (.goto 4, 3) := by decide +kernel
theorem dX3_restore_12 : decode cX3_restore 12 = .ok (.iconst 1, 1) := by decide +kernel
theorem dX3_restore_13 : decode cX3_restore 13 = .ok (.putfield 67, 3) := by decide +kernel
theorem dX3_restore_16 : decode cX3_restore 16 = .ok (.aload_n 0, 1) := by decide +kernel
theorem dX3_restore_17 : decode cX3_restore 17 = .ok (.getfield 233, 3) := by decide +kernel
theorem dX3_restore_20 : decode cX3_restore 20 = .ok (.ifCond .ne 5, 3) := by decide +kernel
theorem dX3_restore_23 : decode cX3_restore 23 = .ok (.iconst 0, 1) := by decide +kernel
theorem dX3_restore_24 : decode cX3_restore 24 = .ok (.ireturn, 1) := by decide +kernel
theorem dX3_restore_25 : decode cX3_restore 25 = .ok (.aload_n 0, 1) := by decide +kernel
theorem dX3_restore_26 : decode cX3_restore 26 = .ok (.getfield 13, 3) := by decide +kernel
theorem dX3_restore_29 : decode cX3_restore 29 = .ok (.aload_n 0, 1) := by decide +kernel
theorem dX3_restore_30 : decode cX3_restore 30 = .ok (.getfield 9, 3) := by decide +kernel
theorem dX3_restore_33 : decode cX3_restore 33 = .ok (.invokestatic 229, 3) := by decide +kernel
theorem dX3_restore_36 : decode cX3_restore 36 = .ok (.aload_n 0, 1) := by decide +kernel
theorem dX3_restore_37 : decode cX3_restore 37 = .ok (.iconst 0, 1) := by decide +kernel
theorem dX3_restore_38 : decode cX3_restore 38 = .ok (.putfield 70, 3) := by decide +kernel
theorem dX3_restore_41 : decode cX3_restore 41 = .ok (.aload_n 0, 1) := by decide +kernel
theorem dX3_restore_42 : decode cX3_restore 42 = .ok (.invokevirtual 94, 3) := by decide +kernel
theorem dX3_restore_45 : decode cX3_restore 45 = .ok (.ireturn, 1) := by decide +kernel
