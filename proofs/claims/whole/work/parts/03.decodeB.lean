theorem dX6_init_0 : decode cX6_init 0 = .ok (.aload_n 0, 1) := by decide +kernel
theorem dX6_init_1 : decode cX6_init 1 = .ok (.invokespecial 1, 3) := by decide +kernel
theorem dX6_init_4 : decode cX6_init 4 = .ok (.aload_n 0, 1) := by decide +kernel
theorem dX6_init_5 : decode cX6_init 5 = .ok (.bipush 76, 2) := by decide +kernel
theorem dX6_init_7 : decode cX6_init 7 = .ok (.newarray .int, 2) := by decide +kernel
theorem dX6_init_9 : decode cX6_init 9 = .ok (.putfield 7, 3) := by decide +kernel
theorem dX6_init_12 : decode cX6_init 12 = .ok (.aload_n 0, 1) := by decide +kernel
theorem dX6_init_13 : decode cX6_init 13 = .ok (.bipush 8, 2) := by decide +kernel
theorem dX6_init_15 : decode cX6_init 15 = .ok (.newarray .int, 2) := by decide +kernel
theorem dX6_init_17 : decode cX6_init 17 = .ok (.putfield 13, 3) := by decide +kernel
theorem dX6_init_20 : decode cX6_init 20 = .ok (.aload_n 0, 1) := by decide +kernel
theorem dX6_init_21 : decode cX6_init 21 = .ok (.bipush 8, 2) := by decide +kernel
theorem dX6_init_23 : decode cX6_init 23 = .ok (.newarray .int, 2) := by decide +kernel
theorem dX6_init_25 : decode cX6_init 25 = .ok (.putfield 16, 3) := by decide +kernel
theorem dX6_init_28 : decode cX6_init 28 = .ok (.aload_n 0, 1) := by decide +kernel
theorem dX6_init_29 : decode cX6_init 29 = .ok (.bipush 8, 2) := by decide +kernel
theorem dX6_init_31 : decode cX6_init 31 = .ok (.newarray .int, 2) := by decide +kernel
theorem dX6_init_33 : decode cX6_init 33 = .ok (.putfield 19, 3) := by decide +kernel
theorem dX6_init_36 : decode cX6_init 36 = .ok (.aload_n 0, 1) := by decide +kernel
theorem dX6_init_37 : decode cX6_init 37 = .ok (.bipush 6, 2) := by decide +kernel
theorem dX6_init_39 : decode cX6_init 39 = .ok (.newarray .int, 2) := by decide +kernel
theorem dX6_init_41 : decode cX6_init 41 = .ok (.putfield 22, 3) := by decide +kernel
theorem dX6_init_44 : decode cX6_init 44 = .ok (.aload_n 0, 1) := by decide +kernel
theorem dX6_init_45 : decode cX6_init 45 = .ok (.bipush 6, 2) := by decide +kernel
theorem dX6_init_47 : decode cX6_init 47 = .ok (.newarray .int, 2) := by decide +kernel
theorem dX6_init_49 : decode cX6_init 49 = .ok (.putfield 25, 3) := by decide +kernel
theorem dX6_init_52 : decode cX6_init 52 = .ok (.aload_n 0, 1) := by decide +kernel
theorem dX6_init_53 : decode cX6_init 53 = .ok (.bipush 6, 2) := by decide +kernel
theorem dX6_init_55 : decode cX6_init 55 = .ok (.newarray .int, 2) := by decide +kernel
theorem dX6_init_57 : decode cX6_init 57 = .ok (.putfield 28, 3) := by decide +kernel
theorem dX6_init_60 : decode cX6_init 60 = .ok (.aload_n 0, 1) := by decide +kernel
theorem dX6_init_61 : decode cX6_init 61 = .ok (.bipush 6, 2) := by decide +kernel
theorem dX6_init_63 : decode cX6_init 63 = .ok (.newarray .int, 2) := by decide +kernel
theorem dX6_init_65 : decode cX6_init 65 = .ok (.putfield 31, 3) := by decide +kernel
theorem dX6_init_68 : decode cX6_init 68 = .ok (.aload_n 0, 1) := by decide +kernel
theorem dX6_init_69 : decode cX6_init 69 = .ok (.sipush 200, 3) := by decide +kernel
theorem dX6_init_72 : decode cX6_init 72 = .ok (.newarray .int, 2) := by decide +kernel
theorem dX6_init_74 : decode cX6_init 74 = .ok (.putfield 34, 3) := by decide +kernel
theorem dX6_init_77 : decode cX6_init 77 = .ok (.aload_n 0, 1) := by decide +kernel
theorem dX6_init_78 : decode cX6_init 78 = .ok (.bipush 24, 2) := by decide +kernel
theorem dX6_init_80 : decode cX6_init 80 = .ok (.newarray .int, 2) := by decide +kernel
theorem dX6_init_82 : decode cX6_init 82 = .ok (.putfield 37, 3) := by decide +kernel
theorem dX6_init_85 : decode cX6_init 85 = .ok (.aload_n 0, 1) := by decide +kernel
theorem dX6_init_86 : decode cX6_init 86 = .ok (.bipush 18, 2) := by decide +kernel
theorem dX6_init_88 : decode cX6_init 88 = .ok (.newarray .int, 2) := by decide +kernel
theorem dX6_init_90 : decode cX6_init 90 = .ok (.putfield 40, 3) := by decide +kernel
theorem dX6_init_93 : decode cX6_init 93 = .ok (.aload_n 0, 1) := by decide +kernel
theorem dX6_init_94 : decode cX6_init 94 = .ok (.bipush 6, 2) := by decide +kernel
theorem dX6_init_96 : decode cX6_init 96 = .ok (.newarray .int, 2) := by decide +kernel
theorem dX6_init_98 : decode cX6_init 98 = .ok (.putfield 43, 3) := by decide +kernel
theorem dX6_init_101 : decode cX6_init 101 = .ok (.aload_n 0, 1) := by decide +kernel
theorem dX6_init_102 : decode cX6_init 102 = .ok (.bipush 7, 2) := by decide +kernel
theorem dX6_init_104 : decode cX6_init 104 = .ok (.newarray .int, 2) := by decide +kernel
theorem dX6_init_106 : decode cX6_init 106 = .ok (.putfield 46, 3) := by decide +kernel
theorem dX6_init_109 : decode cX6_init 109 = .ok (.aload_n 0, 1) := by decide +kernel
theorem dX6_init_110 : decode cX6_init 110 = .ok (.bipush 6, 2) := by decide +kernel
theorem dX6_init_112 : decode cX6_init 112 = .ok (.newarray .int, 2) := by decide +kernel
theorem dX6_init_114 : decode cX6_init 114 = .ok (.putfield 49, 3) := by decide +kernel
theorem dX6_init_117 : decode cX6_init 117 = .ok (.aload_n 0, 1) := by decide +kernel
theorem dX6_init_118 : decode cX6_init 118 = .ok (.bipush 64, 2) := by decide +kernel
theorem dX6_init_120 : decode cX6_init 120 = .ok (.newarray .int, 2) := by decide +kernel
theorem dX6_init_122 : decode cX6_init 122 = .ok (.putfield 52, 3) := by decide +kernel
theorem dX6_init_125 : decode cX6_init 125 = .ok (.aload_n 0, 1) := by decide +kernel
theorem dX6_init_126 : decode cX6_init 126 = .ok (.bipush 64, 2) := by decide +kernel
theorem dX6_init_128 : decode cX6_init 128 = .ok (.newarray .int, 2) := by decide +kernel
theorem dX6_init_130 : decode cX6_init 130 = .ok (.putfield 55, 3) := by decide +kernel
theorem dX6_init_133 : decode cX6_init 133 = .ok (.aload_n 0, 1) := by decide +kernel
theorem dX6_init_134 : decode cX6_init 134 = .ok (.bipush 24, 2) := by decide +kernel
theorem dX6_init_136 : decode cX6_init 136 = .ok (.putfield 58, 3) := by decide +kernel
theorem dX6_init_139 : decode cX6_init 139 = .ok (.aload_n 0, 1) := by decide +kernel
theorem dX6_init_140 : decode cX6_init 140 = .ok (.bipush 6, 2) := by decide +kernel
theorem dX6_init_142 : decode cX6_init 142 = .ok (.putfield 62, 3) := by decide +kernel
theorem dX6_init_145 : decode cX6_init 145 = .ok (.aload_n 0, 1) := by decide +kernel
theorem dX6_init_146 : decode cX6_init 146 = .ok (.iconst 0, 1) := by decide +kernel
theorem dX6_init_147 : decode cX6_init 147 = .ok (.bipush 6, 2) := by decide +kernel
theorem dX6_init_149 : decode cX6_init 149 = .ok (.iconst 4, 1) := by decide +kernel
theorem dX6_init_150 : decode cX6_init 150 = .ok (.invokevirtual 65, 3) := by decide +kernel
theorem dX6_init_153 : decode cX6_init 153 = .ok (.aload_n 0, 1) := by decide +kernel
theorem dX6_init_154 : decode cX6_init 154 = .ok (.iconst 1, 1) := by decide +kernel
theorem dX6_init_155 : decode cX6_init 155 = .ok (.iconst 5, 1) := by decide +kernel
theorem dX6_init_156 : decode cX6_init 156 = .ok (.iconst 2, 1) := by decide +kernel
theorem dX6_init_157 : decode cX6_init 157 = .ok (.invokevirtual 65, 3) := by decide +kernel
theorem dX6_init_160 : decode cX6_init 160 = .ok (.aload_n 0, 1) := by decide +kernel
theorem dX6_init_161 : decode cX6_init 161 = .ok (.iconst 2, 1) := by decide +kernel
theorem dX6_init_162 : decode cX6_init 162 = .ok (.iconst 4, 1) := by decide +kernel
theorem dX6_init_163 : decode cX6_init 163 = .ok (.iconst 3, 1) := by decide +kernel
theorem dX6_init_164 : decode cX6_init 164 = .ok (.invokevirtual 65, 3) := by decide +kernel
theorem dX6_init_167 : decode cX6_init 167 = .ok (.aload_n 0, 1) := by decide +kernel
theorem dX6_init_168 : decode cX6_init 168 = .ok (.iconst 3, 1) := by decide +kernel
theorem dX6_init_169 : decode cX6_init 169 = .ok (.bipush 8, 2) := by decide +kernel
theorem dX6_init_171 : decode cX6_init 171 = .ok (.iconst 5, 1) := by decide +kernel
theorem dX6_init_172 : decode cX6_init 172 = .ok (.invokevirtual 65, 3) := by decide +kernel
theorem dX6_init_175 : decode cX6_init 175 = .ok (.aload_n 0, 1) := by decide +kernel
theorem dX6_init_176 : decode cX6_init 176 = .ok (.iconst 0, 1) := by decide +kernel
theorem dX6_init_177 : decode cX6_init 177 = .ok (.bipush 9, 2) := by decide +kernel
theorem dX6_init_179 : decode cX6_init 179 = .ok (.bipush 7, 2) := by decide +kernel
theorem dX6_init_181 : decode cX6_init 181 = .ok (.invokevirtual 65, 3) := by decide +kernel
theorem dX6_init_184 : decode cX6_init 184 = .ok (.aload_n 0, 1) := by decide +kernel
theorem dX6_init_185 : decode cX6_init 185 = .ok (.iconst 2, 1) := by decide +kernel
theorem dX6_init_186 : decode cX6_init 186 = .ok (.iconst 3, 1) := by decide +kernel
theorem dX6_init_187 : decode cX6_init 187 = .ok (.iconst 1, 1) := by decide +kernel
theorem dX6_init_188 : decode cX6_init 188 = .ok (.invokevirtual 65, 3) := by decide +kernel
theorem dX6_init_191 : decode cX6_init 191 = .ok (.aload_n 0, 1) := by decide +kernel
theorem dX6_init_192 : decode cX6_init 192 = .ok (.iconst 5, 1) := by decide +kernel
theorem dX6_init_193 : decode cX6_init 193 = .ok (.bipush 30, 2) := by decide +kernel
theorem dX6_init_195 : decode cX6_init 195 = .ok (.bipush 10, 2) := by decide +kernel
theorem dX6_init_197 : decode cX6_init 197 = .ok (.invokevirtual 69, 3) := by decide +kernel
theorem dX6_init_200 : decode cX6_init 200 = .ok (.aload_n 0, 1) := by decide +kernel
theorem dX6_init_201 : decode cX6_init 201 = .ok (.iconst 3, 1) := by decide +kernel
theorem dX6_init_202 : decode cX6_init 202 = .ok (.bipush 50, 2) := by decide +kernel
theorem dX6_init_204 : decode cX6_init 204 = .ok (.iconst 5, 1) := by decide +kernel
theorem dX6_init_205 : decode cX6_init 205 = .ok (.invokevirtual 69, 3) := by decide +kernel
theorem dX6_init_208 : decode cX6_init 208 = .ok (.aload_n 0, 1) := by decide +kernel
theorem dX6_init_209 : decode cX6_init 209 = .ok (.iconst 2, 1) := by decide +kernel
theorem dX6_init_210 : decode cX6_init 210 = .ok (.bipush 20, 2) := by decide +kernel
theorem dX6_init_212 : decode cX6_init 212 = .ok (.bipush 40, 2) := by decide +kernel
theorem dX6_init_214 : decode cX6_init 214 = .ok (.invokevirtual 69, 3) := by decide +kernel
theorem dX6_init_217 : decode cX6_init 217 = .ok (.aload_n 0, 1) := by decide +kernel
theorem dX6_init_218 : decode cX6_init 218 = .ok (.iconst 0, 1) := by decide +kernel
theorem dX6_init_219 : decode cX6_init 219 = .ok (.bipush 60, 2) := by decide +kernel
theorem dX6_init_221 : decode cX6_init 221 = .ok (.bipush 60, 2) := by decide +kernel
theorem dX6_init_223 : decode cX6_init 223 = .ok (.invokevirtual 69, 3) := by decide +kernel
theorem dX6_init_226 : decode cX6_init 226 = .ok (.aload_n 0, 1) := by decide +kernel
theorem dX6_init_227 : decode cX6_init 227 = .ok (.getfield 43, 3) := by decide +kernel
theorem dX6_init_230 : decode cX6_init 230 = .ok (.iconst 0, 1) := by decide +kernel
theorem dX6_init_231 : decode cX6_init 231 = .ok (.iconst 5, 1) := by decide +kernel
theorem dX6_init_232 : decode cX6_init 232 = .ok (.iastore, 1) := by decide +kernel
theorem dX6_init_233 : decode cX6_init 233 = .ok (.aload_n 0, 1) := by decide +kernel
theorem dX6_init_234 : decode cX6_init 234 = .ok (.getfield 43, 3) := by decide +kernel
theorem dX6_init_237 : decode cX6_init 237 = .ok (.iconst 1, 1) := by decide +kernel
theorem dX6_init_238 : decode cX6_init 238 = .ok (.bipush 25, 2) := by decide +kernel
theorem dX6_init_240 : decode cX6_init 240 = .ok (.iastore, 1) := by decide +kernel
theorem dX6_init_241 : decode cX6_init 241 = .ok (.aload_n 0, 1) := by decide +kernel
theorem dX6_init_242 : decode cX6_init 242 = .ok (.getfield 43, 3) := by decide +kernel
theorem dX6_init_245 : decode cX6_init 245 = .ok (.iconst 2, 1) := by decide +kernel
theorem dX6_init_246 : decode cX6_init 246 = .ok (.bipush 34, 2) := by decide +kernel
theorem dX6_init_248 : decode cX6_init 248 = .ok (.iastore, 1) := by decide +kernel
theorem dX6_init_249 : decode cX6_init 249 = .ok (.aload_n 0, 1) := by decide +kernel
theorem dX6_init_250 : decode cX6_init 250 = .ok (.getfield 43, 3) := by decide +kernel
theorem dX6_init_253 : decode cX6_init 253 = .ok (.iconst 3, 1) := by decide +kernel
theorem dX6_init_254 : decode cX6_init 254 = .ok (.bipush 56, 2) := by decide +kernel
theorem dX6_init_256 : decode cX6_init 256 = .ok (.iastore, 1) := by decide +kernel
theorem dX6_init_257 : decode cX6_init 257 = .ok (.aload_n 0, 1) := by decide +kernel
theorem dX6_init_258 : decode cX6_init 258 = .ok (.invokevirtual 72, 3) := by decide +kernel
theorem dX6_init_261 : decode cX6_init 261 = .ok (.return_, 1) := by decide +kernel
theorem dX6_in_0 : decode cX6_in 0 = .ok (.lload_n 0, 1) := by decide +kernel
theorem dX6_in_1 : decode cX6_in 1 = .ok (.lload_n 2, 1) := by decide +kernel
theorem dX6_in_2 : decode cX6_in 2 = .ok (.lcmp, 1) := by decide +kernel
theorem dX6_in_3 : decode cX6_in 3 = .ok (.ifCond .lt 14, 3) := by decide +kernel
theorem dX6_in_6 : decode cX6_in 6 = .ok (.lload_n 0, 1) := by decide +kernel
theorem dX6_in_7 : decode cX6_in 7 = .ok (.lload 4, 2) := by decide +kernel
theorem dX6_in_9 : decode cX6_in 9 = .ok (.lcmp, 1) := by decide +kernel
theorem dX6_in_10 : decode cX6_in 10 = .ok (.ifCond .gt 7, 3) := by decide +kernel
theorem dX6_in_13 : decode cX6_in 13 = .ok (.iconst 1, 1) := by decide +kernel
theorem dX6_in_14 : decode cX6_in 14 = .ok (.goto 4, 3) := by decide +kernel
theorem dX6_in_17 : decode cX6_in 17 = .ok (.iconst 0, 1) := by decide +kernel
theorem dX6_in_18 : decode cX6_in 18 = .ok (.ireturn, 1) := by decide +kernel
theorem dX6_has_0 : decode cX6_has 0 = .ok (.iload_n 0, 1) := by decide +kernel
theorem dX6_has_1 : decode cX6_has 1 = .ok (.iload_n 1, 1) := by decide +kernel
theorem dX6_has_2 : decode cX6_has 2 = .ok (.ishr, 1) := by decide +kernel
theorem dX6_has_3 : decode cX6_has 3 = .ok (.iconst 1, 1) := by decide +kernel
theorem dX6_has_4 : decode cX6_has 4 = .ok (.iand, 1) := by decide +kernel
theorem dX6_has_5 : decode cX6_has 5 = .ok (.iconst 1, 1) := by decide +kernel
theorem dX6_has_6 : decode cX6_has 6 = .ok (.if_icmp .ne 7, 3) := by decide +kernel
theorem dX6_has_9 : decode cX6_has 9 = .ok (.iconst 1, 1) := by decide +kernel
theorem dX6_has_10 : decode cX6_has 10 = .ok (.goto 4, 3) := by decide +kernel
theorem dX6_has_13 : decode cX6_has 13 = .ok (.iconst 0, 1) := by decide +kernel
theorem dX6_has_14 : decode cX6_has 14 = .ok (.ireturn, 1) := by decide +kernel
theorem dX6_ones_0 : decode cX6_ones 0 = .ok (.iconst 0, 1) := by decide +kernel
theorem dX6_ones_1 : decode cX6_ones 1 = .ok (.istore_n 1, 1) := by decide +kernel
theorem dX6_ones_2 : decode cX6_ones 2 = .ok (.iconst 0, 1) := by decide +kernel
theorem dX6_ones_3 : decode cX6_ones 3 = .ok (.istore_n 2, 1) := by decide +kernel
theorem dX6_ones_4 : decode cX6_ones 4 = .ok (.iload_n 2, 1) := by decide +kernel
theorem dX6_ones_5 : decode cX6_ones 5 = .ok (.bipush 8, 2) := by decide +kernel
theorem dX6_ones_7 : decode cX6_ones 7 = .ok (.if_icmp .ge 17, 3) := by decide +kernel
theorem dX6_ones_10 : decode cX6_ones 10 = .ok (.iload_n 1, 1) := by decide +kernel
theorem dX6_ones_11 : decode cX6_ones 11 = .ok (.iload_n 0, 1) := by decide +kernel
theorem dX6_ones_12 : decode cX6_ones 12 = .ok (.iload_n 2, 1) := by decide +kernel
theorem dX6_ones_13 : decode cX6_ones 13 = .ok (.ishr, 1) := by decide +kernel
theorem dX6_ones_14 : decode cX6_ones 14 = .ok (.iconst 1, 1) := by decide +kernel
theorem dX6_ones_15 : decode cX6_ones 15 = .ok (.iand, 1) := by decide +kernel
theorem dX6_ones_16 : decode cX6_ones 16 = .ok (.iadd, 1) := by decide +kernel
theorem dX6_ones_17 : decode cX6_ones 17 = .ok (.istore_n 1, 1) := by decide +kernel
theorem dX6_ones_18 : decode cX6_ones 18 = .ok (.iinc 2 1, 3) := by decide +kernel
theorem dX6_ones_21 : decode cX6_ones 21 = .ok (.goto (-17), 3) := by decide +kernel
theorem dX6_ones_24 : decode cX6_ones 24 = .ok (.iload_n 1, 1) := by decide +kernel
theorem dX6_ones_25 : decode cX6_ones 25 = .ok (.ireturn, 1) := by decide +kernel
theorem dX6_copy_0 : decode cX6_copy 0 = .ok (.iconst 0, 1) := by decide +kernel
theorem dX6_copy_1 : decode cX6_copy 1 = .ok (.istore_n 3, 1) := by decide +kernel
theorem dX6_copy_2 : decode cX6_copy 2 = .ok (.iload_n 3, 1) := by decide +kernel
theorem dX6_copy_3 : decode cX6_copy 3 = .ok (.iconst 4, 1) := by decide +kernel
theorem dX6_copy_4 : decode cX6_copy 4 = .ok (.if_icmp .ge 25, 3) := by decide +kernel
theorem dX6_copy_7 : decode cX6_copy 7 = .ok (.aload_n 0, 1) := by decide +kernel
theorem dX6_copy_8 : decode cX6_copy 8 = .ok (.getfield 7, 3) := by decide +kernel
theorem dX6_copy_11 : decode cX6_copy 11 = .ok (.iload_n 2, 1) := by decide +kernel
theorem dX6_copy_12 : decode cX6_copy 12 = .ok (.iload_n 3, 1) := by decide +kernel
theorem dX6_copy_13 : decode cX6_copy 13 = .ok (.iadd, 1) := by decide +kernel
theorem dX6_copy_14 : decode cX6_copy 14 = .ok (.aload_n 0, 1) := by decide +kernel
theorem dX6_copy_15 : decode cX6_copy 15 = .ok (.getfield 7, 3) := by decide +kernel
theorem dX6_copy_18 : decode cX6_copy 18 = .ok (.iload_n 1, 1) := by decide +kernel
theorem dX6_copy_19 : decode cX6_copy 19 = .ok (.iload_n 3, 1) := by decide +kernel
theorem dX6_copy_20 : decode cX6_copy 20 = .ok (.iadd, 1) := by decide +kernel
theorem dX6_copy_21 : decode cX6_copy 21 = .ok (.iaload, 1) := by decide +kernel
theorem dX6_copy_22 : decode cX6_copy 22 = .ok (.iastore, 1) := by decide +kernel
theorem dX6_copy_23 : decode cX6_copy 23 = .ok (.iinc 3 1, 3) := by decide +kernel
theorem dX6_copy_26 : decode cX6_copy 26 = .ok (.goto (-24), 3) := by decide +kernel
theorem dX6_copy_29 : decode cX6_copy 29 = .ok (.return_, 1) := by decide +kernel
theorem dX6_isThing_0 : decode cX6_isThing 0 = .ok (.iload_n 1, 1) := by decide +kernel
theorem dX6_isThing_1 : decode cX6_isThing 1 = .ok (.i2l, 1) := by decide +kernel
theorem dX6_isThing_2 : decode cX6_isThing 2 = .ok (.lconst 0, 1) := by decide +kernel
theorem dX6_isThing_3 : decode cX6_isThing 3 = .ok (.aload_n 0, 1) := by decide +kernel
theorem dX6_isThing_4 : decode cX6_isThing 4 = .ok (.getfield 75, 3) := by decide +kernel
theorem dX6_isThing_7 : decode cX6_isThing 7 = .ok (.iconst 1, 1) := by decide +kernel
theorem dX6_isThing_8 : decode cX6_isThing 8 = .ok (.isub, 1) := by decide +kernel
theorem dX6_isThing_9 : decode cX6_isThing 9 = .ok (.i2l, 1) := by decide +kernel
theorem dX6_isThing_10 : decode cX6_isThing 10 = .ok (.invokestatic 78, 3) := by decide +kernel
theorem dX6_isThing_13 : decode cX6_isThing 13 = .ok (.ireturn, 1) := by decide +kernel
theorem dX6_isLife_0 : decode cX6_isLife 0 = .ok (.iload_n 1, 1) := by decide +kernel
theorem dX6_isLife_1 : decode cX6_isLife 1 = .ok (.i2l, 1) := by decide +kernel
theorem dX6_isLife_2 : decode cX6_isLife 2 = .ok (.lconst 0, 1) := by decide +kernel
theorem dX6_isLife_3 : decode cX6_isLife 3 = .ok (.aload_n 0, 1) := by decide +kernel
theorem dX6_isLife_4 : decode cX6_isLife 4 = .ok (.getfield 82, 3) := by decide +kernel
theorem dX6_isLife_7 : decode cX6_isLife 7 = .ok (.iconst 1, 1) := by decide +kernel
theorem dX6_isLife_8 : decode cX6_isLife 8 = .ok (.isub, 1) := by decide +kernel
theorem dX6_isLife_9 : decode cX6_isLife 9 = .ok (.i2l, 1) := by decide +kernel
theorem dX6_isLife_10 : decode cX6_isLife 10 = .ok (.invokestatic 78, 3) := by decide +kernel
theorem dX6_isLife_13 : decode cX6_isLife 13 = .ok (.ireturn, 1) := by decide +kernel
theorem dX6_addsThing_0 : decode cX6_addsThing 0 = .ok (.aload_n 0, 1) := by decide +kernel
theorem dX6_addsThing_1 : decode cX6_addsThing 1 = .ok (.getfield 37, 3) := by decide +kernel
theorem dX6_addsThing_4 : decode cX6_addsThing 4 = .ok (.iconst 3, 1) := by decide +kernel
theorem dX6_addsThing_5 : decode cX6_addsThing 5 = .ok (.aload_n 0, 1) := by decide +kernel
theorem dX6_addsThing_6 : decode cX6_addsThing 6 = .ok (.getfield 85, 3) := by decide +kernel
theorem dX6_addsThing_9 : decode cX6_addsThing 9 = .ok (.imul, 1) := by decide +kernel
theorem dX6_addsThing_10 : decode cX6_addsThing 10 = .ok (.iload_n 1, 1) := by decide +kernel
theorem dX6_addsThing_11 : decode cX6_addsThing 11 = .ok (.iastore, 1) := by decide +kernel
theorem dX6_addsThing_12 : decode cX6_addsThing 12 = .ok (.aload_n 0, 1) := by decide +kernel
theorem dX6_addsThing_13 : decode cX6_addsThing 13 = .ok (.getfield 37, 3) := by decide +kernel
theorem dX6_addsThing_16 : decode cX6_addsThing 16 = .ok (.iconst 3, 1) := by decide +kernel
theorem dX6_addsThing_17 : decode cX6_addsThing 17 = .ok (.aload_n 0, 1) := by decide +kernel
theorem dX6_addsThing_18 : decode cX6_addsThing 18 = .ok (.getfield 85, 3) := by decide +kernel
theorem dX6_addsThing_21 : decode cX6_addsThing 21 = .ok (.imul, 1) := by decide +kernel
theorem dX6_addsThing_22 : decode cX6_addsThing 22 = .ok (.iconst 1, 1) := by decide +kernel
theorem dX6_addsThing_23 : decode cX6_addsThing 23 = .ok (.iadd, 1) := by decide +kernel
theorem dX6_addsThing_24 : decode cX6_addsThing 24 = .ok (.iload_n 2, 1) := by decide +kernel
theorem dX6_addsThing_25 : decode cX6_addsThing 25 = .ok (.iastore, 1) := by decide +kernel
theorem dX6_addsThing_26 : decode cX6_addsThing 26 = .ok (.aload_n 0, 1) := by decide +kernel
theorem dX6_addsThing_27 : decode cX6_addsThing 27 = .ok (.getfield 37, 3) := by decide +kernel
theorem dX6_addsThing_30 : decode cX6_addsThing 30 = .ok (.iconst 3, 1) := by decide +kernel
theorem dX6_addsThing_31 : decode cX6_addsThing 31 = .ok (.aload_n 0, 1) := by decide +kernel
theorem dX6_addsThing_32 : decode cX6_addsThing 32 = .ok (.getfield 85, 3) := by decide +kernel
theorem dX6_addsThing_35 : decode cX6_addsThing 35 = .ok (.imul, 1) := by decide +kernel
theorem dX6_addsThing_36 : decode cX6_addsThing 36 = .ok (.iconst 2, 1) := by decide +kernel
theorem dX6_addsThing_37 : decode cX6_addsThing 37 = .ok (.iadd, 1) := by decide +kernel
theorem dX6_addsThing_38 : decode cX6_addsThing 38 = .ok (.iload_n 3, 1) := by decide +kernel
theorem dX6_addsThing_39 : decode cX6_addsThing 39 = .ok (.iastore, 1) := by decide +kernel
theorem dX6_addsThing_40 : decode cX6_addsThing 40 = .ok (.aload_n 0, 1) := by decide +kernel
theorem dX6_addsThing_41 : decode cX6_addsThing 41 = .ok (.dup, 1) := by decide +kernel
theorem dX6_addsThing_42 : decode cX6_addsThing 42 = .ok (.getfield 85, 3) := by decide +kernel
theorem dX6_addsThing_45 : decode cX6_addsThing 45 = .ok (.iconst 1, 1) := by decide +kernel
theorem dX6_addsThing_46 : decode cX6_addsThing 46 = .ok (.iadd, 1) := by decide +kernel
theorem dX6_addsThing_47 : decode cX6_addsThing 47 = .ok (.putfield 85, 3) := by decide +kernel
theorem dX6_addsThing_50 : decode cX6_addsThing 50 = .ok (.return_, 1) := by decide +kernel
theorem dX6_addsLife_0 : decode cX6_addsLife 0 = .ok (.aload_n 0, 1) := by decide +kernel
theorem dX6_addsLife_1 : decode cX6_addsLife 1 = .ok (.getfield 40, 3) := by decide +kernel
theorem dX6_addsLife_4 : decode cX6_addsLife 4 = .ok (.iconst 3, 1) := by decide +kernel
theorem dX6_addsLife_5 : decode cX6_addsLife 5 = .ok (.aload_n 0, 1) := by decide +kernel
theorem dX6_addsLife_6 : decode cX6_addsLife 6 = .ok (.getfield 88, 3) := by decide +kernel
theorem dX6_addsLife_9 : decode cX6_addsLife 9 = .ok (.imul, 1) := by decide +kernel
theorem dX6_addsLife_10 : decode cX6_addsLife 10 = .ok (.iload_n 1, 1) := by decide +kernel
theorem dX6_addsLife_11 : decode cX6_addsLife 11 = .ok (.iastore, 1) := by decide +kernel
theorem dX6_addsLife_12 : decode cX6_addsLife 12 = .ok (.aload_n 0, 1) := by decide +kernel
theorem dX6_addsLife_13 : decode cX6_addsLife 13 = .ok (.getfield 40, 3) := by decide +kernel
theorem dX6_addsLife_16 : decode cX6_addsLife 16 = .ok (.iconst 3, 1) := by decide +kernel
theorem dX6_addsLife_17 : decode cX6_addsLife 17 = .ok (.aload_n 0, 1) := by decide +kernel
theorem dX6_addsLife_18 : decode cX6_addsLife 18 = .ok (.getfield 88, 3) := by decide +kernel
theorem dX6_addsLife_21 : decode cX6_addsLife 21 = .ok (.imul, 1) := by decide +kernel
theorem dX6_addsLife_22 : decode cX6_addsLife 22 = .ok (.iconst 1, 1) := by decide +kernel
theorem dX6_addsLife_23 : decode cX6_addsLife 23 = .ok (.iadd, 1) := by decide +kernel
theorem dX6_addsLife_24 : decode cX6_addsLife 24 = .ok (.iload_n 2, 1) := by decide +kernel
theorem dX6_addsLife_25 : decode cX6_addsLife 25 = .ok (.iastore, 1) := by decide +kernel
theorem dX6_addsLife_26 : decode cX6_addsLife 26 = .ok (.aload_n 0, 1) := by decide +kernel
theorem dX6_addsLife_27 : decode cX6_addsLife 27 = .ok (.getfield 40, 3) := by decide +kernel
theorem dX6_addsLife_30 : decode cX6_addsLife 30 = .ok (.iconst 3, 1) := by decide +kernel
theorem dX6_addsLife_31 : decode cX6_addsLife 31 = .ok (.aload_n 0, 1) := by decide +kernel
theorem dX6_addsLife_32 : decode cX6_addsLife 32 = .ok (.getfield 88, 3) := by decide +kernel
theorem dX6_addsLife_35 : decode cX6_addsLife 35 = .ok (.imul, 1) := by decide +kernel
theorem dX6_addsLife_36 : decode cX6_addsLife 36 = .ok (.iconst 2, 1) := by decide +kernel
theorem dX6_addsLife_37 : decode cX6_addsLife 37 = .ok (.iadd, 1) := by decide +kernel
theorem dX6_addsLife_38 : decode cX6_addsLife 38 = .ok (.iload_n 3, 1) := by decide +kernel
theorem dX6_addsLife_39 : decode cX6_addsLife 39 = .ok (.iastore, 1) := by decide +kernel
theorem dX6_addsLife_40 : decode cX6_addsLife 40 = .ok (.aload_n 0, 1) := by decide +kernel
theorem dX6_addsLife_41 : decode cX6_addsLife 41 = .ok (.getfield 43, 3) := by decide +kernel
theorem dX6_addsLife_44 : decode cX6_addsLife 44 = .ok (.aload_n 0, 1) := by decide +kernel
theorem dX6_addsLife_45 : decode cX6_addsLife 45 = .ok (.getfield 88, 3) := by decide +kernel
theorem dX6_addsLife_48 : decode cX6_addsLife 48 = .ok (.iconst 0, 1) := by decide +kernel
theorem dX6_addsLife_49 : decode cX6_addsLife 49 = .ok (.iastore, 1) := by decide +kernel
theorem dX6_addsLife_50 : decode cX6_addsLife 50 = .ok (.aload_n 0, 1) := by decide +kernel
theorem dX6_addsLife_51 : decode cX6_addsLife 51 = .ok (.dup, 1) := by decide +kernel
theorem dX6_addsLife_52 : decode cX6_addsLife 52 = .ok (.getfield 88, 3) := by decide +kernel
theorem dX6_addsLife_55 : decode cX6_addsLife 55 = .ok (.iconst 1, 1) := by decide +kernel
theorem dX6_addsLife_56 : decode cX6_addsLife 56 = .ok (.iadd, 1) := by decide +kernel
theorem dX6_addsLife_57 : decode cX6_addsLife 57 = .ok (.putfield 88, 3) := by decide +kernel
theorem dX6_addsLife_60 : decode cX6_addsLife 60 = .ok (.return_, 1) := by decide +kernel
theorem dX6_begins_0 : decode cX6_begins 0 = .ok (.aload_n 0, 1) := by decide +kernel
theorem dX6_begins_1 : decode cX6_begins 1 = .ok (.aload_n 0, 1) := by decide +kernel
theorem dX6_begins_2 : decode cX6_begins 2 = .ok (.getfield 58, 3) := by decide +kernel
theorem dX6_begins_5 : decode cX6_begins 5 = .ok (.putfield 91, 3) := by decide +kernel
theorem dX6_begins_8 : decode cX6_begins 8 = .ok (.aload_n 0, 1) := by decide +kernel
theorem dX6_begins_9 : decode cX6_begins 9 = .ok (.aload_n 0, 1) := by decide +kernel
theorem dX6_begins_10 : decode cX6_begins 10 = .ok (.getfield 62, 3) := by decide +kernel
theorem dX6_begins_13 : decode cX6_begins 13 = .ok (.putfield 94, 3) := by decide +kernel
theorem dX6_begins_16 : decode cX6_begins 16 = .ok (.aload_n 0, 1) := by decide +kernel
theorem dX6_begins_17 : decode cX6_begins 17 = .ok (.aload_n 0, 1) := by decide +kernel
theorem dX6_begins_18 : decode cX6_begins 18 = .ok (.getfield 85, 3) := by decide +kernel
theorem dX6_begins_21 : decode cX6_begins 21 = .ok (.putfield 75, 3) := by decide +kernel
theorem dX6_begins_24 : decode cX6_begins 24 = .ok (.aload_n 0, 1) := by decide +kernel
theorem dX6_begins_25 : decode cX6_begins 25 = .ok (.aload_n 0, 1) := by decide +kernel
theorem dX6_begins_26 : decode cX6_begins 26 = .ok (.getfield 88, 3) := by decide +kernel
theorem dX6_begins_29 : decode cX6_begins 29 = .ok (.putfield 82, 3) := by decide +kernel
theorem dX6_begins_32 : decode cX6_begins 32 = .ok (.iconst 0, 1) := by decide +kernel
theorem dX6_begins_33 : decode cX6_begins 33 = .ok (.istore_n 1, 1) := by decide +kernel
theorem dX6_begins_34 : decode cX6_begins 34 = .ok (.iload_n 1, 1) := by decide +kernel
theorem dX6_begins_35 : decode cX6_begins 35 = .ok (.aload_n 0, 1) := by decide +kernel
theorem dX6_begins_36 : decode cX6_begins 36 = .ok (.getfield 75, 3) := by decide +kernel
theorem dX6_begins_39 : decode cX6_begins 39 = .ok (.if_icmp .ge 55, 3) := by decide +kernel
theorem dX6_begins_42 : decode cX6_begins 42 = .ok (.aload_n 0, 1) := by decide +kernel
theorem dX6_begins_43 : decode cX6_begins 43 = .ok (.getfield 13, 3) := by decide +kernel
theorem dX6_begins_46 : decode cX6_begins 46 = .ok (.iload_n 1, 1) := by decide +kernel
theorem dX6_begins_47 : decode cX6_begins 47 = .ok (.aload_n 0, 1) := by decide +kernel
theorem dX6_begins_48 : decode cX6_begins 48 = .ok (.getfield 37, 3) := by decide +kernel
theorem dX6_begins_51 : decode cX6_begins 51 = .ok (.iconst 3, 1) := by decide +kernel
theorem dX6_begins_52 : decode cX6_begins 52 = .ok (.iload_n 1, 1) := by decide +kernel
theorem dX6_begins_53 : decode cX6_begins 53 = .ok (.imul, 1) := by decide +kernel
theorem dX6_begins_54 : decode cX6_begins 54 = .ok (.iaload, 1) := by decide +kernel
theorem dX6_begins_55 : decode cX6_begins 55 = .ok (.iastore, 1) := by decide +kernel
theorem dX6_begins_56 : decode cX6_begins 56 = .ok (.aload_n 0, 1) := by decide +kernel
theorem dX6_begins_57 : decode cX6_begins 57 = .ok (.getfield 16, 3) := by decide +kernel
theorem dX6_begins_60 : decode cX6_begins 60 = .ok (.iload_n 1, 1) := by decide +kernel
theorem dX6_begins_61 : decode cX6_begins 61 = .ok (.aload_n 0, 1) := by decide +kernel
theorem dX6_begins_62 : decode cX6_begins 62 = .ok (.getfield 37, 3) := by decide +kernel
theorem dX6_begins_65 : decode cX6_begins 65 = .ok (.iconst 3, 1) := by decide +kernel
theorem dX6_begins_66 : decode cX6_begins 66 = .ok (.iload_n 1, 1) := by decide +kernel
theorem dX6_begins_67 : decode cX6_begins 67 = .ok (.imul, 1) := by decide +kernel
theorem dX6_begins_68 : decode cX6_begins 68 = .ok (.iconst 1, 1) := by decide +kernel
theorem dX6_begins_69 : decode cX6_begins 69 = .ok (.iadd, 1) := by decide +kernel
theorem dX6_begins_70 : decode cX6_begins 70 = .ok (.iaload, 1) := by decide +kernel
theorem dX6_begins_71 : decode cX6_begins 71 = .ok (.iastore, 1) := by decide +kernel
theorem dX6_begins_72 : decode cX6_begins 72 = .ok (.aload_n 0, 1) := by decide +kernel
theorem dX6_begins_73 : decode cX6_begins 73 = .ok (.getfield 19, 3) := by decide +kernel
theorem dX6_begins_76 : decode cX6_begins 76 = .ok (.iload_n 1, 1) := by decide +kernel
theorem dX6_begins_77 : decode cX6_begins 77 = .ok (.aload_n 0, 1) := by decide +kernel
theorem dX6_begins_78 : decode cX6_begins 78 = .ok (.getfield 37, 3) := by decide +kernel
theorem dX6_begins_81 : decode cX6_begins 81 = .ok (.iconst 3, 1) := by decide +kernel
theorem dX6_begins_82 : decode cX6_begins 82 = .ok (.iload_n 1, 1) := by decide +kernel
theorem dX6_begins_83 : decode cX6_begins 83 = .ok (.imul, 1) := by decide +kernel
theorem dX6_begins_84 : decode cX6_begins 84 = .ok (.iconst 2, 1) := by decide +kernel
theorem dX6_begins_85 : decode cX6_begins 85 = .ok (.iadd, 1) := by decide +kernel
theorem dX6_begins_86 : decode cX6_begins 86 = .ok (.iaload, 1) := by decide +kernel
theorem dX6_begins_87 : decode cX6_begins 87 = .ok (.iastore, 1) := by decide +kernel
theorem dX6_begins_88 : decode cX6_begins 88 = .ok (.iinc 1 1, 3) := by decide +kernel
theorem dX6_begins_91 : decode cX6_begins 91 = .ok (.goto (-57), 3) := by decide +kernel
theorem dX6_begins_94 : decode cX6_begins 94 = .ok (.iconst 0, 1) := by decide +kernel
theorem dX6_begins_95 : decode cX6_begins 95 = .ok (.istore_n 1, 1) := by decide +kernel
theorem dX6_begins_96 : decode cX6_begins 96 = .ok (.iload_n 1, 1) := by decide +kernel
theorem dX6_begins_97 : decode cX6_begins 97 = .ok (.aload_n 0, 1) := by decide +kernel
theorem dX6_begins_98 : decode cX6_begins 98 = .ok (.getfield 82, 3) := by decide +kernel
theorem dX6_begins_101 : decode cX6_begins 101 = .ok (.if_icmp .ge 67, 3) := by decide +kernel
theorem dX6_begins_104 : decode cX6_begins 104 = .ok (.aload_n 0, 1) := by decide +kernel
theorem dX6_begins_105 : decode cX6_begins 105 = .ok (.getfield 22, 3) := by decide +kernel
theorem dX6_begins_108 : decode cX6_begins 108 = .ok (.iload_n 1, 1) := by decide +kernel
theorem dX6_begins_109 : decode cX6_begins 109 = .ok (.aload_n 0, 1) := by decide +kernel
theorem dX6_begins_110 : decode cX6_begins 110 = .ok (.getfield 40, 3) := by decide +kernel
theorem dX6_begins_113 : decode cX6_begins 113 = .ok (.iconst 3, 1) := by decide +kernel
theorem dX6_begins_114 : decode cX6_begins 114 = .ok (.iload_n 1, 1) := by decide +kernel
theorem dX6_begins_115 : decode cX6_begins 115 = .ok (.imul, 1) := by decide +kernel
theorem dX6_begins_116 : decode cX6_begins 116 = .ok (.iaload, 1) := by decide +kernel
theorem dX6_begins_117 : decode cX6_begins 117 = .ok (.iastore, 1) := by decide +kernel
theorem dX6_begins_118 : decode cX6_begins 118 = .ok (.aload_n 0, 1) := by decide +kernel
theorem dX6_begins_119 : decode cX6_begins 119 = .ok (.getfield 25, 3) := by decide +kernel
theorem dX6_begins_122 : decode cX6_begins 122 = .ok (.iload_n 1, 1) := by decide +kernel
theorem dX6_begins_123 : decode cX6_begins 123 = .ok (.aload_n 0, 1) := by decide +kernel
theorem dX6_begins_124 : decode cX6_begins 124 = .ok (.getfield 40, 3) := by decide +kernel
theorem dX6_begins_127 : decode cX6_begins 127 = .ok (.iconst 3, 1) := by decide +kernel
theorem dX6_begins_128 : decode cX6_begins 128 = .ok (.iload_n 1, 1) := by decide +kernel
theorem dX6_begins_129 : decode cX6_begins 129 = .ok (.imul, 1) := by decide +kernel
theorem dX6_begins_130 : decode cX6_begins 130 = .ok (.iconst 1, 1) := by decide +kernel
theorem dX6_begins_131 : decode cX6_begins 131 = .ok (.iadd, 1) := by decide +kernel
theorem dX6_begins_132 : decode cX6_begins 132 = .ok (.iaload, 1) := by decide +kernel
theorem dX6_begins_133 : decode cX6_begins 133 = .ok (.iastore, 1) := by decide +kernel
theorem dX6_begins_134 : decode cX6_begins 134 = .ok (.aload_n 0, 1) := by decide +kernel
theorem dX6_begins_135 : decode cX6_begins 135 = .ok (.getfield 28, 3) := by decide +kernel
theorem dX6_begins_138 : decode cX6_begins 138 = .ok (.iload_n 1, 1) := by decide +kernel
theorem dX6_begins_139 : decode cX6_begins 139 = .ok (.aload_n 0, 1) := by decide +kernel
theorem dX6_begins_140 : decode cX6_begins 140 = .ok (.getfield 40, 3) := by decide +kernel
theorem dX6_begins_143 : decode cX6_begins 143 = .ok (.iconst 3, 1) := by decide +kernel
theorem dX6_begins_144 : decode cX6_begins 144 = .ok (.iload_n 1, 1) := by decide +kernel
theorem dX6_begins_145 : decode cX6_begins 145 = .ok (.imul, 1) := by decide +kernel
theorem dX6_begins_146 : decode cX6_begins 146 = .ok (.iconst 2, 1) := by decide +kernel
theorem dX6_begins_147 : decode cX6_begins 147 = .ok (.iadd, 1) := by decide +kernel
theorem dX6_begins_148 : decode cX6_begins 148 = .ok (.iaload, 1) := by decide +kernel
theorem dX6_begins_149 : decode cX6_begins 149 = .ok (.iastore, 1) := by decide +kernel
theorem dX6_begins_150 : decode cX6_begins 150 = .ok (.aload_n 0, 1) := by decide +kernel
theorem dX6_begins_151 : decode cX6_begins 151 = .ok (.getfield 31, 3) := by decide +kernel
theorem dX6_begins_154 : decode cX6_begins 154 = .ok (.iload_n 1, 1) := by decide +kernel
theorem dX6_begins_155 : decode cX6_begins 155 = .ok (.aload_n 0, 1) := by decide +kernel
theorem dX6_begins_156 : decode cX6_begins 156 = .ok (.getfield 43, 3) := by decide +kernel
theorem dX6_begins_159 : decode cX6_begins 159 = .ok (.iload_n 1, 1) := by decide +kernel
theorem dX6_begins_160 : decode cX6_begins 160 = .ok (.iaload, 1) := by decide +kernel
theorem dX6_begins_161 : decode cX6_begins 161 = .ok (.iastore, 1) := by decide +kernel
theorem dX6_begins_162 : decode cX6_begins 162 = .ok (.iinc 1 1, 3) := by decide +kernel
theorem dX6_begins_165 : decode cX6_begins 165 = .ok (.goto (-69), 3) := by decide +kernel
theorem dX6_begins_168 : decode cX6_begins 168 = .ok (.aload_n 0, 1) := by decide +kernel
theorem dX6_begins_169 : decode cX6_begins 169 = .ok (.getfield 7, 3) := by decide +kernel
theorem dX6_begins_172 : decode cX6_begins 172 = .ok (.iconst 0, 1) := by decide +kernel
theorem dX6_begins_173 : decode cX6_begins 173 = .ok (.iconst 0, 1) := by decide +kernel
theorem dX6_begins_174 : decode cX6_begins 174 = .ok (.iastore, 1) := by decide +kernel
theorem dX6_begins_175 : decode cX6_begins 175 = .ok (.aload_n 0, 1) := by decide +kernel
theorem dX6_begins_176 : decode cX6_begins 176 = .ok (.getfield 7, 3) := by decide +kernel
theorem dX6_begins_179 : decode cX6_begins 179 = .ok (.iconst 1, 1) := by decide +kernel
theorem dX6_begins_180 : decode cX6_begins 180 = .ok (.aload_n 0, 1) := by decide +kernel
theorem dX6_begins_181 : decode cX6_begins 181 = .ok (.getfield 94, 3) := by decide +kernel
theorem dX6_begins_184 : decode cX6_begins 184 = .ok (.iastore, 1) := by decide +kernel
theorem dX6_begins_185 : decode cX6_begins 185 = .ok (.aload_n 0, 1) := by decide +kernel
theorem dX6_begins_186 : decode cX6_begins 186 = .ok (.getfield 7, 3) := by decide +kernel
theorem dX6_begins_189 : decode cX6_begins 189 = .ok (.iconst 2, 1) := by decide +kernel
theorem dX6_begins_190 : decode cX6_begins 190 = .ok (.iconst 0, 1) := by decide +kernel
theorem dX6_begins_191 : decode cX6_begins 191 = .ok (.iastore, 1) := by decide +kernel
theorem dX6_begins_192 : decode cX6_begins 192 = .ok (.aload_n 0, 1) := by decide +kernel
theorem dX6_begins_193 : decode cX6_begins 193 = .ok (.getfield 7, 3) := by decide +kernel
theorem dX6_begins_196 : decode cX6_begins 196 = .ok (.iconst 3, 1) := by decide +kernel
theorem dX6_begins_197 : decode cX6_begins 197 = .ok (.iconst 0, 1) := by decide +kernel
theorem dX6_begins_198 : decode cX6_begins 198 = .ok (.iastore, 1) := by decide +kernel
theorem dX6_begins_199 : decode cX6_begins 199 = .ok (.aload_n 0, 1) := by decide +kernel
theorem dX6_begins_200 : decode cX6_begins 200 = .ok (.iconst 0, 1) := by decide +kernel
theorem dX6_begins_201 : decode cX6_begins 201 = .ok (.putfield 97, 3) := by decide +kernel
theorem dX6_begins_204 : decode cX6_begins 204 = .ok (.aload_n 0, 1) := by decide +kernel
theorem dX6_begins_205 : decode cX6_begins 205 = .ok (.iconst 0, 1) := by decide +kernel
theorem dX6_begins_206 : decode cX6_begins 206 = .ok (.putfield 100, 3) := by decide +kernel
theorem dX6_begins_209 : decode cX6_begins 209 = .ok (.aload_n 0, 1) := by decide +kernel
theorem dX6_begins_210 : decode cX6_begins 210 = .ok (.invokevirtual 103, 3) := by decide +kernel
theorem dX6_begins_213 : decode cX6_begins 213 = .ok (.pop, 1) := by decide +kernel
theorem dX6_begins_214 : decode cX6_begins 214 = .ok (.return_, 1) := by decide +kernel
theorem dX6_write_0 : decode cX6_write 0 = .ok (.iload_n 1, 1) := by decide +kernel
theorem dX6_write_1 : decode cX6_write 1 = .ok (.i2l, 1) := by decide +kernel
theorem dX6_write_2 : decode cX6_write 2 = .ok (.ldc2_w 107, 3) := by decide +kernel
theorem dX6_write_5 : decode cX6_write 5 = .ok (.ldc2_w 109, 3) := by decide +kernel
theorem dX6_write_8 : decode cX6_write 8 = .ok (.invokestatic 78, 3) := by decide +kernel
theorem dX6_write_11 : decode cX6_write 11 = .ok (.ifCond .ne 5, 3) := by decide +kernel
theorem dX6_write_14 : decode cX6_write 14 = .ok (.iconst (-1), 1) := by decide +kernel
theorem dX6_write_15 : decode cX6_write 15 = .ok (.ireturn, 1) := by decide +kernel
theorem dX6_write_16 : decode cX6_write 16 = .ok (.aload_n 0, 1) := by decide +kernel
theorem dX6_write_17 : decode cX6_write 17 = .ok (.getfield 111, 3) := by decide +kernel
theorem dX6_write_20 : decode cX6_write 20 = .ok (.sipush 200, 3) := by decide +kernel
theorem dX6_write_23 : decode cX6_write 23 = .ok (.if_icmp .ne 6, 3) := by decide +kernel
theorem dX6_write_26 : decode cX6_write 26 = .ok (.bipush (-3), 2) := by decide +kernel
theorem dX6_write_28 : decode cX6_write 28 = .ok (.ireturn, 1) := by decide +kernel
theorem dX6_write_29 : decode cX6_write 29 = .ok (.aload_n 0, 1) := by decide +kernel
theorem dX6_write_30 : decode cX6_write 30 = .ok (.getfield 34, 3) := by decide +kernel
theorem dX6_write_33 : decode cX6_write 33 = .ok (.aload_n 0, 1) := by decide +kernel
theorem dX6_write_34 : decode cX6_write 34 = .ok (.getfield 111, 3) := by decide +kernel
theorem dX6_write_37 : decode cX6_write 37 = .ok (.iload_n 1, 1) := by decide +kernel
theorem dX6_write_38 : decode cX6_write 38 = .ok (.iastore, 1) := by decide +kernel
theorem dX6_write_39 : decode cX6_write 39 = .ok (.aload_n 0, 1) := by decide +kernel
theorem dX6_write_40 : decode cX6_write 40 = .ok (.dup, 1) := by decide +kernel
theorem dX6_write_41 : decode cX6_write 41 = .ok (.getfield 111, 3) := by decide +kernel
theorem dX6_write_44 : decode cX6_write 44 = .ok (.iconst 1, 1) := by decide +kernel
theorem dX6_write_45 : decode cX6_write 45 = .ok (.iadd, 1) := by decide +kernel
theorem dX6_write_46 : decode cX6_write 46 = .ok (.putfield 111, 3) := by decide +kernel
theorem dX6_write_49 : decode cX6_write 49 = .ok (.aload_n 0, 1) := by decide +kernel
theorem dX6_write_50 : decode cX6_write 50 = .ok (.getfield 111, 3) := by decide +kernel
theorem dX6_write_53 : decode cX6_write 53 = .ok (.ireturn, 1) := by decide +kernel
theorem dX6_wipe_0 : decode cX6_wipe 0 = .ok (.aload_n 0, 1) := by decide +kernel
theorem dX6_wipe_1 : decode cX6_wipe 1 = .ok (.getfield 111, 3) := by decide +kernel
theorem dX6_wipe_4 : decode cX6_wipe 4 = .ok (.istore_n 1, 1) := by decide +kernel
theorem dX6_wipe_5 : decode cX6_wipe 5 = .ok (.aload_n 0, 1) := by decide +kernel
theorem dX6_wipe_6 : decode cX6_wipe 6 = .ok (.iconst 0, 1) := by decide +kernel
theorem dX6_wipe_7 : decode cX6_wipe 7 = .ok (.putfield 111, 3) := by decide +kernel
theorem dX6_wipe_10 : decode cX6_wipe 10 = .ok (.iload_n 1, 1) := by decide +kernel
theorem dX6_wipe_11 : decode cX6_wipe 11 = .ok (.ireturn, 1) := by decide +kernel
theorem dX6_letterAt_0 : decode cX6_letterAt 0 = .ok (.iload_n 1, 1) := by decide +kernel
theorem dX6_letterAt_1 : decode cX6_letterAt 1 = .ok (.aload_n 0, 1) := by decide +kernel
theorem dX6_letterAt_2 : decode cX6_letterAt 2 = .ok (.getfield 111, 3) := by decide +kernel
theorem dX6_letterAt_5 : decode cX6_letterAt 5 = .ok (.if_icmp .ge 12, 3) := by decide +kernel
theorem dX6_letterAt_8 : decode cX6_letterAt 8 = .ok (.aload_n 0, 1) := by decide +kernel
theorem dX6_letterAt_9 : decode cX6_letterAt 9 = .ok (.getfield 34, 3) := by decide +kernel
theorem dX6_letterAt_12 : decode cX6_letterAt 12 = .ok (.iload_n 1, 1) := by decide +kernel
theorem dX6_letterAt_13 : decode cX6_letterAt 13 = .ok (.iaload, 1) := by decide +kernel
theorem dX6_letterAt_14 : decode cX6_letterAt 14 = .ok (.goto 4, 3) := by decide +kernel
theorem dX6_letterAt_17 : decode cX6_letterAt 17 = .ok (.iconst (-1), 1) := by decide +kernel
theorem dX6_letterAt_18 : decode cX6_letterAt 18 = .ok (.ireturn, 1) := by decide +kernel
theorem dX6_takesNumber_0 : decode cX6_takesNumber 0 = .ok (.aload_n 0, 1) := by decide +kernel
theorem dX6_takesNumber_1 : decode cX6_takesNumber 1 = .ok (.getfield 114, 3) := by decide +kernel
theorem dX6_takesNumber_4 : decode cX6_takesNumber 4 = .ok (.istore 4, 2) := by decide +kernel
theorem dX6_takesNumber_6 : decode cX6_takesNumber 6 = .ok (.aload_n 0, 1) := by decide +kernel
theorem dX6_takesNumber_7 : decode cX6_takesNumber 7 = .ok (.iconst 0, 1) := by decide +kernel
theorem dX6_takesNumber_8 : decode cX6_takesNumber 8 = .ok (.putfield 117, 3) := by decide +kernel
theorem dX6_takesNumber_11 : decode cX6_takesNumber 11 = .ok (.aload_n 0, 1) := by decide +kernel
theorem dX6_takesNumber_12 : decode cX6_takesNumber 12 = .ok (.getfield 114, 3) := by decide +kernel
theorem dX6_takesNumber_15 : decode cX6_takesNumber 15 = .ok (.iload 4, 2) := by decide +kernel
theorem dX6_takesNumber_17 : decode cX6_takesNumber 17 = .ok (.isub, 1) := by decide +kernel
theorem dX6_takesNumber_18 : decode cX6_takesNumber 18 = .ok (.iconst 2, 1) := by decide +kernel
theorem dX6_takesNumber_19 : decode cX6_takesNumber 19 = .ok (.if_icmp .ge 60, 3) := by decide +kernel
theorem dX6_takesNumber_22 : decode cX6_takesNumber 22 = .ok (.aload_n 0, 1) := by decide +kernel
theorem dX6_takesNumber_23 : decode cX6_takesNumber 23 = .ok (.aload_n 0, 1) := by decide +kernel
theorem dX6_takesNumber_24 : decode cX6_takesNumber 24 = .ok (.getfield 114, 3) := by decide +kernel
theorem dX6_takesNumber_27 : decode cX6_takesNumber 27 = .ok (.invokevirtual 120, 3) := by decide +kernel
theorem dX6_takesNumber_30 : decode cX6_takesNumber 30 = .ok (.i2l, 1) := by decide +kernel
theorem dX6_takesNumber_31 : decode cX6_takesNumber 31 = .ok (.ldc2_w 124, 3) := by decide +kernel
theorem dX6_takesNumber_34 : decode cX6_takesNumber 34 = .ok (.ldc2_w 126, 3) := by decide +kernel
theorem dX6_takesNumber_37 : decode cX6_takesNumber 37 = .ok (.invokestatic 78, 3) := by decide +kernel
theorem dX6_takesNumber_40 : decode cX6_takesNumber 40 = .ok (.ifCond .eq 39, 3) := by decide +kernel
theorem dX6_takesNumber_43 : decode cX6_takesNumber 43 = .ok (.aload_n 0, 1) := by decide +kernel
theorem dX6_takesNumber_44 : decode cX6_takesNumber 44 = .ok (.bipush 10, 2) := by decide +kernel
theorem dX6_takesNumber_46 : decode cX6_takesNumber 46 = .ok (.aload_n 0, 1) := by decide +kernel
theorem dX6_takesNumber_47 : decode cX6_takesNumber 47 = .ok (.getfield 117, 3) := by decide +kernel
theorem dX6_takesNumber_50 : decode cX6_takesNumber 50 = .ok (.imul, 1) := by decide +kernel
theorem dX6_takesNumber_51 : decode cX6_takesNumber 51 = .ok (.aload_n 0, 1) := by decide +kernel
theorem dX6_takesNumber_52 : decode cX6_takesNumber 52 = .ok (.aload_n 0, 1) := by decide +kernel
theorem dX6_takesNumber_53 : decode cX6_takesNumber 53 = .ok (.getfield 114, 3) := by decide +kernel
theorem dX6_takesNumber_56 : decode cX6_takesNumber 56 = .ok (.invokevirtual 120, 3) := by decide +kernel
theorem dX6_takesNumber_59 : decode cX6_takesNumber 59 = .ok (.iadd, 1) := by decide +kernel
theorem dX6_takesNumber_60 : decode cX6_takesNumber 60 = .ok (.bipush 48, 2) := by decide +kernel
theorem dX6_takesNumber_62 : decode cX6_takesNumber 62 = .ok (.isub, 1) := by decide +kernel
theorem dX6_takesNumber_63 : decode cX6_takesNumber 63 = .ok (.putfield 117, 3) := by decide +kernel
theorem dX6_takesNumber_66 : decode cX6_takesNumber 66 = .ok (.aload_n 0, 1) := by decide +kernel
theorem dX6_takesNumber_67 : decode cX6_takesNumber 67 = .ok (.dup, 1) := by decide +kernel
theorem dX6_takesNumber_68 : decode cX6_takesNumber 68 = .ok (.getfield 114, 3) := by decide +kernel
theorem dX6_takesNumber_71 : decode cX6_takesNumber 71 = .ok (.iconst 1, 1) := by decide +kernel
theorem dX6_takesNumber_72 : decode cX6_takesNumber 72 = .ok (.iadd, 1) := by decide +kernel
theorem dX6_takesNumber_73 : decode cX6_takesNumber 73 = .ok (.putfield 114, 3) := by decide +kernel
theorem dX6_takesNumber_76 : decode cX6_takesNumber 76 = .ok (.goto (-65), 3) := by decide +kernel
theorem dX6_takesNumber_79 : decode cX6_takesNumber 79 = .ok (.aload_n 0, 1) := by decide +kernel
theorem dX6_takesNumber_80 : decode cX6_takesNumber 80 = .ok (.getfield 114, 3) := by decide +kernel
theorem dX6_takesNumber_83 : decode cX6_takesNumber 83 = .ok (.iload 4, 2) := by decide +kernel
theorem dX6_takesNumber_85 : decode cX6_takesNumber 85 = .ok (.if_icmp .eq 30, 3) := by decide +kernel
theorem dX6_takesNumber_88 : decode cX6_takesNumber 88 = .ok (.aload_n 0, 1) := by decide +kernel
theorem dX6_takesNumber_89 : decode cX6_takesNumber 89 = .ok (.getfield 117, 3) := by decide +kernel
theorem dX6_takesNumber_92 : decode cX6_takesNumber 92 = .ok (.i2l, 1) := by decide +kernel
theorem dX6_takesNumber_93 : decode cX6_takesNumber 93 = .ok (.iload_n 1, 1) := by decide +kernel
theorem dX6_takesNumber_94 : decode cX6_takesNumber 94 = .ok (.i2l, 1) := by decide +kernel
theorem dX6_takesNumber_95 : decode cX6_takesNumber 95 = .ok (.iload_n 2, 1) := by decide +kernel
theorem dX6_takesNumber_96 : decode cX6_takesNumber 96 = .ok (.i2l, 1) := by decide +kernel
theorem dX6_takesNumber_97 : decode cX6_takesNumber 97 = .ok (.invokestatic 78, 3) := by decide +kernel
theorem dX6_takesNumber_100 : decode cX6_takesNumber 100 = .ok (.ifCond .eq 15, 3) := by decide +kernel
theorem dX6_takesNumber_103 : decode cX6_takesNumber 103 = .ok (.aload_n 0, 1) := by decide +kernel
theorem dX6_takesNumber_104 : decode cX6_takesNumber 104 = .ok (.aload_n 0, 1) := by decide +kernel
theorem dX6_takesNumber_105 : decode cX6_takesNumber 105 = .ok (.getfield 114, 3) := by decide +kernel
theorem dX6_takesNumber_108 : decode cX6_takesNumber 108 = .ok (.invokevirtual 120, 3) := by decide +kernel
theorem dX6_takesNumber_111 : decode cX6_takesNumber 111 = .ok (.iload_n 3, 1) := by decide +kernel
theorem dX6_takesNumber_112 : decode cX6_takesNumber 112 = .ok (.if_icmp .eq 5, 3) := by decide +kernel
theorem dX6_takesNumber_115 : decode cX6_takesNumber 115 = .ok (.iconst 0, 1) := by decide +kernel
theorem dX6_takesNumber_116 : decode cX6_takesNumber 116 = .ok (.ireturn, 1) := by decide +kernel
theorem dX6_takesNumber_117 : decode cX6_takesNumber 117 = .ok (.aload_n 0, 1) := by decide +kernel
theorem dX6_takesNumber_118 : decode cX6_takesNumber 118 = .ok (.dup, 1) := by decide +kernel
theorem dX6_takesNumber_119 : decode cX6_takesNumber 119 = .ok (.getfield 114, 3) := by decide +kernel
theorem dX6_takesNumber_122 : decode cX6_takesNumber 122 = .ok (.iconst 1, 1) := by decide +kernel
theorem dX6_takesNumber_123 : decode cX6_takesNumber 123 = .ok (.iadd, 1) := by decide +kernel
theorem dX6_takesNumber_124 : decode cX6_takesNumber 124 = .ok (.putfield 114, 3) := by decide +kernel
theorem dX6_takesNumber_127 : decode cX6_takesNumber 127 = .ok (.iconst 1, 1) := by decide +kernel
theorem dX6_takesNumber_128 : decode cX6_takesNumber 128 = .ok (.ireturn, 1) := by decide +kernel
theorem dX6_takesRoom_0 : decode cX6_takesRoom 0 = .ok (.aload_n 0, 1) := by decide +kernel
theorem dX6_takesRoom_1 : decode cX6_takesRoom 1 = .ok (.iconst 1, 1) := by decide +kernel
theorem dX6_takesRoom_2 : decode cX6_takesRoom 2 = .ok (.bipush 99, 2) := by decide +kernel
theorem dX6_takesRoom_4 : decode cX6_takesRoom 4 = .ok (.bipush 44, 2) := by decide +kernel
theorem dX6_takesRoom_6 : decode cX6_takesRoom 6 = .ok (.invokevirtual 128, 3) := by decide +kernel
theorem dX6_takesRoom_9 : decode cX6_takesRoom 9 = .ok (.ifCond .ne 5, 3) := by decide +kernel
theorem dX6_takesRoom_12 : decode cX6_takesRoom 12 = .ok (.iconst 0, 1) := by decide +kernel
theorem dX6_takesRoom_13 : decode cX6_takesRoom 13 = .ok (.ireturn, 1) := by decide +kernel
theorem dX6_takesRoom_14 : decode cX6_takesRoom 14 = .ok (.aload_n 0, 1) := by decide +kernel
theorem dX6_takesRoom_15 : decode cX6_takesRoom 15 = .ok (.getfield 117, 3) := by decide +kernel
theorem dX6_takesRoom_18 : decode cX6_takesRoom 18 = .ok (.istore_n 1, 1) := by decide +kernel
theorem dX6_takesRoom_19 : decode cX6_takesRoom 19 = .ok (.aload_n 0, 1) := by decide +kernel
theorem dX6_takesRoom_20 : decode cX6_takesRoom 20 = .ok (.iconst 0, 1) := by decide +kernel
theorem dX6_takesRoom_21 : decode cX6_takesRoom 21 = .ok (.bipush 20, 2) := by decide +kernel
theorem dX6_takesRoom_23 : decode cX6_takesRoom 23 = .ok (.bipush 59, 2) := by decide +kernel
theorem dX6_takesRoom_25 : decode cX6_takesRoom 25 = .ok (.invokevirtual 128, 3) := by decide +kernel
theorem dX6_takesRoom_28 : decode cX6_takesRoom 28 = .ok (.ifCond .ne 5, 3) := by decide +kernel
theorem dX6_takesRoom_31 : decode cX6_takesRoom 31 = .ok (.iconst 0, 1) := by decide +kernel
theorem dX6_takesRoom_32 : decode cX6_takesRoom 32 = .ok (.ireturn, 1) := by decide +kernel
theorem dX6_takesRoom_33 : decode cX6_takesRoom 33 = .ok (.aload_n 0, 1) := by decide +kernel
theorem dX6_takesRoom_34 : decode cX6_takesRoom 34 = .ok (.iload_n 1, 1) := by decide +kernel
theorem dX6_takesRoom_35 : decode cX6_takesRoom 35 = .ok (.putfield 58, 3) := by decide +kernel
theorem dX6_takesRoom_38 : decode cX6_takesRoom 38 = .ok (.aload_n 0, 1) := by decide +kernel
theorem dX6_takesRoom_39 : decode cX6_takesRoom 39 = .ok (.aload_n 0, 1) := by decide +kernel
theorem dX6_takesRoom_40 : decode cX6_takesRoom 40 = .ok (.getfield 117, 3) := by decide +kernel
theorem dX6_takesRoom_43 : decode cX6_takesRoom 43 = .ok (.putfield 62, 3) := by decide +kernel
theorem dX6_takesRoom_46 : decode cX6_takesRoom 46 = .ok (.iconst 1, 1) := by decide +kernel
theorem dX6_takesRoom_47 : decode cX6_takesRoom 47 = .ok (.ireturn, 1) := by decide +kernel
theorem dX6_takesThing_0 : decode cX6_takesThing 0 = .ok (.aload_n 0, 1) := by decide +kernel
theorem dX6_takesThing_1 : decode cX6_takesThing 1 = .ok (.getfield 85, 3) := by decide +kernel
theorem dX6_takesThing_4 : decode cX6_takesThing 4 = .ok (.bipush 8, 2) := by decide +kernel
theorem dX6_takesThing_6 : decode cX6_takesThing 6 = .ok (.if_icmp .eq 14, 3) := by decide +kernel
theorem dX6_takesThing_9 : decode cX6_takesThing 9 = .ok (.aload_n 0, 1) := by decide +kernel
theorem dX6_takesThing_10 : decode cX6_takesThing 10 = .ok (.iconst 0, 1) := by decide +kernel
theorem dX6_takesThing_11 : decode cX6_takesThing 11 = .ok (.iconst 3, 1) := by decide +kernel
theorem dX6_takesThing_12 : decode cX6_takesThing 12 = .ok (.bipush 44, 2) := by decide +kernel
theorem dX6_takesThing_14 : decode cX6_takesThing 14 = .ok (.invokevirtual 128, 3) := by decide +kernel
theorem dX6_takesThing_17 : decode cX6_takesThing 17 = .ok (.ifCond .ne 5, 3) := by decide +kernel
theorem dX6_takesThing_20 : decode cX6_takesThing 20 = .ok (.iconst 0, 1) := by decide +kernel
theorem dX6_takesThing_21 : decode cX6_takesThing 21 = .ok (.ireturn, 1) := by decide +kernel
theorem dX6_takesThing_22 : decode cX6_takesThing 22 = .ok (.aload_n 0, 1) := by decide +kernel
theorem dX6_takesThing_23 : decode cX6_takesThing 23 = .ok (.getfield 117, 3) := by decide +kernel
theorem dX6_takesThing_26 : decode cX6_takesThing 26 = .ok (.istore_n 1, 1) := by decide +kernel
theorem dX6_takesThing_27 : decode cX6_takesThing 27 = .ok (.aload_n 0, 1) := by decide +kernel
theorem dX6_takesThing_28 : decode cX6_takesThing 28 = .ok (.iconst 1, 1) := by decide +kernel
theorem dX6_takesThing_29 : decode cX6_takesThing 29 = .ok (.bipush 20, 2) := by decide +kernel
theorem dX6_takesThing_31 : decode cX6_takesThing 31 = .ok (.bipush 44, 2) := by decide +kernel
theorem dX6_takesThing_33 : decode cX6_takesThing 33 = .ok (.invokevirtual 128, 3) := by decide +kernel
theorem dX6_takesThing_36 : decode cX6_takesThing 36 = .ok (.ifCond .ne 5, 3) := by decide +kernel
theorem dX6_takesThing_39 : decode cX6_takesThing 39 = .ok (.iconst 0, 1) := by decide +kernel
theorem dX6_takesThing_40 : decode cX6_takesThing 40 = .ok (.ireturn, 1) := by decide +kernel
theorem dX6_takesThing_41 : decode cX6_takesThing 41 = .ok (.aload_n 0, 1) := by decide +kernel
theorem dX6_takesThing_42 : decode cX6_takesThing 42 = .ok (.getfield 117, 3) := by decide +kernel
theorem dX6_takesThing_45 : decode cX6_takesThing 45 = .ok (.istore_n 2, 1) := by decide +kernel
theorem dX6_takesThing_46 : decode cX6_takesThing 46 = .ok (.aload_n 0, 1) := by decide +kernel
theorem dX6_takesThing_47 : decode cX6_takesThing 47 = .ok (.iconst 0, 1) := by decide +kernel
theorem dX6_takesThing_48 : decode cX6_takesThing 48 = .ok (.bipush 20, 2) := by decide +kernel
theorem dX6_takesThing_50 : decode cX6_takesThing 50 = .ok (.bipush 59, 2) := by decide +kernel
theorem dX6_takesThing_52 : decode cX6_takesThing 52 = .ok (.invokevirtual 128, 3) := by decide +kernel
theorem dX6_takesThing_55 : decode cX6_takesThing 55 = .ok (.ifCond .ne 5, 3) := by decide +kernel
theorem dX6_takesThing_58 : decode cX6_takesThing 58 = .ok (.iconst 0, 1) := by decide +kernel
theorem dX6_takesThing_59 : decode cX6_takesThing 59 = .ok (.ireturn, 1) := by decide +kernel
theorem dX6_takesThing_60 : decode cX6_takesThing 60 = .ok (.aload_n 0, 1) := by decide +kernel
theorem dX6_takesThing_61 : decode cX6_takesThing 61 = .ok (.iload_n 1, 1) := by decide +kernel
theorem dX6_takesThing_62 : decode cX6_takesThing 62 = .ok (.iload_n 2, 1) := by decide +kernel
theorem dX6_takesThing_63 : decode cX6_takesThing 63 = .ok (.aload_n 0, 1) := by decide +kernel
theorem dX6_takesThing_64 : decode cX6_takesThing 64 = .ok (.getfield 117, 3) := by decide +kernel
theorem dX6_takesThing_67 : decode cX6_takesThing 67 = .ok (.invokevirtual 65, 3) := by decide +kernel
theorem dX6_takesThing_70 : decode cX6_takesThing 70 = .ok (.iconst 1, 1) := by decide +kernel
theorem dX6_takesThing_71 : decode cX6_takesThing 71 = .ok (.ireturn, 1) := by decide +kernel
theorem dX6_takesLife_0 : decode cX6_takesLife 0 = .ok (.aload_n 0, 1) := by decide +kernel
theorem dX6_takesLife_1 : decode cX6_takesLife 1 = .ok (.getfield 88, 3) := by decide +kernel
theorem dX6_takesLife_4 : decode cX6_takesLife 4 = .ok (.bipush 6, 2) := by decide +kernel
theorem dX6_takesLife_6 : decode cX6_takesLife 6 = .ok (.if_icmp .eq 15, 3) := by decide +kernel
theorem dX6_takesLife_9 : decode cX6_takesLife 9 = .ok (.aload_n 0, 1) := by decide +kernel
theorem dX6_takesLife_10 : decode cX6_takesLife 10 = .ok (.iconst 0, 1) := by decide +kernel
theorem dX6_takesLife_11 : decode cX6_takesLife 11 = .ok (.bipush 9, 2) := by decide +kernel
theorem dX6_takesLife_13 : decode cX6_takesLife 13 = .ok (.bipush 44, 2) := by decide +kernel
theorem dX6_takesLife_15 : decode cX6_takesLife 15 = .ok (.invokevirtual 128, 3) := by decide +kernel
theorem dX6_takesLife_18 : decode cX6_takesLife 18 = .ok (.ifCond .ne 5, 3) := by decide +kernel
theorem dX6_takesLife_21 : decode cX6_takesLife 21 = .ok (.iconst 0, 1) := by decide +kernel
theorem dX6_takesLife_22 : decode cX6_takesLife 22 = .ok (.ireturn, 1) := by decide +kernel
theorem dX6_takesLife_23 : decode cX6_takesLife 23 = .ok (.aload_n 0, 1) := by decide +kernel
theorem dX6_takesLife_24 : decode cX6_takesLife 24 = .ok (.getfield 117, 3) := by decide +kernel
theorem dX6_takesLife_27 : decode cX6_takesLife 27 = .ok (.istore_n 1, 1) := by decide +kernel
theorem dX6_takesLife_28 : decode cX6_takesLife 28 = .ok (.aload_n 0, 1) := by decide +kernel
theorem dX6_takesLife_29 : decode cX6_takesLife 29 = .ok (.iconst 0, 1) := by decide +kernel
theorem dX6_takesLife_30 : decode cX6_takesLife 30 = .ok (.bipush 60, 2) := by decide +kernel
theorem dX6_takesLife_32 : decode cX6_takesLife 32 = .ok (.bipush 44, 2) := by decide +kernel
theorem dX6_takesLife_34 : decode cX6_takesLife 34 = .ok (.invokevirtual 128, 3) := by decide +kernel
theorem dX6_takesLife_37 : decode cX6_takesLife 37 = .ok (.ifCond .ne 5, 3) := by decide +kernel
theorem dX6_takesLife_40 : decode cX6_takesLife 40 = .ok (.iconst 0, 1) := by decide +kernel
theorem dX6_takesLife_41 : decode cX6_takesLife 41 = .ok (.ireturn, 1) := by decide +kernel
theorem dX6_takesLife_42 : decode cX6_takesLife 42 = .ok (.aload_n 0, 1) := by decide +kernel
theorem dX6_takesLife_43 : decode cX6_takesLife 43 = .ok (.getfield 117, 3) := by decide +kernel
theorem dX6_takesLife_46 : decode cX6_takesLife 46 = .ok (.istore_n 2, 1) := by decide +kernel
theorem dX6_takesLife_47 : decode cX6_takesLife 47 = .ok (.aload_n 0, 1) := by decide +kernel
theorem dX6_takesLife_48 : decode cX6_takesLife 48 = .ok (.iconst 0, 1) := by decide +kernel
theorem dX6_takesLife_49 : decode cX6_takesLife 49 = .ok (.bipush 60, 2) := by decide +kernel
theorem dX6_takesLife_51 : decode cX6_takesLife 51 = .ok (.bipush 59, 2) := by decide +kernel
theorem dX6_takesLife_53 : decode cX6_takesLife 53 = .ok (.invokevirtual 128, 3) := by decide +kernel
theorem dX6_takesLife_56 : decode cX6_takesLife 56 = .ok (.ifCond .ne 5, 3) := by decide +kernel
theorem dX6_takesLife_59 : decode cX6_takesLife 59 = .ok (.iconst 0, 1) := by decide +kernel
theorem dX6_takesLife_60 : decode cX6_takesLife 60 = .ok (.ireturn, 1) := by decide +kernel
theorem dX6_takesLife_61 : decode cX6_takesLife 61 = .ok (.aload_n 0, 1) := by decide +kernel
theorem dX6_takesLife_62 : decode cX6_takesLife 62 = .ok (.iload_n 1, 1) := by decide +kernel
theorem dX6_takesLife_63 : decode cX6_takesLife 63 = .ok (.iload_n 2, 1) := by decide +kernel
theorem dX6_takesLife_64 : decode cX6_takesLife 64 = .ok (.aload_n 0, 1) := by decide +kernel
theorem dX6_takesLife_65 : decode cX6_takesLife 65 = .ok (.getfield 117, 3) := by decide +kernel
theorem dX6_takesLife_68 : decode cX6_takesLife 68 = .ok (.invokevirtual 69, 3) := by decide +kernel
theorem dX6_takesLife_71 : decode cX6_takesLife 71 = .ok (.iconst 1, 1) := by decide +kernel
theorem dX6_takesLife_72 : decode cX6_takesLife 72 = .ok (.ireturn, 1) := by decide +kernel
theorem dX6_takesNeed_0 : decode cX6_takesNeed 0 = .ok (.aload_n 0, 1) := by decide +kernel
theorem dX6_takesNeed_1 : decode cX6_takesNeed 1 = .ok (.iconst 0, 1) := by decide +kernel
theorem dX6_takesNeed_2 : decode cX6_takesNeed 2 = .ok (.aload_n 0, 1) := by decide +kernel
theorem dX6_takesNeed_3 : decode cX6_takesNeed 3 = .ok (.getfield 88, 3) := by decide +kernel
theorem dX6_takesNeed_6 : decode cX6_takesNeed 6 = .ok (.iconst 1, 1) := by decide +kernel
theorem dX6_takesNeed_7 : decode cX6_takesNeed 7 = .ok (.isub, 1) := by decide +kernel
theorem dX6_takesNeed_8 : decode cX6_takesNeed 8 = .ok (.bipush 44, 2) := by decide +kernel
theorem dX6_takesNeed_10 : decode cX6_takesNeed 10 = .ok (.invokevirtual 128, 3) := by decide +kernel
theorem dX6_takesNeed_13 : decode cX6_takesNeed 13 = .ok (.ifCond .ne 5, 3) := by decide +kernel
theorem dX6_takesNeed_16 : decode cX6_takesNeed 16 = .ok (.iconst 0, 1) := by decide +kernel
theorem dX6_takesNeed_17 : decode cX6_takesNeed 17 = .ok (.ireturn, 1) := by decide +kernel
theorem dX6_takesNeed_18 : decode cX6_takesNeed 18 = .ok (.aload_n 0, 1) := by decide +kernel
theorem dX6_takesNeed_19 : decode cX6_takesNeed 19 = .ok (.getfield 117, 3) := by decide +kernel
theorem dX6_takesNeed_22 : decode cX6_takesNeed 22 = .ok (.istore_n 1, 1) := by decide +kernel
theorem dX6_takesNeed_23 : decode cX6_takesNeed 23 = .ok (.aload_n 0, 1) := by decide +kernel
theorem dX6_takesNeed_24 : decode cX6_takesNeed 24 = .ok (.iconst 0, 1) := by decide +kernel
theorem dX6_takesNeed_25 : decode cX6_takesNeed 25 = .ok (.aload_n 0, 1) := by decide +kernel
theorem dX6_takesNeed_26 : decode cX6_takesNeed 26 = .ok (.getfield 85, 3) := by decide +kernel
theorem dX6_takesNeed_29 : decode cX6_takesNeed 29 = .ok (.iconst 1, 1) := by decide +kernel
theorem dX6_takesNeed_30 : decode cX6_takesNeed 30 = .ok (.isub, 1) := by decide +kernel
theorem dX6_takesNeed_31 : decode cX6_takesNeed 31 = .ok (.bipush 59, 2) := by decide +kernel
theorem dX6_takesNeed_33 : decode cX6_takesNeed 33 = .ok (.invokevirtual 128, 3) := by decide +kernel
theorem dX6_takesNeed_36 : decode cX6_takesNeed 36 = .ok (.ifCond .ne 5, 3) := by decide +kernel
theorem dX6_takesNeed_39 : decode cX6_takesNeed 39 = .ok (.iconst 0, 1) := by decide +kernel
theorem dX6_takesNeed_40 : decode cX6_takesNeed 40 = .ok (.ireturn, 1) := by decide +kernel
theorem dX6_takesNeed_41 : decode cX6_takesNeed 41 = .ok (.aload_n 0, 1) := by decide +kernel
theorem dX6_takesNeed_42 : decode cX6_takesNeed 42 = .ok (.getfield 43, 3) := by decide +kernel
theorem dX6_takesNeed_45 : decode cX6_takesNeed 45 = .ok (.iload_n 1, 1) := by decide +kernel
theorem dX6_takesNeed_46 : decode cX6_takesNeed 46 = .ok (.dup2, 1) := by decide +kernel
theorem dX6_takesNeed_47 : decode cX6_takesNeed 47 = .ok (.iaload, 1) := by decide +kernel
theorem dX6_takesNeed_48 : decode cX6_takesNeed 48 = .ok (.iconst 1, 1) := by decide +kernel
theorem dX6_takesNeed_49 : decode cX6_takesNeed 49 = .ok (.aload_n 0, 1) := by decide +kernel
theorem dX6_takesNeed_50 : decode cX6_takesNeed 50 = .ok (.getfield 117, 3) := by decide +kernel
theorem dX6_takesNeed_53 : decode cX6_takesNeed 53 = .ok (.ishl, 1) := by decide +kernel
theorem dX6_takesNeed_54 : decode cX6_takesNeed 54 = .ok (.ixor, 1) := by decide +kernel
theorem dX6_takesNeed_55 : decode cX6_takesNeed 55 = .ok (.iastore, 1) := by decide +kernel
theorem dX6_takesNeed_56 : decode cX6_takesNeed 56 = .ok (.iconst 1, 1) := by decide +kernel
theorem dX6_takesNeed_57 : decode cX6_takesNeed 57 = .ok (.ireturn, 1) := by decide +kernel
theorem dX6_takesItem_0 : decode cX6_takesItem 0 = .ok (.aload_n 0, 1) := by decide +kernel
theorem dX6_takesItem_1 : decode cX6_takesItem 1 = .ok (.aload_n 0, 1) := by decide +kernel
theorem dX6_takesItem_2 : decode cX6_takesItem 2 = .ok (.getfield 114, 3) := by decide +kernel
theorem dX6_takesItem_5 : decode cX6_takesItem 5 = .ok (.invokevirtual 120, 3) := by decide +kernel
theorem dX6_takesItem_8 : decode cX6_takesItem 8 = .ok (.istore_n 1, 1) := by decide +kernel
theorem dX6_takesItem_9 : decode cX6_takesItem 9 = .ok (.aload_n 0, 1) := by decide +kernel
theorem dX6_takesItem_10 : decode cX6_takesItem 10 = .ok (.dup, 1) := by decide +kernel
theorem dX6_takesItem_11 : decode cX6_takesItem 11 = .ok (.getfield 114, 3) := by decide +kernel
theorem dX6_takesItem_14 : decode cX6_takesItem 14 = .ok (.iconst 1, 1) := by decide +kernel
theorem dX6_takesItem_15 : decode cX6_takesItem 15 = .ok (.iadd, 1) := by decide +kernel
theorem dX6_takesItem_16 : decode cX6_takesItem 16 = .ok (.putfield 114, 3) := by decide +kernel
theorem dX6_takesItem_19 : decode cX6_takesItem 19 = .ok (.iload_n 1, 1) := by decide +kernel
theorem dX6_takesItem_20 : decode cX6_takesItem 20 = .ok (.bipush 114, 2) := by decide +kernel
theorem dX6_takesItem_22 : decode cX6_takesItem 22 = .ok (.if_icmp .ne 10, 3) := by decide +kernel
theorem dX6_takesItem_25 : decode cX6_takesItem 25 = .ok (.aload_n 0, 1) := by decide +kernel
theorem dX6_takesItem_26 : decode cX6_takesItem 26 = .ok (.invokevirtual 132, 3) := by decide +kernel
theorem dX6_takesItem_29 : decode cX6_takesItem 29 = .ok (.goto 47, 3) := by decide +kernel
theorem dX6_takesItem_32 : decode cX6_takesItem 32 = .ok (.iload_n 1, 1) := by decide +kernel
theorem dX6_takesItem_33 : decode cX6_takesItem 33 = .ok (.bipush 116, 2) := by decide +kernel
theorem dX6_takesItem_35 : decode cX6_takesItem 35 = .ok (.if_icmp .ne 10, 3) := by decide +kernel
theorem dX6_takesItem_38 : decode cX6_takesItem 38 = .ok (.aload_n 0, 1) := by decide +kernel
theorem dX6_takesItem_39 : decode cX6_takesItem 39 = .ok (.invokevirtual 136, 3) := by decide +kernel
theorem dX6_takesItem_42 : decode cX6_takesItem 42 = .ok (.goto 34, 3) := by decide +kernel
theorem dX6_takesItem_45 : decode cX6_takesItem 45 = .ok (.iload_n 1, 1) := by decide +kernel
theorem dX6_takesItem_46 : decode cX6_takesItem 46 = .ok (.bipush 108, 2) := by decide +kernel
theorem dX6_takesItem_48 : decode cX6_takesItem 48 = .ok (.if_icmp .ne 10, 3) := by decide +kernel
theorem dX6_takesItem_51 : decode cX6_takesItem 51 = .ok (.aload_n 0, 1) := by decide +kernel
theorem dX6_takesItem_52 : decode cX6_takesItem 52 = .ok (.invokevirtual 139, 3) := by decide +kernel
theorem dX6_takesItem_55 : decode cX6_takesItem 55 = .ok (.goto 21, 3) := by decide +kernel
theorem dX6_takesItem_58 : decode cX6_takesItem 58 = .ok (.iload_n 1, 1) := by decide +kernel
theorem dX6_takesItem_59 : decode cX6_takesItem 59 = .ok (.bipush 110, 2) := by decide +kernel
theorem dX6_takesItem_61 : decode cX6_takesItem 61 = .ok (.if_icmp .ne 14, 3) := by decide +kernel
theorem dX6_takesItem_64 : decode cX6_takesItem 64 = .ok (.aload_n 0, 1) := by decide +kernel
theorem dX6_takesItem_65 : decode cX6_takesItem 65 = .ok (.invokevirtual 142, 3) := by decide +kernel
theorem dX6_takesItem_68 : decode cX6_takesItem 68 = .ok (.ifCond .eq 7, 3) := by decide +kernel
theorem dX6_takesItem_71 : decode cX6_takesItem 71 = .ok (.iconst 1, 1) := by decide +kernel
theorem dX6_takesItem_72 : decode cX6_takesItem 72 = .ok (.goto 4, 3) := by decide +kernel
theorem dX6_takesItem_75 : decode cX6_takesItem 75 = .ok (.iconst 0, 1) := by decide +kernel
theorem dX6_takesItem_76 : decode cX6_takesItem 76 = .ok (.ireturn, 1) := by decide +kernel
theorem dX6_faultOf_0 : decode cX6_faultOf 0 = .ok (.aload_n 0, 1) := by decide +kernel
theorem dX6_faultOf_1 : decode cX6_faultOf 1 = .ok (.bipush 20, 2) := by decide +kernel
theorem dX6_faultOf_3 : decode cX6_faultOf 3 = .ok (.putfield 58, 3) := by decide +kernel
theorem dX6_faultOf_6 : decode cX6_faultOf 6 = .ok (.aload_n 0, 1) := by decide +kernel
theorem dX6_faultOf_7 : decode cX6_faultOf 7 = .ok (.iconst 5, 1) := by decide +kernel
theorem dX6_faultOf_8 : decode cX6_faultOf 8 = .ok (.putfield 62, 3) := by decide +kernel
theorem dX6_faultOf_11 : decode cX6_faultOf 11 = .ok (.aload_n 0, 1) := by decide +kernel
theorem dX6_faultOf_12 : decode cX6_faultOf 12 = .ok (.iconst 0, 1) := by decide +kernel
theorem dX6_faultOf_13 : decode cX6_faultOf 13 = .ok (.putfield 85, 3) := by decide +kernel
theorem dX6_faultOf_16 : decode cX6_faultOf 16 = .ok (.aload_n 0, 1) := by decide +kernel
theorem dX6_faultOf_17 : decode cX6_faultOf 17 = .ok (.iconst 0, 1) := by decide +kernel
theorem dX6_faultOf_18 : decode cX6_faultOf 18 = .ok (.putfield 88, 3) := by decide +kernel
theorem dX6_faultOf_21 : decode cX6_faultOf 21 = .ok (.aload_n 0, 1) := by decide +kernel
theorem dX6_faultOf_22 : decode cX6_faultOf 22 = .ok (.iconst 0, 1) := by decide +kernel
theorem dX6_faultOf_23 : decode cX6_faultOf 23 = .ok (.putfield 114, 3) := by decide +kernel
theorem dX6_faultOf_26 : decode cX6_faultOf 26 = .ok (.aload_n 0, 1) := by decide +kernel
theorem dX6_faultOf_27 : decode cX6_faultOf 27 = .ok (.getfield 114, 3) := by decide +kernel
theorem dX6_faultOf_30 : decode cX6_faultOf 30 = .ok (.aload_n 0, 1) := by decide +kernel
theorem dX6_faultOf_31 : decode cX6_faultOf 31 = .ok (.getfield 111, 3) := by decide +kernel
theorem dX6_faultOf_34 : decode cX6_faultOf 34 = .ok (.if_icmp .ge 20, 3) := by decide +kernel
theorem dX6_faultOf_37 : decode cX6_faultOf 37 = .ok (.aload_n 0, 1) := by decide +kernel
theorem dX6_faultOf_38 : decode cX6_faultOf 38 = .ok (.getfield 114, 3) := by decide +kernel
theorem dX6_faultOf_41 : decode cX6_faultOf 41 = .ok (.istore_n 1, 1) := by decide +kernel
theorem dX6_faultOf_42 : decode cX6_faultOf 42 = .ok (.aload_n 0, 1) := by decide +kernel
theorem dX6_faultOf_43 : decode cX6_faultOf 43 = .ok (.invokevirtual 145, 3) := by decide +kernel
theorem dX6_faultOf_46 : decode cX6_faultOf 46 = .ok (.ifCond .ne 5, 3) := by decide +kernel
theorem dX6_faultOf_49 : decode cX6_faultOf 49 = .ok (.iload_n 1, 1) := by decide +kernel
theorem dX6_faultOf_50 : decode cX6_faultOf 50 = .ok (.ireturn, 1) := by decide +kernel
theorem dX6_faultOf_51 : decode cX6_faultOf 51 = .ok (.goto (-25), 3) := by decide +kernel
theorem dX6_faultOf_54 : decode cX6_faultOf 54 = .ok (.bipush (-4), 2) := by decide +kernel
theorem dX6_faultOf_56 : decode cX6_faultOf 56 = .ok (.ireturn, 1) := by decide +kernel
theorem dX6_fault_0 : decode cX6_fault 0 = .ok (.aload_n 0, 1) := by decide +kernel
theorem dX6_fault_1 : decode cX6_fault 1 = .ok (.invokevirtual 148, 3) := by decide +kernel
theorem dX6_fault_4 : decode cX6_fault 4 = .ok (.ireturn, 1) := by decide +kernel
theorem dX6_lay_0 : decode cX6_lay 0 = .ok (.aload_n 0, 1) := by decide +kernel
theorem dX6_lay_1 : decode cX6_lay 1 = .ok (.invokevirtual 148, 3) := by decide +kernel
theorem dX6_lay_4 : decode cX6_lay 4 = .ok (.bipush (-4), 2) := by decide +kernel
theorem dX6_lay_6 : decode cX6_lay 6 = .ok (.if_icmp .ne 17, 3) := by decide +kernel
theorem dX6_lay_9 : decode cX6_lay 9 = .ok (.aload_n 0, 1) := by decide +kernel
theorem dX6_lay_10 : decode cX6_lay 10 = .ok (.getfield 88, 3) := by decide +kernel
theorem dX6_lay_13 : decode cX6_lay 13 = .ok (.ifCond .eq 10, 3) := by decide +kernel
theorem dX6_lay_16 : decode cX6_lay 16 = .ok (.aload_n 0, 1) := by decide +kernel
theorem dX6_lay_17 : decode cX6_lay 17 = .ok (.getfield 85, 3) := by decide +kernel
theorem dX6_lay_20 : decode cX6_lay 20 = .ok (.ifCond .ne 6, 3) := by decide +kernel
theorem dX6_lay_23 : decode cX6_lay 23 = .ok (.bipush (-2), 2) := by decide +kernel
theorem dX6_lay_25 : decode cX6_lay 25 = .ok (.ireturn, 1) := by decide +kernel
theorem dX6_lay_26 : decode cX6_lay 26 = .ok (.aload_n 0, 1) := by decide +kernel
theorem dX6_lay_27 : decode cX6_lay 27 = .ok (.invokevirtual 72, 3) := by decide +kernel
theorem dX6_lay_30 : decode cX6_lay 30 = .ok (.aload_n 0, 1) := by decide +kernel
theorem dX6_lay_31 : decode cX6_lay 31 = .ok (.getfield 82, 3) := by decide +kernel
theorem dX6_lay_34 : decode cX6_lay 34 = .ok (.ireturn, 1) := by decide +kernel
theorem dX6_roomOf_0 : decode cX6_roomOf 0 = .ok (.iconst 0, 1) := by decide +kernel
theorem dX6_roomOf_1 : decode cX6_roomOf 1 = .ok (.istore_n 2, 1) := by decide +kernel
theorem dX6_roomOf_2 : decode cX6_roomOf 2 = .ok (.iconst 0, 1) := by decide +kernel
theorem dX6_roomOf_3 : decode cX6_roomOf 3 = .ok (.istore_n 3, 1) := by decide +kernel
theorem dX6_roomOf_4 : decode cX6_roomOf 4 = .ok (.iload_n 3, 1) := by decide +kernel
theorem dX6_roomOf_5 : decode cX6_roomOf 5 = .ok (.aload_n 0, 1) := by decide +kernel
theorem dX6_roomOf_6 : decode cX6_roomOf 6 = .ok (.getfield 75, 3) := by decide +kernel
theorem dX6_roomOf_9 : decode cX6_roomOf 9 = .ok (.if_icmp .ge 35, 3) := by decide +kernel
theorem dX6_roomOf_12 : decode cX6_roomOf 12 = .ok (.iload_n 2, 1) := by decide +kernel
theorem dX6_roomOf_13 : decode cX6_roomOf 13 = .ok (.iload_n 1, 1) := by decide +kernel
theorem dX6_roomOf_14 : decode cX6_roomOf 14 = .ok (.iload_n 3, 1) := by decide +kernel
theorem dX6_roomOf_15 : decode cX6_roomOf 15 = .ok (.invokestatic 151, 3) := by decide +kernel
theorem dX6_roomOf_18 : decode cX6_roomOf 18 = .ok (.ifCond .eq 17, 3) := by decide +kernel
theorem dX6_roomOf_21 : decode cX6_roomOf 21 = .ok (.aload_n 0, 1) := by decide +kernel
theorem dX6_roomOf_22 : decode cX6_roomOf 22 = .ok (.getfield 13, 3) := by decide +kernel
theorem dX6_roomOf_25 : decode cX6_roomOf 25 = .ok (.iload_n 3, 1) := by decide +kernel
theorem dX6_roomOf_26 : decode cX6_roomOf 26 = .ok (.iaload, 1) := by decide +kernel
theorem dX6_roomOf_27 : decode cX6_roomOf 27 = .ok (.iconst 3, 1) := by decide +kernel
theorem dX6_roomOf_28 : decode cX6_roomOf 28 = .ok (.if_icmp .ne 7, 3) := by decide +kernel
theorem dX6_roomOf_31 : decode cX6_roomOf 31 = .ok (.iconst 1, 1) := by decide +kernel
theorem dX6_roomOf_32 : decode cX6_roomOf 32 = .ok (.goto 4, 3) := by decide +kernel
theorem dX6_roomOf_35 : decode cX6_roomOf 35 = .ok (.iconst 0, 1) := by decide +kernel
theorem dX6_roomOf_36 : decode cX6_roomOf 36 = .ok (.iadd, 1) := by decide +kernel
theorem dX6_roomOf_37 : decode cX6_roomOf 37 = .ok (.istore_n 2, 1) := by decide +kernel
theorem dX6_roomOf_38 : decode cX6_roomOf 38 = .ok (.iinc 3 1, 3) := by decide +kernel
theorem dX6_roomOf_41 : decode cX6_roomOf 41 = .ok (.goto (-37), 3) := by decide +kernel
theorem dX6_roomOf_44 : decode cX6_roomOf 44 = .ok (.iconst 0, 1) := by decide +kernel
theorem dX6_roomOf_45 : decode cX6_roomOf 45 = .ok (.istore_n 3, 1) := by decide +kernel
theorem dX6_roomOf_46 : decode cX6_roomOf 46 = .ok (.iconst 0, 1) := by decide +kernel
theorem dX6_roomOf_47 : decode cX6_roomOf 47 = .ok (.istore 4, 2) := by decide +kernel
theorem dX6_roomOf_49 : decode cX6_roomOf 49 = .ok (.iload 4, 2) := by decide +kernel
theorem dX6_roomOf_51 : decode cX6_roomOf 51 = .ok (.aload_n 0, 1) := by decide +kernel
theorem dX6_roomOf_52 : decode cX6_roomOf 52 = .ok (.getfield 75, 3) := by decide +kernel
theorem dX6_roomOf_55 : decode cX6_roomOf 55 = .ok (.if_icmp .ge 64, 3) := by decide +kernel
theorem dX6_roomOf_58 : decode cX6_roomOf 58 = .ok (.aload_n 0, 1) := by decide +kernel
theorem dX6_roomOf_59 : decode cX6_roomOf 59 = .ok (.getfield 13, 3) := by decide +kernel
theorem dX6_roomOf_62 : decode cX6_roomOf 62 = .ok (.iload 4, 2) := by decide +kernel
theorem dX6_roomOf_64 : decode cX6_roomOf 64 = .ok (.iaload, 1) := by decide +kernel
theorem dX6_roomOf_65 : decode cX6_roomOf 65 = .ok (.iconst 3, 1) := by decide +kernel
theorem dX6_roomOf_66 : decode cX6_roomOf 66 = .ok (.if_icmp .ne 20, 3) := by decide +kernel
theorem dX6_roomOf_69 : decode cX6_roomOf 69 = .ok (.iload_n 2, 1) := by decide +kernel
theorem dX6_roomOf_70 : decode cX6_roomOf 70 = .ok (.iconst 1, 1) := by decide +kernel
theorem dX6_roomOf_71 : decode cX6_roomOf 71 = .ok (.if_icmp .le 15, 3) := by decide +kernel
theorem dX6_roomOf_74 : decode cX6_roomOf 74 = .ok (.aload_n 0, 1) := by decide +kernel
theorem dX6_roomOf_75 : decode cX6_roomOf 75 = .ok (.getfield 16, 3) := by decide +kernel
theorem dX6_roomOf_78 : decode cX6_roomOf 78 = .ok (.iload 4, 2) := by decide +kernel
theorem dX6_roomOf_80 : decode cX6_roomOf 80 = .ok (.iaload, 1) := by decide +kernel
theorem dX6_roomOf_81 : decode cX6_roomOf 81 = .ok (.iconst 2, 1) := by decide +kernel
theorem dX6_roomOf_82 : decode cX6_roomOf 82 = .ok (.idiv, 1) := by decide +kernel
theorem dX6_roomOf_83 : decode cX6_roomOf 83 = .ok (.goto 10, 3) := by decide +kernel
theorem dX6_roomOf_86 : decode cX6_roomOf 86 = .ok (.aload_n 0, 1) := by decide +kernel
theorem dX6_roomOf_87 : decode cX6_roomOf 87 = .ok (.getfield 16, 3) := by decide +kernel
theorem dX6_roomOf_90 : decode cX6_roomOf 90 = .ok (.iload 4, 2) := by decide +kernel
theorem dX6_roomOf_92 : decode cX6_roomOf 92 = .ok (.iaload, 1) := by decide +kernel
theorem dX6_roomOf_93 : decode cX6_roomOf 93 = .ok (.istore 5, 2) := by decide +kernel
theorem dX6_roomOf_95 : decode cX6_roomOf 95 = .ok (.iload_n 3, 1) := by decide +kernel
theorem dX6_roomOf_96 : decode cX6_roomOf 96 = .ok (.iload_n 1, 1) := by decide +kernel
theorem dX6_roomOf_97 : decode cX6_roomOf 97 = .ok (.iload 4, 2) := by decide +kernel
theorem dX6_roomOf_99 : decode cX6_roomOf 99 = .ok (.invokestatic 151, 3) := by decide +kernel
theorem dX6_roomOf_102 : decode cX6_roomOf 102 = .ok (.ifCond .eq 8, 3) := by decide +kernel
theorem dX6_roomOf_105 : decode cX6_roomOf 105 = .ok (.iload 5, 2) := by decide +kernel
theorem dX6_roomOf_107 : decode cX6_roomOf 107 = .ok (.goto 4, 3) := by decide +kernel
theorem dX6_roomOf_110 : decode cX6_roomOf 110 = .ok (.iconst 0, 1) := by decide +kernel
theorem dX6_roomOf_111 : decode cX6_roomOf 111 = .ok (.iadd, 1) := by decide +kernel
theorem dX6_roomOf_112 : decode cX6_roomOf 112 = .ok (.istore_n 3, 1) := by decide +kernel
theorem dX6_roomOf_113 : decode cX6_roomOf 113 = .ok (.iinc 4 1, 3) := by decide +kernel
theorem dX6_roomOf_116 : decode cX6_roomOf 116 = .ok (.goto (-67), 3) := by decide +kernel
theorem dX6_roomOf_119 : decode cX6_roomOf 119 = .ok (.iload_n 3, 1) := by decide +kernel
theorem dX6_roomOf_120 : decode cX6_roomOf 120 = .ok (.ireturn, 1) := by decide +kernel
theorem dX6_canBy_0 : decode cX6_canBy 0 = .ok (.aload_n 0, 1) := by decide +kernel
theorem dX6_canBy_1 : decode cX6_canBy 1 = .ok (.getfield 31, 3) := by decide +kernel
theorem dX6_canBy_4 : decode cX6_canBy 4 = .ok (.iload_n 1, 1) := by decide +kernel
theorem dX6_canBy_5 : decode cX6_canBy 5 = .ok (.iaload, 1) := by decide +kernel
theorem dX6_canBy_6 : decode cX6_canBy 6 = .ok (.iload_n 2, 1) := by decide +kernel
theorem dX6_canBy_7 : decode cX6_canBy 7 = .ok (.iconst (-1), 1) := by decide +kernel
theorem dX6_canBy_8 : decode cX6_canBy 8 = .ok (.ixor, 1) := by decide +kernel
theorem dX6_canBy_9 : decode cX6_canBy 9 = .ok (.iand, 1) := by decide +kernel
theorem dX6_canBy_10 : decode cX6_canBy 10 = .ok (.invokestatic 155, 3) := by decide +kernel
theorem dX6_canBy_13 : decode cX6_canBy 13 = .ok (.istore_n 3, 1) := by decide +kernel
theorem dX6_canBy_14 : decode cX6_canBy 14 = .ok (.iconst 0, 1) := by decide +kernel
theorem dX6_canBy_15 : decode cX6_canBy 15 = .ok (.istore 4, 2) := by decide +kernel
theorem dX6_canBy_17 : decode cX6_canBy 17 = .ok (.iconst 0, 1) := by decide +kernel
theorem dX6_canBy_18 : decode cX6_canBy 18 = .ok (.istore 5, 2) := by decide +kernel
theorem dX6_canBy_20 : decode cX6_canBy 20 = .ok (.iload 5, 2) := by decide +kernel
theorem dX6_canBy_22 : decode cX6_canBy 22 = .ok (.aload_n 0, 1) := by decide +kernel
theorem dX6_canBy_23 : decode cX6_canBy 23 = .ok (.getfield 75, 3) := by decide +kernel
theorem dX6_canBy_26 : decode cX6_canBy 26 = .ok (.if_icmp .ge 55, 3) := by decide +kernel
theorem dX6_canBy_29 : decode cX6_canBy 29 = .ok (.iload 4, 2) := by decide +kernel
theorem dX6_canBy_31 : decode cX6_canBy 31 = .ok (.ifCond .ne 37, 3) := by decide +kernel
theorem dX6_canBy_34 : decode cX6_canBy 34 = .ok (.aload_n 0, 1) := by decide +kernel
theorem dX6_canBy_35 : decode cX6_canBy 35 = .ok (.getfield 13, 3) := by decide +kernel
theorem dX6_canBy_38 : decode cX6_canBy 38 = .ok (.iload 5, 2) := by decide +kernel
theorem dX6_canBy_40 : decode cX6_canBy 40 = .ok (.iaload, 1) := by decide +kernel
theorem dX6_canBy_41 : decode cX6_canBy 41 = .ok (.iconst 1, 1) := by decide +kernel
theorem dX6_canBy_42 : decode cX6_canBy 42 = .ok (.if_icmp .ne 30, 3) := by decide +kernel
theorem dX6_canBy_45 : decode cX6_canBy 45 = .ok (.iload_n 2, 1) := by decide +kernel
theorem dX6_canBy_46 : decode cX6_canBy 46 = .ok (.iload 5, 2) := by decide +kernel
theorem dX6_canBy_48 : decode cX6_canBy 48 = .ok (.invokestatic 151, 3) := by decide +kernel
theorem dX6_canBy_51 : decode cX6_canBy 51 = .ok (.ifCond .eq 21, 3) := by decide +kernel
theorem dX6_canBy_54 : decode cX6_canBy 54 = .ok (.aload_n 0, 1) := by decide +kernel
theorem dX6_canBy_55 : decode cX6_canBy 55 = .ok (.getfield 31, 3) := by decide +kernel
theorem dX6_canBy_58 : decode cX6_canBy 58 = .ok (.iload_n 1, 1) := by decide +kernel
theorem dX6_canBy_59 : decode cX6_canBy 59 = .ok (.iaload, 1) := by decide +kernel
theorem dX6_canBy_60 : decode cX6_canBy 60 = .ok (.iload 5, 2) := by decide +kernel
theorem dX6_canBy_62 : decode cX6_canBy 62 = .ok (.invokestatic 151, 3) := by decide +kernel
theorem dX6_canBy_65 : decode cX6_canBy 65 = .ok (.ifCond .ne 7, 3) := by decide +kernel
theorem dX6_canBy_68 : decode cX6_canBy 68 = .ok (.iconst 1, 1) := by decide +kernel
theorem dX6_canBy_69 : decode cX6_canBy 69 = .ok (.goto 4, 3) := by decide +kernel
theorem dX6_canBy_72 : decode cX6_canBy 72 = .ok (.iconst 0, 1) := by decide +kernel
theorem dX6_canBy_73 : decode cX6_canBy 73 = .ok (.istore 4, 2) := by decide +kernel
theorem dX6_canBy_75 : decode cX6_canBy 75 = .ok (.iinc 5 1, 3) := by decide +kernel
theorem dX6_canBy_78 : decode cX6_canBy 78 = .ok (.goto (-58), 3) := by decide +kernel
theorem dX6_canBy_81 : decode cX6_canBy 81 = .ok (.iload_n 3, 1) := by decide +kernel
theorem dX6_canBy_82 : decode cX6_canBy 82 = .ok (.ifCond .eq 13, 3) := by decide +kernel
theorem dX6_canBy_85 : decode cX6_canBy 85 = .ok (.iload_n 3, 1) := by decide +kernel
theorem dX6_canBy_86 : decode cX6_canBy 86 = .ok (.iconst 1, 1) := by decide +kernel
theorem dX6_canBy_87 : decode cX6_canBy 87 = .ok (.if_icmp .ne 12, 3) := by decide +kernel
theorem dX6_canBy_90 : decode cX6_canBy 90 = .ok (.iload 4, 2) := by decide +kernel
theorem dX6_canBy_92 : decode cX6_canBy 92 = .ok (.ifCond .eq 7, 3) := by decide +kernel
theorem dX6_canBy_95 : decode cX6_canBy 95 = .ok (.iconst 1, 1) := by decide +kernel
theorem dX6_canBy_96 : decode cX6_canBy 96 = .ok (.goto 4, 3) := by decide +kernel
theorem dX6_canBy_99 : decode cX6_canBy 99 = .ok (.iconst 0, 1) := by decide +kernel
theorem dX6_canBy_100 : decode cX6_canBy 100 = .ok (.ireturn, 1) := by decide +kernel
theorem dX6_livesBy_0 : decode cX6_livesBy 0 = .ok (.iconst 0, 1) := by decide +kernel
theorem dX6_livesBy_1 : decode cX6_livesBy 1 = .ok (.istore_n 2, 1) := by decide +kernel
theorem dX6_livesBy_2 : decode cX6_livesBy 2 = .ok (.iconst 0, 1) := by decide +kernel
theorem dX6_livesBy_3 : decode cX6_livesBy 3 = .ok (.istore_n 3, 1) := by decide +kernel
theorem dX6_livesBy_4 : decode cX6_livesBy 4 = .ok (.iload_n 3, 1) := by decide +kernel
theorem dX6_livesBy_5 : decode cX6_livesBy 5 = .ok (.aload_n 0, 1) := by decide +kernel
theorem dX6_livesBy_6 : decode cX6_livesBy 6 = .ok (.getfield 82, 3) := by decide +kernel
theorem dX6_livesBy_9 : decode cX6_livesBy 9 = .ok (.if_icmp .ge 28, 3) := by decide +kernel
theorem dX6_livesBy_12 : decode cX6_livesBy 12 = .ok (.iload_n 2, 1) := by decide +kernel
theorem dX6_livesBy_13 : decode cX6_livesBy 13 = .ok (.aload_n 0, 1) := by decide +kernel
theorem dX6_livesBy_14 : decode cX6_livesBy 14 = .ok (.iload_n 3, 1) := by decide +kernel
theorem dX6_livesBy_15 : decode cX6_livesBy 15 = .ok (.iload_n 1, 1) := by decide +kernel
theorem dX6_livesBy_16 : decode cX6_livesBy 16 = .ok (.invokevirtual 158, 3) := by decide +kernel
theorem dX6_livesBy_19 : decode cX6_livesBy 19 = .ok (.ifCond .eq 9, 3) := by decide +kernel
theorem dX6_livesBy_22 : decode cX6_livesBy 22 = .ok (.iconst 1, 1) := by decide +kernel
theorem dX6_livesBy_23 : decode cX6_livesBy 23 = .ok (.iload_n 3, 1) := by decide +kernel
theorem dX6_livesBy_24 : decode cX6_livesBy 24 = .ok (.ishl, 1) := by decide +kernel
theorem dX6_livesBy_25 : decode cX6_livesBy 25 = .ok (.goto 4, 3) := by decide +kernel
theorem dX6_livesBy_28 : decode cX6_livesBy 28 = .ok (.iconst 0, 1) := by decide +kernel
theorem dX6_livesBy_29 : decode cX6_livesBy 29 = .ok (.ior, 1) := by decide +kernel
theorem dX6_livesBy_30 : decode cX6_livesBy 30 = .ok (.istore_n 2, 1) := by decide +kernel
theorem dX6_livesBy_31 : decode cX6_livesBy 31 = .ok (.iinc 3 1, 3) := by decide +kernel
theorem dX6_livesBy_34 : decode cX6_livesBy 34 = .ok (.goto (-30), 3) := by decide +kernel
theorem dX6_livesBy_37 : decode cX6_livesBy 37 = .ok (.iload_n 2, 1) := by decide +kernel
theorem dX6_livesBy_38 : decode cX6_livesBy 38 = .ok (.ireturn, 1) := by decide +kernel
theorem dX6_worthOf_0 : decode cX6_worthOf 0 = .ok (.iconst 0, 1) := by decide +kernel
theorem dX6_worthOf_1 : decode cX6_worthOf 1 = .ok (.istore_n 2, 1) := by decide +kernel
theorem dX6_worthOf_2 : decode cX6_worthOf 2 = .ok (.iconst 0, 1) := by decide +kernel
theorem dX6_worthOf_3 : decode cX6_worthOf 3 = .ok (.istore_n 3, 1) := by decide +kernel
theorem dX6_worthOf_4 : decode cX6_worthOf 4 = .ok (.iload_n 3, 1) := by decide +kernel
theorem dX6_worthOf_5 : decode cX6_worthOf 5 = .ok (.aload_n 0, 1) := by decide +kernel
theorem dX6_worthOf_6 : decode cX6_worthOf 6 = .ok (.getfield 82, 3) := by decide +kernel
theorem dX6_worthOf_9 : decode cX6_worthOf 9 = .ok (.if_icmp .ge 38, 3) := by decide +kernel
theorem dX6_worthOf_12 : decode cX6_worthOf 12 = .ok (.iload_n 2, 1) := by decide +kernel
theorem dX6_worthOf_13 : decode cX6_worthOf 13 = .ok (.aload_n 0, 1) := by decide +kernel
theorem dX6_worthOf_14 : decode cX6_worthOf 14 = .ok (.iload_n 3, 1) := by decide +kernel
theorem dX6_worthOf_15 : decode cX6_worthOf 15 = .ok (.iload_n 1, 1) := by decide +kernel
theorem dX6_worthOf_16 : decode cX6_worthOf 16 = .ok (.invokevirtual 158, 3) := by decide +kernel
theorem dX6_worthOf_19 : decode cX6_worthOf 19 = .ok (.ifCond .eq 19, 3) := by decide +kernel
theorem dX6_worthOf_22 : decode cX6_worthOf 22 = .ok (.aload_n 0, 1) := by decide +kernel
theorem dX6_worthOf_23 : decode cX6_worthOf 23 = .ok (.getfield 22, 3) := by decide +kernel
theorem dX6_worthOf_26 : decode cX6_worthOf 26 = .ok (.iload_n 3, 1) := by decide +kernel
theorem dX6_worthOf_27 : decode cX6_worthOf 27 = .ok (.iaload, 1) := by decide +kernel
theorem dX6_worthOf_28 : decode cX6_worthOf 28 = .ok (.aload_n 0, 1) := by decide +kernel
theorem dX6_worthOf_29 : decode cX6_worthOf 29 = .ok (.getfield 25, 3) := by decide +kernel
theorem dX6_worthOf_32 : decode cX6_worthOf 32 = .ok (.iload_n 3, 1) := by decide +kernel
theorem dX6_worthOf_33 : decode cX6_worthOf 33 = .ok (.iaload, 1) := by decide +kernel
theorem dX6_worthOf_34 : decode cX6_worthOf 34 = .ok (.imul, 1) := by decide +kernel
theorem dX6_worthOf_35 : decode cX6_worthOf 35 = .ok (.goto 4, 3) := by decide +kernel
theorem dX6_worthOf_38 : decode cX6_worthOf 38 = .ok (.iconst 0, 1) := by decide +kernel
theorem dX6_worthOf_39 : decode cX6_worthOf 39 = .ok (.iadd, 1) := by decide +kernel
theorem dX6_worthOf_40 : decode cX6_worthOf 40 = .ok (.istore_n 2, 1) := by decide +kernel
theorem dX6_worthOf_41 : decode cX6_worthOf 41 = .ok (.iinc 3 1, 3) := by decide +kernel
theorem dX6_worthOf_44 : decode cX6_worthOf 44 = .ok (.goto (-40), 3) := by decide +kernel
theorem dX6_worthOf_47 : decode cX6_worthOf 47 = .ok (.iload_n 2, 1) := by decide +kernel
theorem dX6_worthOf_48 : decode cX6_worthOf 48 = .ok (.ireturn, 1) := by decide +kernel
theorem dX6_likelyOfAll_0 : decode cX6_likelyOfAll 0 = .ok (.iconst 0, 1) := by decide +kernel
theorem dX6_likelyOfAll_1 : decode cX6_likelyOfAll 1 = .ok (.istore_n 1, 1) := by decide +kernel
theorem dX6_likelyOfAll_2 : decode cX6_likelyOfAll 2 = .ok (.iconst 0, 1) := by decide +kernel
theorem dX6_likelyOfAll_3 : decode cX6_likelyOfAll 3 = .ok (.istore_n 2, 1) := by decide +kernel
theorem dX6_likelyOfAll_4 : decode cX6_likelyOfAll 4 = .ok (.iload_n 2, 1) := by decide +kernel
theorem dX6_likelyOfAll_5 : decode cX6_likelyOfAll 5 = .ok (.aload_n 0, 1) := by decide +kernel
theorem dX6_likelyOfAll_6 : decode cX6_likelyOfAll 6 = .ok (.getfield 82, 3) := by decide +kernel
theorem dX6_likelyOfAll_9 : decode cX6_likelyOfAll 9 = .ok (.if_icmp .ge 18, 3) := by decide +kernel
theorem dX6_likelyOfAll_12 : decode cX6_likelyOfAll 12 = .ok (.iload_n 1, 1) := by decide +kernel
theorem dX6_likelyOfAll_13 : decode cX6_likelyOfAll 13 = .ok (.aload_n 0, 1) := by decide +kernel
theorem dX6_likelyOfAll_14 : decode cX6_likelyOfAll 14 = .ok (.getfield 22, 3) := by decide +kernel
theorem dX6_likelyOfAll_17 : decode cX6_likelyOfAll 17 = .ok (.iload_n 2, 1) := by decide +kernel
theorem dX6_likelyOfAll_18 : decode cX6_likelyOfAll 18 = .ok (.iaload, 1) := by decide +kernel
theorem dX6_likelyOfAll_19 : decode cX6_likelyOfAll 19 = .ok (.iadd, 1) := by decide +kernel
theorem dX6_likelyOfAll_20 : decode cX6_likelyOfAll 20 = .ok (.istore_n 1, 1) := by decide +kernel
theorem dX6_likelyOfAll_21 : decode cX6_likelyOfAll 21 = .ok (.iinc 2 1, 3) := by decide +kernel
theorem dX6_likelyOfAll_24 : decode cX6_likelyOfAll 24 = .ok (.goto (-20), 3) := by decide +kernel
theorem dX6_likelyOfAll_27 : decode cX6_likelyOfAll 27 = .ok (.iload_n 1, 1) := by decide +kernel
theorem dX6_likelyOfAll_28 : decode cX6_likelyOfAll 28 = .ok (.ireturn, 1) := by decide +kernel
theorem dX6_partOf_0 : decode cX6_partOf 0 = .ok (.iload_n 1, 1) := by decide +kernel
theorem dX6_partOf_1 : decode cX6_partOf 1 = .ok (.istore 4, 2) := by decide +kernel
theorem dX6_partOf_3 : decode cX6_partOf 3 = .ok (.iload_n 2, 1) := by decide +kernel
theorem dX6_partOf_4 : decode cX6_partOf 4 = .ok (.istore 5, 2) := by decide +kernel
theorem dX6_partOf_6 : decode cX6_partOf 6 = .ok (.iload 5, 2) := by decide +kernel
theorem dX6_partOf_8 : decode cX6_partOf 8 = .ok (.ifCond .eq 21, 3) := by decide +kernel
theorem dX6_partOf_11 : decode cX6_partOf 11 = .ok (.iload 4, 2) := by decide +kernel
theorem dX6_partOf_13 : decode cX6_partOf 13 = .ok (.iload 5, 2) := by decide +kernel
theorem dX6_partOf_15 : decode cX6_partOf 15 = .ok (.irem, 1) := by decide +kernel
theorem dX6_partOf_16 : decode cX6_partOf 16 = .ok (.istore 6, 2) := by decide +kernel
theorem dX6_partOf_18 : decode cX6_partOf 18 = .ok (.iload 5, 2) := by decide +kernel
theorem dX6_partOf_20 : decode cX6_partOf 20 = .ok (.istore 4, 2) := by decide +kernel
theorem dX6_partOf_22 : decode cX6_partOf 22 = .ok (.iload 6, 2) := by decide +kernel
theorem dX6_partOf_24 : decode cX6_partOf 24 = .ok (.istore 5, 2) := by decide +kernel
theorem dX6_partOf_26 : decode cX6_partOf 26 = .ok (.goto (-20), 3) := by decide +kernel
theorem dX6_partOf_29 : decode cX6_partOf 29 = .ok (.iload_n 3, 1) := by decide +kernel
theorem dX6_partOf_30 : decode cX6_partOf 30 = .ok (.ifCond .ne 10, 3) := by decide +kernel
theorem dX6_partOf_33 : decode cX6_partOf 33 = .ok (.iload_n 1, 1) := by decide +kernel
theorem dX6_partOf_34 : decode cX6_partOf 34 = .ok (.iload 4, 2) := by decide +kernel
theorem dX6_partOf_36 : decode cX6_partOf 36 = .ok (.idiv, 1) := by decide +kernel
theorem dX6_partOf_37 : decode cX6_partOf 37 = .ok (.goto 7, 3) := by decide +kernel
theorem dX6_partOf_40 : decode cX6_partOf 40 = .ok (.iload_n 2, 1) := by decide +kernel
theorem dX6_partOf_41 : decode cX6_partOf 41 = .ok (.iload 4, 2) := by decide +kernel
theorem dX6_partOf_43 : decode cX6_partOf 43 = .ok (.idiv, 1) := by decide +kernel
theorem dX6_partOf_44 : decode cX6_partOf 44 = .ok (.ireturn, 1) := by decide +kernel
theorem dX6_worthPart_0 : decode cX6_worthPart 0 = .ok (.aload_n 0, 1) := by decide +kernel
theorem dX6_worthPart_1 : decode cX6_worthPart 1 = .ok (.invokevirtual 161, 3) := by decide +kernel
theorem dX6_worthPart_4 : decode cX6_worthPart 4 = .ok (.istore_n 3, 1) := by decide +kernel
theorem dX6_worthPart_5 : decode cX6_worthPart 5 = .ok (.iload_n 3, 1) := by decide +kernel
theorem dX6_worthPart_6 : decode cX6_worthPart 6 = .ok (.ifCond .ne 7, 3) := by decide +kernel
theorem dX6_worthPart_9 : decode cX6_worthPart 9 = .ok (.iload_n 2, 1) := by decide +kernel
theorem dX6_worthPart_10 : decode cX6_worthPart 10 = .ok (.goto 14, 3) := by decide +kernel
theorem dX6_worthPart_13 : decode cX6_worthPart 13 = .ok (.aload_n 0, 1) := by decide +kernel
theorem dX6_worthPart_14 : decode cX6_worthPart 14 = .ok (.aload_n 0, 1) := by decide +kernel
theorem dX6_worthPart_15 : decode cX6_worthPart 15 = .ok (.iload_n 1, 1) := by decide +kernel
theorem dX6_worthPart_16 : decode cX6_worthPart 16 = .ok (.invokevirtual 164, 3) := by decide +kernel
theorem dX6_worthPart_19 : decode cX6_worthPart 19 = .ok (.iload_n 3, 1) := by decide +kernel
theorem dX6_worthPart_20 : decode cX6_worthPart 20 = .ok (.iload_n 2, 1) := by decide +kernel
theorem dX6_worthPart_21 : decode cX6_worthPart 21 = .ok (.invokevirtual 167, 3) := by decide +kernel
theorem dX6_worthPart_24 : decode cX6_worthPart 24 = .ok (.ireturn, 1) := by decide +kernel
theorem dX6_canPut_0 : decode cX6_canPut 0 = .ok (.aload_n 0, 1) := by decide +kernel
theorem dX6_canPut_1 : decode cX6_canPut 1 = .ok (.getfield 7, 3) := by decide +kernel
theorem dX6_canPut_4 : decode cX6_canPut 4 = .ok (.iload_n 1, 1) := by decide +kernel
theorem dX6_canPut_5 : decode cX6_canPut 5 = .ok (.iconst 2, 1) := by decide +kernel
theorem dX6_canPut_6 : decode cX6_canPut 6 = .ok (.iadd, 1) := by decide +kernel
theorem dX6_canPut_7 : decode cX6_canPut 7 = .ok (.iaload, 1) := by decide +kernel
theorem dX6_canPut_8 : decode cX6_canPut 8 = .ok (.iload_n 2, 1) := by decide +kernel
theorem dX6_canPut_9 : decode cX6_canPut 9 = .ok (.invokestatic 151, 3) := by decide +kernel
theorem dX6_canPut_12 : decode cX6_canPut 12 = .ok (.ifCond .ne 47, 3) := by decide +kernel
theorem dX6_canPut_15 : decode cX6_canPut 15 = .ok (.aload_n 0, 1) := by decide +kernel
theorem dX6_canPut_16 : decode cX6_canPut 16 = .ok (.getfield 19, 3) := by decide +kernel
theorem dX6_canPut_19 : decode cX6_canPut 19 = .ok (.iload_n 2, 1) := by decide +kernel
theorem dX6_canPut_20 : decode cX6_canPut 20 = .ok (.iaload, 1) := by decide +kernel
theorem dX6_canPut_21 : decode cX6_canPut 21 = .ok (.aload_n 0, 1) := by decide +kernel
theorem dX6_canPut_22 : decode cX6_canPut 22 = .ok (.getfield 7, 3) := by decide +kernel
theorem dX6_canPut_25 : decode cX6_canPut 25 = .ok (.iload_n 1, 1) := by decide +kernel
theorem dX6_canPut_26 : decode cX6_canPut 26 = .ok (.iconst 1, 1) := by decide +kernel
theorem dX6_canPut_27 : decode cX6_canPut 27 = .ok (.iadd, 1) := by decide +kernel
theorem dX6_canPut_28 : decode cX6_canPut 28 = .ok (.iaload, 1) := by decide +kernel
theorem dX6_canPut_29 : decode cX6_canPut 29 = .ok (.if_icmp .gt 30, 3) := by decide +kernel
theorem dX6_canPut_32 : decode cX6_canPut 32 = .ok (.aload_n 0, 1) := by decide +kernel
theorem dX6_canPut_33 : decode cX6_canPut 33 = .ok (.aload_n 0, 1) := by decide +kernel
theorem dX6_canPut_34 : decode cX6_canPut 34 = .ok (.getfield 7, 3) := by decide +kernel
theorem dX6_canPut_37 : decode cX6_canPut 37 = .ok (.iload_n 1, 1) := by decide +kernel
theorem dX6_canPut_38 : decode cX6_canPut 38 = .ok (.iconst 2, 1) := by decide +kernel
theorem dX6_canPut_39 : decode cX6_canPut 39 = .ok (.iadd, 1) := by decide +kernel
theorem dX6_canPut_40 : decode cX6_canPut 40 = .ok (.iaload, 1) := by decide +kernel
theorem dX6_canPut_41 : decode cX6_canPut 41 = .ok (.iconst 1, 1) := by decide +kernel
theorem dX6_canPut_42 : decode cX6_canPut 42 = .ok (.iload_n 2, 1) := by decide +kernel
theorem dX6_canPut_43 : decode cX6_canPut 43 = .ok (.ishl, 1) := by decide +kernel
theorem dX6_canPut_44 : decode cX6_canPut 44 = .ok (.ior, 1) := by decide +kernel
theorem dX6_canPut_45 : decode cX6_canPut 45 = .ok (.invokevirtual 171, 3) := by decide +kernel
theorem dX6_canPut_48 : decode cX6_canPut 48 = .ok (.aload_n 0, 1) := by decide +kernel
theorem dX6_canPut_49 : decode cX6_canPut 49 = .ok (.getfield 91, 3) := by decide +kernel
theorem dX6_canPut_52 : decode cX6_canPut 52 = .ok (.if_icmp .gt 7, 3) := by decide +kernel
theorem dX6_canPut_55 : decode cX6_canPut 55 = .ok (.iconst 1, 1) := by decide +kernel
theorem dX6_canPut_56 : decode cX6_canPut 56 = .ok (.goto 4, 3) := by decide +kernel
theorem dX6_canPut_59 : decode cX6_canPut 59 = .ok (.iconst 0, 1) := by decide +kernel
theorem dX6_canPut_60 : decode cX6_canPut 60 = .ok (.ireturn, 1) := by decide +kernel
theorem dX6_linenOf_0 : decode cX6_linenOf 0 = .ok (.iconst 0, 1) := by decide +kernel
theorem dX6_linenOf_1 : decode cX6_linenOf 1 = .ok (.istore_n 3, 1) := by decide +kernel
theorem dX6_linenOf_2 : decode cX6_linenOf 2 = .ok (.iconst 0, 1) := by decide +kernel
theorem dX6_linenOf_3 : decode cX6_linenOf 3 = .ok (.istore 4, 2) := by decide +kernel
theorem dX6_linenOf_5 : decode cX6_linenOf 5 = .ok (.iload 4, 2) := by decide +kernel
theorem dX6_linenOf_7 : decode cX6_linenOf 7 = .ok (.aload_n 0, 1) := by decide +kernel
theorem dX6_linenOf_8 : decode cX6_linenOf 8 = .ok (.getfield 75, 3) := by decide +kernel
theorem dX6_linenOf_11 : decode cX6_linenOf 11 = .ok (.if_icmp .ge 47, 3) := by decide +kernel
theorem dX6_linenOf_14 : decode cX6_linenOf 14 = .ok (.iload_n 3, 1) := by decide +kernel
theorem dX6_linenOf_15 : decode cX6_linenOf 15 = .ok (.aload_n 0, 1) := by decide +kernel
theorem dX6_linenOf_16 : decode cX6_linenOf 16 = .ok (.getfield 13, 3) := by decide +kernel
theorem dX6_linenOf_19 : decode cX6_linenOf 19 = .ok (.iload 4, 2) := by decide +kernel
theorem dX6_linenOf_21 : decode cX6_linenOf 21 = .ok (.iaload, 1) := by decide +kernel
theorem dX6_linenOf_22 : decode cX6_linenOf 22 = .ok (.iconst 2, 1) := by decide +kernel
theorem dX6_linenOf_23 : decode cX6_linenOf 23 = .ok (.if_icmp .ne 26, 3) := by decide +kernel
theorem dX6_linenOf_26 : decode cX6_linenOf 26 = .ok (.aload_n 0, 1) := by decide +kernel
theorem dX6_linenOf_27 : decode cX6_linenOf 27 = .ok (.getfield 31, 3) := by decide +kernel
theorem dX6_linenOf_30 : decode cX6_linenOf 30 = .ok (.iload_n 1, 1) := by decide +kernel
theorem dX6_linenOf_31 : decode cX6_linenOf 31 = .ok (.iaload, 1) := by decide +kernel
theorem dX6_linenOf_32 : decode cX6_linenOf 32 = .ok (.iload_n 2, 1) := by decide +kernel
theorem dX6_linenOf_33 : decode cX6_linenOf 33 = .ok (.iand, 1) := by decide +kernel
theorem dX6_linenOf_34 : decode cX6_linenOf 34 = .ok (.iload 4, 2) := by decide +kernel
theorem dX6_linenOf_36 : decode cX6_linenOf 36 = .ok (.invokestatic 151, 3) := by decide +kernel
theorem dX6_linenOf_39 : decode cX6_linenOf 39 = .ok (.ifCond .eq 10, 3) := by decide +kernel
theorem dX6_linenOf_42 : decode cX6_linenOf 42 = .ok (.iconst 1, 1) := by decide +kernel
theorem dX6_linenOf_43 : decode cX6_linenOf 43 = .ok (.iload 4, 2) := by decide +kernel
theorem dX6_linenOf_45 : decode cX6_linenOf 45 = .ok (.ishl, 1) := by decide +kernel
theorem dX6_linenOf_46 : decode cX6_linenOf 46 = .ok (.goto 4, 3) := by decide +kernel
theorem dX6_linenOf_49 : decode cX6_linenOf 49 = .ok (.iconst 0, 1) := by decide +kernel
theorem dX6_linenOf_50 : decode cX6_linenOf 50 = .ok (.ior, 1) := by decide +kernel
theorem dX6_linenOf_51 : decode cX6_linenOf 51 = .ok (.istore_n 3, 1) := by decide +kernel
theorem dX6_linenOf_52 : decode cX6_linenOf 52 = .ok (.iinc 4 1, 3) := by decide +kernel
theorem dX6_linenOf_55 : decode cX6_linenOf 55 = .ok (.goto (-50), 3) := by decide +kernel
theorem dX6_linenOf_58 : decode cX6_linenOf 58 = .ok (.iload_n 3, 1) := by decide +kernel
theorem dX6_linenOf_59 : decode cX6_linenOf 59 = .ok (.ireturn, 1) := by decide +kernel
theorem dX6_canLive_0 : decode cX6_canLive 0 = .ok (.aload_n 0, 1) := by decide +kernel
theorem dX6_canLive_1 : decode cX6_canLive 1 = .ok (.getfield 7, 3) := by decide +kernel
theorem dX6_canLive_4 : decode cX6_canLive 4 = .ok (.iload_n 1, 1) := by decide +kernel
theorem dX6_canLive_5 : decode cX6_canLive 5 = .ok (.iconst 3, 1) := by decide +kernel
theorem dX6_canLive_6 : decode cX6_canLive 6 = .ok (.iadd, 1) := by decide +kernel
theorem dX6_canLive_7 : decode cX6_canLive 7 = .ok (.iaload, 1) := by decide +kernel
theorem dX6_canLive_8 : decode cX6_canLive 8 = .ok (.iload_n 2, 1) := by decide +kernel
theorem dX6_canLive_9 : decode cX6_canLive 9 = .ok (.invokestatic 151, 3) := by decide +kernel
theorem dX6_canLive_12 : decode cX6_canLive 12 = .ok (.ifCond .ne 23, 3) := by decide +kernel
theorem dX6_canLive_15 : decode cX6_canLive 15 = .ok (.aload_n 0, 1) := by decide +kernel
theorem dX6_canLive_16 : decode cX6_canLive 16 = .ok (.iload_n 2, 1) := by decide +kernel
theorem dX6_canLive_17 : decode cX6_canLive 17 = .ok (.aload_n 0, 1) := by decide +kernel
theorem dX6_canLive_18 : decode cX6_canLive 18 = .ok (.getfield 7, 3) := by decide +kernel
theorem dX6_canLive_21 : decode cX6_canLive 21 = .ok (.iload_n 1, 1) := by decide +kernel
theorem dX6_canLive_22 : decode cX6_canLive 22 = .ok (.iconst 2, 1) := by decide +kernel
theorem dX6_canLive_23 : decode cX6_canLive 23 = .ok (.iadd, 1) := by decide +kernel
theorem dX6_canLive_24 : decode cX6_canLive 24 = .ok (.iaload, 1) := by decide +kernel
theorem dX6_canLive_25 : decode cX6_canLive 25 = .ok (.invokevirtual 158, 3) := by decide +kernel
theorem dX6_canLive_28 : decode cX6_canLive 28 = .ok (.ifCond .eq 7, 3) := by decide +kernel
theorem dX6_canLive_31 : decode cX6_canLive 31 = .ok (.iconst 1, 1) := by decide +kernel
theorem dX6_canLive_32 : decode cX6_canLive 32 = .ok (.goto 4, 3) := by decide +kernel
theorem dX6_canLive_35 : decode cX6_canLive 35 = .ok (.iconst 0, 1) := by decide +kernel
theorem dX6_canLive_36 : decode cX6_canLive 36 = .ok (.ireturn, 1) := by decide +kernel
theorem dX6_puts_0 : decode cX6_puts 0 = .ok (.aload_n 0, 1) := by decide +kernel
theorem dX6_puts_1 : decode cX6_puts 1 = .ok (.getfield 7, 3) := by decide +kernel
theorem dX6_puts_4 : decode cX6_puts 4 = .ok (.iload_n 1, 1) := by decide +kernel
theorem dX6_puts_5 : decode cX6_puts 5 = .ok (.iconst 2, 1) := by decide +kernel
theorem dX6_puts_6 : decode cX6_puts 6 = .ok (.iadd, 1) := by decide +kernel
theorem dX6_puts_7 : decode cX6_puts 7 = .ok (.dup2, 1) := by decide +kernel
theorem dX6_puts_8 : decode cX6_puts 8 = .ok (.iaload, 1) := by decide +kernel
theorem dX6_puts_9 : decode cX6_puts 9 = .ok (.iconst 1, 1) := by decide +kernel
theorem dX6_puts_10 : decode cX6_puts 10 = .ok (.iload_n 2, 1) := by decide +kernel
theorem dX6_puts_11 : decode cX6_puts 11 = .ok (.ishl, 1) := by decide +kernel
theorem dX6_puts_12 : decode cX6_puts 12 = .ok (.ior, 1) := by decide +kernel
theorem dX6_puts_13 : decode cX6_puts 13 = .ok (.iastore, 1) := by decide +kernel
theorem dX6_puts_14 : decode cX6_puts 14 = .ok (.aload_n 0, 1) := by decide +kernel
theorem dX6_puts_15 : decode cX6_puts 15 = .ok (.getfield 7, 3) := by decide +kernel
theorem dX6_puts_18 : decode cX6_puts 18 = .ok (.iload_n 1, 1) := by decide +kernel
theorem dX6_puts_19 : decode cX6_puts 19 = .ok (.iconst 1, 1) := by decide +kernel
theorem dX6_puts_20 : decode cX6_puts 20 = .ok (.iadd, 1) := by decide +kernel
theorem dX6_puts_21 : decode cX6_puts 21 = .ok (.dup2, 1) := by decide +kernel
theorem dX6_puts_22 : decode cX6_puts 22 = .ok (.iaload, 1) := by decide +kernel
theorem dX6_puts_23 : decode cX6_puts 23 = .ok (.aload_n 0, 1) := by decide +kernel
theorem dX6_puts_24 : decode cX6_puts 24 = .ok (.getfield 19, 3) := by decide +kernel
theorem dX6_puts_27 : decode cX6_puts 27 = .ok (.iload_n 2, 1) := by decide +kernel
theorem dX6_puts_28 : decode cX6_puts 28 = .ok (.iaload, 1) := by decide +kernel
theorem dX6_puts_29 : decode cX6_puts 29 = .ok (.isub, 1) := by decide +kernel
theorem dX6_puts_30 : decode cX6_puts 30 = .ok (.iastore, 1) := by decide +kernel
theorem dX6_puts_31 : decode cX6_puts 31 = .ok (.return_, 1) := by decide +kernel
theorem dX6_livesOne_0 : decode cX6_livesOne 0 = .ok (.aload_n 0, 1) := by decide +kernel
theorem dX6_livesOne_1 : decode cX6_livesOne 1 = .ok (.iload_n 2, 1) := by decide +kernel
theorem dX6_livesOne_2 : decode cX6_livesOne 2 = .ok (.aload_n 0, 1) := by decide +kernel
theorem dX6_livesOne_3 : decode cX6_livesOne 3 = .ok (.getfield 7, 3) := by decide +kernel
theorem dX6_livesOne_6 : decode cX6_livesOne 6 = .ok (.iload_n 1, 1) := by decide +kernel
theorem dX6_livesOne_7 : decode cX6_livesOne 7 = .ok (.iconst 2, 1) := by decide +kernel
theorem dX6_livesOne_8 : decode cX6_livesOne 8 = .ok (.iadd, 1) := by decide +kernel
theorem dX6_livesOne_9 : decode cX6_livesOne 9 = .ok (.iaload, 1) := by decide +kernel
theorem dX6_livesOne_10 : decode cX6_livesOne 10 = .ok (.invokevirtual 174, 3) := by decide +kernel
theorem dX6_livesOne_13 : decode cX6_livesOne 13 = .ok (.istore_n 3, 1) := by decide +kernel
theorem dX6_livesOne_14 : decode cX6_livesOne 14 = .ok (.aload_n 0, 1) := by decide +kernel
theorem dX6_livesOne_15 : decode cX6_livesOne 15 = .ok (.getfield 7, 3) := by decide +kernel
theorem dX6_livesOne_18 : decode cX6_livesOne 18 = .ok (.iload_n 1, 1) := by decide +kernel
theorem dX6_livesOne_19 : decode cX6_livesOne 19 = .ok (.iconst 2, 1) := by decide +kernel
theorem dX6_livesOne_20 : decode cX6_livesOne 20 = .ok (.iadd, 1) := by decide +kernel
theorem dX6_livesOne_21 : decode cX6_livesOne 21 = .ok (.dup2, 1) := by decide +kernel
theorem dX6_livesOne_22 : decode cX6_livesOne 22 = .ok (.iaload, 1) := by decide +kernel
theorem dX6_livesOne_23 : decode cX6_livesOne 23 = .ok (.iload_n 3, 1) := by decide +kernel
theorem dX6_livesOne_24 : decode cX6_livesOne 24 = .ok (.iconst (-1), 1) := by decide +kernel
theorem dX6_livesOne_25 : decode cX6_livesOne 25 = .ok (.ixor, 1) := by decide +kernel
theorem dX6_livesOne_26 : decode cX6_livesOne 26 = .ok (.iand, 1) := by decide +kernel
theorem dX6_livesOne_27 : decode cX6_livesOne 27 = .ok (.iastore, 1) := by decide +kernel
theorem dX6_livesOne_28 : decode cX6_livesOne 28 = .ok (.aload_n 0, 1) := by decide +kernel
theorem dX6_livesOne_29 : decode cX6_livesOne 29 = .ok (.getfield 7, 3) := by decide +kernel
theorem dX6_livesOne_32 : decode cX6_livesOne 32 = .ok (.iload_n 1, 1) := by decide +kernel
theorem dX6_livesOne_33 : decode cX6_livesOne 33 = .ok (.iconst 3, 1) := by decide +kernel
theorem dX6_livesOne_34 : decode cX6_livesOne 34 = .ok (.iadd, 1) := by decide +kernel
theorem dX6_livesOne_35 : decode cX6_livesOne 35 = .ok (.dup2, 1) := by decide +kernel
theorem dX6_livesOne_36 : decode cX6_livesOne 36 = .ok (.iaload, 1) := by decide +kernel
theorem dX6_livesOne_37 : decode cX6_livesOne 37 = .ok (.iconst 1, 1) := by decide +kernel
theorem dX6_livesOne_38 : decode cX6_livesOne 38 = .ok (.iload_n 2, 1) := by decide +kernel
theorem dX6_livesOne_39 : decode cX6_livesOne 39 = .ok (.ishl, 1) := by decide +kernel
theorem dX6_livesOne_40 : decode cX6_livesOne 40 = .ok (.ior, 1) := by decide +kernel
theorem dX6_livesOne_41 : decode cX6_livesOne 41 = .ok (.iastore, 1) := by decide +kernel
theorem dX6_livesOne_42 : decode cX6_livesOne 42 = .ok (.iload_n 3, 1) := by decide +kernel
theorem dX6_livesOne_43 : decode cX6_livesOne 43 = .ok (.ireturn, 1) := by decide +kernel
theorem dX6_passes_0 : decode cX6_passes 0 = .ok (.aload_n 0, 1) := by decide +kernel
theorem dX6_passes_1 : decode cX6_passes 1 = .ok (.getfield 7, 3) := by decide +kernel
theorem dX6_passes_4 : decode cX6_passes 4 = .ok (.iload_n 1, 1) := by decide +kernel
theorem dX6_passes_5 : decode cX6_passes 5 = .ok (.iconst 1, 1) := by decide +kernel
theorem dX6_passes_6 : decode cX6_passes 6 = .ok (.iadd, 1) := by decide +kernel
theorem dX6_passes_7 : decode cX6_passes 7 = .ok (.aload_n 0, 1) := by decide +kernel
theorem dX6_passes_8 : decode cX6_passes 8 = .ok (.getfield 7, 3) := by decide +kernel
theorem dX6_passes_11 : decode cX6_passes 11 = .ok (.iload_n 1, 1) := by decide +kernel
theorem dX6_passes_12 : decode cX6_passes 12 = .ok (.iconst 1, 1) := by decide +kernel
theorem dX6_passes_13 : decode cX6_passes 13 = .ok (.iadd, 1) := by decide +kernel
theorem dX6_passes_14 : decode cX6_passes 14 = .ok (.iaload, 1) := by decide +kernel
theorem dX6_passes_15 : decode cX6_passes 15 = .ok (.aload_n 0, 1) := by decide +kernel
theorem dX6_passes_16 : decode cX6_passes 16 = .ok (.getfield 94, 3) := by decide +kernel
theorem dX6_passes_19 : decode cX6_passes 19 = .ok (.iadd, 1) := by decide +kernel
theorem dX6_passes_20 : decode cX6_passes 20 = .ok (.sipush 999, 3) := by decide +kernel
theorem dX6_passes_23 : decode cX6_passes 23 = .ok (.if_icmp .le 9, 3) := by decide +kernel
theorem dX6_passes_26 : decode cX6_passes 26 = .ok (.sipush 999, 3) := by decide +kernel
theorem dX6_passes_29 : decode cX6_passes 29 = .ok (.goto 16, 3) := by decide +kernel
theorem dX6_passes_32 : decode cX6_passes 32 = .ok (.aload_n 0, 1) := by decide +kernel
theorem dX6_passes_33 : decode cX6_passes 33 = .ok (.getfield 7, 3) := by decide +kernel
theorem dX6_passes_36 : decode cX6_passes 36 = .ok (.iload_n 1, 1) := by decide +kernel
theorem dX6_passes_37 : decode cX6_passes 37 = .ok (.iconst 1, 1) := by decide +kernel
theorem dX6_passes_38 : decode cX6_passes 38 = .ok (.iadd, 1) := by decide +kernel
theorem dX6_passes_39 : decode cX6_passes 39 = .ok (.iaload, 1) := by decide +kernel
theorem dX6_passes_40 : decode cX6_passes 40 = .ok (.aload_n 0, 1) := by decide +kernel
theorem dX6_passes_41 : decode cX6_passes 41 = .ok (.getfield 94, 3) := by decide +kernel
theorem dX6_passes_44 : decode cX6_passes 44 = .ok (.iadd, 1) := by decide +kernel
theorem dX6_passes_45 : decode cX6_passes 45 = .ok (.iastore, 1) := by decide +kernel
theorem dX6_passes_46 : decode cX6_passes 46 = .ok (.aload_n 0, 1) := by decide +kernel
theorem dX6_passes_47 : decode cX6_passes 47 = .ok (.getfield 7, 3) := by decide +kernel
theorem dX6_passes_50 : decode cX6_passes 50 = .ok (.iload_n 1, 1) := by decide +kernel
theorem dX6_passes_51 : decode cX6_passes 51 = .ok (.iconst 0, 1) := by decide +kernel
theorem dX6_passes_52 : decode cX6_passes 52 = .ok (.iadd, 1) := by decide +kernel
theorem dX6_passes_53 : decode cX6_passes 53 = .ok (.dup2, 1) := by decide +kernel
theorem dX6_passes_54 : decode cX6_passes 54 = .ok (.iaload, 1) := by decide +kernel
theorem dX6_passes_55 : decode cX6_passes 55 = .ok (.iconst 1, 1) := by decide +kernel
theorem dX6_passes_56 : decode cX6_passes 56 = .ok (.iadd, 1) := by decide +kernel
theorem dX6_passes_57 : decode cX6_passes 57 = .ok (.iastore, 1) := by decide +kernel
theorem dX6_passes_58 : decode cX6_passes 58 = .ok (.return_, 1) := by decide +kernel
theorem dX6_neededBy_0 : decode cX6_neededBy 0 = .ok (.iconst 0, 1) := by decide +kernel
theorem dX6_neededBy_1 : decode cX6_neededBy 1 = .ok (.istore_n 2, 1) := by decide +kernel
theorem dX6_neededBy_2 : decode cX6_neededBy 2 = .ok (.iconst 0, 1) := by decide +kernel
theorem dX6_neededBy_3 : decode cX6_neededBy 3 = .ok (.istore_n 3, 1) := by decide +kernel
theorem dX6_neededBy_4 : decode cX6_neededBy 4 = .ok (.iload_n 3, 1) := by decide +kernel
theorem dX6_neededBy_5 : decode cX6_neededBy 5 = .ok (.aload_n 0, 1) := by decide +kernel
theorem dX6_neededBy_6 : decode cX6_neededBy 6 = .ok (.getfield 82, 3) := by decide +kernel
theorem dX6_neededBy_9 : decode cX6_neededBy 9 = .ok (.if_icmp .ge 32, 3) := by decide +kernel
theorem dX6_neededBy_12 : decode cX6_neededBy 12 = .ok (.iload_n 2, 1) := by decide +kernel
theorem dX6_neededBy_13 : decode cX6_neededBy 13 = .ok (.aload_n 0, 1) := by decide +kernel
theorem dX6_neededBy_14 : decode cX6_neededBy 14 = .ok (.getfield 31, 3) := by decide +kernel
theorem dX6_neededBy_17 : decode cX6_neededBy 17 = .ok (.iload_n 3, 1) := by decide +kernel
theorem dX6_neededBy_18 : decode cX6_neededBy 18 = .ok (.iaload, 1) := by decide +kernel
theorem dX6_neededBy_19 : decode cX6_neededBy 19 = .ok (.iload_n 1, 1) := by decide +kernel
theorem dX6_neededBy_20 : decode cX6_neededBy 20 = .ok (.invokestatic 151, 3) := by decide +kernel
theorem dX6_neededBy_23 : decode cX6_neededBy 23 = .ok (.ifCond .eq 9, 3) := by decide +kernel
theorem dX6_neededBy_26 : decode cX6_neededBy 26 = .ok (.iconst 1, 1) := by decide +kernel
theorem dX6_neededBy_27 : decode cX6_neededBy 27 = .ok (.iload_n 3, 1) := by decide +kernel
theorem dX6_neededBy_28 : decode cX6_neededBy 28 = .ok (.ishl, 1) := by decide +kernel
theorem dX6_neededBy_29 : decode cX6_neededBy 29 = .ok (.goto 4, 3) := by decide +kernel
theorem dX6_neededBy_32 : decode cX6_neededBy 32 = .ok (.iconst 0, 1) := by decide +kernel
theorem dX6_neededBy_33 : decode cX6_neededBy 33 = .ok (.ior, 1) := by decide +kernel
theorem dX6_neededBy_34 : decode cX6_neededBy 34 = .ok (.istore_n 2, 1) := by decide +kernel
theorem dX6_neededBy_35 : decode cX6_neededBy 35 = .ok (.iinc 3 1, 3) := by decide +kernel
theorem dX6_neededBy_38 : decode cX6_neededBy 38 = .ok (.goto (-34), 3) := by decide +kernel
theorem dX6_neededBy_41 : decode cX6_neededBy 41 = .ok (.iload_n 2, 1) := by decide +kernel
theorem dX6_neededBy_42 : decode cX6_neededBy 42 = .ok (.ireturn, 1) := by decide +kernel
theorem dX6_thing_0 : decode cX6_thing 0 = .ok (.aload_n 0, 1) := by decide +kernel
theorem dX6_thing_1 : decode cX6_thing 1 = .ok (.iload_n 1, 1) := by decide +kernel
theorem dX6_thing_2 : decode cX6_thing 2 = .ok (.invokevirtual 178, 3) := by decide +kernel
theorem dX6_thing_5 : decode cX6_thing 5 = .ok (.ifCond .ne 5, 3) := by decide +kernel
theorem dX6_thing_8 : decode cX6_thing 8 = .ok (.iconst (-1), 1) := by decide +kernel
theorem dX6_thing_9 : decode cX6_thing 9 = .ok (.ireturn, 1) := by decide +kernel
theorem dX6_thing_10 : decode cX6_thing 10 = .ok (.iload_n 2, 1) := by decide +kernel
theorem dX6_thing_11 : decode cX6_thing 11 = .ok (.tableswitch 90 0 5 #[37, 44, 51, 58, 69, 84], 37) := by decide +kernel
theorem dX6_thing_48 : decode cX6_thing 48 = .ok (.aload_n 0, 1) := by decide +kernel
theorem dX6_thing_49 : decode cX6_thing 49 = .ok (.getfield 13, 3) := by decide +kernel
theorem dX6_thing_52 : decode cX6_thing 52 = .ok (.iload_n 1, 1) := by decide +kernel
theorem dX6_thing_53 : decode cX6_thing 53 = .ok (.iaload, 1) := by decide +kernel
theorem dX6_thing_54 : decode cX6_thing 54 = .ok (.ireturn, 1) := by decide +kernel
theorem dX6_thing_55 : decode cX6_thing 55 = .ok (.aload_n 0, 1) := by decide +kernel
theorem dX6_thing_56 : decode cX6_thing 56 = .ok (.getfield 16, 3) := by decide +kernel
theorem dX6_thing_59 : decode cX6_thing 59 = .ok (.iload_n 1, 1) := by decide +kernel
theorem dX6_thing_60 : decode cX6_thing 60 = .ok (.iaload, 1) := by decide +kernel
theorem dX6_thing_61 : decode cX6_thing 61 = .ok (.ireturn, 1) := by decide +kernel
theorem dX6_thing_62 : decode cX6_thing 62 = .ok (.aload_n 0, 1) := by decide +kernel
theorem dX6_thing_63 : decode cX6_thing 63 = .ok (.getfield 19, 3) := by decide +kernel
theorem dX6_thing_66 : decode cX6_thing 66 = .ok (.iload_n 1, 1) := by decide +kernel
theorem dX6_thing_67 : decode cX6_thing 67 = .ok (.iaload, 1) := by decide +kernel
theorem dX6_thing_68 : decode cX6_thing 68 = .ok (.ireturn, 1) := by decide +kernel
theorem dX6_thing_69 : decode cX6_thing 69 = .ok (.aload_n 0, 1) := by decide +kernel
theorem dX6_thing_70 : decode cX6_thing 70 = .ok (.getfield 7, 3) := by decide +kernel
theorem dX6_thing_73 : decode cX6_thing 73 = .ok (.iconst 2, 1) := by decide +kernel
theorem dX6_thing_74 : decode cX6_thing 74 = .ok (.iaload, 1) := by decide +kernel
theorem dX6_thing_75 : decode cX6_thing 75 = .ok (.iload_n 1, 1) := by decide +kernel
theorem dX6_thing_76 : decode cX6_thing 76 = .ok (.ishr, 1) := by decide +kernel
theorem dX6_thing_77 : decode cX6_thing 77 = .ok (.iconst 1, 1) := by decide +kernel
theorem dX6_thing_78 : decode cX6_thing 78 = .ok (.iand, 1) := by decide +kernel
theorem dX6_thing_79 : decode cX6_thing 79 = .ok (.ireturn, 1) := by decide +kernel
theorem dX6_thing_80 : decode cX6_thing 80 = .ok (.aload_n 0, 1) := by decide +kernel
theorem dX6_thing_81 : decode cX6_thing 81 = .ok (.iconst 0, 1) := by decide +kernel
theorem dX6_thing_82 : decode cX6_thing 82 = .ok (.iload_n 1, 1) := by decide +kernel
theorem dX6_thing_83 : decode cX6_thing 83 = .ok (.invokevirtual 182, 3) := by decide +kernel
theorem dX6_thing_86 : decode cX6_thing 86 = .ok (.ifCond .eq 7, 3) := by decide +kernel
theorem dX6_thing_89 : decode cX6_thing 89 = .ok (.iconst 1, 1) := by decide +kernel
theorem dX6_thing_90 : decode cX6_thing 90 = .ok (.goto 4, 3) := by decide +kernel
theorem dX6_thing_93 : decode cX6_thing 93 = .ok (.iconst 0, 1) := by decide +kernel
theorem dX6_thing_94 : decode cX6_thing 94 = .ok (.ireturn, 1) := by decide +kernel
theorem dX6_thing_95 : decode cX6_thing 95 = .ok (.aload_n 0, 1) := by decide +kernel
theorem dX6_thing_96 : decode cX6_thing 96 = .ok (.iload_n 1, 1) := by decide +kernel
theorem dX6_thing_97 : decode cX6_thing 97 = .ok (.invokevirtual 185, 3) := by decide +kernel
theorem dX6_thing_100 : decode cX6_thing 100 = .ok (.ireturn, 1) := by decide +kernel
theorem dX6_thing_101 : decode cX6_thing 101 = .ok (.iconst (-1), 1) := by decide +kernel
theorem dX6_thing_102 : decode cX6_thing 102 = .ok (.ireturn, 1) := by decide +kernel
theorem dX6_life_0 : decode cX6_life 0 = .ok (.aload_n 0, 1) := by decide +kernel
theorem dX6_life_1 : decode cX6_life 1 = .ok (.iload_n 1, 1) := by decide +kernel
theorem dX6_life_2 : decode cX6_life 2 = .ok (.invokevirtual 188, 3) := by decide +kernel
theorem dX6_life_5 : decode cX6_life 5 = .ok (.ifCond .ne 5, 3) := by decide +kernel
theorem dX6_life_8 : decode cX6_life 8 = .ok (.iconst (-1), 1) := by decide +kernel
theorem dX6_life_9 : decode cX6_life 9 = .ok (.ireturn, 1) := by decide +kernel
theorem dX6_life_10 : decode cX6_life 10 = .ok (.iload_n 2, 1) := by decide +kernel
theorem dX6_life_11 : decode cX6_life 11 = .ok (.tableswitch 96 0 5 #[37, 44, 51, 58, 65, 85], 37) := by decide +kernel
theorem dX6_life_48 : decode cX6_life 48 = .ok (.aload_n 0, 1) := by decide +kernel
theorem dX6_life_49 : decode cX6_life 49 = .ok (.getfield 22, 3) := by decide +kernel
theorem dX6_life_52 : decode cX6_life 52 = .ok (.iload_n 1, 1) := by decide +kernel
theorem dX6_life_53 : decode cX6_life 53 = .ok (.iaload, 1) := by decide +kernel
theorem dX6_life_54 : decode cX6_life 54 = .ok (.ireturn, 1) := by decide +kernel
theorem dX6_life_55 : decode cX6_life 55 = .ok (.aload_n 0, 1) := by decide +kernel
theorem dX6_life_56 : decode cX6_life 56 = .ok (.getfield 25, 3) := by decide +kernel
theorem dX6_life_59 : decode cX6_life 59 = .ok (.iload_n 1, 1) := by decide +kernel
theorem dX6_life_60 : decode cX6_life 60 = .ok (.iaload, 1) := by decide +kernel
theorem dX6_life_61 : decode cX6_life 61 = .ok (.ireturn, 1) := by decide +kernel
theorem dX6_life_62 : decode cX6_life 62 = .ok (.aload_n 0, 1) := by decide +kernel
theorem dX6_life_63 : decode cX6_life 63 = .ok (.getfield 28, 3) := by decide +kernel
theorem dX6_life_66 : decode cX6_life 66 = .ok (.iload_n 1, 1) := by decide +kernel
theorem dX6_life_67 : decode cX6_life 67 = .ok (.iaload, 1) := by decide +kernel
theorem dX6_life_68 : decode cX6_life 68 = .ok (.ireturn, 1) := by decide +kernel
theorem dX6_life_69 : decode cX6_life 69 = .ok (.aload_n 0, 1) := by decide +kernel
theorem dX6_life_70 : decode cX6_life 70 = .ok (.getfield 31, 3) := by decide +kernel
theorem dX6_life_73 : decode cX6_life 73 = .ok (.iload_n 1, 1) := by decide +kernel
theorem dX6_life_74 : decode cX6_life 74 = .ok (.iaload, 1) := by decide +kernel
theorem dX6_life_75 : decode cX6_life 75 = .ok (.ireturn, 1) := by decide +kernel
theorem dX6_life_76 : decode cX6_life 76 = .ok (.aload_n 0, 1) := by decide +kernel
theorem dX6_life_77 : decode cX6_life 77 = .ok (.iload_n 1, 1) := by decide +kernel
theorem dX6_life_78 : decode cX6_life 78 = .ok (.aload_n 0, 1) := by decide +kernel
theorem dX6_life_79 : decode cX6_life 79 = .ok (.getfield 7, 3) := by decide +kernel
theorem dX6_life_82 : decode cX6_life 82 = .ok (.iconst 2, 1) := by decide +kernel
theorem dX6_life_83 : decode cX6_life 83 = .ok (.iaload, 1) := by decide +kernel
theorem dX6_life_84 : decode cX6_life 84 = .ok (.invokevirtual 158, 3) := by decide +kernel
theorem dX6_life_87 : decode cX6_life 87 = .ok (.ifCond .eq 7, 3) := by decide +kernel
theorem dX6_life_90 : decode cX6_life 90 = .ok (.iconst 1, 1) := by decide +kernel
theorem dX6_life_91 : decode cX6_life 91 = .ok (.goto 4, 3) := by decide +kernel
theorem dX6_life_94 : decode cX6_life 94 = .ok (.iconst 0, 1) := by decide +kernel
theorem dX6_life_95 : decode cX6_life 95 = .ok (.ireturn, 1) := by decide +kernel
theorem dX6_life_96 : decode cX6_life 96 = .ok (.aload_n 0, 1) := by decide +kernel
theorem dX6_life_97 : decode cX6_life 97 = .ok (.getfield 7, 3) := by decide +kernel
theorem dX6_life_100 : decode cX6_life 100 = .ok (.iconst 3, 1) := by decide +kernel
theorem dX6_life_101 : decode cX6_life 101 = .ok (.iaload, 1) := by decide +kernel
theorem dX6_life_102 : decode cX6_life 102 = .ok (.iload_n 1, 1) := by decide +kernel
theorem dX6_life_103 : decode cX6_life 103 = .ok (.ishr, 1) := by decide +kernel
theorem dX6_life_104 : decode cX6_life 104 = .ok (.iconst 1, 1) := by decide +kernel
theorem dX6_life_105 : decode cX6_life 105 = .ok (.iand, 1) := by decide +kernel
theorem dX6_life_106 : decode cX6_life 106 = .ok (.ireturn, 1) := by decide +kernel
theorem dX6_life_107 : decode cX6_life 107 = .ok (.iconst (-1), 1) := by decide +kernel
theorem dX6_life_108 : decode cX6_life 108 = .ok (.ireturn, 1) := by decide +kernel
theorem dX6_room_0 : decode cX6_room 0 = .ok (.aload_n 0, 1) := by decide +kernel
theorem dX6_room_1 : decode cX6_room 1 = .ok (.aload_n 0, 1) := by decide +kernel
theorem dX6_room_2 : decode cX6_room 2 = .ok (.getfield 7, 3) := by decide +kernel
theorem dX6_room_5 : decode cX6_room 5 = .ok (.iconst 2, 1) := by decide +kernel
theorem dX6_room_6 : decode cX6_room 6 = .ok (.iaload, 1) := by decide +kernel
theorem dX6_room_7 : decode cX6_room 7 = .ok (.invokevirtual 171, 3) := by decide +kernel
theorem dX6_room_10 : decode cX6_room 10 = .ok (.ireturn, 1) := by decide +kernel
theorem dX6_isSet_0 : decode cX6_isSet 0 = .ok (.iload_n 1, 1) := by decide +kernel
theorem dX6_isSet_1 : decode cX6_isSet 1 = .ok (.i2l, 1) := by decide +kernel
theorem dX6_isSet_2 : decode cX6_isSet 2 = .ok (.lconst 0, 1) := by decide +kernel
theorem dX6_isSet_3 : decode cX6_isSet 3 = .ok (.iconst 1, 1) := by decide +kernel
theorem dX6_isSet_4 : decode cX6_isSet 4 = .ok (.aload_n 0, 1) := by decide +kernel
theorem dX6_isSet_5 : decode cX6_isSet 5 = .ok (.getfield 75, 3) := by decide +kernel
theorem dX6_isSet_8 : decode cX6_isSet 8 = .ok (.ishl, 1) := by decide +kernel
theorem dX6_isSet_9 : decode cX6_isSet 9 = .ok (.iconst 1, 1) := by decide +kernel
theorem dX6_isSet_10 : decode cX6_isSet 10 = .ok (.isub, 1) := by decide +kernel
theorem dX6_isSet_11 : decode cX6_isSet 11 = .ok (.i2l, 1) := by decide +kernel
theorem dX6_isSet_12 : decode cX6_isSet 12 = .ok (.invokestatic 78, 3) := by decide +kernel
theorem dX6_isSet_15 : decode cX6_isSet 15 = .ok (.ireturn, 1) := by decide +kernel
theorem dX6_worth_0 : decode cX6_worth 0 = .ok (.aload_n 0, 1) := by decide +kernel
theorem dX6_worth_1 : decode cX6_worth 1 = .ok (.iload_n 1, 1) := by decide +kernel
theorem dX6_worth_2 : decode cX6_worth 2 = .ok (.invokevirtual 191, 3) := by decide +kernel
theorem dX6_worth_5 : decode cX6_worth 5 = .ok (.ifCond .eq 22, 3) := by decide +kernel
theorem dX6_worth_8 : decode cX6_worth 8 = .ok (.iload_n 2, 1) := by decide +kernel
theorem dX6_worth_9 : decode cX6_worth 9 = .ok (.i2l, 1) := by decide +kernel
theorem dX6_worth_10 : decode cX6_worth 10 = .ok (.lconst 0, 1) := by decide +kernel
theorem dX6_worth_11 : decode cX6_worth 11 = .ok (.lconst 1, 1) := by decide +kernel
theorem dX6_worth_12 : decode cX6_worth 12 = .ok (.invokestatic 78, 3) := by decide +kernel
theorem dX6_worth_15 : decode cX6_worth 15 = .ok (.ifCond .eq 12, 3) := by decide +kernel
theorem dX6_worth_18 : decode cX6_worth 18 = .ok (.aload_n 0, 1) := by decide +kernel
theorem dX6_worth_19 : decode cX6_worth 19 = .ok (.iload_n 1, 1) := by decide +kernel
theorem dX6_worth_20 : decode cX6_worth 20 = .ok (.iload_n 2, 1) := by decide +kernel
theorem dX6_worth_21 : decode cX6_worth 21 = .ok (.invokevirtual 194, 3) := by decide +kernel
theorem dX6_worth_24 : decode cX6_worth 24 = .ok (.goto 4, 3) := by decide +kernel
theorem dX6_worth_27 : decode cX6_worth 27 = .ok (.iconst (-1), 1) := by decide +kernel
theorem dX6_worth_28 : decode cX6_worth 28 = .ok (.ireturn, 1) := by decide +kernel
theorem dX6_minds_0 : decode cX6_minds 0 = .ok (.aload_n 0, 1) := by decide +kernel
theorem dX6_minds_1 : decode cX6_minds 1 = .ok (.getfield 97, 3) := by decide +kernel
theorem dX6_minds_4 : decode cX6_minds 4 = .ok (.bipush 8, 2) := by decide +kernel
theorem dX6_minds_6 : decode cX6_minds 6 = .ok (.if_icmp .ne 47, 3) := by decide +kernel
theorem dX6_minds_9 : decode cX6_minds 9 = .ok (.iconst 0, 1) := by decide +kernel
theorem dX6_minds_10 : decode cX6_minds 10 = .ok (.istore_n 1, 1) := by decide +kernel
theorem dX6_minds_11 : decode cX6_minds 11 = .ok (.iload_n 1, 1) := by decide +kernel
theorem dX6_minds_12 : decode cX6_minds 12 = .ok (.bipush 28, 2) := by decide +kernel
theorem dX6_minds_14 : decode cX6_minds 14 = .ok (.if_icmp .ge 29, 3) := by decide +kernel
theorem dX6_minds_17 : decode cX6_minds 17 = .ok (.aload_n 0, 1) := by decide +kernel
theorem dX6_minds_18 : decode cX6_minds 18 = .ok (.getfield 7, 3) := by decide +kernel
theorem dX6_minds_21 : decode cX6_minds 21 = .ok (.bipush 16, 2) := by decide +kernel
theorem dX6_minds_23 : decode cX6_minds 23 = .ok (.iload_n 1, 1) := by decide +kernel
theorem dX6_minds_24 : decode cX6_minds 24 = .ok (.iadd, 1) := by decide +kernel
theorem dX6_minds_25 : decode cX6_minds 25 = .ok (.aload_n 0, 1) := by decide +kernel
theorem dX6_minds_26 : decode cX6_minds 26 = .ok (.getfield 7, 3) := by decide +kernel
theorem dX6_minds_29 : decode cX6_minds 29 = .ok (.bipush 16, 2) := by decide +kernel
theorem dX6_minds_31 : decode cX6_minds 31 = .ok (.iload_n 1, 1) := by decide +kernel
theorem dX6_minds_32 : decode cX6_minds 32 = .ok (.iadd, 1) := by decide +kernel
theorem dX6_minds_33 : decode cX6_minds 33 = .ok (.iconst 4, 1) := by decide +kernel
theorem dX6_minds_34 : decode cX6_minds 34 = .ok (.iadd, 1) := by decide +kernel
theorem dX6_minds_35 : decode cX6_minds 35 = .ok (.iaload, 1) := by decide +kernel
theorem dX6_minds_36 : decode cX6_minds 36 = .ok (.iastore, 1) := by decide +kernel
theorem dX6_minds_37 : decode cX6_minds 37 = .ok (.iinc 1 1, 3) := by decide +kernel
theorem dX6_minds_40 : decode cX6_minds 40 = .ok (.goto (-29), 3) := by decide +kernel
theorem dX6_minds_43 : decode cX6_minds 43 = .ok (.aload_n 0, 1) := by decide +kernel
theorem dX6_minds_44 : decode cX6_minds 44 = .ok (.dup, 1) := by decide +kernel
theorem dX6_minds_45 : decode cX6_minds 45 = .ok (.getfield 97, 3) := by decide +kernel
theorem dX6_minds_48 : decode cX6_minds 48 = .ok (.iconst 1, 1) := by decide +kernel
theorem dX6_minds_49 : decode cX6_minds 49 = .ok (.isub, 1) := by decide +kernel
theorem dX6_minds_50 : decode cX6_minds 50 = .ok (.putfield 97, 3) := by decide +kernel
theorem dX6_minds_53 : decode cX6_minds 53 = .ok (.aload_n 0, 1) := by decide +kernel
theorem dX6_minds_54 : decode cX6_minds 54 = .ok (.iconst 0, 1) := by decide +kernel
theorem dX6_minds_55 : decode cX6_minds 55 = .ok (.bipush 16, 2) := by decide +kernel
theorem dX6_minds_57 : decode cX6_minds 57 = .ok (.iconst 4, 1) := by decide +kernel
theorem dX6_minds_58 : decode cX6_minds 58 = .ok (.aload_n 0, 1) := by decide +kernel
theorem dX6_minds_59 : decode cX6_minds 59 = .ok (.getfield 97, 3) := by decide +kernel
theorem dX6_minds_62 : decode cX6_minds 62 = .ok (.imul, 1) := by decide +kernel
theorem dX6_minds_63 : decode cX6_minds 63 = .ok (.iadd, 1) := by decide +kernel
theorem dX6_minds_64 : decode cX6_minds 64 = .ok (.invokevirtual 197, 3) := by decide +kernel
theorem dX6_minds_67 : decode cX6_minds 67 = .ok (.aload_n 0, 1) := by decide +kernel
theorem dX6_minds_68 : decode cX6_minds 68 = .ok (.dup, 1) := by decide +kernel
theorem dX6_minds_69 : decode cX6_minds 69 = .ok (.getfield 97, 3) := by decide +kernel
theorem dX6_minds_72 : decode cX6_minds 72 = .ok (.iconst 1, 1) := by decide +kernel
theorem dX6_minds_73 : decode cX6_minds 73 = .ok (.iadd, 1) := by decide +kernel
theorem dX6_minds_74 : decode cX6_minds 74 = .ok (.putfield 97, 3) := by decide +kernel
theorem dX6_minds_77 : decode cX6_minds 77 = .ok (.return_, 1) := by decide +kernel
theorem dX6_put_0 : decode cX6_put 0 = .ok (.aload_n 0, 1) := by decide +kernel
theorem dX6_put_1 : decode cX6_put 1 = .ok (.iload_n 1, 1) := by decide +kernel
theorem dX6_put_2 : decode cX6_put 2 = .ok (.invokevirtual 178, 3) := by decide +kernel
theorem dX6_put_5 : decode cX6_put 5 = .ok (.ifCond .ne 5, 3) := by decide +kernel
theorem dX6_put_8 : decode cX6_put 8 = .ok (.iconst (-1), 1) := by decide +kernel
theorem dX6_put_9 : decode cX6_put 9 = .ok (.ireturn, 1) := by decide +kernel
theorem dX6_put_10 : decode cX6_put 10 = .ok (.aload_n 0, 1) := by decide +kernel
theorem dX6_put_11 : decode cX6_put 11 = .ok (.iconst 0, 1) := by decide +kernel
theorem dX6_put_12 : decode cX6_put 12 = .ok (.iload_n 1, 1) := by decide +kernel
theorem dX6_put_13 : decode cX6_put 13 = .ok (.invokevirtual 182, 3) := by decide +kernel
theorem dX6_put_16 : decode cX6_put 16 = .ok (.ifCond .ne 6, 3) := by decide +kernel
theorem dX6_put_19 : decode cX6_put 19 = .ok (.bipush (-2), 2) := by decide +kernel
theorem dX6_put_21 : decode cX6_put 21 = .ok (.ireturn, 1) := by decide +kernel
theorem dX6_put_22 : decode cX6_put 22 = .ok (.aload_n 0, 1) := by decide +kernel
theorem dX6_put_23 : decode cX6_put 23 = .ok (.invokevirtual 201, 3) := by decide +kernel
theorem dX6_put_26 : decode cX6_put 26 = .ok (.aload_n 0, 1) := by decide +kernel
theorem dX6_put_27 : decode cX6_put 27 = .ok (.iconst 0, 1) := by decide +kernel
theorem dX6_put_28 : decode cX6_put 28 = .ok (.iload_n 1, 1) := by decide +kernel
theorem dX6_put_29 : decode cX6_put 29 = .ok (.invokevirtual 204, 3) := by decide +kernel
theorem dX6_put_32 : decode cX6_put 32 = .ok (.aload_n 0, 1) := by decide +kernel
theorem dX6_put_33 : decode cX6_put 33 = .ok (.getfield 91, 3) := by decide +kernel
theorem dX6_put_36 : decode cX6_put 36 = .ok (.aload_n 0, 1) := by decide +kernel
theorem dX6_put_37 : decode cX6_put 37 = .ok (.aload_n 0, 1) := by decide +kernel
theorem dX6_put_38 : decode cX6_put 38 = .ok (.getfield 7, 3) := by decide +kernel
theorem dX6_put_41 : decode cX6_put 41 = .ok (.iconst 2, 1) := by decide +kernel
theorem dX6_put_42 : decode cX6_put 42 = .ok (.iaload, 1) := by decide +kernel
theorem dX6_put_43 : decode cX6_put 43 = .ok (.invokevirtual 171, 3) := by decide +kernel
theorem dX6_put_46 : decode cX6_put 46 = .ok (.isub, 1) := by decide +kernel
theorem dX6_put_47 : decode cX6_put 47 = .ok (.ireturn, 1) := by decide +kernel
theorem dX6_out_0 : decode cX6_out 0 = .ok (.aload_n 0, 1) := by decide +kernel
theorem dX6_out_1 : decode cX6_out 1 = .ok (.iload_n 1, 1) := by decide +kernel
theorem dX6_out_2 : decode cX6_out 2 = .ok (.invokevirtual 178, 3) := by decide +kernel
theorem dX6_out_5 : decode cX6_out 5 = .ok (.ifCond .ne 5, 3) := by decide +kernel
theorem dX6_out_8 : decode cX6_out 8 = .ok (.iconst (-1), 1) := by decide +kernel
theorem dX6_out_9 : decode cX6_out 9 = .ok (.ireturn, 1) := by decide +kernel
theorem dX6_out_10 : decode cX6_out 10 = .ok (.aload_n 0, 1) := by decide +kernel
theorem dX6_out_11 : decode cX6_out 11 = .ok (.getfield 7, 3) := by decide +kernel
theorem dX6_out_14 : decode cX6_out 14 = .ok (.iconst 2, 1) := by decide +kernel
theorem dX6_out_15 : decode cX6_out 15 = .ok (.iaload, 1) := by decide +kernel
theorem dX6_out_16 : decode cX6_out 16 = .ok (.iload_n 1, 1) := by decide +kernel
theorem dX6_out_17 : decode cX6_out 17 = .ok (.invokestatic 151, 3) := by decide +kernel
theorem dX6_out_20 : decode cX6_out 20 = .ok (.ifCond .ne 6, 3) := by decide +kernel
theorem dX6_out_23 : decode cX6_out 23 = .ok (.bipush (-2), 2) := by decide +kernel
theorem dX6_out_25 : decode cX6_out 25 = .ok (.ireturn, 1) := by decide +kernel
theorem dX6_out_26 : decode cX6_out 26 = .ok (.aload_n 0, 1) := by decide +kernel
theorem dX6_out_27 : decode cX6_out 27 = .ok (.invokevirtual 201, 3) := by decide +kernel
theorem dX6_out_30 : decode cX6_out 30 = .ok (.aload_n 0, 1) := by decide +kernel
theorem dX6_out_31 : decode cX6_out 31 = .ok (.getfield 7, 3) := by decide +kernel
theorem dX6_out_34 : decode cX6_out 34 = .ok (.iconst 2, 1) := by decide +kernel
theorem dX6_out_35 : decode cX6_out 35 = .ok (.dup2, 1) := by decide +kernel
theorem dX6_out_36 : decode cX6_out 36 = .ok (.iaload, 1) := by decide +kernel
theorem dX6_out_37 : decode cX6_out 37 = .ok (.iconst 1, 1) := by decide +kernel
theorem dX6_out_38 : decode cX6_out 38 = .ok (.iload_n 1, 1) := by decide +kernel
theorem dX6_out_39 : decode cX6_out 39 = .ok (.ishl, 1) := by decide +kernel
theorem dX6_out_40 : decode cX6_out 40 = .ok (.iconst (-1), 1) := by decide +kernel
theorem dX6_out_41 : decode cX6_out 41 = .ok (.ixor, 1) := by decide +kernel
theorem dX6_out_42 : decode cX6_out 42 = .ok (.iand, 1) := by decide +kernel
theorem dX6_out_43 : decode cX6_out 43 = .ok (.iastore, 1) := by decide +kernel
theorem dX6_out_44 : decode cX6_out 44 = .ok (.aload_n 0, 1) := by decide +kernel
theorem dX6_out_45 : decode cX6_out 45 = .ok (.getfield 91, 3) := by decide +kernel
theorem dX6_out_48 : decode cX6_out 48 = .ok (.aload_n 0, 1) := by decide +kernel
theorem dX6_out_49 : decode cX6_out 49 = .ok (.aload_n 0, 1) := by decide +kernel
theorem dX6_out_50 : decode cX6_out 50 = .ok (.getfield 7, 3) := by decide +kernel
theorem dX6_out_53 : decode cX6_out 53 = .ok (.iconst 2, 1) := by decide +kernel
theorem dX6_out_54 : decode cX6_out 54 = .ok (.iaload, 1) := by decide +kernel
theorem dX6_out_55 : decode cX6_out 55 = .ok (.invokevirtual 171, 3) := by decide +kernel
theorem dX6_out_58 : decode cX6_out 58 = .ok (.isub, 1) := by decide +kernel
theorem dX6_out_59 : decode cX6_out 59 = .ok (.ireturn, 1) := by decide +kernel
theorem dX6_live_0 : decode cX6_live 0 = .ok (.aload_n 0, 1) := by decide +kernel
theorem dX6_live_1 : decode cX6_live 1 = .ok (.iload_n 1, 1) := by decide +kernel
theorem dX6_live_2 : decode cX6_live 2 = .ok (.invokevirtual 188, 3) := by decide +kernel
theorem dX6_live_5 : decode cX6_live 5 = .ok (.ifCond .ne 5, 3) := by decide +kernel
theorem dX6_live_8 : decode cX6_live 8 = .ok (.iconst (-1), 1) := by decide +kernel
theorem dX6_live_9 : decode cX6_live 9 = .ok (.ireturn, 1) := by decide +kernel
theorem dX6_live_10 : decode cX6_live 10 = .ok (.aload_n 0, 1) := by decide +kernel
theorem dX6_live_11 : decode cX6_live 11 = .ok (.iconst 0, 1) := by decide +kernel
theorem dX6_live_12 : decode cX6_live 12 = .ok (.iload_n 1, 1) := by decide +kernel
theorem dX6_live_13 : decode cX6_live 13 = .ok (.invokevirtual 207, 3) := by decide +kernel
theorem dX6_live_16 : decode cX6_live 16 = .ok (.ifCond .ne 6, 3) := by decide +kernel
theorem dX6_live_19 : decode cX6_live 19 = .ok (.bipush (-2), 2) := by decide +kernel
theorem dX6_live_21 : decode cX6_live 21 = .ok (.ireturn, 1) := by decide +kernel
theorem dX6_live_22 : decode cX6_live 22 = .ok (.aload_n 0, 1) := by decide +kernel
theorem dX6_live_23 : decode cX6_live 23 = .ok (.invokevirtual 201, 3) := by decide +kernel
theorem dX6_live_26 : decode cX6_live 26 = .ok (.aload_n 0, 1) := by decide +kernel
theorem dX6_live_27 : decode cX6_live 27 = .ok (.iconst 0, 1) := by decide +kernel
theorem dX6_live_28 : decode cX6_live 28 = .ok (.iload_n 1, 1) := by decide +kernel
theorem dX6_live_29 : decode cX6_live 29 = .ok (.invokevirtual 210, 3) := by decide +kernel
theorem dX6_live_32 : decode cX6_live 32 = .ok (.ireturn, 1) := by decide +kernel
theorem dX6_pass_0 : decode cX6_pass 0 = .ok (.iload_n 1, 1) := by decide +kernel
theorem dX6_pass_1 : decode cX6_pass 1 = .ok (.i2l, 1) := by decide +kernel
theorem dX6_pass_2 : decode cX6_pass 2 = .ok (.lconst 1, 1) := by decide +kernel
theorem dX6_pass_3 : decode cX6_pass 3 = .ok (.ldc2_w 213, 3) := by decide +kernel
theorem dX6_pass_6 : decode cX6_pass 6 = .ok (.invokestatic 78, 3) := by decide +kernel
theorem dX6_pass_9 : decode cX6_pass 9 = .ok (.ifCond .ne 5, 3) := by decide +kernel
theorem dX6_pass_12 : decode cX6_pass 12 = .ok (.iconst (-1), 1) := by decide +kernel
theorem dX6_pass_13 : decode cX6_pass 13 = .ok (.ireturn, 1) := by decide +kernel
theorem dX6_pass_14 : decode cX6_pass 14 = .ok (.aload_n 0, 1) := by decide +kernel
theorem dX6_pass_15 : decode cX6_pass 15 = .ok (.invokevirtual 201, 3) := by decide +kernel
theorem dX6_pass_18 : decode cX6_pass 18 = .ok (.iconst 0, 1) := by decide +kernel
theorem dX6_pass_19 : decode cX6_pass 19 = .ok (.istore_n 2, 1) := by decide +kernel
theorem dX6_pass_20 : decode cX6_pass 20 = .ok (.iload_n 2, 1) := by decide +kernel
theorem dX6_pass_21 : decode cX6_pass 21 = .ok (.iload_n 1, 1) := by decide +kernel
theorem dX6_pass_22 : decode cX6_pass 22 = .ok (.if_icmp .ge 14, 3) := by decide +kernel
theorem dX6_pass_25 : decode cX6_pass 25 = .ok (.aload_n 0, 1) := by decide +kernel
theorem dX6_pass_26 : decode cX6_pass 26 = .ok (.iconst 0, 1) := by decide +kernel
theorem dX6_pass_27 : decode cX6_pass 27 = .ok (.invokevirtual 215, 3) := by decide +kernel
theorem dX6_pass_30 : decode cX6_pass 30 = .ok (.iinc 2 1, 3) := by decide +kernel
theorem dX6_pass_33 : decode cX6_pass 33 = .ok (.goto (-13), 3) := by decide +kernel
theorem dX6_pass_36 : decode cX6_pass 36 = .ok (.aload_n 0, 1) := by decide +kernel
theorem dX6_pass_37 : decode cX6_pass 37 = .ok (.getfield 7, 3) := by decide +kernel
theorem dX6_pass_40 : decode cX6_pass 40 = .ok (.iconst 1, 1) := by decide +kernel
theorem dX6_pass_41 : decode cX6_pass 41 = .ok (.iaload, 1) := by decide +kernel
theorem dX6_pass_42 : decode cX6_pass 42 = .ok (.ireturn, 1) := by decide +kernel
theorem dX6_undo_0 : decode cX6_undo 0 = .ok (.aload_n 0, 1) := by decide +kernel
theorem dX6_undo_1 : decode cX6_undo 1 = .ok (.getfield 97, 3) := by decide +kernel
theorem dX6_undo_4 : decode cX6_undo 4 = .ok (.ifCond .ne 6, 3) := by decide +kernel
theorem dX6_undo_7 : decode cX6_undo 7 = .ok (.bipush (-2), 2) := by decide +kernel
theorem dX6_undo_9 : decode cX6_undo 9 = .ok (.ireturn, 1) := by decide +kernel
theorem dX6_undo_10 : decode cX6_undo 10 = .ok (.aload_n 0, 1) := by decide +kernel
theorem dX6_undo_11 : decode cX6_undo 11 = .ok (.dup, 1) := by decide +kernel
theorem dX6_undo_12 : decode cX6_undo 12 = .ok (.getfield 97, 3) := by decide +kernel
theorem dX6_undo_15 : decode cX6_undo 15 = .ok (.iconst 1, 1) := by decide +kernel
theorem dX6_undo_16 : decode cX6_undo 16 = .ok (.isub, 1) := by decide +kernel
theorem dX6_undo_17 : decode cX6_undo 17 = .ok (.putfield 97, 3) := by decide +kernel
theorem dX6_undo_20 : decode cX6_undo 20 = .ok (.aload_n 0, 1) := by decide +kernel
theorem dX6_undo_21 : decode cX6_undo 21 = .ok (.bipush 16, 2) := by decide +kernel
theorem dX6_undo_23 : decode cX6_undo 23 = .ok (.iconst 4, 1) := by decide +kernel
theorem dX6_undo_24 : decode cX6_undo 24 = .ok (.aload_n 0, 1) := by decide +kernel
theorem dX6_undo_25 : decode cX6_undo 25 = .ok (.getfield 97, 3) := by decide +kernel
theorem dX6_undo_28 : decode cX6_undo 28 = .ok (.imul, 1) := by decide +kernel
theorem dX6_undo_29 : decode cX6_undo 29 = .ok (.iadd, 1) := by decide +kernel
theorem dX6_undo_30 : decode cX6_undo 30 = .ok (.iconst 0, 1) := by decide +kernel
theorem dX6_undo_31 : decode cX6_undo 31 = .ok (.invokevirtual 197, 3) := by decide +kernel
theorem dX6_undo_34 : decode cX6_undo 34 = .ok (.aload_n 0, 1) := by decide +kernel
theorem dX6_undo_35 : decode cX6_undo 35 = .ok (.getfield 97, 3) := by decide +kernel
theorem dX6_undo_38 : decode cX6_undo 38 = .ok (.ireturn, 1) := by decide +kernel
theorem dX6_costOf_0 : decode cX6_costOf 0 = .ok (.iconst 0, 1) := by decide +kernel
theorem dX6_costOf_1 : decode cX6_costOf 1 = .ok (.istore_n 2, 1) := by decide +kernel
theorem dX6_costOf_2 : decode cX6_costOf 2 = .ok (.iconst 0, 1) := by decide +kernel
theorem dX6_costOf_3 : decode cX6_costOf 3 = .ok (.istore_n 3, 1) := by decide +kernel
theorem dX6_costOf_4 : decode cX6_costOf 4 = .ok (.iload_n 3, 1) := by decide +kernel
theorem dX6_costOf_5 : decode cX6_costOf 5 = .ok (.aload_n 0, 1) := by decide +kernel
theorem dX6_costOf_6 : decode cX6_costOf 6 = .ok (.getfield 75, 3) := by decide +kernel
theorem dX6_costOf_9 : decode cX6_costOf 9 = .ok (.if_icmp .ge 30, 3) := by decide +kernel
theorem dX6_costOf_12 : decode cX6_costOf 12 = .ok (.iload_n 2, 1) := by decide +kernel
theorem dX6_costOf_13 : decode cX6_costOf 13 = .ok (.iload_n 1, 1) := by decide +kernel
theorem dX6_costOf_14 : decode cX6_costOf 14 = .ok (.iload_n 3, 1) := by decide +kernel
theorem dX6_costOf_15 : decode cX6_costOf 15 = .ok (.invokestatic 151, 3) := by decide +kernel
theorem dX6_costOf_18 : decode cX6_costOf 18 = .ok (.ifCond .eq 12, 3) := by decide +kernel
theorem dX6_costOf_21 : decode cX6_costOf 21 = .ok (.aload_n 0, 1) := by decide +kernel
theorem dX6_costOf_22 : decode cX6_costOf 22 = .ok (.getfield 19, 3) := by decide +kernel
theorem dX6_costOf_25 : decode cX6_costOf 25 = .ok (.iload_n 3, 1) := by decide +kernel
theorem dX6_costOf_26 : decode cX6_costOf 26 = .ok (.iaload, 1) := by decide +kernel
theorem dX6_costOf_27 : decode cX6_costOf 27 = .ok (.goto 4, 3) := by decide +kernel
theorem dX6_costOf_30 : decode cX6_costOf 30 = .ok (.iconst 0, 1) := by decide +kernel
theorem dX6_costOf_31 : decode cX6_costOf 31 = .ok (.iadd, 1) := by decide +kernel
theorem dX6_costOf_32 : decode cX6_costOf 32 = .ok (.istore_n 2, 1) := by decide +kernel
theorem dX6_costOf_33 : decode cX6_costOf 33 = .ok (.iinc 3 1, 3) := by decide +kernel
theorem dX6_costOf_36 : decode cX6_costOf 36 = .ok (.goto (-32), 3) := by decide +kernel
theorem dX6_costOf_39 : decode cX6_costOf 39 = .ok (.iload_n 2, 1) := by decide +kernel
theorem dX6_costOf_40 : decode cX6_costOf 40 = .ok (.ireturn, 1) := by decide +kernel
theorem dX6_best_0 : decode cX6_best 0 = .ok (.iload_n 1, 1) := by decide +kernel
theorem dX6_best_1 : decode cX6_best 1 = .ok (.i2l, 1) := by decide +kernel
theorem dX6_best_2 : decode cX6_best 2 = .ok (.lconst 0, 1) := by decide +kernel
theorem dX6_best_3 : decode cX6_best 3 = .ok (.ldc2_w 213, 3) := by decide +kernel
theorem dX6_best_6 : decode cX6_best 6 = .ok (.invokestatic 78, 3) := by decide +kernel
theorem dX6_best_9 : decode cX6_best 9 = .ok (.ifCond .eq 15, 3) := by decide +kernel
theorem dX6_best_12 : decode cX6_best 12 = .ok (.iload_n 2, 1) := by decide +kernel
theorem dX6_best_13 : decode cX6_best 13 = .ok (.i2l, 1) := by decide +kernel
theorem dX6_best_14 : decode cX6_best 14 = .ok (.lconst 0, 1) := by decide +kernel
theorem dX6_best_15 : decode cX6_best 15 = .ok (.ldc2_w 219, 3) := by decide +kernel
theorem dX6_best_18 : decode cX6_best 18 = .ok (.invokestatic 78, 3) := by decide +kernel
theorem dX6_best_21 : decode cX6_best 21 = .ok (.ifCond .ne 5, 3) := by decide +kernel
theorem dX6_best_24 : decode cX6_best 24 = .ok (.iconst (-1), 1) := by decide +kernel
theorem dX6_best_25 : decode cX6_best 25 = .ok (.ireturn, 1) := by decide +kernel
theorem dX6_best_26 : decode cX6_best 26 = .ok (.aload_n 0, 1) := by decide +kernel
theorem dX6_best_27 : decode cX6_best 27 = .ok (.getfield 7, 3) := by decide +kernel
theorem dX6_best_30 : decode cX6_best 30 = .ok (.iconst 1, 1) := by decide +kernel
theorem dX6_best_31 : decode cX6_best 31 = .ok (.iaload, 1) := by decide +kernel
theorem dX6_best_32 : decode cX6_best 32 = .ok (.iload_n 1, 1) := by decide +kernel
theorem dX6_best_33 : decode cX6_best 33 = .ok (.aload_n 0, 1) := by decide +kernel
theorem dX6_best_34 : decode cX6_best 34 = .ok (.getfield 94, 3) := by decide +kernel
theorem dX6_best_37 : decode cX6_best 37 = .ok (.imul, 1) := by decide +kernel
theorem dX6_best_38 : decode cX6_best 38 = .ok (.iadd, 1) := by decide +kernel
theorem dX6_best_39 : decode cX6_best 39 = .ok (.sipush 999, 3) := by decide +kernel
theorem dX6_best_42 : decode cX6_best 42 = .ok (.if_icmp .le 9, 3) := by decide +kernel
theorem dX6_best_45 : decode cX6_best 45 = .ok (.sipush 999, 3) := by decide +kernel
theorem dX6_best_48 : decode cX6_best 48 = .ok (.goto 16, 3) := by decide +kernel
theorem dX6_best_51 : decode cX6_best 51 = .ok (.aload_n 0, 1) := by decide +kernel
theorem dX6_best_52 : decode cX6_best 52 = .ok (.getfield 7, 3) := by decide +kernel
theorem dX6_best_55 : decode cX6_best 55 = .ok (.iconst 1, 1) := by decide +kernel
theorem dX6_best_56 : decode cX6_best 56 = .ok (.iaload, 1) := by decide +kernel
theorem dX6_best_57 : decode cX6_best 57 = .ok (.iload_n 1, 1) := by decide +kernel
theorem dX6_best_58 : decode cX6_best 58 = .ok (.aload_n 0, 1) := by decide +kernel
theorem dX6_best_59 : decode cX6_best 59 = .ok (.getfield 94, 3) := by decide +kernel
theorem dX6_best_62 : decode cX6_best 62 = .ok (.imul, 1) := by decide +kernel
theorem dX6_best_63 : decode cX6_best 63 = .ok (.iadd, 1) := by decide +kernel
theorem dX6_best_64 : decode cX6_best 64 = .ok (.istore_n 3, 1) := by decide +kernel
theorem dX6_best_65 : decode cX6_best 65 = .ok (.bipush (-4), 2) := by decide +kernel
theorem dX6_best_67 : decode cX6_best 67 = .ok (.istore 4, 2) := by decide +kernel
theorem dX6_best_69 : decode cX6_best 69 = .ok (.iconst 0, 1) := by decide +kernel
theorem dX6_best_70 : decode cX6_best 70 = .ok (.istore 5, 2) := by decide +kernel
theorem dX6_best_72 : decode cX6_best 72 = .ok (.iload 5, 2) := by decide +kernel
theorem dX6_best_74 : decode cX6_best 74 = .ok (.iconst 1, 1) := by decide +kernel
theorem dX6_best_75 : decode cX6_best 75 = .ok (.aload_n 0, 1) := by decide +kernel
theorem dX6_best_76 : decode cX6_best 76 = .ok (.getfield 75, 3) := by decide +kernel
theorem dX6_best_79 : decode cX6_best 79 = .ok (.ishl, 1) := by decide +kernel
theorem dX6_best_80 : decode cX6_best 80 = .ok (.if_icmp .ge 124, 3) := by decide +kernel
theorem dX6_best_83 : decode cX6_best 83 = .ok (.aload_n 0, 1) := by decide +kernel
theorem dX6_best_84 : decode cX6_best 84 = .ok (.iload 5, 2) := by decide +kernel
theorem dX6_best_86 : decode cX6_best 86 = .ok (.invokevirtual 171, 3) := by decide +kernel
theorem dX6_best_89 : decode cX6_best 89 = .ok (.aload_n 0, 1) := by decide +kernel
theorem dX6_best_90 : decode cX6_best 90 = .ok (.getfield 91, 3) := by decide +kernel
theorem dX6_best_93 : decode cX6_best 93 = .ok (.if_icmp .gt 26, 3) := by decide +kernel
theorem dX6_best_96 : decode cX6_best 96 = .ok (.aload_n 0, 1) := by decide +kernel
theorem dX6_best_97 : decode cX6_best 97 = .ok (.iload 5, 2) := by decide +kernel
theorem dX6_best_99 : decode cX6_best 99 = .ok (.aload_n 0, 1) := by decide +kernel
theorem dX6_best_100 : decode cX6_best 100 = .ok (.getfield 7, 3) := by decide +kernel
theorem dX6_best_103 : decode cX6_best 103 = .ok (.iconst 2, 1) := by decide +kernel
theorem dX6_best_104 : decode cX6_best 104 = .ok (.iaload, 1) := by decide +kernel
theorem dX6_best_105 : decode cX6_best 105 = .ok (.iconst (-1), 1) := by decide +kernel
theorem dX6_best_106 : decode cX6_best 106 = .ok (.ixor, 1) := by decide +kernel
theorem dX6_best_107 : decode cX6_best 107 = .ok (.iand, 1) := by decide +kernel
theorem dX6_best_108 : decode cX6_best 108 = .ok (.invokevirtual 221, 3) := by decide +kernel
theorem dX6_best_111 : decode cX6_best 111 = .ok (.iload_n 3, 1) := by decide +kernel
theorem dX6_best_112 : decode cX6_best 112 = .ok (.if_icmp .gt 7, 3) := by decide +kernel
theorem dX6_best_115 : decode cX6_best 115 = .ok (.iconst 1, 1) := by decide +kernel
theorem dX6_best_116 : decode cX6_best 116 = .ok (.goto 4, 3) := by decide +kernel
theorem dX6_best_119 : decode cX6_best 119 = .ok (.iconst 0, 1) := by decide +kernel
theorem dX6_best_120 : decode cX6_best 120 = .ok (.istore 6, 2) := by decide +kernel
theorem dX6_best_122 : decode cX6_best 122 = .ok (.iload 4, 2) := by decide +kernel
theorem dX6_best_124 : decode cX6_best 124 = .ok (.bipush (-4), 2) := by decide +kernel
theorem dX6_best_126 : decode cX6_best 126 = .ok (.if_icmp .eq 46, 3) := by decide +kernel
theorem dX6_best_129 : decode cX6_best 129 = .ok (.aload_n 0, 1) := by decide +kernel
theorem dX6_best_130 : decode cX6_best 130 = .ok (.iload 5, 2) := by decide +kernel
theorem dX6_best_132 : decode cX6_best 132 = .ok (.invokevirtual 164, 3) := by decide +kernel
theorem dX6_best_135 : decode cX6_best 135 = .ok (.aload_n 0, 1) := by decide +kernel
theorem dX6_best_136 : decode cX6_best 136 = .ok (.iload 4, 2) := by decide +kernel
theorem dX6_best_138 : decode cX6_best 138 = .ok (.invokevirtual 164, 3) := by decide +kernel
theorem dX6_best_141 : decode cX6_best 141 = .ok (.if_icmp .gt 31, 3) := by decide +kernel
theorem dX6_best_144 : decode cX6_best 144 = .ok (.aload_n 0, 1) := by decide +kernel
theorem dX6_best_145 : decode cX6_best 145 = .ok (.iload 5, 2) := by decide +kernel
theorem dX6_best_147 : decode cX6_best 147 = .ok (.invokevirtual 164, 3) := by decide +kernel
theorem dX6_best_150 : decode cX6_best 150 = .ok (.aload_n 0, 1) := by decide +kernel
theorem dX6_best_151 : decode cX6_best 151 = .ok (.iload 4, 2) := by decide +kernel
theorem dX6_best_153 : decode cX6_best 153 = .ok (.invokevirtual 164, 3) := by decide +kernel
theorem dX6_best_156 : decode cX6_best 156 = .ok (.if_icmp .ne 20, 3) := by decide +kernel
theorem dX6_best_159 : decode cX6_best 159 = .ok (.iload 5, 2) := by decide +kernel
theorem dX6_best_161 : decode cX6_best 161 = .ok (.invokestatic 155, 3) := by decide +kernel
theorem dX6_best_164 : decode cX6_best 164 = .ok (.iload 4, 2) := by decide +kernel
theorem dX6_best_166 : decode cX6_best 166 = .ok (.invokestatic 155, 3) := by decide +kernel
theorem dX6_best_169 : decode cX6_best 169 = .ok (.if_icmp .ge 7, 3) := by decide +kernel
theorem dX6_best_172 : decode cX6_best 172 = .ok (.iconst 1, 1) := by decide +kernel
theorem dX6_best_173 : decode cX6_best 173 = .ok (.goto 4, 3) := by decide +kernel
theorem dX6_best_176 : decode cX6_best 176 = .ok (.iconst 0, 1) := by decide +kernel
theorem dX6_best_177 : decode cX6_best 177 = .ok (.istore 7, 2) := by decide +kernel
theorem dX6_best_179 : decode cX6_best 179 = .ok (.iload 6, 2) := by decide +kernel
theorem dX6_best_181 : decode cX6_best 181 = .ok (.ifCond .eq 13, 3) := by decide +kernel
theorem dX6_best_184 : decode cX6_best 184 = .ok (.iload 7, 2) := by decide +kernel
theorem dX6_best_186 : decode cX6_best 186 = .ok (.ifCond .eq 8, 3) := by decide +kernel
theorem dX6_best_189 : decode cX6_best 189 = .ok (.iload 5, 2) := by decide +kernel
theorem dX6_best_191 : decode cX6_best 191 = .ok (.goto 5, 3) := by decide +kernel
theorem dX6_best_194 : decode cX6_best 194 = .ok (.iload 4, 2) := by decide +kernel
theorem dX6_best_196 : decode cX6_best 196 = .ok (.istore 4, 2) := by decide +kernel
theorem dX6_best_198 : decode cX6_best 198 = .ok (.iinc 5 1, 3) := by decide +kernel
theorem dX6_best_201 : decode cX6_best 201 = .ok (.goto (-129), 3) := by decide +kernel
theorem dX6_best_204 : decode cX6_best 204 = .ok (.iload_n 2, 1) := by decide +kernel
theorem dX6_best_205 : decode cX6_best 205 = .ok (.ifCond .ne 8, 3) := by decide +kernel
theorem dX6_best_208 : decode cX6_best 208 = .ok (.iload 4, 2) := by decide +kernel
theorem dX6_best_210 : decode cX6_best 210 = .ok (.goto 12, 3) := by decide +kernel
theorem dX6_best_213 : decode cX6_best 213 = .ok (.aload_n 0, 1) := by decide +kernel
theorem dX6_best_214 : decode cX6_best 214 = .ok (.iload 4, 2) := by decide +kernel
theorem dX6_best_216 : decode cX6_best 216 = .ok (.iload_n 2, 1) := by decide +kernel
theorem dX6_best_217 : decode cX6_best 217 = .ok (.iconst 1, 1) := by decide +kernel
theorem dX6_best_218 : decode cX6_best 218 = .ok (.isub, 1) := by decide +kernel
theorem dX6_best_219 : decode cX6_best 219 = .ok (.invokevirtual 194, 3) := by decide +kernel
theorem dX6_best_222 : decode cX6_best 222 = .ok (.ireturn, 1) := by decide +kernel
theorem dX6_cover_0 : decode cX6_cover 0 = .ok (.iload_n 1, 1) := by decide +kernel
theorem dX6_cover_1 : decode cX6_cover 1 = .ok (.i2l, 1) := by decide +kernel
theorem dX6_cover_2 : decode cX6_cover 2 = .ok (.lconst 0, 1) := by decide +kernel
theorem dX6_cover_3 : decode cX6_cover 3 = .ok (.iconst 1, 1) := by decide +kernel
theorem dX6_cover_4 : decode cX6_cover 4 = .ok (.aload_n 0, 1) := by decide +kernel
theorem dX6_cover_5 : decode cX6_cover 5 = .ok (.getfield 82, 3) := by decide +kernel
theorem dX6_cover_8 : decode cX6_cover 8 = .ok (.ishl, 1) := by decide +kernel
theorem dX6_cover_9 : decode cX6_cover 9 = .ok (.iconst 1, 1) := by decide +kernel
theorem dX6_cover_10 : decode cX6_cover 10 = .ok (.isub, 1) := by decide +kernel
theorem dX6_cover_11 : decode cX6_cover 11 = .ok (.i2l, 1) := by decide +kernel
theorem dX6_cover_12 : decode cX6_cover 12 = .ok (.invokestatic 78, 3) := by decide +kernel
theorem dX6_cover_15 : decode cX6_cover 15 = .ok (.ifCond .eq 15, 3) := by decide +kernel
theorem dX6_cover_18 : decode cX6_cover 18 = .ok (.iload_n 2, 1) := by decide +kernel
theorem dX6_cover_19 : decode cX6_cover 19 = .ok (.i2l, 1) := by decide +kernel
theorem dX6_cover_20 : decode cX6_cover 20 = .ok (.lconst 0, 1) := by decide +kernel
theorem dX6_cover_21 : decode cX6_cover 21 = .ok (.ldc2_w 219, 3) := by decide +kernel
theorem dX6_cover_24 : decode cX6_cover 24 = .ok (.invokestatic 78, 3) := by decide +kernel
theorem dX6_cover_27 : decode cX6_cover 27 = .ok (.ifCond .ne 5, 3) := by decide +kernel
theorem dX6_cover_30 : decode cX6_cover 30 = .ok (.iconst (-1), 1) := by decide +kernel
theorem dX6_cover_31 : decode cX6_cover 31 = .ok (.ireturn, 1) := by decide +kernel
theorem dX6_cover_32 : decode cX6_cover 32 = .ok (.bipush (-4), 2) := by decide +kernel
theorem dX6_cover_34 : decode cX6_cover 34 = .ok (.istore_n 3, 1) := by decide +kernel
theorem dX6_cover_35 : decode cX6_cover 35 = .ok (.iconst 0, 1) := by decide +kernel
theorem dX6_cover_36 : decode cX6_cover 36 = .ok (.istore 4, 2) := by decide +kernel
theorem dX6_cover_38 : decode cX6_cover 38 = .ok (.iload 4, 2) := by decide +kernel
theorem dX6_cover_40 : decode cX6_cover 40 = .ok (.iconst 1, 1) := by decide +kernel
theorem dX6_cover_41 : decode cX6_cover 41 = .ok (.aload_n 0, 1) := by decide +kernel
theorem dX6_cover_42 : decode cX6_cover 42 = .ok (.getfield 75, 3) := by decide +kernel
theorem dX6_cover_45 : decode cX6_cover 45 = .ok (.ishl, 1) := by decide +kernel
theorem dX6_cover_46 : decode cX6_cover 46 = .ok (.if_icmp .ge 59, 3) := by decide +kernel
theorem dX6_cover_49 : decode cX6_cover 49 = .ok (.iload_n 1, 1) := by decide +kernel
theorem dX6_cover_50 : decode cX6_cover 50 = .ok (.aload_n 0, 1) := by decide +kernel
theorem dX6_cover_51 : decode cX6_cover 51 = .ok (.iload 4, 2) := by decide +kernel
theorem dX6_cover_53 : decode cX6_cover 53 = .ok (.invokevirtual 224, 3) := by decide +kernel
theorem dX6_cover_56 : decode cX6_cover 56 = .ok (.iconst (-1), 1) := by decide +kernel
theorem dX6_cover_57 : decode cX6_cover 57 = .ok (.ixor, 1) := by decide +kernel
theorem dX6_cover_58 : decode cX6_cover 58 = .ok (.iand, 1) := by decide +kernel
theorem dX6_cover_59 : decode cX6_cover 59 = .ok (.ifCond .ne 7, 3) := by decide +kernel
theorem dX6_cover_62 : decode cX6_cover 62 = .ok (.iconst 1, 1) := by decide +kernel
theorem dX6_cover_63 : decode cX6_cover 63 = .ok (.goto 4, 3) := by decide +kernel
theorem dX6_cover_66 : decode cX6_cover 66 = .ok (.iconst 0, 1) := by decide +kernel
theorem dX6_cover_67 : decode cX6_cover 67 = .ok (.istore 5, 2) := by decide +kernel
theorem dX6_cover_69 : decode cX6_cover 69 = .ok (.iload 5, 2) := by decide +kernel
theorem dX6_cover_71 : decode cX6_cover 71 = .ok (.ifCond .eq 26, 3) := by decide +kernel
theorem dX6_cover_74 : decode cX6_cover 74 = .ok (.iload_n 3, 1) := by decide +kernel
theorem dX6_cover_75 : decode cX6_cover 75 = .ok (.bipush (-4), 2) := by decide +kernel
theorem dX6_cover_77 : decode cX6_cover 77 = .ok (.if_icmp .eq 15, 3) := by decide +kernel
theorem dX6_cover_80 : decode cX6_cover 80 = .ok (.iload 4, 2) := by decide +kernel
theorem dX6_cover_82 : decode cX6_cover 82 = .ok (.invokestatic 155, 3) := by decide +kernel
theorem dX6_cover_85 : decode cX6_cover 85 = .ok (.iload_n 3, 1) := by decide +kernel
theorem dX6_cover_86 : decode cX6_cover 86 = .ok (.invokestatic 155, 3) := by decide +kernel
theorem dX6_cover_89 : decode cX6_cover 89 = .ok (.if_icmp .ge 8, 3) := by decide +kernel
theorem dX6_cover_92 : decode cX6_cover 92 = .ok (.iload 4, 2) := by decide +kernel
theorem dX6_cover_94 : decode cX6_cover 94 = .ok (.goto 4, 3) := by decide +kernel
theorem dX6_cover_97 : decode cX6_cover 97 = .ok (.iload_n 3, 1) := by decide +kernel
theorem dX6_cover_98 : decode cX6_cover 98 = .ok (.istore_n 3, 1) := by decide +kernel
theorem dX6_cover_99 : decode cX6_cover 99 = .ok (.iinc 4 1, 3) := by decide +kernel
theorem dX6_cover_102 : decode cX6_cover 102 = .ok (.goto (-64), 3) := by decide +kernel
theorem dX6_cover_105 : decode cX6_cover 105 = .ok (.iload_n 2, 1) := by decide +kernel
theorem dX6_cover_106 : decode cX6_cover 106 = .ok (.ifCond .ne 7, 3) := by decide +kernel
theorem dX6_cover_109 : decode cX6_cover 109 = .ok (.iload_n 3, 1) := by decide +kernel
theorem dX6_cover_110 : decode cX6_cover 110 = .ok (.goto 20, 3) := by decide +kernel
theorem dX6_cover_113 : decode cX6_cover 113 = .ok (.iload_n 2, 1) := by decide +kernel
theorem dX6_cover_114 : decode cX6_cover 114 = .ok (.iconst 1, 1) := by decide +kernel
theorem dX6_cover_115 : decode cX6_cover 115 = .ok (.if_icmp .ne 10, 3) := by decide +kernel
theorem dX6_cover_118 : decode cX6_cover 118 = .ok (.iload_n 3, 1) := by decide +kernel
theorem dX6_cover_119 : decode cX6_cover 119 = .ok (.invokestatic 155, 3) := by decide +kernel
theorem dX6_cover_122 : decode cX6_cover 122 = .ok (.goto 8, 3) := by decide +kernel
theorem dX6_cover_125 : decode cX6_cover 125 = .ok (.aload_n 0, 1) := by decide +kernel
theorem dX6_cover_126 : decode cX6_cover 126 = .ok (.iload_n 3, 1) := by decide +kernel
theorem dX6_cover_127 : decode cX6_cover 127 = .ok (.invokevirtual 171, 3) := by decide +kernel
theorem dX6_cover_130 : decode cX6_cover 130 = .ok (.ireturn, 1) := by decide +kernel
theorem dX6_serves_0 : decode cX6_serves 0 = .ok (.bipush (-4), 2) := by decide +kernel
theorem dX6_serves_2 : decode cX6_serves 2 = .ok (.istore_n 1, 1) := by decide +kernel
theorem dX6_serves_3 : decode cX6_serves 3 = .ok (.ldc 227, 2) := by decide +kernel
theorem dX6_serves_5 : decode cX6_serves 5 = .ok (.istore_n 2, 1) := by decide +kernel
theorem dX6_serves_6 : decode cX6_serves 6 = .ok (.iconst 0, 1) := by decide +kernel
theorem dX6_serves_7 : decode cX6_serves 7 = .ok (.istore_n 3, 1) := by decide +kernel
theorem dX6_serves_8 : decode cX6_serves 8 = .ok (.iload_n 3, 1) := by decide +kernel
theorem dX6_serves_9 : decode cX6_serves 9 = .ok (.aload_n 0, 1) := by decide +kernel
theorem dX6_serves_10 : decode cX6_serves 10 = .ok (.getfield 75, 3) := by decide +kernel
theorem dX6_serves_13 : decode cX6_serves 13 = .ok (.if_icmp .ge 61, 3) := by decide +kernel
theorem dX6_serves_16 : decode cX6_serves 16 = .ok (.aload_n 0, 1) := by decide +kernel
theorem dX6_serves_17 : decode cX6_serves 17 = .ok (.getfield 7, 3) := by decide +kernel
theorem dX6_serves_20 : decode cX6_serves 20 = .ok (.iconst 2, 1) := by decide +kernel
theorem dX6_serves_21 : decode cX6_serves 21 = .ok (.iaload, 1) := by decide +kernel
theorem dX6_serves_22 : decode cX6_serves 22 = .ok (.iload_n 3, 1) := by decide +kernel
theorem dX6_serves_23 : decode cX6_serves 23 = .ok (.invokestatic 151, 3) := by decide +kernel
theorem dX6_serves_26 : decode cX6_serves 26 = .ok (.ifCond .eq 42, 3) := by decide +kernel
theorem dX6_serves_29 : decode cX6_serves 29 = .ok (.aload_n 0, 1) := by decide +kernel
theorem dX6_serves_30 : decode cX6_serves 30 = .ok (.aload_n 0, 1) := by decide +kernel
theorem dX6_serves_31 : decode cX6_serves 31 = .ok (.getfield 7, 3) := by decide +kernel
theorem dX6_serves_34 : decode cX6_serves 34 = .ok (.iconst 2, 1) := by decide +kernel
theorem dX6_serves_35 : decode cX6_serves 35 = .ok (.iaload, 1) := by decide +kernel
theorem dX6_serves_36 : decode cX6_serves 36 = .ok (.iconst 1, 1) := by decide +kernel
theorem dX6_serves_37 : decode cX6_serves 37 = .ok (.iload_n 3, 1) := by decide +kernel
theorem dX6_serves_38 : decode cX6_serves 38 = .ok (.ishl, 1) := by decide +kernel
theorem dX6_serves_39 : decode cX6_serves 39 = .ok (.iconst (-1), 1) := by decide +kernel
theorem dX6_serves_40 : decode cX6_serves 40 = .ok (.ixor, 1) := by decide +kernel
theorem dX6_serves_41 : decode cX6_serves 41 = .ok (.iand, 1) := by decide +kernel
theorem dX6_serves_42 : decode cX6_serves 42 = .ok (.invokevirtual 164, 3) := by decide +kernel
theorem dX6_serves_45 : decode cX6_serves 45 = .ok (.iload_n 2, 1) := by decide +kernel
theorem dX6_serves_46 : decode cX6_serves 46 = .ok (.if_icmp .ge 22, 3) := by decide +kernel
theorem dX6_serves_49 : decode cX6_serves 49 = .ok (.iload_n 3, 1) := by decide +kernel
theorem dX6_serves_50 : decode cX6_serves 50 = .ok (.istore_n 1, 1) := by decide +kernel
theorem dX6_serves_51 : decode cX6_serves 51 = .ok (.aload_n 0, 1) := by decide +kernel
theorem dX6_serves_52 : decode cX6_serves 52 = .ok (.aload_n 0, 1) := by decide +kernel
theorem dX6_serves_53 : decode cX6_serves 53 = .ok (.getfield 7, 3) := by decide +kernel
theorem dX6_serves_56 : decode cX6_serves 56 = .ok (.iconst 2, 1) := by decide +kernel
theorem dX6_serves_57 : decode cX6_serves 57 = .ok (.iaload, 1) := by decide +kernel
theorem dX6_serves_58 : decode cX6_serves 58 = .ok (.iconst 1, 1) := by decide +kernel
theorem dX6_serves_59 : decode cX6_serves 59 = .ok (.iload_n 3, 1) := by decide +kernel
theorem dX6_serves_60 : decode cX6_serves 60 = .ok (.ishl, 1) := by decide +kernel
theorem dX6_serves_61 : decode cX6_serves 61 = .ok (.iconst (-1), 1) := by decide +kernel
theorem dX6_serves_62 : decode cX6_serves 62 = .ok (.ixor, 1) := by decide +kernel
theorem dX6_serves_63 : decode cX6_serves 63 = .ok (.iand, 1) := by decide +kernel
theorem dX6_serves_64 : decode cX6_serves 64 = .ok (.invokevirtual 164, 3) := by decide +kernel
theorem dX6_serves_67 : decode cX6_serves 67 = .ok (.istore_n 2, 1) := by decide +kernel
theorem dX6_serves_68 : decode cX6_serves 68 = .ok (.iinc 3 1, 3) := by decide +kernel
theorem dX6_serves_71 : decode cX6_serves 71 = .ok (.goto (-63), 3) := by decide +kernel
theorem dX6_serves_74 : decode cX6_serves 74 = .ok (.iload_n 1, 1) := by decide +kernel
theorem dX6_serves_75 : decode cX6_serves 75 = .ok (.ireturn, 1) := by decide +kernel
theorem dX6_longestRow_0 : decode cX6_longestRow 0 = .ok (.iconst 0, 1) := by decide +kernel
theorem dX6_longestRow_1 : decode cX6_longestRow 1 = .ok (.istore_n 1, 1) := by decide +kernel
theorem dX6_longestRow_2 : decode cX6_longestRow 2 = .ok (.iconst 0, 1) := by decide +kernel
theorem dX6_longestRow_3 : decode cX6_longestRow 3 = .ok (.istore_n 2, 1) := by decide +kernel
theorem dX6_longestRow_4 : decode cX6_longestRow 4 = .ok (.aload_n 0, 1) := by decide +kernel
theorem dX6_longestRow_5 : decode cX6_longestRow 5 = .ok (.iconst 0, 1) := by decide +kernel
theorem dX6_longestRow_6 : decode cX6_longestRow 6 = .ok (.bipush 48, 2) := by decide +kernel
theorem dX6_longestRow_8 : decode cX6_longestRow 8 = .ok (.invokevirtual 197, 3) := by decide +kernel
theorem dX6_longestRow_11 : decode cX6_longestRow 11 = .ok (.aload_n 0, 1) := by decide +kernel
theorem dX6_longestRow_12 : decode cX6_longestRow 12 = .ok (.getfield 46, 3) := by decide +kernel
theorem dX6_longestRow_15 : decode cX6_longestRow 15 = .ok (.iconst 0, 1) := by decide +kernel
theorem dX6_longestRow_16 : decode cX6_longestRow 16 = .ok (.iconst (-1), 1) := by decide +kernel
theorem dX6_longestRow_17 : decode cX6_longestRow 17 = .ok (.iastore, 1) := by decide +kernel
theorem dX6_longestRow_18 : decode cX6_longestRow 18 = .ok (.iload_n 2, 1) := by decide +kernel
theorem dX6_longestRow_19 : decode cX6_longestRow 19 = .ok (.ifCond .lt 135, 3) := by decide +kernel
theorem dX6_longestRow_22 : decode cX6_longestRow 22 = .ok (.bipush 48, 2) := by decide +kernel
theorem dX6_longestRow_24 : decode cX6_longestRow 24 = .ok (.iconst 4, 1) := by decide +kernel
theorem dX6_longestRow_25 : decode cX6_longestRow 25 = .ok (.iload_n 2, 1) := by decide +kernel
theorem dX6_longestRow_26 : decode cX6_longestRow 26 = .ok (.imul, 1) := by decide +kernel
theorem dX6_longestRow_27 : decode cX6_longestRow 27 = .ok (.iadd, 1) := by decide +kernel
theorem dX6_longestRow_28 : decode cX6_longestRow 28 = .ok (.istore_n 3, 1) := by decide +kernel
theorem dX6_longestRow_29 : decode cX6_longestRow 29 = .ok (.aload_n 0, 1) := by decide +kernel
theorem dX6_longestRow_30 : decode cX6_longestRow 30 = .ok (.getfield 46, 3) := by decide +kernel
theorem dX6_longestRow_33 : decode cX6_longestRow 33 = .ok (.iload_n 2, 1) := by decide +kernel
theorem dX6_longestRow_34 : decode cX6_longestRow 34 = .ok (.iaload, 1) := by decide +kernel
theorem dX6_longestRow_35 : decode cX6_longestRow 35 = .ok (.iconst 1, 1) := by decide +kernel
theorem dX6_longestRow_36 : decode cX6_longestRow 36 = .ok (.iadd, 1) := by decide +kernel
theorem dX6_longestRow_37 : decode cX6_longestRow 37 = .ok (.istore 4, 2) := by decide +kernel
theorem dX6_longestRow_39 : decode cX6_longestRow 39 = .ok (.iload 4, 2) := by decide +kernel
theorem dX6_longestRow_41 : decode cX6_longestRow 41 = .ok (.aload_n 0, 1) := by decide +kernel
theorem dX6_longestRow_42 : decode cX6_longestRow 42 = .ok (.getfield 82, 3) := by decide +kernel
theorem dX6_longestRow_45 : decode cX6_longestRow 45 = .ok (.if_icmp .ge 19, 3) := by decide +kernel
theorem dX6_longestRow_48 : decode cX6_longestRow 48 = .ok (.aload_n 0, 1) := by decide +kernel
theorem dX6_longestRow_49 : decode cX6_longestRow 49 = .ok (.iload_n 3, 1) := by decide +kernel
theorem dX6_longestRow_50 : decode cX6_longestRow 50 = .ok (.iload 4, 2) := by decide +kernel
theorem dX6_longestRow_52 : decode cX6_longestRow 52 = .ok (.invokevirtual 207, 3) := by decide +kernel
theorem dX6_longestRow_55 : decode cX6_longestRow 55 = .ok (.ifCond .ne 9, 3) := by decide +kernel
theorem dX6_longestRow_58 : decode cX6_longestRow 58 = .ok (.iinc 4 1, 3) := by decide +kernel
theorem dX6_longestRow_61 : decode cX6_longestRow 61 = .ok (.goto (-22), 3) := by decide +kernel
theorem dX6_longestRow_64 : decode cX6_longestRow 64 = .ok (.iload 4, 2) := by decide +kernel
theorem dX6_longestRow_66 : decode cX6_longestRow 66 = .ok (.aload_n 0, 1) := by decide +kernel
theorem dX6_longestRow_67 : decode cX6_longestRow 67 = .ok (.getfield 82, 3) := by decide +kernel
theorem dX6_longestRow_70 : decode cX6_longestRow 70 = .ok (.if_icmp .ne 9, 3) := by decide +kernel
theorem dX6_longestRow_73 : decode cX6_longestRow 73 = .ok (.iinc 2 (-1), 3) := by decide +kernel
theorem dX6_longestRow_76 : decode cX6_longestRow 76 = .ok (.goto 75, 3) := by decide +kernel
theorem dX6_longestRow_79 : decode cX6_longestRow 79 = .ok (.aload_n 0, 1) := by decide +kernel
theorem dX6_longestRow_80 : decode cX6_longestRow 80 = .ok (.getfield 46, 3) := by decide +kernel
theorem dX6_longestRow_83 : decode cX6_longestRow 83 = .ok (.iload_n 2, 1) := by decide +kernel
theorem dX6_longestRow_84 : decode cX6_longestRow 84 = .ok (.iload 4, 2) := by decide +kernel
theorem dX6_longestRow_86 : decode cX6_longestRow 86 = .ok (.iastore, 1) := by decide +kernel
theorem dX6_longestRow_87 : decode cX6_longestRow 87 = .ok (.aload_n 0, 1) := by decide +kernel
theorem dX6_longestRow_88 : decode cX6_longestRow 88 = .ok (.iload_n 3, 1) := by decide +kernel
theorem dX6_longestRow_89 : decode cX6_longestRow 89 = .ok (.iload_n 3, 1) := by decide +kernel
theorem dX6_longestRow_90 : decode cX6_longestRow 90 = .ok (.iconst 4, 1) := by decide +kernel
theorem dX6_longestRow_91 : decode cX6_longestRow 91 = .ok (.iadd, 1) := by decide +kernel
theorem dX6_longestRow_92 : decode cX6_longestRow 92 = .ok (.invokevirtual 197, 3) := by decide +kernel
theorem dX6_longestRow_95 : decode cX6_longestRow 95 = .ok (.aload_n 0, 1) := by decide +kernel
theorem dX6_longestRow_96 : decode cX6_longestRow 96 = .ok (.iload_n 3, 1) := by decide +kernel
theorem dX6_longestRow_97 : decode cX6_longestRow 97 = .ok (.iconst 4, 1) := by decide +kernel
theorem dX6_longestRow_98 : decode cX6_longestRow 98 = .ok (.iadd, 1) := by decide +kernel
theorem dX6_longestRow_99 : decode cX6_longestRow 99 = .ok (.iload 4, 2) := by decide +kernel
theorem dX6_longestRow_101 : decode cX6_longestRow 101 = .ok (.invokevirtual 210, 3) := by decide +kernel
theorem dX6_longestRow_104 : decode cX6_longestRow 104 = .ok (.pop, 1) := by decide +kernel
theorem dX6_longestRow_105 : decode cX6_longestRow 105 = .ok (.iinc 2 1, 3) := by decide +kernel
theorem dX6_longestRow_108 : decode cX6_longestRow 108 = .ok (.aload_n 0, 1) := by decide +kernel
theorem dX6_longestRow_109 : decode cX6_longestRow 109 = .ok (.getfield 46, 3) := by decide +kernel
theorem dX6_longestRow_112 : decode cX6_longestRow 112 = .ok (.iload_n 2, 1) := by decide +kernel
theorem dX6_longestRow_113 : decode cX6_longestRow 113 = .ok (.iconst (-1), 1) := by decide +kernel
theorem dX6_longestRow_114 : decode cX6_longestRow 114 = .ok (.iastore, 1) := by decide +kernel
theorem dX6_longestRow_115 : decode cX6_longestRow 115 = .ok (.iload_n 2, 1) := by decide +kernel
theorem dX6_longestRow_116 : decode cX6_longestRow 116 = .ok (.iload_n 1, 1) := by decide +kernel
theorem dX6_longestRow_117 : decode cX6_longestRow 117 = .ok (.if_icmp .le 34, 3) := by decide +kernel
theorem dX6_longestRow_120 : decode cX6_longestRow 120 = .ok (.iload_n 2, 1) := by decide +kernel
theorem dX6_longestRow_121 : decode cX6_longestRow 121 = .ok (.istore_n 1, 1) := by decide +kernel
theorem dX6_longestRow_122 : decode cX6_longestRow 122 = .ok (.iconst 0, 1) := by decide +kernel
theorem dX6_longestRow_123 : decode cX6_longestRow 123 = .ok (.istore 5, 2) := by decide +kernel
theorem dX6_longestRow_125 : decode cX6_longestRow 125 = .ok (.iload 5, 2) := by decide +kernel
theorem dX6_longestRow_127 : decode cX6_longestRow 127 = .ok (.iload_n 2, 1) := by decide +kernel
theorem dX6_longestRow_128 : decode cX6_longestRow 128 = .ok (.if_icmp .ge 23, 3) := by decide +kernel
theorem dX6_longestRow_131 : decode cX6_longestRow 131 = .ok (.aload_n 0, 1) := by decide +kernel
theorem dX6_longestRow_132 : decode cX6_longestRow 132 = .ok (.getfield 49, 3) := by decide +kernel
theorem dX6_longestRow_135 : decode cX6_longestRow 135 = .ok (.iload 5, 2) := by decide +kernel
theorem dX6_longestRow_137 : decode cX6_longestRow 137 = .ok (.aload_n 0, 1) := by decide +kernel
theorem dX6_longestRow_138 : decode cX6_longestRow 138 = .ok (.getfield 46, 3) := by decide +kernel
theorem dX6_longestRow_141 : decode cX6_longestRow 141 = .ok (.iload 5, 2) := by decide +kernel
theorem dX6_longestRow_143 : decode cX6_longestRow 143 = .ok (.iaload, 1) := by decide +kernel
theorem dX6_longestRow_144 : decode cX6_longestRow 144 = .ok (.iastore, 1) := by decide +kernel
theorem dX6_longestRow_145 : decode cX6_longestRow 145 = .ok (.iinc 5 1, 3) := by decide +kernel
theorem dX6_longestRow_148 : decode cX6_longestRow 148 = .ok (.goto (-23), 3) := by decide +kernel
theorem dX6_longestRow_151 : decode cX6_longestRow 151 = .ok (.goto (-133), 3) := by decide +kernel
theorem dX6_longestRow_154 : decode cX6_longestRow 154 = .ok (.iload_n 1, 1) := by decide +kernel
theorem dX6_longestRow_155 : decode cX6_longestRow 155 = .ok (.ireturn, 1) := by decide +kernel
theorem dX6_row_0 : decode cX6_row 0 = .ok (.iload_n 1, 1) := by decide +kernel
theorem dX6_row_1 : decode cX6_row 1 = .ok (.i2l, 1) := by decide +kernel
theorem dX6_row_2 : decode cX6_row 2 = .ok (.lconst 0, 1) := by decide +kernel
theorem dX6_row_3 : decode cX6_row 3 = .ok (.ldc2_w 228, 3) := by decide +kernel
theorem dX6_row_6 : decode cX6_row 6 = .ok (.invokestatic 78, 3) := by decide +kernel
theorem dX6_row_9 : decode cX6_row 9 = .ok (.ifCond .ne 5, 3) := by decide +kernel
theorem dX6_row_12 : decode cX6_row 12 = .ok (.iconst (-1), 1) := by decide +kernel
theorem dX6_row_13 : decode cX6_row 13 = .ok (.ireturn, 1) := by decide +kernel
theorem dX6_row_14 : decode cX6_row 14 = .ok (.aload_n 0, 1) := by decide +kernel
theorem dX6_row_15 : decode cX6_row 15 = .ok (.invokevirtual 230, 3) := by decide +kernel
theorem dX6_row_18 : decode cX6_row 18 = .ok (.istore_n 2, 1) := by decide +kernel
theorem dX6_row_19 : decode cX6_row 19 = .ok (.iload_n 1, 1) := by decide +kernel
theorem dX6_row_20 : decode cX6_row 20 = .ok (.ifCond .ne 7, 3) := by decide +kernel
theorem dX6_row_23 : decode cX6_row 23 = .ok (.iload_n 2, 1) := by decide +kernel
theorem dX6_row_24 : decode cX6_row 24 = .ok (.goto 21, 3) := by decide +kernel
theorem dX6_row_27 : decode cX6_row 27 = .ok (.iload_n 1, 1) := by decide +kernel
theorem dX6_row_28 : decode cX6_row 28 = .ok (.iload_n 2, 1) := by decide +kernel
theorem dX6_row_29 : decode cX6_row 29 = .ok (.if_icmp .gt 14, 3) := by decide +kernel
theorem dX6_row_32 : decode cX6_row 32 = .ok (.aload_n 0, 1) := by decide +kernel
theorem dX6_row_33 : decode cX6_row 33 = .ok (.getfield 49, 3) := by decide +kernel
theorem dX6_row_36 : decode cX6_row 36 = .ok (.iload_n 1, 1) := by decide +kernel
theorem dX6_row_37 : decode cX6_row 37 = .ok (.iconst 1, 1) := by decide +kernel
theorem dX6_row_38 : decode cX6_row 38 = .ok (.isub, 1) := by decide +kernel
theorem dX6_row_39 : decode cX6_row 39 = .ok (.iaload, 1) := by decide +kernel
theorem dX6_row_40 : decode cX6_row 40 = .ok (.goto 5, 3) := by decide +kernel
theorem dX6_row_43 : decode cX6_row 43 = .ok (.bipush (-4), 2) := by decide +kernel
theorem dX6_row_45 : decode cX6_row 45 = .ok (.ireturn, 1) := by decide +kernel
theorem dX6_bargain_0 : decode cX6_bargain 0 = .ok (.aload_n 0, 1) := by decide +kernel
theorem dX6_bargain_1 : decode cX6_bargain 1 = .ok (.aload_n 0, 1) := by decide +kernel
theorem dX6_bargain_2 : decode cX6_bargain 2 = .ok (.getfield 7, 3) := by decide +kernel
theorem dX6_bargain_5 : decode cX6_bargain 5 = .ok (.iconst 2, 1) := by decide +kernel
theorem dX6_bargain_6 : decode cX6_bargain 6 = .ok (.iaload, 1) := by decide +kernel
theorem dX6_bargain_7 : decode cX6_bargain 7 = .ok (.invokevirtual 224, 3) := by decide +kernel
theorem dX6_bargain_10 : decode cX6_bargain 10 = .ok (.istore_n 1, 1) := by decide +kernel
theorem dX6_bargain_11 : decode cX6_bargain 11 = .ok (.iconst 0, 1) := by decide +kernel
theorem dX6_bargain_12 : decode cX6_bargain 12 = .ok (.istore_n 2, 1) := by decide +kernel
theorem dX6_bargain_13 : decode cX6_bargain 13 = .ok (.iconst 0, 1) := by decide +kernel
theorem dX6_bargain_14 : decode cX6_bargain 14 = .ok (.istore_n 3, 1) := by decide +kernel
theorem dX6_bargain_15 : decode cX6_bargain 15 = .ok (.iload_n 3, 1) := by decide +kernel
theorem dX6_bargain_16 : decode cX6_bargain 16 = .ok (.aload_n 0, 1) := by decide +kernel
theorem dX6_bargain_17 : decode cX6_bargain 17 = .ok (.getfield 82, 3) := by decide +kernel
theorem dX6_bargain_20 : decode cX6_bargain 20 = .ok (.if_icmp .ge 145, 3) := by decide +kernel
theorem dX6_bargain_23 : decode cX6_bargain 23 = .ok (.iload_n 1, 1) := by decide +kernel
theorem dX6_bargain_24 : decode cX6_bargain 24 = .ok (.iload_n 3, 1) := by decide +kernel
theorem dX6_bargain_25 : decode cX6_bargain 25 = .ok (.invokestatic 151, 3) := by decide +kernel
theorem dX6_bargain_28 : decode cX6_bargain 28 = .ok (.istore 4, 2) := by decide +kernel
theorem dX6_bargain_30 : decode cX6_bargain 30 = .ok (.iconst 0, 1) := by decide +kernel
theorem dX6_bargain_31 : decode cX6_bargain 31 = .ok (.istore 5, 2) := by decide +kernel
theorem dX6_bargain_33 : decode cX6_bargain 33 = .ok (.iload 5, 2) := by decide +kernel
theorem dX6_bargain_35 : decode cX6_bargain 35 = .ok (.aload_n 0, 1) := by decide +kernel
theorem dX6_bargain_36 : decode cX6_bargain 36 = .ok (.getfield 82, 3) := by decide +kernel
theorem dX6_bargain_39 : decode cX6_bargain 39 = .ok (.if_icmp .ge 105, 3) := by decide +kernel
theorem dX6_bargain_42 : decode cX6_bargain 42 = .ok (.iload_n 1, 1) := by decide +kernel
theorem dX6_bargain_43 : decode cX6_bargain 43 = .ok (.iload 5, 2) := by decide +kernel
theorem dX6_bargain_45 : decode cX6_bargain 45 = .ok (.invokestatic 151, 3) := by decide +kernel
theorem dX6_bargain_48 : decode cX6_bargain 48 = .ok (.ifCond .eq 70, 3) := by decide +kernel
theorem dX6_bargain_51 : decode cX6_bargain 51 = .ok (.aload_n 0, 1) := by decide +kernel
theorem dX6_bargain_52 : decode cX6_bargain 52 = .ok (.getfield 25, 3) := by decide +kernel
theorem dX6_bargain_55 : decode cX6_bargain 55 = .ok (.iload 5, 2) := by decide +kernel
theorem dX6_bargain_57 : decode cX6_bargain 57 = .ok (.iaload, 1) := by decide +kernel
theorem dX6_bargain_58 : decode cX6_bargain 58 = .ok (.aload_n 0, 1) := by decide +kernel
theorem dX6_bargain_59 : decode cX6_bargain 59 = .ok (.getfield 25, 3) := by decide +kernel
theorem dX6_bargain_62 : decode cX6_bargain 62 = .ok (.iload_n 3, 1) := by decide +kernel
theorem dX6_bargain_63 : decode cX6_bargain 63 = .ok (.iaload, 1) := by decide +kernel
theorem dX6_bargain_64 : decode cX6_bargain 64 = .ok (.if_icmp .lt 54, 3) := by decide +kernel
theorem dX6_bargain_67 : decode cX6_bargain 67 = .ok (.aload_n 0, 1) := by decide +kernel
theorem dX6_bargain_68 : decode cX6_bargain 68 = .ok (.getfield 28, 3) := by decide +kernel
theorem dX6_bargain_71 : decode cX6_bargain 71 = .ok (.iload 5, 2) := by decide +kernel
theorem dX6_bargain_73 : decode cX6_bargain 73 = .ok (.iaload, 1) := by decide +kernel
theorem dX6_bargain_74 : decode cX6_bargain 74 = .ok (.aload_n 0, 1) := by decide +kernel
theorem dX6_bargain_75 : decode cX6_bargain 75 = .ok (.getfield 28, 3) := by decide +kernel
theorem dX6_bargain_78 : decode cX6_bargain 78 = .ok (.iload_n 3, 1) := by decide +kernel
theorem dX6_bargain_79 : decode cX6_bargain 79 = .ok (.iaload, 1) := by decide +kernel
theorem dX6_bargain_80 : decode cX6_bargain 80 = .ok (.if_icmp .lt 38, 3) := by decide +kernel
theorem dX6_bargain_83 : decode cX6_bargain 83 = .ok (.aload_n 0, 1) := by decide +kernel
theorem dX6_bargain_84 : decode cX6_bargain 84 = .ok (.getfield 25, 3) := by decide +kernel
theorem dX6_bargain_87 : decode cX6_bargain 87 = .ok (.iload 5, 2) := by decide +kernel
theorem dX6_bargain_89 : decode cX6_bargain 89 = .ok (.iaload, 1) := by decide +kernel
theorem dX6_bargain_90 : decode cX6_bargain 90 = .ok (.aload_n 0, 1) := by decide +kernel
theorem dX6_bargain_91 : decode cX6_bargain 91 = .ok (.getfield 28, 3) := by decide +kernel
theorem dX6_bargain_94 : decode cX6_bargain 94 = .ok (.iload 5, 2) := by decide +kernel
theorem dX6_bargain_96 : decode cX6_bargain 96 = .ok (.iaload, 1) := by decide +kernel
theorem dX6_bargain_97 : decode cX6_bargain 97 = .ok (.iadd, 1) := by decide +kernel
theorem dX6_bargain_98 : decode cX6_bargain 98 = .ok (.aload_n 0, 1) := by decide +kernel
theorem dX6_bargain_99 : decode cX6_bargain 99 = .ok (.getfield 25, 3) := by decide +kernel
theorem dX6_bargain_102 : decode cX6_bargain 102 = .ok (.iload_n 3, 1) := by decide +kernel
theorem dX6_bargain_103 : decode cX6_bargain 103 = .ok (.iaload, 1) := by decide +kernel
theorem dX6_bargain_104 : decode cX6_bargain 104 = .ok (.aload_n 0, 1) := by decide +kernel
theorem dX6_bargain_105 : decode cX6_bargain 105 = .ok (.getfield 28, 3) := by decide +kernel
theorem dX6_bargain_108 : decode cX6_bargain 108 = .ok (.iload_n 3, 1) := by decide +kernel
theorem dX6_bargain_109 : decode cX6_bargain 109 = .ok (.iaload, 1) := by decide +kernel
theorem dX6_bargain_110 : decode cX6_bargain 110 = .ok (.iadd, 1) := by decide +kernel
theorem dX6_bargain_111 : decode cX6_bargain 111 = .ok (.if_icmp .le 7, 3) := by decide +kernel
theorem dX6_bargain_114 : decode cX6_bargain 114 = .ok (.iconst 1, 1) := by decide +kernel
theorem dX6_bargain_115 : decode cX6_bargain 115 = .ok (.goto 4, 3) := by decide +kernel
theorem dX6_bargain_118 : decode cX6_bargain 118 = .ok (.iconst 0, 1) := by decide +kernel
theorem dX6_bargain_119 : decode cX6_bargain 119 = .ok (.istore 6, 2) := by decide +kernel
theorem dX6_bargain_121 : decode cX6_bargain 121 = .ok (.iload 4, 2) := by decide +kernel
theorem dX6_bargain_123 : decode cX6_bargain 123 = .ok (.ifCond .eq 12, 3) := by decide +kernel
theorem dX6_bargain_126 : decode cX6_bargain 126 = .ok (.iload 6, 2) := by decide +kernel
theorem dX6_bargain_128 : decode cX6_bargain 128 = .ok (.ifCond .ne 7, 3) := by decide +kernel
theorem dX6_bargain_131 : decode cX6_bargain 131 = .ok (.iconst 1, 1) := by decide +kernel
theorem dX6_bargain_132 : decode cX6_bargain 132 = .ok (.goto 4, 3) := by decide +kernel
theorem dX6_bargain_135 : decode cX6_bargain 135 = .ok (.iconst 0, 1) := by decide +kernel
theorem dX6_bargain_136 : decode cX6_bargain 136 = .ok (.istore 4, 2) := by decide +kernel
theorem dX6_bargain_138 : decode cX6_bargain 138 = .ok (.iinc 5 1, 3) := by decide +kernel
theorem dX6_bargain_141 : decode cX6_bargain 141 = .ok (.goto (-108), 3) := by decide +kernel
theorem dX6_bargain_144 : decode cX6_bargain 144 = .ok (.iload_n 2, 1) := by decide +kernel
theorem dX6_bargain_145 : decode cX6_bargain 145 = .ok (.iload 4, 2) := by decide +kernel
theorem dX6_bargain_147 : decode cX6_bargain 147 = .ok (.ifCond .eq 9, 3) := by decide +kernel
theorem dX6_bargain_150 : decode cX6_bargain 150 = .ok (.iconst 1, 1) := by decide +kernel
theorem dX6_bargain_151 : decode cX6_bargain 151 = .ok (.iload_n 3, 1) := by decide +kernel
theorem dX6_bargain_152 : decode cX6_bargain 152 = .ok (.ishl, 1) := by decide +kernel
theorem dX6_bargain_153 : decode cX6_bargain 153 = .ok (.goto 4, 3) := by decide +kernel
theorem dX6_bargain_156 : decode cX6_bargain 156 = .ok (.iconst 0, 1) := by decide +kernel
theorem dX6_bargain_157 : decode cX6_bargain 157 = .ok (.ior, 1) := by decide +kernel
theorem dX6_bargain_158 : decode cX6_bargain 158 = .ok (.istore_n 2, 1) := by decide +kernel
theorem dX6_bargain_159 : decode cX6_bargain 159 = .ok (.iinc 3 1, 3) := by decide +kernel
theorem dX6_bargain_162 : decode cX6_bargain 162 = .ok (.goto (-147), 3) := by decide +kernel
theorem dX6_bargain_165 : decode cX6_bargain 165 = .ok (.iload_n 2, 1) := by decide +kernel
theorem dX6_bargain_166 : decode cX6_bargain 166 = .ok (.ireturn, 1) := by decide +kernel
theorem dX6_talk_0 : decode cX6_talk 0 = .ok (.iload_n 1, 1) := by decide +kernel
theorem dX6_talk_1 : decode cX6_talk 1 = .ok (.i2l, 1) := by decide +kernel
theorem dX6_talk_2 : decode cX6_talk 2 = .ok (.lconst 0, 1) := by decide +kernel
theorem dX6_talk_3 : decode cX6_talk 3 = .ok (.lconst 1, 1) := by decide +kernel
theorem dX6_talk_4 : decode cX6_talk 4 = .ok (.invokestatic 78, 3) := by decide +kernel
theorem dX6_talk_7 : decode cX6_talk 7 = .ok (.ifCond .ne 5, 3) := by decide +kernel
theorem dX6_talk_10 : decode cX6_talk 10 = .ok (.iconst (-1), 1) := by decide +kernel
theorem dX6_talk_11 : decode cX6_talk 11 = .ok (.ireturn, 1) := by decide +kernel
theorem dX6_talk_12 : decode cX6_talk 12 = .ok (.aload_n 0, 1) := by decide +kernel
theorem dX6_talk_13 : decode cX6_talk 13 = .ok (.aload_n 0, 1) := by decide +kernel
theorem dX6_talk_14 : decode cX6_talk 14 = .ok (.getfield 7, 3) := by decide +kernel
theorem dX6_talk_17 : decode cX6_talk 17 = .ok (.iconst 2, 1) := by decide +kernel
theorem dX6_talk_18 : decode cX6_talk 18 = .ok (.iaload, 1) := by decide +kernel
theorem dX6_talk_19 : decode cX6_talk 19 = .ok (.invokevirtual 224, 3) := by decide +kernel
theorem dX6_talk_22 : decode cX6_talk 22 = .ok (.istore_n 2, 1) := by decide +kernel
theorem dX6_talk_23 : decode cX6_talk 23 = .ok (.iload_n 2, 1) := by decide +kernel
theorem dX6_talk_24 : decode cX6_talk 24 = .ok (.invokestatic 155, 3) := by decide +kernel
theorem dX6_talk_27 : decode cX6_talk 27 = .ok (.istore_n 3, 1) := by decide +kernel
theorem dX6_talk_28 : decode cX6_talk 28 = .ok (.iload_n 3, 1) := by decide +kernel
theorem dX6_talk_29 : decode cX6_talk 29 = .ok (.ifCond .ne 6, 3) := by decide +kernel
theorem dX6_talk_32 : decode cX6_talk 32 = .ok (.bipush (-4), 2) := by decide +kernel
theorem dX6_talk_34 : decode cX6_talk 34 = .ok (.ireturn, 1) := by decide +kernel
theorem dX6_talk_35 : decode cX6_talk 35 = .ok (.iconst 1, 1) := by decide +kernel
theorem dX6_talk_36 : decode cX6_talk 36 = .ok (.istore 4, 2) := by decide +kernel
theorem dX6_talk_38 : decode cX6_talk 38 = .ok (.iload 4, 2) := by decide +kernel
theorem dX6_talk_40 : decode cX6_talk 40 = .ok (.bipush 64, 2) := by decide +kernel
theorem dX6_talk_42 : decode cX6_talk 42 = .ok (.if_icmp .ge 237, 3) := by decide +kernel
theorem dX6_talk_45 : decode cX6_talk 45 = .ok (.aload_n 0, 1) := by decide +kernel
theorem dX6_talk_46 : decode cX6_talk 46 = .ok (.getfield 52, 3) := by decide +kernel
theorem dX6_talk_49 : decode cX6_talk 49 = .ok (.iload 4, 2) := by decide +kernel
theorem dX6_talk_51 : decode cX6_talk 51 = .ok (.bipush (-4), 2) := by decide +kernel
theorem dX6_talk_53 : decode cX6_talk 53 = .ok (.iastore, 1) := by decide +kernel
theorem dX6_talk_54 : decode cX6_talk 54 = .ok (.aload_n 0, 1) := by decide +kernel
theorem dX6_talk_55 : decode cX6_talk 55 = .ok (.getfield 55, 3) := by decide +kernel
theorem dX6_talk_58 : decode cX6_talk 58 = .ok (.iload 4, 2) := by decide +kernel
theorem dX6_talk_60 : decode cX6_talk 60 = .ok (.bipush (-4), 2) := by decide +kernel
theorem dX6_talk_62 : decode cX6_talk 62 = .ok (.iastore, 1) := by decide +kernel
theorem dX6_talk_63 : decode cX6_talk 63 = .ok (.iload_n 3, 1) := by decide +kernel
theorem dX6_talk_64 : decode cX6_talk 64 = .ok (.iload 4, 2) := by decide +kernel
theorem dX6_talk_66 : decode cX6_talk 66 = .ok (.invokestatic 155, 3) := by decide +kernel
theorem dX6_talk_69 : decode cX6_talk 69 = .ok (.isub, 1) := by decide +kernel
theorem dX6_talk_70 : decode cX6_talk 70 = .ok (.iconst 2, 1) := by decide +kernel
theorem dX6_talk_71 : decode cX6_talk 71 = .ok (.irem, 1) := by decide +kernel
theorem dX6_talk_72 : decode cX6_talk 72 = .ok (.ifCond .ne 7, 3) := by decide +kernel
theorem dX6_talk_75 : decode cX6_talk 75 = .ok (.iconst 1, 1) := by decide +kernel
theorem dX6_talk_76 : decode cX6_talk 76 = .ok (.goto 4, 3) := by decide +kernel
theorem dX6_talk_79 : decode cX6_talk 79 = .ok (.iconst 0, 1) := by decide +kernel
theorem dX6_talk_80 : decode cX6_talk 80 = .ok (.istore 5, 2) := by decide +kernel
theorem dX6_talk_82 : decode cX6_talk 82 = .ok (.iconst 0, 1) := by decide +kernel
theorem dX6_talk_83 : decode cX6_talk 83 = .ok (.istore 6, 2) := by decide +kernel
theorem dX6_talk_85 : decode cX6_talk 85 = .ok (.iload 6, 2) := by decide +kernel
theorem dX6_talk_87 : decode cX6_talk 87 = .ok (.bipush 6, 2) := by decide +kernel
theorem dX6_talk_89 : decode cX6_talk 89 = .ok (.if_icmp .ge 184, 3) := by decide +kernel
theorem dX6_talk_92 : decode cX6_talk 92 = .ok (.iload 4, 2) := by decide +kernel
theorem dX6_talk_94 : decode cX6_talk 94 = .ok (.iload 6, 2) := by decide +kernel
theorem dX6_talk_96 : decode cX6_talk 96 = .ok (.invokestatic 151, 3) := by decide +kernel
theorem dX6_talk_99 : decode cX6_talk 99 = .ok (.ifCond .eq 168, 3) := by decide +kernel
theorem dX6_talk_102 : decode cX6_talk 102 = .ok (.iload 4, 2) := by decide +kernel
theorem dX6_talk_104 : decode cX6_talk 104 = .ok (.iload_n 2, 1) := by decide +kernel
theorem dX6_talk_105 : decode cX6_talk 105 = .ok (.iconst (-1), 1) := by decide +kernel
theorem dX6_talk_106 : decode cX6_talk 106 = .ok (.ixor, 1) := by decide +kernel
theorem dX6_talk_107 : decode cX6_talk 107 = .ok (.iand, 1) := by decide +kernel
theorem dX6_talk_108 : decode cX6_talk 108 = .ok (.ifCond .ne 159, 3) := by decide +kernel
theorem dX6_talk_111 : decode cX6_talk 111 = .ok (.iload 4, 2) := by decide +kernel
theorem dX6_talk_113 : decode cX6_talk 113 = .ok (.invokestatic 155, 3) := by decide +kernel
theorem dX6_talk_116 : decode cX6_talk 116 = .ok (.iconst 1, 1) := by decide +kernel
theorem dX6_talk_117 : decode cX6_talk 117 = .ok (.if_icmp .ne 8, 3) := by decide +kernel
theorem dX6_talk_120 : decode cX6_talk 120 = .ok (.iload 6, 2) := by decide +kernel
theorem dX6_talk_122 : decode cX6_talk 122 = .ok (.goto 17, 3) := by decide +kernel
theorem dX6_talk_125 : decode cX6_talk 125 = .ok (.aload_n 0, 1) := by decide +kernel
theorem dX6_talk_126 : decode cX6_talk 126 = .ok (.getfield 52, 3) := by decide +kernel
theorem dX6_talk_129 : decode cX6_talk 129 = .ok (.iload 4, 2) := by decide +kernel
theorem dX6_talk_131 : decode cX6_talk 131 = .ok (.iconst 1, 1) := by decide +kernel
theorem dX6_talk_132 : decode cX6_talk 132 = .ok (.iload 6, 2) := by decide +kernel
theorem dX6_talk_134 : decode cX6_talk 134 = .ok (.ishl, 1) := by decide +kernel
theorem dX6_talk_135 : decode cX6_talk 135 = .ok (.iconst (-1), 1) := by decide +kernel
theorem dX6_talk_136 : decode cX6_talk 136 = .ok (.ixor, 1) := by decide +kernel
theorem dX6_talk_137 : decode cX6_talk 137 = .ok (.iand, 1) := by decide +kernel
theorem dX6_talk_138 : decode cX6_talk 138 = .ok (.iaload, 1) := by decide +kernel
theorem dX6_talk_139 : decode cX6_talk 139 = .ok (.istore 7, 2) := by decide +kernel
theorem dX6_talk_141 : decode cX6_talk 141 = .ok (.iload 5, 2) := by decide +kernel
theorem dX6_talk_143 : decode cX6_talk 143 = .ok (.ifCond .eq 13, 3) := by decide +kernel
theorem dX6_talk_146 : decode cX6_talk 146 = .ok (.aload_n 0, 1) := by decide +kernel
theorem dX6_talk_147 : decode cX6_talk 147 = .ok (.getfield 25, 3) := by decide +kernel
theorem dX6_talk_150 : decode cX6_talk 150 = .ok (.iload 7, 2) := by decide +kernel
theorem dX6_talk_152 : decode cX6_talk 152 = .ok (.iaload, 1) := by decide +kernel
theorem dX6_talk_153 : decode cX6_talk 153 = .ok (.goto 10, 3) := by decide +kernel
theorem dX6_talk_156 : decode cX6_talk 156 = .ok (.aload_n 0, 1) := by decide +kernel
theorem dX6_talk_157 : decode cX6_talk 157 = .ok (.getfield 28, 3) := by decide +kernel
theorem dX6_talk_160 : decode cX6_talk 160 = .ok (.iload 7, 2) := by decide +kernel
theorem dX6_talk_162 : decode cX6_talk 162 = .ok (.iaload, 1) := by decide +kernel
theorem dX6_talk_163 : decode cX6_talk 163 = .ok (.istore 8, 2) := by decide +kernel
theorem dX6_talk_165 : decode cX6_talk 165 = .ok (.aload_n 0, 1) := by decide +kernel
theorem dX6_talk_166 : decode cX6_talk 166 = .ok (.getfield 52, 3) := by decide +kernel
theorem dX6_talk_169 : decode cX6_talk 169 = .ok (.iload 4, 2) := by decide +kernel
theorem dX6_talk_171 : decode cX6_talk 171 = .ok (.iaload, 1) := by decide +kernel
theorem dX6_talk_172 : decode cX6_talk 172 = .ok (.bipush (-4), 2) := by decide +kernel
theorem dX6_talk_174 : decode cX6_talk 174 = .ok (.if_icmp .ne 7, 3) := by decide +kernel
theorem dX6_talk_177 : decode cX6_talk 177 = .ok (.iconst (-1), 1) := by decide +kernel
theorem dX6_talk_178 : decode cX6_talk 178 = .ok (.goto 35, 3) := by decide +kernel
theorem dX6_talk_181 : decode cX6_talk 181 = .ok (.iload 5, 2) := by decide +kernel
theorem dX6_talk_183 : decode cX6_talk 183 = .ok (.ifCond .eq 18, 3) := by decide +kernel
theorem dX6_talk_186 : decode cX6_talk 186 = .ok (.aload_n 0, 1) := by decide +kernel
theorem dX6_talk_187 : decode cX6_talk 187 = .ok (.getfield 25, 3) := by decide +kernel
theorem dX6_talk_190 : decode cX6_talk 190 = .ok (.aload_n 0, 1) := by decide +kernel
theorem dX6_talk_191 : decode cX6_talk 191 = .ok (.getfield 52, 3) := by decide +kernel
theorem dX6_talk_194 : decode cX6_talk 194 = .ok (.iload 4, 2) := by decide +kernel
theorem dX6_talk_196 : decode cX6_talk 196 = .ok (.iaload, 1) := by decide +kernel
theorem dX6_talk_197 : decode cX6_talk 197 = .ok (.iaload, 1) := by decide +kernel
theorem dX6_talk_198 : decode cX6_talk 198 = .ok (.goto 15, 3) := by decide +kernel
theorem dX6_talk_201 : decode cX6_talk 201 = .ok (.aload_n 0, 1) := by decide +kernel
theorem dX6_talk_202 : decode cX6_talk 202 = .ok (.getfield 28, 3) := by decide +kernel
theorem dX6_talk_205 : decode cX6_talk 205 = .ok (.aload_n 0, 1) := by decide +kernel
theorem dX6_talk_206 : decode cX6_talk 206 = .ok (.getfield 52, 3) := by decide +kernel
theorem dX6_talk_209 : decode cX6_talk 209 = .ok (.iload 4, 2) := by decide +kernel
theorem dX6_talk_211 : decode cX6_talk 211 = .ok (.iaload, 1) := by decide +kernel
theorem dX6_talk_212 : decode cX6_talk 212 = .ok (.iaload, 1) := by decide +kernel
theorem dX6_talk_213 : decode cX6_talk 213 = .ok (.istore 9, 2) := by decide +kernel
theorem dX6_talk_215 : decode cX6_talk 215 = .ok (.aload_n 0, 1) := by decide +kernel
theorem dX6_talk_216 : decode cX6_talk 216 = .ok (.getfield 55, 3) := by decide +kernel
theorem dX6_talk_219 : decode cX6_talk 219 = .ok (.iload 4, 2) := by decide +kernel
theorem dX6_talk_221 : decode cX6_talk 221 = .ok (.iload 8, 2) := by decide +kernel
theorem dX6_talk_223 : decode cX6_talk 223 = .ok (.iload 9, 2) := by decide +kernel
theorem dX6_talk_225 : decode cX6_talk 225 = .ok (.if_icmp .le 8, 3) := by decide +kernel
theorem dX6_talk_228 : decode cX6_talk 228 = .ok (.iload 6, 2) := by decide +kernel
theorem dX6_talk_230 : decode cX6_talk 230 = .ok (.goto 10, 3) := by decide +kernel
theorem dX6_talk_233 : decode cX6_talk 233 = .ok (.aload_n 0, 1) := by decide +kernel
theorem dX6_talk_234 : decode cX6_talk 234 = .ok (.getfield 55, 3) := by decide +kernel
theorem dX6_talk_237 : decode cX6_talk 237 = .ok (.iload 4, 2) := by decide +kernel
theorem dX6_talk_239 : decode cX6_talk 239 = .ok (.iaload, 1) := by decide +kernel
theorem dX6_talk_240 : decode cX6_talk 240 = .ok (.iastore, 1) := by decide +kernel
theorem dX6_talk_241 : decode cX6_talk 241 = .ok (.aload_n 0, 1) := by decide +kernel
theorem dX6_talk_242 : decode cX6_talk 242 = .ok (.getfield 52, 3) := by decide +kernel
theorem dX6_talk_245 : decode cX6_talk 245 = .ok (.iload 4, 2) := by decide +kernel
theorem dX6_talk_247 : decode cX6_talk 247 = .ok (.iload 8, 2) := by decide +kernel
theorem dX6_talk_249 : decode cX6_talk 249 = .ok (.iload 9, 2) := by decide +kernel
theorem dX6_talk_251 : decode cX6_talk 251 = .ok (.if_icmp .le 8, 3) := by decide +kernel
theorem dX6_talk_254 : decode cX6_talk 254 = .ok (.iload 7, 2) := by decide +kernel
theorem dX6_talk_256 : decode cX6_talk 256 = .ok (.goto 10, 3) := by decide +kernel
theorem dX6_talk_259 : decode cX6_talk 259 = .ok (.aload_n 0, 1) := by decide +kernel
theorem dX6_talk_260 : decode cX6_talk 260 = .ok (.getfield 52, 3) := by decide +kernel
theorem dX6_talk_263 : decode cX6_talk 263 = .ok (.iload 4, 2) := by decide +kernel
theorem dX6_talk_265 : decode cX6_talk 265 = .ok (.iaload, 1) := by decide +kernel
theorem dX6_talk_266 : decode cX6_talk 266 = .ok (.iastore, 1) := by decide +kernel
theorem dX6_talk_267 : decode cX6_talk 267 = .ok (.iinc 6 1, 3) := by decide +kernel
theorem dX6_talk_270 : decode cX6_talk 270 = .ok (.goto (-185), 3) := by decide +kernel
theorem dX6_talk_273 : decode cX6_talk 273 = .ok (.iinc 4 1, 3) := by decide +kernel
theorem dX6_talk_276 : decode cX6_talk 276 = .ok (.goto (-238), 3) := by decide +kernel
theorem dX6_talk_279 : decode cX6_talk 279 = .ok (.iload_n 1, 1) := by decide +kernel
theorem dX6_talk_280 : decode cX6_talk 280 = .ok (.ifCond .ne 12, 3) := by decide +kernel
theorem dX6_talk_283 : decode cX6_talk 283 = .ok (.aload_n 0, 1) := by decide +kernel
theorem dX6_talk_284 : decode cX6_talk 284 = .ok (.getfield 52, 3) := by decide +kernel
theorem dX6_talk_287 : decode cX6_talk 287 = .ok (.iload_n 2, 1) := by decide +kernel
theorem dX6_talk_288 : decode cX6_talk 288 = .ok (.iaload, 1) := by decide +kernel
theorem dX6_talk_289 : decode cX6_talk 289 = .ok (.goto 19, 3) := by decide +kernel
theorem dX6_talk_292 : decode cX6_talk 292 = .ok (.iload_n 3, 1) := by decide +kernel
theorem dX6_talk_293 : decode cX6_talk 293 = .ok (.iconst 1, 1) := by decide +kernel
theorem dX6_talk_294 : decode cX6_talk 294 = .ok (.if_icmp .ne 8, 3) := by decide +kernel
theorem dX6_talk_297 : decode cX6_talk 297 = .ok (.bipush (-4), 2) := by decide +kernel
theorem dX6_talk_299 : decode cX6_talk 299 = .ok (.goto 9, 3) := by decide +kernel
theorem dX6_talk_302 : decode cX6_talk 302 = .ok (.aload_n 0, 1) := by decide +kernel
theorem dX6_talk_303 : decode cX6_talk 303 = .ok (.getfield 55, 3) := by decide +kernel
theorem dX6_talk_306 : decode cX6_talk 306 = .ok (.iload_n 2, 1) := by decide +kernel
theorem dX6_talk_307 : decode cX6_talk 307 = .ok (.iaload, 1) := by decide +kernel
theorem dX6_talk_308 : decode cX6_talk 308 = .ok (.ireturn, 1) := by decide +kernel
theorem dX6_see_0 : decode cX6_see 0 = .ok (.aload_n 0, 1) := by decide +kernel
theorem dX6_see_1 : decode cX6_see 1 = .ok (.iload_n 1, 1) := by decide +kernel
theorem dX6_see_2 : decode cX6_see 2 = .ok (.invokevirtual 178, 3) := by decide +kernel
theorem dX6_see_5 : decode cX6_see 5 = .ok (.ifCond .ne 5, 3) := by decide +kernel
theorem dX6_see_8 : decode cX6_see 8 = .ok (.iconst (-1), 1) := by decide +kernel
theorem dX6_see_9 : decode cX6_see 9 = .ok (.ireturn, 1) := by decide +kernel
theorem dX6_see_10 : decode cX6_see 10 = .ok (.aload_n 0, 1) := by decide +kernel
theorem dX6_see_11 : decode cX6_see 11 = .ok (.getfield 233, 3) := by decide +kernel
theorem dX6_see_14 : decode cX6_see 14 = .ok (.bipush 8, 2) := by decide +kernel
theorem dX6_see_16 : decode cX6_see 16 = .ok (.if_icmp .ne 6, 3) := by decide +kernel
theorem dX6_see_19 : decode cX6_see 19 = .ok (.bipush (-3), 2) := by decide +kernel
theorem dX6_see_21 : decode cX6_see 21 = .ok (.ireturn, 1) := by decide +kernel
theorem dX6_see_22 : decode cX6_see 22 = .ok (.aload_n 0, 1) := by decide +kernel
theorem dX6_see_23 : decode cX6_see 23 = .ok (.dup, 1) := by decide +kernel
theorem dX6_see_24 : decode cX6_see 24 = .ok (.getfield 236, 3) := by decide +kernel
theorem dX6_see_27 : decode cX6_see 27 = .ok (.iload_n 2, 1) := by decide +kernel
theorem dX6_see_28 : decode cX6_see 28 = .ok (.ifCond .eq 9, 3) := by decide +kernel
theorem dX6_see_31 : decode cX6_see 31 = .ok (.iconst 1, 1) := by decide +kernel
theorem dX6_see_32 : decode cX6_see 32 = .ok (.iload_n 1, 1) := by decide +kernel
theorem dX6_see_33 : decode cX6_see 33 = .ok (.ishl, 1) := by decide +kernel
theorem dX6_see_34 : decode cX6_see 34 = .ok (.goto 4, 3) := by decide +kernel
theorem dX6_see_37 : decode cX6_see 37 = .ok (.iconst 0, 1) := by decide +kernel
theorem dX6_see_38 : decode cX6_see 38 = .ok (.ior, 1) := by decide +kernel
theorem dX6_see_39 : decode cX6_see 39 = .ok (.putfield 236, 3) := by decide +kernel
theorem dX6_see_42 : decode cX6_see 42 = .ok (.aload_n 0, 1) := by decide +kernel
theorem dX6_see_43 : decode cX6_see 43 = .ok (.dup, 1) := by decide +kernel
theorem dX6_see_44 : decode cX6_see 44 = .ok (.getfield 239, 3) := by decide +kernel
theorem dX6_see_47 : decode cX6_see 47 = .ok (.iload_n 2, 1) := by decide +kernel
theorem dX6_see_48 : decode cX6_see 48 = .ok (.ifCond .eq 7, 3) := by decide +kernel
theorem dX6_see_51 : decode cX6_see 51 = .ok (.iconst 0, 1) := by decide +kernel
theorem dX6_see_52 : decode cX6_see 52 = .ok (.goto 6, 3) := by decide +kernel
theorem dX6_see_55 : decode cX6_see 55 = .ok (.iconst 1, 1) := by decide +kernel
theorem dX6_see_56 : decode cX6_see 56 = .ok (.iload_n 1, 1) := by decide +kernel
theorem dX6_see_57 : decode cX6_see 57 = .ok (.ishl, 1) := by decide +kernel
theorem dX6_see_58 : decode cX6_see 58 = .ok (.ior, 1) := by decide +kernel
theorem dX6_see_59 : decode cX6_see 59 = .ok (.putfield 239, 3) := by decide +kernel
theorem dX6_see_62 : decode cX6_see 62 = .ok (.aload_n 0, 1) := by decide +kernel
theorem dX6_see_63 : decode cX6_see 63 = .ok (.dup, 1) := by decide +kernel
theorem dX6_see_64 : decode cX6_see 64 = .ok (.getfield 233, 3) := by decide +kernel
theorem dX6_see_67 : decode cX6_see 67 = .ok (.iconst 1, 1) := by decide +kernel
theorem dX6_see_68 : decode cX6_see 68 = .ok (.iadd, 1) := by decide +kernel
theorem dX6_see_69 : decode cX6_see 69 = .ok (.putfield 233, 3) := by decide +kernel
theorem dX6_see_72 : decode cX6_see 72 = .ok (.aload_n 0, 1) := by decide +kernel
theorem dX6_see_73 : decode cX6_see 73 = .ok (.getfield 233, 3) := by decide +kernel
theorem dX6_see_76 : decode cX6_see 76 = .ok (.ireturn, 1) := by decide +kernel
theorem dX6_forget_0 : decode cX6_forget 0 = .ok (.aload_n 0, 1) := by decide +kernel
theorem dX6_forget_1 : decode cX6_forget 1 = .ok (.getfield 233, 3) := by decide +kernel
theorem dX6_forget_4 : decode cX6_forget 4 = .ok (.istore_n 1, 1) := by decide +kernel
theorem dX6_forget_5 : decode cX6_forget 5 = .ok (.aload_n 0, 1) := by decide +kernel
theorem dX6_forget_6 : decode cX6_forget 6 = .ok (.iconst 0, 1) := by decide +kernel
theorem dX6_forget_7 : decode cX6_forget 7 = .ok (.putfield 233, 3) := by decide +kernel
theorem dX6_forget_10 : decode cX6_forget 10 = .ok (.aload_n 0, 1) := by decide +kernel
theorem dX6_forget_11 : decode cX6_forget 11 = .ok (.iconst 0, 1) := by decide +kernel
theorem dX6_forget_12 : decode cX6_forget 12 = .ok (.putfield 236, 3) := by decide +kernel
theorem dX6_forget_15 : decode cX6_forget 15 = .ok (.aload_n 0, 1) := by decide +kernel
theorem dX6_forget_16 : decode cX6_forget 16 = .ok (.iconst 0, 1) := by decide +kernel
theorem dX6_forget_17 : decode cX6_forget 17 = .ok (.putfield 239, 3) := by decide +kernel
theorem dX6_forget_20 : decode cX6_forget 20 = .ok (.iload_n 1, 1) := by decide +kernel
theorem dX6_forget_21 : decode cX6_forget 21 = .ok (.ireturn, 1) := by decide +kernel
theorem dX6_meant_0 : decode cX6_meant 0 = .ok (.iconst 0, 1) := by decide +kernel
theorem dX6_meant_1 : decode cX6_meant 1 = .ok (.istore_n 1, 1) := by decide +kernel
theorem dX6_meant_2 : decode cX6_meant 2 = .ok (.iconst 0, 1) := by decide +kernel
theorem dX6_meant_3 : decode cX6_meant 3 = .ok (.istore_n 2, 1) := by decide +kernel
theorem dX6_meant_4 : decode cX6_meant 4 = .ok (.iload_n 2, 1) := by decide +kernel
theorem dX6_meant_5 : decode cX6_meant 5 = .ok (.aload_n 0, 1) := by decide +kernel
theorem dX6_meant_6 : decode cX6_meant 6 = .ok (.getfield 82, 3) := by decide +kernel
theorem dX6_meant_9 : decode cX6_meant 9 = .ok (.if_icmp .ge 49, 3) := by decide +kernel
theorem dX6_meant_12 : decode cX6_meant 12 = .ok (.iload_n 1, 1) := by decide +kernel
theorem dX6_meant_13 : decode cX6_meant 13 = .ok (.aload_n 0, 1) := by decide +kernel
theorem dX6_meant_14 : decode cX6_meant 14 = .ok (.getfield 236, 3) := by decide +kernel
theorem dX6_meant_17 : decode cX6_meant 17 = .ok (.aload_n 0, 1) := by decide +kernel
theorem dX6_meant_18 : decode cX6_meant 18 = .ok (.getfield 31, 3) := by decide +kernel
theorem dX6_meant_21 : decode cX6_meant 21 = .ok (.iload_n 2, 1) := by decide +kernel
theorem dX6_meant_22 : decode cX6_meant 22 = .ok (.iaload, 1) := by decide +kernel
theorem dX6_meant_23 : decode cX6_meant 23 = .ok (.iconst (-1), 1) := by decide +kernel
theorem dX6_meant_24 : decode cX6_meant 24 = .ok (.ixor, 1) := by decide +kernel
theorem dX6_meant_25 : decode cX6_meant 25 = .ok (.iand, 1) := by decide +kernel
theorem dX6_meant_26 : decode cX6_meant 26 = .ok (.ifCond .ne 23, 3) := by decide +kernel
theorem dX6_meant_29 : decode cX6_meant 29 = .ok (.aload_n 0, 1) := by decide +kernel
theorem dX6_meant_30 : decode cX6_meant 30 = .ok (.getfield 239, 3) := by decide +kernel
theorem dX6_meant_33 : decode cX6_meant 33 = .ok (.aload_n 0, 1) := by decide +kernel
theorem dX6_meant_34 : decode cX6_meant 34 = .ok (.getfield 31, 3) := by decide +kernel
theorem dX6_meant_37 : decode cX6_meant 37 = .ok (.iload_n 2, 1) := by decide +kernel
theorem dX6_meant_38 : decode cX6_meant 38 = .ok (.iaload, 1) := by decide +kernel
theorem dX6_meant_39 : decode cX6_meant 39 = .ok (.iand, 1) := by decide +kernel
theorem dX6_meant_40 : decode cX6_meant 40 = .ok (.ifCond .ne 9, 3) := by decide +kernel
theorem dX6_meant_43 : decode cX6_meant 43 = .ok (.iconst 1, 1) := by decide +kernel
theorem dX6_meant_44 : decode cX6_meant 44 = .ok (.iload_n 2, 1) := by decide +kernel
theorem dX6_meant_45 : decode cX6_meant 45 = .ok (.ishl, 1) := by decide +kernel
theorem dX6_meant_46 : decode cX6_meant 46 = .ok (.goto 4, 3) := by decide +kernel
theorem dX6_meant_49 : decode cX6_meant 49 = .ok (.iconst 0, 1) := by decide +kernel
theorem dX6_meant_50 : decode cX6_meant 50 = .ok (.ior, 1) := by decide +kernel
theorem dX6_meant_51 : decode cX6_meant 51 = .ok (.istore_n 1, 1) := by decide +kernel
theorem dX6_meant_52 : decode cX6_meant 52 = .ok (.iinc 2 1, 3) := by decide +kernel
theorem dX6_meant_55 : decode cX6_meant 55 = .ok (.goto (-51), 3) := by decide +kernel
theorem dX6_meant_58 : decode cX6_meant 58 = .ok (.iload_n 1, 1) := by decide +kernel
theorem dX6_meant_59 : decode cX6_meant 59 = .ok (.ireturn, 1) := by decide +kernel
theorem dX6_moths_0 : decode cX6_moths 0 = .ok (.aload_n 0, 1) := by decide +kernel
theorem dX6_moths_1 : decode cX6_moths 1 = .ok (.iload_n 1, 1) := by decide +kernel
theorem dX6_moths_2 : decode cX6_moths 2 = .ok (.invokevirtual 188, 3) := by decide +kernel
theorem dX6_moths_5 : decode cX6_moths 5 = .ok (.ifCond .eq 25, 3) := by decide +kernel
theorem dX6_moths_8 : decode cX6_moths 8 = .ok (.iload_n 2, 1) := by decide +kernel
theorem dX6_moths_9 : decode cX6_moths 9 = .ok (.i2l, 1) := by decide +kernel
theorem dX6_moths_10 : decode cX6_moths 10 = .ok (.lconst 0, 1) := by decide +kernel
theorem dX6_moths_11 : decode cX6_moths 11 = .ok (.ldc2_w 242, 3) := by decide +kernel
theorem dX6_moths_14 : decode cX6_moths 14 = .ok (.invokestatic 78, 3) := by decide +kernel
theorem dX6_moths_17 : decode cX6_moths 17 = .ok (.ifCond .eq 13, 3) := by decide +kernel
theorem dX6_moths_20 : decode cX6_moths 20 = .ok (.iload_n 3, 1) := by decide +kernel
theorem dX6_moths_21 : decode cX6_moths 21 = .ok (.i2l, 1) := by decide +kernel
theorem dX6_moths_22 : decode cX6_moths 22 = .ok (.lconst 0, 1) := by decide +kernel
theorem dX6_moths_23 : decode cX6_moths 23 = .ok (.lconst 1, 1) := by decide +kernel
theorem dX6_moths_24 : decode cX6_moths 24 = .ok (.invokestatic 78, 3) := by decide +kernel
theorem dX6_moths_27 : decode cX6_moths 27 = .ok (.ifCond .ne 5, 3) := by decide +kernel
theorem dX6_moths_30 : decode cX6_moths 30 = .ok (.iconst (-1), 1) := by decide +kernel
theorem dX6_moths_31 : decode cX6_moths 31 = .ok (.ireturn, 1) := by decide +kernel
theorem dX6_moths_32 : decode cX6_moths 32 = .ok (.iconst 0, 1) := by decide +kernel
theorem dX6_moths_33 : decode cX6_moths 33 = .ok (.istore 4, 2) := by decide +kernel
theorem dX6_moths_35 : decode cX6_moths 35 = .ok (.iconst 1, 1) := by decide +kernel
theorem dX6_moths_36 : decode cX6_moths 36 = .ok (.istore 5, 2) := by decide +kernel
theorem dX6_moths_38 : decode cX6_moths 38 = .ok (.iconst 0, 1) := by decide +kernel
theorem dX6_moths_39 : decode cX6_moths 39 = .ok (.istore 6, 2) := by decide +kernel
theorem dX6_moths_41 : decode cX6_moths 41 = .ok (.iload 6, 2) := by decide +kernel
theorem dX6_moths_43 : decode cX6_moths 43 = .ok (.aload_n 0, 1) := by decide +kernel
theorem dX6_moths_44 : decode cX6_moths 44 = .ok (.getfield 75, 3) := by decide +kernel
theorem dX6_moths_47 : decode cX6_moths 47 = .ok (.if_icmp .ge 34, 3) := by decide +kernel
theorem dX6_moths_50 : decode cX6_moths 50 = .ok (.iload 5, 2) := by decide +kernel
theorem dX6_moths_52 : decode cX6_moths 52 = .ok (.aload_n 0, 1) := by decide +kernel
theorem dX6_moths_53 : decode cX6_moths 53 = .ok (.getfield 7, 3) := by decide +kernel
theorem dX6_moths_56 : decode cX6_moths 56 = .ok (.iconst 2, 1) := by decide +kernel
theorem dX6_moths_57 : decode cX6_moths 57 = .ok (.iaload, 1) := by decide +kernel
theorem dX6_moths_58 : decode cX6_moths 58 = .ok (.iload 6, 2) := by decide +kernel
theorem dX6_moths_60 : decode cX6_moths 60 = .ok (.invokestatic 151, 3) := by decide +kernel
theorem dX6_moths_63 : decode cX6_moths 63 = .ok (.ifCond .eq 8, 3) := by decide +kernel
theorem dX6_moths_66 : decode cX6_moths 66 = .ok (.bipush 10, 2) := by decide +kernel
theorem dX6_moths_68 : decode cX6_moths 68 = .ok (.goto 4, 3) := by decide +kernel
theorem dX6_moths_71 : decode cX6_moths 71 = .ok (.iconst 1, 1) := by decide +kernel
theorem dX6_moths_72 : decode cX6_moths 72 = .ok (.imul, 1) := by decide +kernel
theorem dX6_moths_73 : decode cX6_moths 73 = .ok (.istore 5, 2) := by decide +kernel
theorem dX6_moths_75 : decode cX6_moths 75 = .ok (.iinc 6 1, 3) := by decide +kernel
theorem dX6_moths_78 : decode cX6_moths 78 = .ok (.goto (-37), 3) := by decide +kernel
theorem dX6_moths_81 : decode cX6_moths 81 = .ok (.iconst 0, 1) := by decide +kernel
theorem dX6_moths_82 : decode cX6_moths 82 = .ok (.istore 6, 2) := by decide +kernel
theorem dX6_moths_84 : decode cX6_moths 84 = .ok (.iload 6, 2) := by decide +kernel
theorem dX6_moths_86 : decode cX6_moths 86 = .ok (.iconst 1, 1) := by decide +kernel
theorem dX6_moths_87 : decode cX6_moths 87 = .ok (.aload_n 0, 1) := by decide +kernel
theorem dX6_moths_88 : decode cX6_moths 88 = .ok (.getfield 75, 3) := by decide +kernel
theorem dX6_moths_91 : decode cX6_moths 91 = .ok (.ishl, 1) := by decide +kernel
theorem dX6_moths_92 : decode cX6_moths 92 = .ok (.if_icmp .ge 115, 3) := by decide +kernel
theorem dX6_moths_95 : decode cX6_moths 95 = .ok (.iconst 1, 1) := by decide +kernel
theorem dX6_moths_96 : decode cX6_moths 96 = .ok (.istore 7, 2) := by decide +kernel
theorem dX6_moths_98 : decode cX6_moths 98 = .ok (.iconst 0, 1) := by decide +kernel
theorem dX6_moths_99 : decode cX6_moths 99 = .ok (.istore 8, 2) := by decide +kernel
theorem dX6_moths_101 : decode cX6_moths 101 = .ok (.iload 8, 2) := by decide +kernel
theorem dX6_moths_103 : decode cX6_moths 103 = .ok (.aload_n 0, 1) := by decide +kernel
theorem dX6_moths_104 : decode cX6_moths 104 = .ok (.getfield 75, 3) := by decide +kernel
theorem dX6_moths_107 : decode cX6_moths 107 = .ok (.if_icmp .ge 64, 3) := by decide +kernel
theorem dX6_moths_110 : decode cX6_moths 110 = .ok (.iload 7, 2) := by decide +kernel
theorem dX6_moths_112 : decode cX6_moths 112 = .ok (.aload_n 0, 1) := by decide +kernel
theorem dX6_moths_113 : decode cX6_moths 113 = .ok (.getfield 7, 3) := by decide +kernel
theorem dX6_moths_116 : decode cX6_moths 116 = .ok (.iconst 2, 1) := by decide +kernel
theorem dX6_moths_117 : decode cX6_moths 117 = .ok (.iaload, 1) := by decide +kernel
theorem dX6_moths_118 : decode cX6_moths 118 = .ok (.iload 8, 2) := by decide +kernel
theorem dX6_moths_120 : decode cX6_moths 120 = .ok (.invokestatic 151, 3) := by decide +kernel
theorem dX6_moths_123 : decode cX6_moths 123 = .ok (.ifCond .ne 21, 3) := by decide +kernel
theorem dX6_moths_126 : decode cX6_moths 126 = .ok (.iload 6, 2) := by decide +kernel
theorem dX6_moths_128 : decode cX6_moths 128 = .ok (.iload 8, 2) := by decide +kernel
theorem dX6_moths_130 : decode cX6_moths 130 = .ok (.invokestatic 151, 3) := by decide +kernel
theorem dX6_moths_133 : decode cX6_moths 133 = .ok (.ifCond .eq 7, 3) := by decide +kernel
theorem dX6_moths_136 : decode cX6_moths 136 = .ok (.iconst 0, 1) := by decide +kernel
theorem dX6_moths_137 : decode cX6_moths 137 = .ok (.goto 25, 3) := by decide +kernel
theorem dX6_moths_140 : decode cX6_moths 140 = .ok (.iconst 1, 1) := by decide +kernel
theorem dX6_moths_141 : decode cX6_moths 141 = .ok (.goto 21, 3) := by decide +kernel
theorem dX6_moths_144 : decode cX6_moths 144 = .ok (.iload 6, 2) := by decide +kernel
theorem dX6_moths_146 : decode cX6_moths 146 = .ok (.iload 8, 2) := by decide +kernel
theorem dX6_moths_148 : decode cX6_moths 148 = .ok (.invokestatic 151, 3) := by decide +kernel
theorem dX6_moths_151 : decode cX6_moths 151 = .ok (.ifCond .eq 7, 3) := by decide +kernel
theorem dX6_moths_154 : decode cX6_moths 154 = .ok (.iload_n 2, 1) := by decide +kernel
theorem dX6_moths_155 : decode cX6_moths 155 = .ok (.goto 7, 3) := by decide +kernel
theorem dX6_moths_158 : decode cX6_moths 158 = .ok (.bipush 10, 2) := by decide +kernel
theorem dX6_moths_160 : decode cX6_moths 160 = .ok (.iload_n 2, 1) := by decide +kernel
theorem dX6_moths_161 : decode cX6_moths 161 = .ok (.isub, 1) := by decide +kernel
theorem dX6_moths_162 : decode cX6_moths 162 = .ok (.imul, 1) := by decide +kernel
theorem dX6_moths_163 : decode cX6_moths 163 = .ok (.istore 7, 2) := by decide +kernel
theorem dX6_moths_165 : decode cX6_moths 165 = .ok (.iinc 8 1, 3) := by decide +kernel
theorem dX6_moths_168 : decode cX6_moths 168 = .ok (.goto (-67), 3) := by decide +kernel
theorem dX6_moths_171 : decode cX6_moths 171 = .ok (.iload 4, 2) := by decide +kernel
theorem dX6_moths_173 : decode cX6_moths 173 = .ok (.aload_n 0, 1) := by decide +kernel
theorem dX6_moths_174 : decode cX6_moths 174 = .ok (.iload_n 1, 1) := by decide +kernel
theorem dX6_moths_175 : decode cX6_moths 175 = .ok (.aload_n 0, 1) := by decide +kernel
theorem dX6_moths_176 : decode cX6_moths 176 = .ok (.getfield 7, 3) := by decide +kernel
theorem dX6_moths_179 : decode cX6_moths 179 = .ok (.iconst 2, 1) := by decide +kernel
theorem dX6_moths_180 : decode cX6_moths 180 = .ok (.iaload, 1) := by decide +kernel
theorem dX6_moths_181 : decode cX6_moths 181 = .ok (.iload 6, 2) := by decide +kernel
theorem dX6_moths_183 : decode cX6_moths 183 = .ok (.iconst (-1), 1) := by decide +kernel
theorem dX6_moths_184 : decode cX6_moths 184 = .ok (.ixor, 1) := by decide +kernel
theorem dX6_moths_185 : decode cX6_moths 185 = .ok (.iand, 1) := by decide +kernel
theorem dX6_moths_186 : decode cX6_moths 186 = .ok (.invokevirtual 158, 3) := by decide +kernel
theorem dX6_moths_189 : decode cX6_moths 189 = .ok (.ifCond .eq 8, 3) := by decide +kernel
theorem dX6_moths_192 : decode cX6_moths 192 = .ok (.iload 7, 2) := by decide +kernel
theorem dX6_moths_194 : decode cX6_moths 194 = .ok (.goto 4, 3) := by decide +kernel
theorem dX6_moths_197 : decode cX6_moths 197 = .ok (.iconst 0, 1) := by decide +kernel
theorem dX6_moths_198 : decode cX6_moths 198 = .ok (.iadd, 1) := by decide +kernel
theorem dX6_moths_199 : decode cX6_moths 199 = .ok (.istore 4, 2) := by decide +kernel
theorem dX6_moths_201 : decode cX6_moths 201 = .ok (.iinc 6 1, 3) := by decide +kernel
theorem dX6_moths_204 : decode cX6_moths 204 = .ok (.goto (-120), 3) := by decide +kernel
theorem dX6_moths_207 : decode cX6_moths 207 = .ok (.aload_n 0, 1) := by decide +kernel
theorem dX6_moths_208 : decode cX6_moths 208 = .ok (.iload 4, 2) := by decide +kernel
theorem dX6_moths_210 : decode cX6_moths 210 = .ok (.iload 5, 2) := by decide +kernel
theorem dX6_moths_212 : decode cX6_moths 212 = .ok (.iload_n 3, 1) := by decide +kernel
theorem dX6_moths_213 : decode cX6_moths 213 = .ok (.invokevirtual 167, 3) := by decide +kernel
theorem dX6_moths_216 : decode cX6_moths 216 = .ok (.ireturn, 1) := by decide +kernel
theorem dX6_year_0 : decode cX6_year 0 = .ok (.iload_n 1, 1) := by decide +kernel
theorem dX6_year_1 : decode cX6_year 1 = .ok (.i2l, 1) := by decide +kernel
theorem dX6_year_2 : decode cX6_year 2 = .ok (.lconst 0, 1) := by decide +kernel
theorem dX6_year_3 : decode cX6_year 3 = .ok (.ldc2_w 244, 3) := by decide +kernel
theorem dX6_year_6 : decode cX6_year 6 = .ok (.invokestatic 78, 3) := by decide +kernel
theorem dX6_year_9 : decode cX6_year 9 = .ok (.ifCond .eq 25, 3) := by decide +kernel
theorem dX6_year_12 : decode cX6_year 12 = .ok (.iload_n 2, 1) := by decide +kernel
theorem dX6_year_13 : decode cX6_year 13 = .ok (.i2l, 1) := by decide +kernel
theorem dX6_year_14 : decode cX6_year 14 = .ok (.lconst 1, 1) := by decide +kernel
theorem dX6_year_15 : decode cX6_year 15 = .ok (.ldc2_w 246, 3) := by decide +kernel
theorem dX6_year_18 : decode cX6_year 18 = .ok (.invokestatic 78, 3) := by decide +kernel
theorem dX6_year_21 : decode cX6_year 21 = .ok (.ifCond .eq 13, 3) := by decide +kernel
theorem dX6_year_24 : decode cX6_year 24 = .ok (.iload_n 3, 1) := by decide +kernel
theorem dX6_year_25 : decode cX6_year 25 = .ok (.i2l, 1) := by decide +kernel
theorem dX6_year_26 : decode cX6_year 26 = .ok (.lconst 0, 1) := by decide +kernel
theorem dX6_year_27 : decode cX6_year 27 = .ok (.lconst 1, 1) := by decide +kernel
theorem dX6_year_28 : decode cX6_year 28 = .ok (.invokestatic 78, 3) := by decide +kernel
theorem dX6_year_31 : decode cX6_year 31 = .ok (.ifCond .ne 5, 3) := by decide +kernel
theorem dX6_year_34 : decode cX6_year 34 = .ok (.iconst (-1), 1) := by decide +kernel
theorem dX6_year_35 : decode cX6_year 35 = .ok (.ireturn, 1) := by decide +kernel
theorem dX6_year_36 : decode cX6_year 36 = .ok (.aload_n 0, 1) := by decide +kernel
theorem dX6_year_37 : decode cX6_year 37 = .ok (.iconst 0, 1) := by decide +kernel
theorem dX6_year_38 : decode cX6_year 38 = .ok (.iconst 4, 1) := by decide +kernel
theorem dX6_year_39 : decode cX6_year 39 = .ok (.invokevirtual 197, 3) := by decide +kernel
theorem dX6_year_42 : decode cX6_year 42 = .ok (.iconst 0, 1) := by decide +kernel
theorem dX6_year_43 : decode cX6_year 43 = .ok (.istore 4, 2) := by decide +kernel
theorem dX6_year_45 : decode cX6_year 45 = .ok (.iload 4, 2) := by decide +kernel
theorem dX6_year_47 : decode cX6_year 47 = .ok (.iload_n 2, 1) := by decide +kernel
theorem dX6_year_48 : decode cX6_year 48 = .ok (.if_icmp .ge 140, 3) := by decide +kernel
theorem dX6_year_51 : decode cX6_year 51 = .ok (.ldc2_w 248, 3) := by decide +kernel
theorem dX6_year_54 : decode cX6_year 54 = .ok (.iload_n 1, 1) := by decide +kernel
theorem dX6_year_55 : decode cX6_year 55 = .ok (.i2l, 1) := by decide +kernel
theorem dX6_year_56 : decode cX6_year 56 = .ok (.lmul, 1) := by decide +kernel
theorem dX6_year_57 : decode cX6_year 57 = .ok (.ldc2_w 250, 3) := by decide +kernel
theorem dX6_year_60 : decode cX6_year 60 = .ok (.iload 4, 2) := by decide +kernel
theorem dX6_year_62 : decode cX6_year 62 = .ok (.i2l, 1) := by decide +kernel
theorem dX6_year_63 : decode cX6_year 63 = .ok (.lmul, 1) := by decide +kernel
theorem dX6_year_64 : decode cX6_year 64 = .ok (.ladd, 1) := by decide +kernel
theorem dX6_year_65 : decode cX6_year 65 = .ok (.lconst 1, 1) := by decide +kernel
theorem dX6_year_66 : decode cX6_year 66 = .ok (.ladd, 1) := by decide +kernel
theorem dX6_year_67 : decode cX6_year 67 = .ok (.lstore 5, 2) := by decide +kernel
theorem dX6_year_69 : decode cX6_year 69 = .ok (.lload 5, 2) := by decide +kernel
theorem dX6_year_71 : decode cX6_year 71 = .ok (.lload 5, 2) := by decide +kernel
theorem dX6_year_73 : decode cX6_year 73 = .ok (.lmul, 1) := by decide +kernel
theorem dX6_year_74 : decode cX6_year 74 = .ok (.ldc2_w 252, 3) := by decide +kernel
theorem dX6_year_77 : decode cX6_year 77 = .ok (.lrem, 1) := by decide +kernel
theorem dX6_year_78 : decode cX6_year 78 = .ok (.l2i, 1) := by decide +kernel
theorem dX6_year_79 : decode cX6_year 79 = .ok (.istore 7, 2) := by decide +kernel
theorem dX6_year_81 : decode cX6_year 81 = .ok (.iload 7, 2) := by decide +kernel
theorem dX6_year_83 : decode cX6_year 83 = .ok (.aload_n 0, 1) := by decide +kernel
theorem dX6_year_84 : decode cX6_year 84 = .ok (.getfield 75, 3) := by decide +kernel
theorem dX6_year_87 : decode cX6_year 87 = .ok (.irem, 1) := by decide +kernel
theorem dX6_year_88 : decode cX6_year 88 = .ok (.istore 8, 2) := by decide +kernel
theorem dX6_year_90 : decode cX6_year 90 = .ok (.iload 7, 2) := by decide +kernel
theorem dX6_year_92 : decode cX6_year 92 = .ok (.bipush 32, 2) := by decide +kernel
theorem dX6_year_94 : decode cX6_year 94 = .ok (.idiv, 1) := by decide +kernel
theorem dX6_year_95 : decode cX6_year 95 = .ok (.aload_n 0, 1) := by decide +kernel
theorem dX6_year_96 : decode cX6_year 96 = .ok (.getfield 82, 3) := by decide +kernel
theorem dX6_year_99 : decode cX6_year 99 = .ok (.irem, 1) := by decide +kernel
theorem dX6_year_100 : decode cX6_year 100 = .ok (.istore 9, 2) := by decide +kernel
theorem dX6_year_102 : decode cX6_year 102 = .ok (.aload_n 0, 1) := by decide +kernel
theorem dX6_year_103 : decode cX6_year 103 = .ok (.iconst 4, 1) := by decide +kernel
theorem dX6_year_104 : decode cX6_year 104 = .ok (.iload 8, 2) := by decide +kernel
theorem dX6_year_106 : decode cX6_year 106 = .ok (.invokevirtual 182, 3) := by decide +kernel
theorem dX6_year_109 : decode cX6_year 109 = .ok (.ifCond .eq 13, 3) := by decide +kernel
theorem dX6_year_112 : decode cX6_year 112 = .ok (.aload_n 0, 1) := by decide +kernel
theorem dX6_year_113 : decode cX6_year 113 = .ok (.iconst 4, 1) := by decide +kernel
theorem dX6_year_114 : decode cX6_year 114 = .ok (.iload 8, 2) := by decide +kernel
theorem dX6_year_116 : decode cX6_year 116 = .ok (.invokevirtual 204, 3) := by decide +kernel
theorem dX6_year_119 : decode cX6_year 119 = .ok (.goto 29, 3) := by decide +kernel
theorem dX6_year_122 : decode cX6_year 122 = .ok (.iload 7, 2) := by decide +kernel
theorem dX6_year_124 : decode cX6_year 124 = .ok (.bipush 8, 2) := by decide +kernel
theorem dX6_year_126 : decode cX6_year 126 = .ok (.idiv, 1) := by decide +kernel
theorem dX6_year_127 : decode cX6_year 127 = .ok (.iconst 3, 1) := by decide +kernel
theorem dX6_year_128 : decode cX6_year 128 = .ok (.irem, 1) := by decide +kernel
theorem dX6_year_129 : decode cX6_year 129 = .ok (.ifCond .ne 19, 3) := by decide +kernel
theorem dX6_year_132 : decode cX6_year 132 = .ok (.aload_n 0, 1) := by decide +kernel
theorem dX6_year_133 : decode cX6_year 133 = .ok (.getfield 7, 3) := by decide +kernel
theorem dX6_year_136 : decode cX6_year 136 = .ok (.bipush 6, 2) := by decide +kernel
theorem dX6_year_138 : decode cX6_year 138 = .ok (.dup2, 1) := by decide +kernel
theorem dX6_year_139 : decode cX6_year 139 = .ok (.iaload, 1) := by decide +kernel
theorem dX6_year_140 : decode cX6_year 140 = .ok (.iconst 1, 1) := by decide +kernel
theorem dX6_year_141 : decode cX6_year 141 = .ok (.iload 8, 2) := by decide +kernel
theorem dX6_year_143 : decode cX6_year 143 = .ok (.ishl, 1) := by decide +kernel
theorem dX6_year_144 : decode cX6_year 144 = .ok (.iconst (-1), 1) := by decide +kernel
theorem dX6_year_145 : decode cX6_year 145 = .ok (.ixor, 1) := by decide +kernel
theorem dX6_year_146 : decode cX6_year 146 = .ok (.iand, 1) := by decide +kernel
theorem dX6_year_147 : decode cX6_year 147 = .ok (.iastore, 1) := by decide +kernel
theorem dX6_year_148 : decode cX6_year 148 = .ok (.aload_n 0, 1) := by decide +kernel
theorem dX6_year_149 : decode cX6_year 149 = .ok (.iconst 4, 1) := by decide +kernel
theorem dX6_year_150 : decode cX6_year 150 = .ok (.iload 9, 2) := by decide +kernel
theorem dX6_year_152 : decode cX6_year 152 = .ok (.invokevirtual 207, 3) := by decide +kernel
theorem dX6_year_155 : decode cX6_year 155 = .ok (.ifCond .eq 22, 3) := by decide +kernel
theorem dX6_year_158 : decode cX6_year 158 = .ok (.iload 7, 2) := by decide +kernel
theorem dX6_year_160 : decode cX6_year 160 = .ok (.sipush 256, 3) := by decide +kernel
theorem dX6_year_163 : decode cX6_year 163 = .ok (.idiv, 1) := by decide +kernel
theorem dX6_year_164 : decode cX6_year 164 = .ok (.iconst 2, 1) := by decide +kernel
theorem dX6_year_165 : decode cX6_year 165 = .ok (.irem, 1) := by decide +kernel
theorem dX6_year_166 : decode cX6_year 166 = .ok (.ifCond .ne 11, 3) := by decide +kernel
theorem dX6_year_169 : decode cX6_year 169 = .ok (.aload_n 0, 1) := by decide +kernel
theorem dX6_year_170 : decode cX6_year 170 = .ok (.iconst 4, 1) := by decide +kernel
theorem dX6_year_171 : decode cX6_year 171 = .ok (.iload 9, 2) := by decide +kernel
theorem dX6_year_173 : decode cX6_year 173 = .ok (.invokevirtual 210, 3) := by decide +kernel
theorem dX6_year_176 : decode cX6_year 176 = .ok (.pop, 1) := by decide +kernel
theorem dX6_year_177 : decode cX6_year 177 = .ok (.aload_n 0, 1) := by decide +kernel
theorem dX6_year_178 : decode cX6_year 178 = .ok (.iconst 4, 1) := by decide +kernel
theorem dX6_year_179 : decode cX6_year 179 = .ok (.invokevirtual 215, 3) := by decide +kernel
theorem dX6_year_182 : decode cX6_year 182 = .ok (.iinc 4 1, 3) := by decide +kernel
theorem dX6_year_185 : decode cX6_year 185 = .ok (.goto (-140), 3) := by decide +kernel
theorem dX6_year_188 : decode cX6_year 188 = .ok (.iload_n 3, 1) := by decide +kernel
theorem dX6_year_189 : decode cX6_year 189 = .ok (.ifCond .ne 16, 3) := by decide +kernel
theorem dX6_year_192 : decode cX6_year 192 = .ok (.aload_n 0, 1) := by decide +kernel
theorem dX6_year_193 : decode cX6_year 193 = .ok (.getfield 7, 3) := by decide +kernel
theorem dX6_year_196 : decode cX6_year 196 = .ok (.bipush 7, 2) := by decide +kernel
theorem dX6_year_198 : decode cX6_year 198 = .ok (.iaload, 1) := by decide +kernel
theorem dX6_year_199 : decode cX6_year 199 = .ok (.invokestatic 155, 3) := by decide +kernel
theorem dX6_year_202 : decode cX6_year 202 = .ok (.goto 9, 3) := by decide +kernel
theorem dX6_year_205 : decode cX6_year 205 = .ok (.aload_n 0, 1) := by decide +kernel
theorem dX6_year_206 : decode cX6_year 206 = .ok (.getfield 7, 3) := by decide +kernel
theorem dX6_year_209 : decode cX6_year 209 = .ok (.iconst 5, 1) := by decide +kernel
theorem dX6_year_210 : decode cX6_year 210 = .ok (.iaload, 1) := by decide +kernel
theorem dX6_year_211 : decode cX6_year 211 = .ok (.ireturn, 1) := by decide +kernel
theorem dX6_keep_0 : decode cX6_keep 0 = .ok (.aload_n 0, 1) := by decide +kernel
theorem dX6_keep_1 : decode cX6_keep 1 = .ok (.getfield 100, 3) := by decide +kernel
theorem dX6_keep_4 : decode cX6_keep 4 = .ok (.iconst 2, 1) := by decide +kernel
theorem dX6_keep_5 : decode cX6_keep 5 = .ok (.if_icmp .ne 6, 3) := by decide +kernel
theorem dX6_keep_8 : decode cX6_keep 8 = .ok (.bipush (-3), 2) := by decide +kernel
theorem dX6_keep_10 : decode cX6_keep 10 = .ok (.ireturn, 1) := by decide +kernel
theorem dX6_keep_11 : decode cX6_keep 11 = .ok (.aload_n 0, 1) := by decide +kernel
theorem dX6_keep_12 : decode cX6_keep 12 = .ok (.iconst 0, 1) := by decide +kernel
theorem dX6_keep_13 : decode cX6_keep 13 = .ok (.bipush 8, 2) := by decide +kernel
theorem dX6_keep_15 : decode cX6_keep 15 = .ok (.iconst 4, 1) := by decide +kernel
theorem dX6_keep_16 : decode cX6_keep 16 = .ok (.aload_n 0, 1) := by decide +kernel
theorem dX6_keep_17 : decode cX6_keep 17 = .ok (.getfield 100, 3) := by decide +kernel
theorem dX6_keep_20 : decode cX6_keep 20 = .ok (.imul, 1) := by decide +kernel
theorem dX6_keep_21 : decode cX6_keep 21 = .ok (.iadd, 1) := by decide +kernel
theorem dX6_keep_22 : decode cX6_keep 22 = .ok (.invokevirtual 197, 3) := by decide +kernel
theorem dX6_keep_25 : decode cX6_keep 25 = .ok (.aload_n 0, 1) := by decide +kernel
theorem dX6_keep_26 : decode cX6_keep 26 = .ok (.dup, 1) := by decide +kernel
theorem dX6_keep_27 : decode cX6_keep 27 = .ok (.getfield 100, 3) := by decide +kernel
theorem dX6_keep_30 : decode cX6_keep 30 = .ok (.iconst 1, 1) := by decide +kernel
theorem dX6_keep_31 : decode cX6_keep 31 = .ok (.iadd, 1) := by decide +kernel
theorem dX6_keep_32 : decode cX6_keep 32 = .ok (.putfield 100, 3) := by decide +kernel
theorem dX6_keep_35 : decode cX6_keep 35 = .ok (.aload_n 0, 1) := by decide +kernel
theorem dX6_keep_36 : decode cX6_keep 36 = .ok (.getfield 100, 3) := by decide +kernel
theorem dX6_keep_39 : decode cX6_keep 39 = .ok (.ireturn, 1) := by decide +kernel
theorem dX6_back_0 : decode cX6_back 0 = .ok (.aload_n 0, 1) := by decide +kernel
theorem dX6_back_1 : decode cX6_back 1 = .ok (.getfield 100, 3) := by decide +kernel
theorem dX6_back_4 : decode cX6_back 4 = .ok (.ifCond .ne 6, 3) := by decide +kernel
theorem dX6_back_7 : decode cX6_back 7 = .ok (.bipush (-2), 2) := by decide +kernel
theorem dX6_back_9 : decode cX6_back 9 = .ok (.ireturn, 1) := by decide +kernel
theorem dX6_back_10 : decode cX6_back 10 = .ok (.aload_n 0, 1) := by decide +kernel
theorem dX6_back_11 : decode cX6_back 11 = .ok (.dup, 1) := by decide +kernel
theorem dX6_back_12 : decode cX6_back 12 = .ok (.getfield 100, 3) := by decide +kernel
theorem dX6_back_15 : decode cX6_back 15 = .ok (.iconst 1, 1) := by decide +kernel
theorem dX6_back_16 : decode cX6_back 16 = .ok (.isub, 1) := by decide +kernel
theorem dX6_back_17 : decode cX6_back 17 = .ok (.putfield 100, 3) := by decide +kernel
theorem dX6_back_20 : decode cX6_back 20 = .ok (.aload_n 0, 1) := by decide +kernel
theorem dX6_back_21 : decode cX6_back 21 = .ok (.bipush 8, 2) := by decide +kernel
theorem dX6_back_23 : decode cX6_back 23 = .ok (.iconst 4, 1) := by decide +kernel
theorem dX6_back_24 : decode cX6_back 24 = .ok (.aload_n 0, 1) := by decide +kernel
theorem dX6_back_25 : decode cX6_back 25 = .ok (.getfield 100, 3) := by decide +kernel
theorem dX6_back_28 : decode cX6_back 28 = .ok (.imul, 1) := by decide +kernel
theorem dX6_back_29 : decode cX6_back 29 = .ok (.iadd, 1) := by decide +kernel
theorem dX6_back_30 : decode cX6_back 30 = .ok (.iconst 0, 1) := by decide +kernel
theorem dX6_back_31 : decode cX6_back 31 = .ok (.invokevirtual 197, 3) := by decide +kernel
theorem dX6_back_34 : decode cX6_back 34 = .ok (.aload_n 0, 1) := by decide +kernel
theorem dX6_back_35 : decode cX6_back 35 = .ok (.iconst 0, 1) := by decide +kernel
theorem dX6_back_36 : decode cX6_back 36 = .ok (.putfield 97, 3) := by decide +kernel
theorem dX6_back_39 : decode cX6_back 39 = .ok (.aload_n 0, 1) := by decide +kernel
theorem dX6_back_40 : decode cX6_back 40 = .ok (.getfield 100, 3) := by decide +kernel
theorem dX6_back_43 : decode cX6_back 43 = .ok (.ireturn, 1) := by decide +kernel
theorem dX6_count_0 : decode cX6_count 0 = .ok (.iload_n 1, 1) := by decide +kernel
theorem dX6_count_1 : decode cX6_count 1 = .ok (.tableswitch 146 0 11 #[63, 68, 73, 78, 88, 102, 112, 119, 126, 131, 136, 141], 63) := by decide +kernel
theorem dX6_count_64 : decode cX6_count 64 = .ok (.aload_n 0, 1) := by decide +kernel
theorem dX6_count_65 : decode cX6_count 65 = .ok (.getfield 75, 3) := by decide +kernel
theorem dX6_count_68 : decode cX6_count 68 = .ok (.ireturn, 1) := by decide +kernel
theorem dX6_count_69 : decode cX6_count 69 = .ok (.aload_n 0, 1) := by decide +kernel
theorem dX6_count_70 : decode cX6_count 70 = .ok (.getfield 82, 3) := by decide +kernel
theorem dX6_count_73 : decode cX6_count 73 = .ok (.ireturn, 1) := by decide +kernel
theorem dX6_count_74 : decode cX6_count 74 = .ok (.aload_n 0, 1) := by decide +kernel
theorem dX6_count_75 : decode cX6_count 75 = .ok (.getfield 91, 3) := by decide +kernel
theorem dX6_count_78 : decode cX6_count 78 = .ok (.ireturn, 1) := by decide +kernel
theorem dX6_count_79 : decode cX6_count 79 = .ok (.aload_n 0, 1) := by decide +kernel
theorem dX6_count_80 : decode cX6_count 80 = .ok (.getfield 7, 3) := by decide +kernel
theorem dX6_count_83 : decode cX6_count 83 = .ok (.iconst 2, 1) := by decide +kernel
theorem dX6_count_84 : decode cX6_count 84 = .ok (.iaload, 1) := by decide +kernel
theorem dX6_count_85 : decode cX6_count 85 = .ok (.invokestatic 155, 3) := by decide +kernel
theorem dX6_count_88 : decode cX6_count 88 = .ok (.ireturn, 1) := by decide +kernel
theorem dX6_count_89 : decode cX6_count 89 = .ok (.aload_n 0, 1) := by decide +kernel
theorem dX6_count_90 : decode cX6_count 90 = .ok (.aload_n 0, 1) := by decide +kernel
theorem dX6_count_91 : decode cX6_count 91 = .ok (.getfield 7, 3) := by decide +kernel
theorem dX6_count_94 : decode cX6_count 94 = .ok (.iconst 2, 1) := by decide +kernel
theorem dX6_count_95 : decode cX6_count 95 = .ok (.iaload, 1) := by decide +kernel
theorem dX6_count_96 : decode cX6_count 96 = .ok (.invokevirtual 224, 3) := by decide +kernel
theorem dX6_count_99 : decode cX6_count 99 = .ok (.invokestatic 155, 3) := by decide +kernel
theorem dX6_count_102 : decode cX6_count 102 = .ok (.ireturn, 1) := by decide +kernel
theorem dX6_count_103 : decode cX6_count 103 = .ok (.aload_n 0, 1) := by decide +kernel
theorem dX6_count_104 : decode cX6_count 104 = .ok (.getfield 7, 3) := by decide +kernel
theorem dX6_count_107 : decode cX6_count 107 = .ok (.iconst 3, 1) := by decide +kernel
theorem dX6_count_108 : decode cX6_count 108 = .ok (.iaload, 1) := by decide +kernel
theorem dX6_count_109 : decode cX6_count 109 = .ok (.invokestatic 155, 3) := by decide +kernel
theorem dX6_count_112 : decode cX6_count 112 = .ok (.ireturn, 1) := by decide +kernel
theorem dX6_count_113 : decode cX6_count 113 = .ok (.aload_n 0, 1) := by decide +kernel
theorem dX6_count_114 : decode cX6_count 114 = .ok (.getfield 7, 3) := by decide +kernel
theorem dX6_count_117 : decode cX6_count 117 = .ok (.iconst 1, 1) := by decide +kernel
theorem dX6_count_118 : decode cX6_count 118 = .ok (.iaload, 1) := by decide +kernel
theorem dX6_count_119 : decode cX6_count 119 = .ok (.ireturn, 1) := by decide +kernel
theorem dX6_count_120 : decode cX6_count 120 = .ok (.aload_n 0, 1) := by decide +kernel
theorem dX6_count_121 : decode cX6_count 121 = .ok (.getfield 7, 3) := by decide +kernel
theorem dX6_count_124 : decode cX6_count 124 = .ok (.iconst 0, 1) := by decide +kernel
theorem dX6_count_125 : decode cX6_count 125 = .ok (.iaload, 1) := by decide +kernel
theorem dX6_count_126 : decode cX6_count 126 = .ok (.ireturn, 1) := by decide +kernel
theorem dX6_count_127 : decode cX6_count 127 = .ok (.aload_n 0, 1) := by decide +kernel
theorem dX6_count_128 : decode cX6_count 128 = .ok (.getfield 233, 3) := by decide +kernel
theorem dX6_count_131 : decode cX6_count 131 = .ok (.ireturn, 1) := by decide +kernel
theorem dX6_count_132 : decode cX6_count 132 = .ok (.aload_n 0, 1) := by decide +kernel
theorem dX6_count_133 : decode cX6_count 133 = .ok (.getfield 97, 3) := by decide +kernel
theorem dX6_count_136 : decode cX6_count 136 = .ok (.ireturn, 1) := by decide +kernel
theorem dX6_count_137 : decode cX6_count 137 = .ok (.aload_n 0, 1) := by decide +kernel
theorem dX6_count_138 : decode cX6_count 138 = .ok (.getfield 100, 3) := by decide +kernel
theorem dX6_count_141 : decode cX6_count 141 = .ok (.ireturn, 1) := by decide +kernel
theorem dX6_count_142 : decode cX6_count 142 = .ok (.aload_n 0, 1) := by decide +kernel
theorem dX6_count_143 : decode cX6_count 143 = .ok (.getfield 111, 3) := by decide +kernel
theorem dX6_count_146 : decode cX6_count 146 = .ok (.ireturn, 1) := by decide +kernel
theorem dX6_count_147 : decode cX6_count 147 = .ok (.iconst (-1), 1) := by decide +kernel
theorem dX6_count_148 : decode cX6_count 148 = .ok (.ireturn, 1) := by decide +kernel
theorem dL_law_0 : decode cL_law 0 = .ok (.new 7, 3) := by decide +kernel
theorem dL_law_3 : decode cL_law 3 = .ok (.dup, 1) := by decide +kernel
theorem dL_law_4 : decode cL_law 4 = .ok (.invokespecial 9, 3) := by decide +kernel
theorem dL_law_7 : decode cL_law 7 = .ok (.astore_n 1, 1) := by decide +kernel
theorem dL_law_8 : decode cL_law 8 = .ok (.new 10, 3) := by decide +kernel
theorem dL_law_11 : decode cL_law 11 = .ok (.dup, 1) := by decide +kernel
theorem dL_law_12 : decode cL_law 12 = .ok (.invokespecial 12, 3) := by decide +kernel
theorem dL_law_15 : decode cL_law 15 = .ok (.astore_n 2, 1) := by decide +kernel
theorem dL_law_16 : decode cL_law 16 = .ok (.iconst 0, 1) := by decide +kernel
theorem dL_law_17 : decode cL_law 17 = .ok (.istore_n 3, 1) := by decide +kernel
theorem dL_law_18 : decode cL_law 18 = .ok (.iload_n 3, 1) := by decide +kernel
theorem dL_law_19 : decode cL_law 19 = .ok (.aload_n 0, 1) := by decide +kernel
theorem dL_law_20 : decode cL_law 20 = .ok (.arraylength, 1) := by decide +kernel
theorem dL_law_21 : decode cL_law 21 = .ok (.iconst 4, 1) := by decide +kernel
theorem dL_law_22 : decode cL_law 22 = .ok (.isub, 1) := by decide +kernel
theorem dL_law_23 : decode cL_law 23 = .ok (.if_icmp .gt 766, 3) := by decide +kernel
theorem dL_law_26 : decode cL_law 26 = .ok (.aload_n 0, 1) := by decide +kernel
theorem dL_law_27 : decode cL_law 27 = .ok (.iload_n 3, 1) := by decide +kernel
theorem dL_law_28 : decode cL_law 28 = .ok (.iaload, 1) := by decide +kernel
theorem dL_law_29 : decode cL_law 29 = .ok (.bipush 31, 2) := by decide +kernel
theorem dL_law_31 : decode cL_law 31 = .ok (.iand, 1) := by decide +kernel
theorem dL_law_32 : decode cL_law 32 = .ok (.tableswitch 751 0 26 #[124, 147, 160, 173, 186, 219, 252, 265, 298, 321, 344, 367, 390, 403, 436, 469, 482, 505, 518, 541, 590, 603, 616, 659, 702, 715, 728], 124) := by decide +kernel
theorem dL_law_156 : decode cL_law 156 = .ok (.aload_n 1, 1) := by decide +kernel
theorem dL_law_157 : decode cL_law 157 = .ok (.aload_n 0, 1) := by decide +kernel
theorem dL_law_158 : decode cL_law 158 = .ok (.iload_n 3, 1) := by decide +kernel
theorem dL_law_159 : decode cL_law 159 = .ok (.iconst 1, 1) := by decide +kernel
theorem dL_law_160 : decode cL_law 160 = .ok (.iadd, 1) := by decide +kernel
theorem dL_law_161 : decode cL_law 161 = .ok (.iaload, 1) := by decide +kernel
theorem dL_law_162 : decode cL_law 162 = .ok (.invokevirtual 13, 3) := by decide +kernel
theorem dL_law_165 : decode cL_law 165 = .ok (.aload_n 2, 1) := by decide +kernel
theorem dL_law_166 : decode cL_law 166 = .ok (.aload_n 0, 1) := by decide +kernel
theorem dL_law_167 : decode cL_law 167 = .ok (.iload_n 3, 1) := by decide +kernel
theorem dL_law_168 : decode cL_law 168 = .ok (.iconst 1, 1) := by decide +kernel
theorem dL_law_169 : decode cL_law 169 = .ok (.iadd, 1) := by decide +kernel
theorem dL_law_170 : decode cL_law 170 = .ok (.iaload, 1) := by decide +kernel
theorem dL_law_171 : decode cL_law 171 = .ok (.invokevirtual 17, 3) := by decide +kernel
theorem dL_law_174 : decode cL_law 174 = .ok (.if_icmp .eq 609, 3) := by decide +kernel
theorem dL_law_177 : decode cL_law 177 = .ok (.iconst 0, 1) := by decide +kernel
theorem dL_law_178 : decode cL_law 178 = .ok (.ireturn, 1) := by decide +kernel
theorem dL_law_179 : decode cL_law 179 = .ok (.aload_n 1, 1) := by decide +kernel
theorem dL_law_180 : decode cL_law 180 = .ok (.invokevirtual 18, 3) := by decide +kernel
theorem dL_law_183 : decode cL_law 183 = .ok (.aload_n 2, 1) := by decide +kernel
theorem dL_law_184 : decode cL_law 184 = .ok (.invokevirtual 22, 3) := by decide +kernel
theorem dL_law_187 : decode cL_law 187 = .ok (.if_icmp .eq 596, 3) := by decide +kernel
theorem dL_law_190 : decode cL_law 190 = .ok (.iconst 0, 1) := by decide +kernel
theorem dL_law_191 : decode cL_law 191 = .ok (.ireturn, 1) := by decide +kernel
theorem dL_law_192 : decode cL_law 192 = .ok (.aload_n 1, 1) := by decide +kernel
theorem dL_law_193 : decode cL_law 193 = .ok (.invokevirtual 23, 3) := by decide +kernel
theorem dL_law_196 : decode cL_law 196 = .ok (.aload_n 2, 1) := by decide +kernel
theorem dL_law_197 : decode cL_law 197 = .ok (.invokevirtual 26, 3) := by decide +kernel
theorem dL_law_200 : decode cL_law 200 = .ok (.if_icmp .eq 583, 3) := by decide +kernel
theorem dL_law_203 : decode cL_law 203 = .ok (.iconst 0, 1) := by decide +kernel
theorem dL_law_204 : decode cL_law 204 = .ok (.ireturn, 1) := by decide +kernel
theorem dL_law_205 : decode cL_law 205 = .ok (.aload_n 1, 1) := by decide +kernel
theorem dL_law_206 : decode cL_law 206 = .ok (.invokevirtual 27, 3) := by decide +kernel
theorem dL_law_209 : decode cL_law 209 = .ok (.aload_n 2, 1) := by decide +kernel
theorem dL_law_210 : decode cL_law 210 = .ok (.invokevirtual 30, 3) := by decide +kernel
theorem dL_law_213 : decode cL_law 213 = .ok (.if_icmp .eq 570, 3) := by decide +kernel
theorem dL_law_216 : decode cL_law 216 = .ok (.iconst 0, 1) := by decide +kernel
theorem dL_law_217 : decode cL_law 217 = .ok (.ireturn, 1) := by decide +kernel
theorem dL_law_218 : decode cL_law 218 = .ok (.aload_n 1, 1) := by decide +kernel
theorem dL_law_219 : decode cL_law 219 = .ok (.aload_n 0, 1) := by decide +kernel
theorem dL_law_220 : decode cL_law 220 = .ok (.iload_n 3, 1) := by decide +kernel
theorem dL_law_221 : decode cL_law 221 = .ok (.iconst 1, 1) := by decide +kernel
theorem dL_law_222 : decode cL_law 222 = .ok (.iadd, 1) := by decide +kernel
theorem dL_law_223 : decode cL_law 223 = .ok (.iaload, 1) := by decide +kernel
theorem dL_law_224 : decode cL_law 224 = .ok (.aload_n 0, 1) := by decide +kernel
theorem dL_law_225 : decode cL_law 225 = .ok (.iload_n 3, 1) := by decide +kernel
theorem dL_law_226 : decode cL_law 226 = .ok (.iconst 2, 1) := by decide +kernel
theorem dL_law_227 : decode cL_law 227 = .ok (.iadd, 1) := by decide +kernel
theorem dL_law_228 : decode cL_law 228 = .ok (.iaload, 1) := by decide +kernel
theorem dL_law_229 : decode cL_law 229 = .ok (.invokevirtual 31, 3) := by decide +kernel
theorem dL_law_232 : decode cL_law 232 = .ok (.aload_n 2, 1) := by decide +kernel
theorem dL_law_233 : decode cL_law 233 = .ok (.aload_n 0, 1) := by decide +kernel
theorem dL_law_234 : decode cL_law 234 = .ok (.iload_n 3, 1) := by decide +kernel
theorem dL_law_235 : decode cL_law 235 = .ok (.iconst 1, 1) := by decide +kernel
theorem dL_law_236 : decode cL_law 236 = .ok (.iadd, 1) := by decide +kernel
theorem dL_law_237 : decode cL_law 237 = .ok (.iaload, 1) := by decide +kernel
theorem dL_law_238 : decode cL_law 238 = .ok (.aload_n 0, 1) := by decide +kernel
theorem dL_law_239 : decode cL_law 239 = .ok (.iload_n 3, 1) := by decide +kernel
theorem dL_law_240 : decode cL_law 240 = .ok (.iconst 2, 1) := by decide +kernel
theorem dL_law_241 : decode cL_law 241 = .ok (.iadd, 1) := by decide +kernel
theorem dL_law_242 : decode cL_law 242 = .ok (.iaload, 1) := by decide +kernel
theorem dL_law_243 : decode cL_law 243 = .ok (.invokevirtual 35, 3) := by decide +kernel
theorem dL_law_246 : decode cL_law 246 = .ok (.if_icmp .eq 537, 3) := by decide +kernel
theorem dL_law_249 : decode cL_law 249 = .ok (.iconst 0, 1) := by decide +kernel
theorem dL_law_250 : decode cL_law 250 = .ok (.ireturn, 1) := by decide +kernel
theorem dL_law_251 : decode cL_law 251 = .ok (.aload_n 1, 1) := by decide +kernel
theorem dL_law_252 : decode cL_law 252 = .ok (.aload_n 0, 1) := by decide +kernel
theorem dL_law_253 : decode cL_law 253 = .ok (.iload_n 3, 1) := by decide +kernel
theorem dL_law_254 : decode cL_law 254 = .ok (.iconst 1, 1) := by decide +kernel
theorem dL_law_255 : decode cL_law 255 = .ok (.iadd, 1) := by decide +kernel
theorem dL_law_256 : decode cL_law 256 = .ok (.iaload, 1) := by decide +kernel
theorem dL_law_257 : decode cL_law 257 = .ok (.aload_n 0, 1) := by decide +kernel
theorem dL_law_258 : decode cL_law 258 = .ok (.iload_n 3, 1) := by decide +kernel
theorem dL_law_259 : decode cL_law 259 = .ok (.iconst 2, 1) := by decide +kernel
theorem dL_law_260 : decode cL_law 260 = .ok (.iadd, 1) := by decide +kernel
theorem dL_law_261 : decode cL_law 261 = .ok (.iaload, 1) := by decide +kernel
theorem dL_law_262 : decode cL_law 262 = .ok (.invokevirtual 36, 3) := by decide +kernel
theorem dL_law_265 : decode cL_law 265 = .ok (.aload_n 2, 1) := by decide +kernel
theorem dL_law_266 : decode cL_law 266 = .ok (.aload_n 0, 1) := by decide +kernel
theorem dL_law_267 : decode cL_law 267 = .ok (.iload_n 3, 1) := by decide +kernel
theorem dL_law_268 : decode cL_law 268 = .ok (.iconst 1, 1) := by decide +kernel
theorem dL_law_269 : decode cL_law 269 = .ok (.iadd, 1) := by decide +kernel
theorem dL_law_270 : decode cL_law 270 = .ok (.iaload, 1) := by decide +kernel
theorem dL_law_271 : decode cL_law 271 = .ok (.aload_n 0, 1) := by decide +kernel
theorem dL_law_272 : decode cL_law 272 = .ok (.iload_n 3, 1) := by decide +kernel
theorem dL_law_273 : decode cL_law 273 = .ok (.iconst 2, 1) := by decide +kernel
theorem dL_law_274 : decode cL_law 274 = .ok (.iadd, 1) := by decide +kernel
theorem dL_law_275 : decode cL_law 275 = .ok (.iaload, 1) := by decide +kernel
theorem dL_law_276 : decode cL_law 276 = .ok (.invokevirtual 39, 3) := by decide +kernel
theorem dL_law_279 : decode cL_law 279 = .ok (.if_icmp .eq 504, 3) := by decide +kernel
theorem dL_law_282 : decode cL_law 282 = .ok (.iconst 0, 1) := by decide +kernel
theorem dL_law_283 : decode cL_law 283 = .ok (.ireturn, 1) := by decide +kernel
theorem dL_law_284 : decode cL_law 284 = .ok (.aload_n 1, 1) := by decide +kernel
theorem dL_law_285 : decode cL_law 285 = .ok (.invokevirtual 40, 3) := by decide +kernel
theorem dL_law_288 : decode cL_law 288 = .ok (.aload_n 2, 1) := by decide +kernel
theorem dL_law_289 : decode cL_law 289 = .ok (.invokevirtual 43, 3) := by decide +kernel
theorem dL_law_292 : decode cL_law 292 = .ok (.if_icmp .eq 491, 3) := by decide +kernel
theorem dL_law_295 : decode cL_law 295 = .ok (.iconst 0, 1) := by decide +kernel
theorem dL_law_296 : decode cL_law 296 = .ok (.ireturn, 1) := by decide +kernel
theorem dL_law_297 : decode cL_law 297 = .ok (.aload_n 1, 1) := by decide +kernel
theorem dL_law_298 : decode cL_law 298 = .ok (.aload_n 0, 1) := by decide +kernel
theorem dL_law_299 : decode cL_law 299 = .ok (.iload_n 3, 1) := by decide +kernel
theorem dL_law_300 : decode cL_law 300 = .ok (.iconst 1, 1) := by decide +kernel
theorem dL_law_301 : decode cL_law 301 = .ok (.iadd, 1) := by decide +kernel
theorem dL_law_302 : decode cL_law 302 = .ok (.iaload, 1) := by decide +kernel
theorem dL_law_303 : decode cL_law 303 = .ok (.aload_n 0, 1) := by decide +kernel
theorem dL_law_304 : decode cL_law 304 = .ok (.iload_n 3, 1) := by decide +kernel
theorem dL_law_305 : decode cL_law 305 = .ok (.iconst 2, 1) := by decide +kernel
theorem dL_law_306 : decode cL_law 306 = .ok (.iadd, 1) := by decide +kernel
theorem dL_law_307 : decode cL_law 307 = .ok (.iaload, 1) := by decide +kernel
theorem dL_law_308 : decode cL_law 308 = .ok (.invokevirtual 44, 3) := by decide +kernel
theorem dL_law_311 : decode cL_law 311 = .ok (.aload_n 2, 1) := by decide +kernel
theorem dL_law_312 : decode cL_law 312 = .ok (.aload_n 0, 1) := by decide +kernel
theorem dL_law_313 : decode cL_law 313 = .ok (.iload_n 3, 1) := by decide +kernel
theorem dL_law_314 : decode cL_law 314 = .ok (.iconst 1, 1) := by decide +kernel
theorem dL_law_315 : decode cL_law 315 = .ok (.iadd, 1) := by decide +kernel
theorem dL_law_316 : decode cL_law 316 = .ok (.iaload, 1) := by decide +kernel
theorem dL_law_317 : decode cL_law 317 = .ok (.aload_n 0, 1) := by decide +kernel
theorem dL_law_318 : decode cL_law 318 = .ok (.iload_n 3, 1) := by decide +kernel
theorem dL_law_319 : decode cL_law 319 = .ok (.iconst 2, 1) := by decide +kernel
theorem dL_law_320 : decode cL_law 320 = .ok (.iadd, 1) := by decide +kernel
theorem dL_law_321 : decode cL_law 321 = .ok (.iaload, 1) := by decide +kernel
theorem dL_law_322 : decode cL_law 322 = .ok (.invokevirtual 47, 3) := by decide +kernel
theorem dL_law_325 : decode cL_law 325 = .ok (.if_icmp .eq 458, 3) := by decide +kernel
theorem dL_law_328 : decode cL_law 328 = .ok (.iconst 0, 1) := by decide +kernel
theorem dL_law_329 : decode cL_law 329 = .ok (.ireturn, 1) := by decide +kernel
theorem dL_law_330 : decode cL_law 330 = .ok (.aload_n 1, 1) := by decide +kernel
theorem dL_law_331 : decode cL_law 331 = .ok (.aload_n 0, 1) := by decide +kernel
theorem dL_law_332 : decode cL_law 332 = .ok (.iload_n 3, 1) := by decide +kernel
theorem dL_law_333 : decode cL_law 333 = .ok (.iconst 1, 1) := by decide +kernel
theorem dL_law_334 : decode cL_law 334 = .ok (.iadd, 1) := by decide +kernel
theorem dL_law_335 : decode cL_law 335 = .ok (.iaload, 1) := by decide +kernel
theorem dL_law_336 : decode cL_law 336 = .ok (.invokevirtual 48, 3) := by decide +kernel
theorem dL_law_339 : decode cL_law 339 = .ok (.aload_n 2, 1) := by decide +kernel
theorem dL_law_340 : decode cL_law 340 = .ok (.aload_n 0, 1) := by decide +kernel
theorem dL_law_341 : decode cL_law 341 = .ok (.iload_n 3, 1) := by decide +kernel
theorem dL_law_342 : decode cL_law 342 = .ok (.iconst 1, 1) := by decide +kernel
theorem dL_law_343 : decode cL_law 343 = .ok (.iadd, 1) := by decide +kernel
theorem dL_law_344 : decode cL_law 344 = .ok (.iaload, 1) := by decide +kernel
theorem dL_law_345 : decode cL_law 345 = .ok (.invokevirtual 51, 3) := by decide +kernel
theorem dL_law_348 : decode cL_law 348 = .ok (.if_icmp .eq 435, 3) := by decide +kernel
theorem dL_law_351 : decode cL_law 351 = .ok (.iconst 0, 1) := by decide +kernel
theorem dL_law_352 : decode cL_law 352 = .ok (.ireturn, 1) := by decide +kernel
theorem dL_law_353 : decode cL_law 353 = .ok (.aload_n 1, 1) := by decide +kernel
theorem dL_law_354 : decode cL_law 354 = .ok (.aload_n 0, 1) := by decide +kernel
theorem dL_law_355 : decode cL_law 355 = .ok (.iload_n 3, 1) := by decide +kernel
theorem dL_law_356 : decode cL_law 356 = .ok (.iconst 1, 1) := by decide +kernel
theorem dL_law_357 : decode cL_law 357 = .ok (.iadd, 1) := by decide +kernel
theorem dL_law_358 : decode cL_law 358 = .ok (.iaload, 1) := by decide +kernel
theorem dL_law_359 : decode cL_law 359 = .ok (.invokevirtual 52, 3) := by decide +kernel
theorem dL_law_362 : decode cL_law 362 = .ok (.aload_n 2, 1) := by decide +kernel
theorem dL_law_363 : decode cL_law 363 = .ok (.aload_n 0, 1) := by decide +kernel
theorem dL_law_364 : decode cL_law 364 = .ok (.iload_n 3, 1) := by decide +kernel
theorem dL_law_365 : decode cL_law 365 = .ok (.iconst 1, 1) := by decide +kernel
theorem dL_law_366 : decode cL_law 366 = .ok (.iadd, 1) := by decide +kernel
theorem dL_law_367 : decode cL_law 367 = .ok (.iaload, 1) := by decide +kernel
theorem dL_law_368 : decode cL_law 368 = .ok (.invokevirtual 55, 3) := by decide +kernel
theorem dL_law_371 : decode cL_law 371 = .ok (.if_icmp .eq 412, 3) := by decide +kernel
theorem dL_law_374 : decode cL_law 374 = .ok (.iconst 0, 1) := by decide +kernel
theorem dL_law_375 : decode cL_law 375 = .ok (.ireturn, 1) := by decide +kernel
theorem dL_law_376 : decode cL_law 376 = .ok (.aload_n 1, 1) := by decide +kernel
theorem dL_law_377 : decode cL_law 377 = .ok (.aload_n 0, 1) := by decide +kernel
theorem dL_law_378 : decode cL_law 378 = .ok (.iload_n 3, 1) := by decide +kernel
theorem dL_law_379 : decode cL_law 379 = .ok (.iconst 1, 1) := by decide +kernel
theorem dL_law_380 : decode cL_law 380 = .ok (.iadd, 1) := by decide +kernel
theorem dL_law_381 : decode cL_law 381 = .ok (.iaload, 1) := by decide +kernel
theorem dL_law_382 : decode cL_law 382 = .ok (.invokevirtual 56, 3) := by decide +kernel
theorem dL_law_385 : decode cL_law 385 = .ok (.aload_n 2, 1) := by decide +kernel
theorem dL_law_386 : decode cL_law 386 = .ok (.aload_n 0, 1) := by decide +kernel
theorem dL_law_387 : decode cL_law 387 = .ok (.iload_n 3, 1) := by decide +kernel
theorem dL_law_388 : decode cL_law 388 = .ok (.iconst 1, 1) := by decide +kernel
theorem dL_law_389 : decode cL_law 389 = .ok (.iadd, 1) := by decide +kernel
theorem dL_law_390 : decode cL_law 390 = .ok (.iaload, 1) := by decide +kernel
theorem dL_law_391 : decode cL_law 391 = .ok (.invokevirtual 59, 3) := by decide +kernel
theorem dL_law_394 : decode cL_law 394 = .ok (.if_icmp .eq 389, 3) := by decide +kernel
theorem dL_law_397 : decode cL_law 397 = .ok (.iconst 0, 1) := by decide +kernel
theorem dL_law_398 : decode cL_law 398 = .ok (.ireturn, 1) := by decide +kernel
theorem dL_law_399 : decode cL_law 399 = .ok (.aload_n 1, 1) := by decide +kernel
theorem dL_law_400 : decode cL_law 400 = .ok (.aload_n 0, 1) := by decide +kernel
theorem dL_law_401 : decode cL_law 401 = .ok (.iload_n 3, 1) := by decide +kernel
theorem dL_law_402 : decode cL_law 402 = .ok (.iconst 1, 1) := by decide +kernel
theorem dL_law_403 : decode cL_law 403 = .ok (.iadd, 1) := by decide +kernel
theorem dL_law_404 : decode cL_law 404 = .ok (.iaload, 1) := by decide +kernel
theorem dL_law_405 : decode cL_law 405 = .ok (.invokevirtual 60, 3) := by decide +kernel
theorem dL_law_408 : decode cL_law 408 = .ok (.aload_n 2, 1) := by decide +kernel
theorem dL_law_409 : decode cL_law 409 = .ok (.aload_n 0, 1) := by decide +kernel
theorem dL_law_410 : decode cL_law 410 = .ok (.iload_n 3, 1) := by decide +kernel
theorem dL_law_411 : decode cL_law 411 = .ok (.iconst 1, 1) := by decide +kernel
theorem dL_law_412 : decode cL_law 412 = .ok (.iadd, 1) := by decide +kernel
theorem dL_law_413 : decode cL_law 413 = .ok (.iaload, 1) := by decide +kernel
theorem dL_law_414 : decode cL_law 414 = .ok (.invokevirtual 63, 3) := by decide +kernel
theorem dL_law_417 : decode cL_law 417 = .ok (.if_icmp .eq 366, 3) := by decide +kernel
theorem dL_law_420 : decode cL_law 420 = .ok (.iconst 0, 1) := by decide +kernel
theorem dL_law_421 : decode cL_law 421 = .ok (.ireturn, 1) := by decide +kernel
theorem dL_law_422 : decode cL_law 422 = .ok (.aload_n 1, 1) := by decide +kernel
theorem dL_law_423 : decode cL_law 423 = .ok (.invokevirtual 64, 3) := by decide +kernel
theorem dL_law_426 : decode cL_law 426 = .ok (.aload_n 2, 1) := by decide +kernel
theorem dL_law_427 : decode cL_law 427 = .ok (.invokevirtual 67, 3) := by decide +kernel
theorem dL_law_430 : decode cL_law 430 = .ok (.if_icmp .eq 353, 3) := by decide +kernel
theorem dL_law_433 : decode cL_law 433 = .ok (.iconst 0, 1) := by decide +kernel
theorem dL_law_434 : decode cL_law 434 = .ok (.ireturn, 1) := by decide +kernel
theorem dL_law_435 : decode cL_law 435 = .ok (.aload_n 1, 1) := by decide +kernel
theorem dL_law_436 : decode cL_law 436 = .ok (.aload_n 0, 1) := by decide +kernel
theorem dL_law_437 : decode cL_law 437 = .ok (.iload_n 3, 1) := by decide +kernel
theorem dL_law_438 : decode cL_law 438 = .ok (.iconst 1, 1) := by decide +kernel
theorem dL_law_439 : decode cL_law 439 = .ok (.iadd, 1) := by decide +kernel
theorem dL_law_440 : decode cL_law 440 = .ok (.iaload, 1) := by decide +kernel
theorem dL_law_441 : decode cL_law 441 = .ok (.aload_n 0, 1) := by decide +kernel
theorem dL_law_442 : decode cL_law 442 = .ok (.iload_n 3, 1) := by decide +kernel
theorem dL_law_443 : decode cL_law 443 = .ok (.iconst 2, 1) := by decide +kernel
theorem dL_law_444 : decode cL_law 444 = .ok (.iadd, 1) := by decide +kernel
theorem dL_law_445 : decode cL_law 445 = .ok (.iaload, 1) := by decide +kernel
theorem dL_law_446 : decode cL_law 446 = .ok (.invokevirtual 68, 3) := by decide +kernel
theorem dL_law_449 : decode cL_law 449 = .ok (.aload_n 2, 1) := by decide +kernel
theorem dL_law_450 : decode cL_law 450 = .ok (.aload_n 0, 1) := by decide +kernel
theorem dL_law_451 : decode cL_law 451 = .ok (.iload_n 3, 1) := by decide +kernel
theorem dL_law_452 : decode cL_law 452 = .ok (.iconst 1, 1) := by decide +kernel
theorem dL_law_453 : decode cL_law 453 = .ok (.iadd, 1) := by decide +kernel
theorem dL_law_454 : decode cL_law 454 = .ok (.iaload, 1) := by decide +kernel
theorem dL_law_455 : decode cL_law 455 = .ok (.aload_n 0, 1) := by decide +kernel
theorem dL_law_456 : decode cL_law 456 = .ok (.iload_n 3, 1) := by decide +kernel
theorem dL_law_457 : decode cL_law 457 = .ok (.iconst 2, 1) := by decide +kernel
theorem dL_law_458 : decode cL_law 458 = .ok (.iadd, 1) := by decide +kernel
theorem dL_law_459 : decode cL_law 459 = .ok (.iaload, 1) := by decide +kernel
theorem dL_law_460 : decode cL_law 460 = .ok (.invokevirtual 71, 3) := by decide +kernel
theorem dL_law_463 : decode cL_law 463 = .ok (.if_icmp .eq 320, 3) := by decide +kernel
theorem dL_law_466 : decode cL_law 466 = .ok (.iconst 0, 1) := by decide +kernel
theorem dL_law_467 : decode cL_law 467 = .ok (.ireturn, 1) := by decide +kernel
theorem dL_law_468 : decode cL_law 468 = .ok (.aload_n 1, 1) := by decide +kernel
theorem dL_law_469 : decode cL_law 469 = .ok (.aload_n 0, 1) := by decide +kernel
theorem dL_law_470 : decode cL_law 470 = .ok (.iload_n 3, 1) := by decide +kernel
theorem dL_law_471 : decode cL_law 471 = .ok (.iconst 1, 1) := by decide +kernel
theorem dL_law_472 : decode cL_law 472 = .ok (.iadd, 1) := by decide +kernel
theorem dL_law_473 : decode cL_law 473 = .ok (.iaload, 1) := by decide +kernel
theorem dL_law_474 : decode cL_law 474 = .ok (.aload_n 0, 1) := by decide +kernel
theorem dL_law_475 : decode cL_law 475 = .ok (.iload_n 3, 1) := by decide +kernel
theorem dL_law_476 : decode cL_law 476 = .ok (.iconst 2, 1) := by decide +kernel
theorem dL_law_477 : decode cL_law 477 = .ok (.iadd, 1) := by decide +kernel
theorem dL_law_478 : decode cL_law 478 = .ok (.iaload, 1) := by decide +kernel
theorem dL_law_479 : decode cL_law 479 = .ok (.invokevirtual 72, 3) := by decide +kernel
theorem dL_law_482 : decode cL_law 482 = .ok (.aload_n 2, 1) := by decide +kernel
theorem dL_law_483 : decode cL_law 483 = .ok (.aload_n 0, 1) := by decide +kernel
theorem dL_law_484 : decode cL_law 484 = .ok (.iload_n 3, 1) := by decide +kernel
theorem dL_law_485 : decode cL_law 485 = .ok (.iconst 1, 1) := by decide +kernel
theorem dL_law_486 : decode cL_law 486 = .ok (.iadd, 1) := by decide +kernel
theorem dL_law_487 : decode cL_law 487 = .ok (.iaload, 1) := by decide +kernel
theorem dL_law_488 : decode cL_law 488 = .ok (.aload_n 0, 1) := by decide +kernel
theorem dL_law_489 : decode cL_law 489 = .ok (.iload_n 3, 1) := by decide +kernel
theorem dL_law_490 : decode cL_law 490 = .ok (.iconst 2, 1) := by decide +kernel
theorem dL_law_491 : decode cL_law 491 = .ok (.iadd, 1) := by decide +kernel
theorem dL_law_492 : decode cL_law 492 = .ok (.iaload, 1) := by decide +kernel
theorem dL_law_493 : decode cL_law 493 = .ok (.invokevirtual 75, 3) := by decide +kernel
theorem dL_law_496 : decode cL_law 496 = .ok (.if_icmp .eq 287, 3) := by decide +kernel
theorem dL_law_499 : decode cL_law 499 = .ok (.iconst 0, 1) := by decide +kernel
theorem dL_law_500 : decode cL_law 500 = .ok (.ireturn, 1) := by decide +kernel
theorem dL_law_501 : decode cL_law 501 = .ok (.aload_n 1, 1) := by decide +kernel
theorem dL_law_502 : decode cL_law 502 = .ok (.invokevirtual 76, 3) := by decide +kernel
theorem dL_law_505 : decode cL_law 505 = .ok (.aload_n 2, 1) := by decide +kernel
theorem dL_law_506 : decode cL_law 506 = .ok (.invokevirtual 79, 3) := by decide +kernel
theorem dL_law_509 : decode cL_law 509 = .ok (.if_icmp .eq 274, 3) := by decide +kernel
theorem dL_law_512 : decode cL_law 512 = .ok (.iconst 0, 1) := by decide +kernel
theorem dL_law_513 : decode cL_law 513 = .ok (.ireturn, 1) := by decide +kernel
theorem dL_law_514 : decode cL_law 514 = .ok (.aload_n 1, 1) := by decide +kernel
theorem dL_law_515 : decode cL_law 515 = .ok (.aload_n 0, 1) := by decide +kernel
theorem dL_law_516 : decode cL_law 516 = .ok (.iload_n 3, 1) := by decide +kernel
theorem dL_law_517 : decode cL_law 517 = .ok (.iconst 1, 1) := by decide +kernel
theorem dL_law_518 : decode cL_law 518 = .ok (.iadd, 1) := by decide +kernel
theorem dL_law_519 : decode cL_law 519 = .ok (.iaload, 1) := by decide +kernel
theorem dL_law_520 : decode cL_law 520 = .ok (.invokevirtual 80, 3) := by decide +kernel
theorem dL_law_523 : decode cL_law 523 = .ok (.aload_n 2, 1) := by decide +kernel
theorem dL_law_524 : decode cL_law 524 = .ok (.aload_n 0, 1) := by decide +kernel
theorem dL_law_525 : decode cL_law 525 = .ok (.iload_n 3, 1) := by decide +kernel
theorem dL_law_526 : decode cL_law 526 = .ok (.iconst 1, 1) := by decide +kernel
theorem dL_law_527 : decode cL_law 527 = .ok (.iadd, 1) := by decide +kernel
theorem dL_law_528 : decode cL_law 528 = .ok (.iaload, 1) := by decide +kernel
theorem dL_law_529 : decode cL_law 529 = .ok (.invokevirtual 83, 3) := by decide +kernel
theorem dL_law_532 : decode cL_law 532 = .ok (.if_icmp .eq 251, 3) := by decide +kernel
theorem dL_law_535 : decode cL_law 535 = .ok (.iconst 0, 1) := by decide +kernel
theorem dL_law_536 : decode cL_law 536 = .ok (.ireturn, 1) := by decide +kernel
theorem dL_law_537 : decode cL_law 537 = .ok (.aload_n 1, 1) := by decide +kernel
theorem dL_law_538 : decode cL_law 538 = .ok (.invokevirtual 84, 3) := by decide +kernel
theorem dL_law_541 : decode cL_law 541 = .ok (.aload_n 2, 1) := by decide +kernel
theorem dL_law_542 : decode cL_law 542 = .ok (.invokevirtual 87, 3) := by decide +kernel
theorem dL_law_545 : decode cL_law 545 = .ok (.if_icmp .eq 238, 3) := by decide +kernel
theorem dL_law_548 : decode cL_law 548 = .ok (.iconst 0, 1) := by decide +kernel
theorem dL_law_549 : decode cL_law 549 = .ok (.ireturn, 1) := by decide +kernel
theorem dL_law_550 : decode cL_law 550 = .ok (.aload_n 1, 1) := by decide +kernel
theorem dL_law_551 : decode cL_law 551 = .ok (.aload_n 0, 1) := by decide +kernel
theorem dL_law_552 : decode cL_law 552 = .ok (.iload_n 3, 1) := by decide +kernel
theorem dL_law_553 : decode cL_law 553 = .ok (.iconst 1, 1) := by decide +kernel
theorem dL_law_554 : decode cL_law 554 = .ok (.iadd, 1) := by decide +kernel
theorem dL_law_555 : decode cL_law 555 = .ok (.iaload, 1) := by decide +kernel
theorem dL_law_556 : decode cL_law 556 = .ok (.invokevirtual 88, 3) := by decide +kernel
theorem dL_law_559 : decode cL_law 559 = .ok (.aload_n 2, 1) := by decide +kernel
theorem dL_law_560 : decode cL_law 560 = .ok (.aload_n 0, 1) := by decide +kernel
theorem dL_law_561 : decode cL_law 561 = .ok (.iload_n 3, 1) := by decide +kernel
theorem dL_law_562 : decode cL_law 562 = .ok (.iconst 1, 1) := by decide +kernel
theorem dL_law_563 : decode cL_law 563 = .ok (.iadd, 1) := by decide +kernel
theorem dL_law_564 : decode cL_law 564 = .ok (.iaload, 1) := by decide +kernel
theorem dL_law_565 : decode cL_law 565 = .ok (.invokevirtual 91, 3) := by decide +kernel
theorem dL_law_568 : decode cL_law 568 = .ok (.if_icmp .eq 215, 3) := by decide +kernel
theorem dL_law_571 : decode cL_law 571 = .ok (.iconst 0, 1) := by decide +kernel
theorem dL_law_572 : decode cL_law 572 = .ok (.ireturn, 1) := by decide +kernel
theorem dL_law_573 : decode cL_law 573 = .ok (.aload_n 1, 1) := by decide +kernel
theorem dL_law_574 : decode cL_law 574 = .ok (.aload_n 0, 1) := by decide +kernel
theorem dL_law_575 : decode cL_law 575 = .ok (.iload_n 3, 1) := by decide +kernel
theorem dL_law_576 : decode cL_law 576 = .ok (.iconst 1, 1) := by decide +kernel
theorem dL_law_577 : decode cL_law 577 = .ok (.iadd, 1) := by decide +kernel
theorem dL_law_578 : decode cL_law 578 = .ok (.iaload, 1) := by decide +kernel
theorem dL_law_579 : decode cL_law 579 = .ok (.aload_n 0, 1) := by decide +kernel
theorem dL_law_580 : decode cL_law 580 = .ok (.iload_n 3, 1) := by decide +kernel
theorem dL_law_581 : decode cL_law 581 = .ok (.iconst 2, 1) := by decide +kernel
theorem dL_law_582 : decode cL_law 582 = .ok (.iadd, 1) := by decide +kernel
theorem dL_law_583 : decode cL_law 583 = .ok (.iaload, 1) := by decide +kernel
theorem dL_law_584 : decode cL_law 584 = .ok (.ifCond .eq 7, 3) := by decide +kernel
theorem dL_law_587 : decode cL_law 587 = .ok (.iconst 1, 1) := by decide +kernel
theorem dL_law_588 : decode cL_law 588 = .ok (.goto 4, 3) := by decide +kernel
theorem dL_law_591 : decode cL_law 591 = .ok (.iconst 0, 1) := by decide +kernel
theorem dL_law_592 : decode cL_law 592 = .ok (.invokevirtual 92, 3) := by decide +kernel
theorem dL_law_595 : decode cL_law 595 = .ok (.aload_n 2, 1) := by decide +kernel
theorem dL_law_596 : decode cL_law 596 = .ok (.aload_n 0, 1) := by decide +kernel
theorem dL_law_597 : decode cL_law 597 = .ok (.iload_n 3, 1) := by decide +kernel
theorem dL_law_598 : decode cL_law 598 = .ok (.iconst 1, 1) := by decide +kernel
theorem dL_law_599 : decode cL_law 599 = .ok (.iadd, 1) := by decide +kernel
theorem dL_law_600 : decode cL_law 600 = .ok (.iaload, 1) := by decide +kernel
theorem dL_law_601 : decode cL_law 601 = .ok (.aload_n 0, 1) := by decide +kernel
theorem dL_law_602 : decode cL_law 602 = .ok (.iload_n 3, 1) := by decide +kernel
theorem dL_law_603 : decode cL_law 603 = .ok (.iconst 2, 1) := by decide +kernel
theorem dL_law_604 : decode cL_law 604 = .ok (.iadd, 1) := by decide +kernel
theorem dL_law_605 : decode cL_law 605 = .ok (.iaload, 1) := by decide +kernel
theorem dL_law_606 : decode cL_law 606 = .ok (.ifCond .eq 7, 3) := by decide +kernel
theorem dL_law_609 : decode cL_law 609 = .ok (.iconst 1, 1) := by decide +kernel
theorem dL_law_610 : decode cL_law 610 = .ok (.goto 4, 3) := by decide +kernel
theorem dL_law_613 : decode cL_law 613 = .ok (.iconst 0, 1) := by decide +kernel
theorem dL_law_614 : decode cL_law 614 = .ok (.invokevirtual 96, 3) := by decide +kernel
theorem dL_law_617 : decode cL_law 617 = .ok (.if_icmp .eq 166, 3) := by decide +kernel
theorem dL_law_620 : decode cL_law 620 = .ok (.iconst 0, 1) := by decide +kernel
theorem dL_law_621 : decode cL_law 621 = .ok (.ireturn, 1) := by decide +kernel
theorem dL_law_622 : decode cL_law 622 = .ok (.aload_n 1, 1) := by decide +kernel
theorem dL_law_623 : decode cL_law 623 = .ok (.invokevirtual 97, 3) := by decide +kernel
theorem dL_law_626 : decode cL_law 626 = .ok (.aload_n 2, 1) := by decide +kernel
theorem dL_law_627 : decode cL_law 627 = .ok (.invokevirtual 100, 3) := by decide +kernel
theorem dL_law_630 : decode cL_law 630 = .ok (.if_icmp .eq 153, 3) := by decide +kernel
theorem dL_law_633 : decode cL_law 633 = .ok (.iconst 0, 1) := by decide +kernel
theorem dL_law_634 : decode cL_law 634 = .ok (.ireturn, 1) := by decide +kernel
theorem dL_law_635 : decode cL_law 635 = .ok (.aload_n 1, 1) := by decide +kernel
theorem dL_law_636 : decode cL_law 636 = .ok (.invokevirtual 101, 3) := by decide +kernel
theorem dL_law_639 : decode cL_law 639 = .ok (.aload_n 2, 1) := by decide +kernel
theorem dL_law_640 : decode cL_law 640 = .ok (.invokevirtual 104, 3) := by decide +kernel
theorem dL_law_643 : decode cL_law 643 = .ok (.if_icmp .eq 140, 3) := by decide +kernel
theorem dL_law_646 : decode cL_law 646 = .ok (.iconst 0, 1) := by decide +kernel
theorem dL_law_647 : decode cL_law 647 = .ok (.ireturn, 1) := by decide +kernel
theorem dL_law_648 : decode cL_law 648 = .ok (.aload_n 1, 1) := by decide +kernel
theorem dL_law_649 : decode cL_law 649 = .ok (.aload_n 0, 1) := by decide +kernel
theorem dL_law_650 : decode cL_law 650 = .ok (.iload_n 3, 1) := by decide +kernel
theorem dL_law_651 : decode cL_law 651 = .ok (.iconst 1, 1) := by decide +kernel
theorem dL_law_652 : decode cL_law 652 = .ok (.iadd, 1) := by decide +kernel
theorem dL_law_653 : decode cL_law 653 = .ok (.iaload, 1) := by decide +kernel
theorem dL_law_654 : decode cL_law 654 = .ok (.aload_n 0, 1) := by decide +kernel
theorem dL_law_655 : decode cL_law 655 = .ok (.iload_n 3, 1) := by decide +kernel
theorem dL_law_656 : decode cL_law 656 = .ok (.iconst 2, 1) := by decide +kernel
theorem dL_law_657 : decode cL_law 657 = .ok (.iadd, 1) := by decide +kernel
theorem dL_law_658 : decode cL_law 658 = .ok (.iaload, 1) := by decide +kernel
theorem dL_law_659 : decode cL_law 659 = .ok (.aload_n 0, 1) := by decide +kernel
theorem dL_law_660 : decode cL_law 660 = .ok (.iload_n 3, 1) := by decide +kernel
theorem dL_law_661 : decode cL_law 661 = .ok (.iconst 3, 1) := by decide +kernel
theorem dL_law_662 : decode cL_law 662 = .ok (.iadd, 1) := by decide +kernel
theorem dL_law_663 : decode cL_law 663 = .ok (.iaload, 1) := by decide +kernel
theorem dL_law_664 : decode cL_law 664 = .ok (.invokevirtual 105, 3) := by decide +kernel
theorem dL_law_667 : decode cL_law 667 = .ok (.aload_n 2, 1) := by decide +kernel
theorem dL_law_668 : decode cL_law 668 = .ok (.aload_n 0, 1) := by decide +kernel
theorem dL_law_669 : decode cL_law 669 = .ok (.iload_n 3, 1) := by decide +kernel
theorem dL_law_670 : decode cL_law 670 = .ok (.iconst 1, 1) := by decide +kernel
theorem dL_law_671 : decode cL_law 671 = .ok (.iadd, 1) := by decide +kernel
theorem dL_law_672 : decode cL_law 672 = .ok (.iaload, 1) := by decide +kernel
theorem dL_law_673 : decode cL_law 673 = .ok (.aload_n 0, 1) := by decide +kernel
theorem dL_law_674 : decode cL_law 674 = .ok (.iload_n 3, 1) := by decide +kernel
theorem dL_law_675 : decode cL_law 675 = .ok (.iconst 2, 1) := by decide +kernel
theorem dL_law_676 : decode cL_law 676 = .ok (.iadd, 1) := by decide +kernel
theorem dL_law_677 : decode cL_law 677 = .ok (.iaload, 1) := by decide +kernel
theorem dL_law_678 : decode cL_law 678 = .ok (.aload_n 0, 1) := by decide +kernel
theorem dL_law_679 : decode cL_law 679 = .ok (.iload_n 3, 1) := by decide +kernel
theorem dL_law_680 : decode cL_law 680 = .ok (.iconst 3, 1) := by decide +kernel
theorem dL_law_681 : decode cL_law 681 = .ok (.iadd, 1) := by decide +kernel
theorem dL_law_682 : decode cL_law 682 = .ok (.iaload, 1) := by decide +kernel
theorem dL_law_683 : decode cL_law 683 = .ok (.invokevirtual 109, 3) := by decide +kernel
theorem dL_law_686 : decode cL_law 686 = .ok (.if_icmp .eq 97, 3) := by decide +kernel
theorem dL_law_689 : decode cL_law 689 = .ok (.iconst 0, 1) := by decide +kernel
theorem dL_law_690 : decode cL_law 690 = .ok (.ireturn, 1) := by decide +kernel
theorem dL_law_691 : decode cL_law 691 = .ok (.aload_n 1, 1) := by decide +kernel
theorem dL_law_692 : decode cL_law 692 = .ok (.aload_n 0, 1) := by decide +kernel
theorem dL_law_693 : decode cL_law 693 = .ok (.iload_n 3, 1) := by decide +kernel
theorem dL_law_694 : decode cL_law 694 = .ok (.iconst 1, 1) := by decide +kernel
theorem dL_law_695 : decode cL_law 695 = .ok (.iadd, 1) := by decide +kernel
theorem dL_law_696 : decode cL_law 696 = .ok (.iaload, 1) := by decide +kernel
theorem dL_law_697 : decode cL_law 697 = .ok (.aload_n 0, 1) := by decide +kernel
theorem dL_law_698 : decode cL_law 698 = .ok (.iload_n 3, 1) := by decide +kernel
theorem dL_law_699 : decode cL_law 699 = .ok (.iconst 2, 1) := by decide +kernel
theorem dL_law_700 : decode cL_law 700 = .ok (.iadd, 1) := by decide +kernel
theorem dL_law_701 : decode cL_law 701 = .ok (.iaload, 1) := by decide +kernel
theorem dL_law_702 : decode cL_law 702 = .ok (.aload_n 0, 1) := by decide +kernel
theorem dL_law_703 : decode cL_law 703 = .ok (.iload_n 3, 1) := by decide +kernel
theorem dL_law_704 : decode cL_law 704 = .ok (.iconst 3, 1) := by decide +kernel
theorem dL_law_705 : decode cL_law 705 = .ok (.iadd, 1) := by decide +kernel
theorem dL_law_706 : decode cL_law 706 = .ok (.iaload, 1) := by decide +kernel
theorem dL_law_707 : decode cL_law 707 = .ok (.invokevirtual 110, 3) := by decide +kernel
theorem dL_law_710 : decode cL_law 710 = .ok (.aload_n 2, 1) := by decide +kernel
theorem dL_law_711 : decode cL_law 711 = .ok (.aload_n 0, 1) := by decide +kernel
theorem dL_law_712 : decode cL_law 712 = .ok (.iload_n 3, 1) := by decide +kernel
theorem dL_law_713 : decode cL_law 713 = .ok (.iconst 1, 1) := by decide +kernel
theorem dL_law_714 : decode cL_law 714 = .ok (.iadd, 1) := by decide +kernel
theorem dL_law_715 : decode cL_law 715 = .ok (.iaload, 1) := by decide +kernel
theorem dL_law_716 : decode cL_law 716 = .ok (.aload_n 0, 1) := by decide +kernel
theorem dL_law_717 : decode cL_law 717 = .ok (.iload_n 3, 1) := by decide +kernel
theorem dL_law_718 : decode cL_law 718 = .ok (.iconst 2, 1) := by decide +kernel
theorem dL_law_719 : decode cL_law 719 = .ok (.iadd, 1) := by decide +kernel
theorem dL_law_720 : decode cL_law 720 = .ok (.iaload, 1) := by decide +kernel
theorem dL_law_721 : decode cL_law 721 = .ok (.aload_n 0, 1) := by decide +kernel
theorem dL_law_722 : decode cL_law 722 = .ok (.iload_n 3, 1) := by decide +kernel
theorem dL_law_723 : decode cL_law 723 = .ok (.iconst 3, 1) := by decide +kernel
theorem dL_law_724 : decode cL_law 724 = .ok (.iadd, 1) := by decide +kernel
theorem dL_law_725 : decode cL_law 725 = .ok (.iaload, 1) := by decide +kernel
theorem dL_law_726 : decode cL_law 726 = .ok (.invokevirtual 113, 3) := by decide +kernel
theorem dL_law_729 : decode cL_law 729 = .ok (.if_icmp .eq 54, 3) := by decide +kernel
theorem dL_law_732 : decode cL_law 732 = .ok (.iconst 0, 1) := by decide +kernel
theorem dL_law_733 : decode cL_law 733 = .ok (.ireturn, 1) := by decide +kernel
theorem dL_law_734 : decode cL_law 734 = .ok (.aload_n 1, 1) := by decide +kernel
theorem dL_law_735 : decode cL_law 735 = .ok (.invokevirtual 114, 3) := by decide +kernel
theorem dL_law_738 : decode cL_law 738 = .ok (.aload_n 2, 1) := by decide +kernel
theorem dL_law_739 : decode cL_law 739 = .ok (.invokevirtual 117, 3) := by decide +kernel
theorem dL_law_742 : decode cL_law 742 = .ok (.if_icmp .eq 41, 3) := by decide +kernel
theorem dL_law_745 : decode cL_law 745 = .ok (.iconst 0, 1) := by decide +kernel
theorem dL_law_746 : decode cL_law 746 = .ok (.ireturn, 1) := by decide +kernel
theorem dL_law_747 : decode cL_law 747 = .ok (.aload_n 1, 1) := by decide +kernel
theorem dL_law_748 : decode cL_law 748 = .ok (.invokevirtual 118, 3) := by decide +kernel
theorem dL_law_751 : decode cL_law 751 = .ok (.aload_n 2, 1) := by decide +kernel
theorem dL_law_752 : decode cL_law 752 = .ok (.invokevirtual 121, 3) := by decide +kernel
theorem dL_law_755 : decode cL_law 755 = .ok (.if_icmp .eq 28, 3) := by decide +kernel
theorem dL_law_758 : decode cL_law 758 = .ok (.iconst 0, 1) := by decide +kernel
theorem dL_law_759 : decode cL_law 759 = .ok (.ireturn, 1) := by decide +kernel
theorem dL_law_760 : decode cL_law 760 = .ok (.aload_n 1, 1) := by decide +kernel
theorem dL_law_761 : decode cL_law 761 = .ok (.aload_n 0, 1) := by decide +kernel
theorem dL_law_762 : decode cL_law 762 = .ok (.iload_n 3, 1) := by decide +kernel
theorem dL_law_763 : decode cL_law 763 = .ok (.iconst 1, 1) := by decide +kernel
theorem dL_law_764 : decode cL_law 764 = .ok (.iadd, 1) := by decide +kernel
theorem dL_law_765 : decode cL_law 765 = .ok (.iaload, 1) := by decide +kernel
theorem dL_law_766 : decode cL_law 766 = .ok (.invokevirtual 122, 3) := by decide +kernel
theorem dL_law_769 : decode cL_law 769 = .ok (.aload_n 2, 1) := by decide +kernel
theorem dL_law_770 : decode cL_law 770 = .ok (.aload_n 0, 1) := by decide +kernel
theorem dL_law_771 : decode cL_law 771 = .ok (.iload_n 3, 1) := by decide +kernel
theorem dL_law_772 : decode cL_law 772 = .ok (.iconst 1, 1) := by decide +kernel
theorem dL_law_773 : decode cL_law 773 = .ok (.iadd, 1) := by decide +kernel
theorem dL_law_774 : decode cL_law 774 = .ok (.iaload, 1) := by decide +kernel
theorem dL_law_775 : decode cL_law 775 = .ok (.invokevirtual 125, 3) := by decide +kernel
theorem dL_law_778 : decode cL_law 778 = .ok (.if_icmp .eq 5, 3) := by decide +kernel
theorem dL_law_781 : decode cL_law 781 = .ok (.iconst 0, 1) := by decide +kernel
theorem dL_law_782 : decode cL_law 782 = .ok (.ireturn, 1) := by decide +kernel
theorem dL_law_783 : decode cL_law 783 = .ok (.iinc 3 4, 3) := by decide +kernel
theorem dL_law_786 : decode cL_law 786 = .ok (.goto (-768), 3) := by decide +kernel
theorem dL_law_789 : decode cL_law 789 = .ok (.iconst 1, 1) := by decide +kernel
theorem dL_law_790 : decode cL_law 790 = .ok (.ireturn, 1) := by decide +kernel
