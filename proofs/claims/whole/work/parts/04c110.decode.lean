theorem dX11_init_0 : decode cX11_init 0 = .ok (.aload_n 0, 1) := by decide +kernel
theorem dX11_init_1 : decode cX11_init 1 = .ok (.invokespecial 1, 3) := by decide +kernel
theorem dX11_init_4 : decode cX11_init 4 = .ok (.aload_n 0, 1) := by decide +kernel
theorem dX11_init_5 : decode cX11_init 5 = .ok (.iconst (-1), 1) := by decide +kernel
theorem dX11_init_6 : decode cX11_init 6 = .ok (.putfield 9, 3) := by decide +kernel
theorem dX11_init_9 : decode cX11_init 9 = .ok (.aload_n 0, 1) := by decide +kernel
theorem dX11_init_10 : decode cX11_init 10 = .ok (.sipush 300, 3) := by decide +kernel
theorem dX11_init_13 : decode cX11_init 13 = .ok (.newarray .int, 2) := by decide +kernel
theorem dX11_init_15 : decode cX11_init 15 = .ok (.putfield 13, 3) := by decide +kernel
theorem dX11_init_18 : decode cX11_init 18 = .ok (.aload_n 0, 1) := by decide +kernel
theorem dX11_init_19 : decode cX11_init 19 = .ok (.sipush 400, 3) := by decide +kernel
theorem dX11_init_22 : decode cX11_init 22 = .ok (.newarray .int, 2) := by decide +kernel
theorem dX11_init_24 : decode cX11_init 24 = .ok (.putfield 17, 3) := by decide +kernel
theorem dX11_init_27 : decode cX11_init 27 = .ok (.aload_n 0, 1) := by decide +kernel
theorem dX11_init_28 : decode cX11_init 28 = .ok (.iconst 4, 1) := by decide +kernel
theorem dX11_init_29 : decode cX11_init 29 = .ok (.sipush 400, 3) := by decide +kernel
theorem dX11_init_32 : decode cX11_init 32 = .ok (.multianewarray 20 2, 4) := by decide +kernel
theorem dX11_init_36 : decode cX11_init 36 = .ok (.putfield 22, 3) := by decide +kernel
theorem dX11_init_39 : decode cX11_init 39 = .ok (.aload_n 0, 1) := by decide +kernel
theorem dX11_init_40 : decode cX11_init 40 = .ok (.iconst 4, 1) := by decide +kernel
theorem dX11_init_41 : decode cX11_init 41 = .ok (.newarray .int, 2) := by decide +kernel
theorem dX11_init_43 : decode cX11_init 43 = .ok (.putfield 25, 3) := by decide +kernel
theorem dX11_init_46 : decode cX11_init 46 = .ok (.aload_n 0, 1) := by decide +kernel
theorem dX11_init_47 : decode cX11_init 47 = .ok (.bipush 120, 2) := by decide +kernel
theorem dX11_init_49 : decode cX11_init 49 = .ok (.newarray .int, 2) := by decide +kernel
theorem dX11_init_51 : decode cX11_init 51 = .ok (.putfield 28, 3) := by decide +kernel
theorem dX11_init_54 : decode cX11_init 54 = .ok (.aload_n 0, 1) := by decide +kernel
theorem dX11_init_55 : decode cX11_init 55 = .ok (.bipush 9, 2) := by decide +kernel
theorem dX11_init_57 : decode cX11_init 57 = .ok (.newarray .int, 2) := by decide +kernel
theorem dX11_init_59 : decode cX11_init 59 = .ok (.putfield 31, 3) := by decide +kernel
theorem dX11_init_62 : decode cX11_init 62 = .ok (.aload_n 0, 1) := by decide +kernel
theorem dX11_init_63 : decode cX11_init 63 = .ok (.bipush 100, 2) := by decide +kernel
theorem dX11_init_65 : decode cX11_init 65 = .ok (.putfield 34, 3) := by decide +kernel
theorem dX11_init_68 : decode cX11_init 68 = .ok (.aload_n 0, 1) := by decide +kernel
theorem dX11_init_69 : decode cX11_init 69 = .ok (.iconst 4, 1) := by decide +kernel
theorem dX11_init_70 : decode cX11_init 70 = .ok (.putfield 37, 3) := by decide +kernel
theorem dX11_init_73 : decode cX11_init 73 = .ok (.aload_n 0, 1) := by decide +kernel
theorem dX11_init_74 : decode cX11_init 74 = .ok (.bipush 10, 2) := by decide +kernel
theorem dX11_init_76 : decode cX11_init 76 = .ok (.newarray .int, 2) := by decide +kernel
theorem dX11_init_78 : decode cX11_init 78 = .ok (.dup, 1) := by decide +kernel
theorem dX11_init_79 : decode cX11_init 79 = .ok (.iconst 0, 1) := by decide +kernel
theorem dX11_init_80 : decode cX11_init 80 = .ok (.iconst 4, 1) := by decide +kernel
theorem dX11_init_81 : decode cX11_init 81 = .ok (.iastore, 1) := by decide +kernel
theorem dX11_init_82 : decode cX11_init 82 = .ok (.dup, 1) := by decide +kernel
theorem dX11_init_83 : decode cX11_init 83 = .ok (.iconst 1, 1) := by decide +kernel
theorem dX11_init_84 : decode cX11_init 84 = .ok (.bipush 20, 2) := by decide +kernel
theorem dX11_init_86 : decode cX11_init 86 = .ok (.iastore, 1) := by decide +kernel
theorem dX11_init_87 : decode cX11_init 87 = .ok (.dup, 1) := by decide +kernel
theorem dX11_init_88 : decode cX11_init 88 = .ok (.iconst 2, 1) := by decide +kernel
theorem dX11_init_89 : decode cX11_init 89 = .ok (.bipush 10, 2) := by decide +kernel
theorem dX11_init_91 : decode cX11_init 91 = .ok (.iastore, 1) := by decide +kernel
theorem dX11_init_92 : decode cX11_init 92 = .ok (.dup, 1) := by decide +kernel
theorem dX11_init_93 : decode cX11_init 93 = .ok (.iconst 3, 1) := by decide +kernel
theorem dX11_init_94 : decode cX11_init 94 = .ok (.iconst 5, 1) := by decide +kernel
theorem dX11_init_95 : decode cX11_init 95 = .ok (.iastore, 1) := by decide +kernel
theorem dX11_init_96 : decode cX11_init 96 = .ok (.dup, 1) := by decide +kernel
theorem dX11_init_97 : decode cX11_init 97 = .ok (.iconst 4, 1) := by decide +kernel
theorem dX11_init_98 : decode cX11_init 98 = .ok (.iconst 2, 1) := by decide +kernel
theorem dX11_init_99 : decode cX11_init 99 = .ok (.iastore, 1) := by decide +kernel
theorem dX11_init_100 : decode cX11_init 100 = .ok (.dup, 1) := by decide +kernel
theorem dX11_init_101 : decode cX11_init 101 = .ok (.iconst 5, 1) := by decide +kernel
theorem dX11_init_102 : decode cX11_init 102 = .ok (.bipush 8, 2) := by decide +kernel
theorem dX11_init_104 : decode cX11_init 104 = .ok (.iastore, 1) := by decide +kernel
theorem dX11_init_105 : decode cX11_init 105 = .ok (.dup, 1) := by decide +kernel
theorem dX11_init_106 : decode cX11_init 106 = .ok (.bipush 6, 2) := by decide +kernel
theorem dX11_init_108 : decode cX11_init 108 = .ok (.iconst 0, 1) := by decide +kernel
theorem dX11_init_109 : decode cX11_init 109 = .ok (.iastore, 1) := by decide +kernel
theorem dX11_init_110 : decode cX11_init 110 = .ok (.dup, 1) := by decide +kernel
theorem dX11_init_111 : decode cX11_init 111 = .ok (.bipush 7, 2) := by decide +kernel
theorem dX11_init_113 : decode cX11_init 113 = .ok (.sipush 300, 3) := by decide +kernel
theorem dX11_init_116 : decode cX11_init 116 = .ok (.iastore, 1) := by decide +kernel
theorem dX11_init_117 : decode cX11_init 117 = .ok (.dup, 1) := by decide +kernel
theorem dX11_init_118 : decode cX11_init 118 = .ok (.bipush 8, 2) := by decide +kernel
theorem dX11_init_120 : decode cX11_init 120 = .ok (.bipush 30, 2) := by decide +kernel
theorem dX11_init_122 : decode cX11_init 122 = .ok (.iastore, 1) := by decide +kernel
theorem dX11_init_123 : decode cX11_init 123 = .ok (.dup, 1) := by decide +kernel
theorem dX11_init_124 : decode cX11_init 124 = .ok (.bipush 9, 2) := by decide +kernel
theorem dX11_init_126 : decode cX11_init 126 = .ok (.iconst 0, 1) := by decide +kernel
theorem dX11_init_127 : decode cX11_init 127 = .ok (.iastore, 1) := by decide +kernel
theorem dX11_init_128 : decode cX11_init 128 = .ok (.putfield 40, 3) := by decide +kernel
theorem dX11_init_131 : decode cX11_init 131 = .ok (.aload_n 0, 1) := by decide +kernel
theorem dX11_init_132 : decode cX11_init 132 = .ok (.iconst 4, 1) := by decide +kernel
theorem dX11_init_133 : decode cX11_init 133 = .ok (.bipush 8, 2) := by decide +kernel
theorem dX11_init_135 : decode cX11_init 135 = .ok (.multianewarray 20 2, 4) := by decide +kernel
theorem dX11_init_139 : decode cX11_init 139 = .ok (.putfield 43, 3) := by decide +kernel
theorem dX11_init_142 : decode cX11_init 142 = .ok (.aload_n 0, 1) := by decide +kernel
theorem dX11_init_143 : decode cX11_init 143 = .ok (.iconst 4, 1) := by decide +kernel
theorem dX11_init_144 : decode cX11_init 144 = .ok (.bipush 8, 2) := by decide +kernel
theorem dX11_init_146 : decode cX11_init 146 = .ok (.multianewarray 20 2, 4) := by decide +kernel
theorem dX11_init_150 : decode cX11_init 150 = .ok (.putfield 46, 3) := by decide +kernel
theorem dX11_init_153 : decode cX11_init 153 = .ok (.aload_n 0, 1) := by decide +kernel
theorem dX11_init_154 : decode cX11_init 154 = .ok (.bipush 8, 2) := by decide +kernel
theorem dX11_init_156 : decode cX11_init 156 = .ok (.newarray .int, 2) := by decide +kernel
theorem dX11_init_158 : decode cX11_init 158 = .ok (.dup, 1) := by decide +kernel
theorem dX11_init_159 : decode cX11_init 159 = .ok (.iconst 0, 1) := by decide +kernel
theorem dX11_init_160 : decode cX11_init 160 = .ok (.iconst 2, 1) := by decide +kernel
theorem dX11_init_161 : decode cX11_init 161 = .ok (.iastore, 1) := by decide +kernel
theorem dX11_init_162 : decode cX11_init 162 = .ok (.dup, 1) := by decide +kernel
theorem dX11_init_163 : decode cX11_init 163 = .ok (.iconst 1, 1) := by decide +kernel
theorem dX11_init_164 : decode cX11_init 164 = .ok (.iconst 2, 1) := by decide +kernel
theorem dX11_init_165 : decode cX11_init 165 = .ok (.iastore, 1) := by decide +kernel
theorem dX11_init_166 : decode cX11_init 166 = .ok (.dup, 1) := by decide +kernel
theorem dX11_init_167 : decode cX11_init 167 = .ok (.iconst 2, 1) := by decide +kernel
theorem dX11_init_168 : decode cX11_init 168 = .ok (.iconst 2, 1) := by decide +kernel
theorem dX11_init_169 : decode cX11_init 169 = .ok (.iastore, 1) := by decide +kernel
theorem dX11_init_170 : decode cX11_init 170 = .ok (.dup, 1) := by decide +kernel
theorem dX11_init_171 : decode cX11_init 171 = .ok (.iconst 3, 1) := by decide +kernel
theorem dX11_init_172 : decode cX11_init 172 = .ok (.iconst 2, 1) := by decide +kernel
theorem dX11_init_173 : decode cX11_init 173 = .ok (.iastore, 1) := by decide +kernel
theorem dX11_init_174 : decode cX11_init 174 = .ok (.dup, 1) := by decide +kernel
theorem dX11_init_175 : decode cX11_init 175 = .ok (.iconst 4, 1) := by decide +kernel
theorem dX11_init_176 : decode cX11_init 176 = .ok (.iconst 2, 1) := by decide +kernel
theorem dX11_init_177 : decode cX11_init 177 = .ok (.iastore, 1) := by decide +kernel
theorem dX11_init_178 : decode cX11_init 178 = .ok (.dup, 1) := by decide +kernel
theorem dX11_init_179 : decode cX11_init 179 = .ok (.iconst 5, 1) := by decide +kernel
theorem dX11_init_180 : decode cX11_init 180 = .ok (.iconst 2, 1) := by decide +kernel
theorem dX11_init_181 : decode cX11_init 181 = .ok (.iastore, 1) := by decide +kernel
theorem dX11_init_182 : decode cX11_init 182 = .ok (.dup, 1) := by decide +kernel
theorem dX11_init_183 : decode cX11_init 183 = .ok (.bipush 6, 2) := by decide +kernel
theorem dX11_init_185 : decode cX11_init 185 = .ok (.iconst 2, 1) := by decide +kernel
theorem dX11_init_186 : decode cX11_init 186 = .ok (.iastore, 1) := by decide +kernel
theorem dX11_init_187 : decode cX11_init 187 = .ok (.dup, 1) := by decide +kernel
theorem dX11_init_188 : decode cX11_init 188 = .ok (.bipush 7, 2) := by decide +kernel
theorem dX11_init_190 : decode cX11_init 190 = .ok (.iconst 2, 1) := by decide +kernel
theorem dX11_init_191 : decode cX11_init 191 = .ok (.iastore, 1) := by decide +kernel
theorem dX11_init_192 : decode cX11_init 192 = .ok (.putfield 49, 3) := by decide +kernel
theorem dX11_init_195 : decode cX11_init 195 = .ok (.aload_n 0, 1) := by decide +kernel
theorem dX11_init_196 : decode cX11_init 196 = .ok (.bipush 8, 2) := by decide +kernel
theorem dX11_init_198 : decode cX11_init 198 = .ok (.newarray .boolean, 2) := by decide +kernel
theorem dX11_init_200 : decode cX11_init 200 = .ok (.putfield 52, 3) := by decide +kernel
theorem dX11_init_203 : decode cX11_init 203 = .ok (.aload_n 0, 1) := by decide +kernel
theorem dX11_init_204 : decode cX11_init 204 = .ok (.iconst 4, 1) := by decide +kernel
theorem dX11_init_205 : decode cX11_init 205 = .ok (.bipush 8, 2) := by decide +kernel
theorem dX11_init_207 : decode cX11_init 207 = .ok (.multianewarray 20 2, 4) := by decide +kernel
theorem dX11_init_211 : decode cX11_init 211 = .ok (.putfield 56, 3) := by decide +kernel
theorem dX11_init_214 : decode cX11_init 214 = .ok (.aload_n 0, 1) := by decide +kernel
theorem dX11_init_215 : decode cX11_init 215 = .ok (.bipush 8, 2) := by decide +kernel
theorem dX11_init_217 : decode cX11_init 217 = .ok (.newarray .int, 2) := by decide +kernel
theorem dX11_init_219 : decode cX11_init 219 = .ok (.putfield 59, 3) := by decide +kernel
theorem dX11_init_222 : decode cX11_init 222 = .ok (.aload_n 0, 1) := by decide +kernel
theorem dX11_init_223 : decode cX11_init 223 = .ok (.bipush 10, 2) := by decide +kernel
theorem dX11_init_225 : decode cX11_init 225 = .ok (.newarray .int, 2) := by decide +kernel
theorem dX11_init_227 : decode cX11_init 227 = .ok (.putfield 62, 3) := by decide +kernel
theorem dX11_init_230 : decode cX11_init 230 = .ok (.aload_n 0, 1) := by decide +kernel
theorem dX11_init_231 : decode cX11_init 231 = .ok (.bipush 8, 2) := by decide +kernel
theorem dX11_init_233 : decode cX11_init 233 = .ok (.newarray .boolean, 2) := by decide +kernel
theorem dX11_init_235 : decode cX11_init 235 = .ok (.putfield 65, 3) := by decide +kernel
theorem dX11_init_238 : decode cX11_init 238 = .ok (.aload_n 0, 1) := by decide +kernel
theorem dX11_init_239 : decode cX11_init 239 = .ok (.bipush 20, 2) := by decide +kernel
theorem dX11_init_241 : decode cX11_init 241 = .ok (.iconst 4, 1) := by decide +kernel
theorem dX11_init_242 : decode cX11_init 242 = .ok (.multianewarray 20 2, 4) := by decide +kernel
theorem dX11_init_246 : decode cX11_init 246 = .ok (.putfield 68, 3) := by decide +kernel
theorem dX11_init_249 : decode cX11_init 249 = .ok (.aload_n 0, 1) := by decide +kernel
theorem dX11_init_250 : decode cX11_init 250 = .ok (.iconst 5, 1) := by decide +kernel
theorem dX11_init_251 : decode cX11_init 251 = .ok (.iconst 3, 1) := by decide +kernel
theorem dX11_init_252 : decode cX11_init 252 = .ok (.multianewarray 20 2, 4) := by decide +kernel
theorem dX11_init_256 : decode cX11_init 256 = .ok (.putfield 71, 3) := by decide +kernel
theorem dX11_init_259 : decode cX11_init 259 = .ok (.aload_n 0, 1) := by decide +kernel
theorem dX11_init_260 : decode cX11_init 260 = .ok (.bipush 6, 2) := by decide +kernel
theorem dX11_init_262 : decode cX11_init 262 = .ok (.bipush 11, 2) := by decide +kernel
theorem dX11_init_264 : decode cX11_init 264 = .ok (.multianewarray 20 2, 4) := by decide +kernel
theorem dX11_init_268 : decode cX11_init 268 = .ok (.putfield 74, 3) := by decide +kernel
theorem dX11_init_271 : decode cX11_init 271 = .ok (.aload_n 0, 1) := by decide +kernel
theorem dX11_init_272 : decode cX11_init 272 = .ok (.bipush 10, 2) := by decide +kernel
theorem dX11_init_274 : decode cX11_init 274 = .ok (.iconst 3, 1) := by decide +kernel
theorem dX11_init_275 : decode cX11_init 275 = .ok (.multianewarray 20 2, 4) := by decide +kernel
theorem dX11_init_279 : decode cX11_init 279 = .ok (.putfield 77, 3) := by decide +kernel
theorem dX11_init_282 : decode cX11_init 282 = .ok (.aload_n 0, 1) := by decide +kernel
theorem dX11_init_283 : decode cX11_init 283 = .ok (.iconst 3, 1) := by decide +kernel
theorem dX11_init_284 : decode cX11_init 284 = .ok (.sipush 320, 3) := by decide +kernel
theorem dX11_init_287 : decode cX11_init 287 = .ok (.multianewarray 20 2, 4) := by decide +kernel
theorem dX11_init_291 : decode cX11_init 291 = .ok (.putfield 80, 3) := by decide +kernel
theorem dX11_init_294 : decode cX11_init 294 = .ok (.return_, 1) := by decide +kernel
theorem dX11_thrown_0 : decode cX11_thrown 0 = .ok (.aload_n 0, 1) := by decide +kernel
theorem dX11_thrown_1 : decode cX11_thrown 1 = .ok (.getfield 83, 3) := by decide +kernel
theorem dX11_thrown_4 : decode cX11_thrown 4 = .ok (.ireturn, 1) := by decide +kernel
theorem dX11_bad_0 : decode cX11_bad 0 = .ok (.iload_n 1, 1) := by decide +kernel
theorem dX11_bad_1 : decode cX11_bad 1 = .ok (.ifCond .eq 15, 3) := by decide +kernel
theorem dX11_bad_4 : decode cX11_bad 4 = .ok (.aload_n 0, 1) := by decide +kernel
theorem dX11_bad_5 : decode cX11_bad 5 = .ok (.getfield 83, 3) := by decide +kernel
theorem dX11_bad_8 : decode cX11_bad 8 = .ok (.ifCond .ne 8, 3) := by decide +kernel
theorem dX11_bad_11 : decode cX11_bad 11 = .ok (.aload_n 0, 1) := by decide +kernel
theorem dX11_bad_12 : decode cX11_bad 12 = .ok (.iload_n 2, 1) := by decide +kernel
theorem dX11_bad_13 : decode cX11_bad 13 = .ok (.putfield 83, 3) := by decide +kernel
theorem dX11_bad_16 : decode cX11_bad 16 = .ok (.aload_n 0, 1) := by decide +kernel
theorem dX11_bad_17 : decode cX11_bad 17 = .ok (.getfield 83, 3) := by decide +kernel
theorem dX11_bad_20 : decode cX11_bad 20 = .ok (.ifCond .eq 7, 3) := by decide +kernel
theorem dX11_bad_23 : decode cX11_bad 23 = .ok (.iconst 1, 1) := by decide +kernel
theorem dX11_bad_24 : decode cX11_bad 24 = .ok (.goto 4, 3) := by decide +kernel
theorem dX11_bad_27 : decode cX11_bad 27 = .ok (.iconst 0, 1) := by decide +kernel
theorem dX11_bad_28 : decode cX11_bad 28 = .ok (.ireturn, 1) := by decide +kernel
theorem dX11_in_0 : decode cX11_in 0 = .ok (.iload_n 0, 1) := by decide +kernel
theorem dX11_in_1 : decode cX11_in 1 = .ok (.iload_n 1, 1) := by decide +kernel
theorem dX11_in_2 : decode cX11_in 2 = .ok (.if_icmp .lt 12, 3) := by decide +kernel
theorem dX11_in_5 : decode cX11_in 5 = .ok (.iload_n 0, 1) := by decide +kernel
theorem dX11_in_6 : decode cX11_in 6 = .ok (.iload_n 2, 1) := by decide +kernel
theorem dX11_in_7 : decode cX11_in 7 = .ok (.if_icmp .gt 7, 3) := by decide +kernel
theorem dX11_in_10 : decode cX11_in 10 = .ok (.iconst 1, 1) := by decide +kernel
theorem dX11_in_11 : decode cX11_in 11 = .ok (.goto 4, 3) := by decide +kernel
theorem dX11_in_14 : decode cX11_in 14 = .ok (.iconst 0, 1) := by decide +kernel
theorem dX11_in_15 : decode cX11_in 15 = .ok (.ireturn, 1) := by decide +kernel
theorem dX11_within_0 : decode cX11_within 0 = .ok (.iload_n 0, 1) := by decide +kernel
theorem dX11_within_1 : decode cX11_within 1 = .ok (.iload_n 1, 1) := by decide +kernel
theorem dX11_within_2 : decode cX11_within 2 = .ok (.if_icmp .ge 7, 3) := by decide +kernel
theorem dX11_within_5 : decode cX11_within 5 = .ok (.iload_n 1, 1) := by decide +kernel
theorem dX11_within_6 : decode cX11_within 6 = .ok (.goto 13, 3) := by decide +kernel
theorem dX11_within_9 : decode cX11_within 9 = .ok (.iload_n 0, 1) := by decide +kernel
theorem dX11_within_10 : decode cX11_within 10 = .ok (.iload_n 2, 1) := by decide +kernel
theorem dX11_within_11 : decode cX11_within 11 = .ok (.if_icmp .le 7, 3) := by decide +kernel
theorem dX11_within_14 : decode cX11_within 14 = .ok (.iload_n 2, 1) := by decide +kernel
theorem dX11_within_15 : decode cX11_within 15 = .ok (.goto 4, 3) := by decide +kernel
theorem dX11_within_18 : decode cX11_within 18 = .ok (.iload_n 0, 1) := by decide +kernel
theorem dX11_within_19 : decode cX11_within 19 = .ok (.ireturn, 1) := by decide +kernel
theorem dX11_amount_0 : decode cX11_amount 0 = .ok (.iload_n 0, 1) := by decide +kernel
theorem dX11_amount_1 : decode cX11_amount 1 = .ok (.ifCond .ge 8, 3) := by decide +kernel
theorem dX11_amount_4 : decode cX11_amount 4 = .ok (.iload_n 0, 1) := by decide +kernel
theorem dX11_amount_5 : decode cX11_amount 5 = .ok (.ineg, 1) := by decide +kernel
theorem dX11_amount_6 : decode cX11_amount 6 = .ok (.goto 4, 3) := by decide +kernel
theorem dX11_amount_9 : decode cX11_amount 9 = .ok (.iload_n 0, 1) := by decide +kernel
theorem dX11_amount_10 : decode cX11_amount 10 = .ok (.ireturn, 1) := by decide +kernel
theorem dX11_feed_0 : decode cX11_feed 0 = .ok (.aload_n 0, 1) := by decide +kernel
theorem dX11_feed_1 : decode cX11_feed 1 = .ok (.iconst 0, 1) := by decide +kernel
theorem dX11_feed_2 : decode cX11_feed 2 = .ok (.putfield 83, 3) := by decide +kernel
theorem dX11_feed_5 : decode cX11_feed 5 = .ok (.aload_n 0, 1) := by decide +kernel
theorem dX11_feed_6 : decode cX11_feed 6 = .ok (.getfield 86, 3) := by decide +kernel
theorem dX11_feed_9 : decode cX11_feed 9 = .ok (.bipush 20, 2) := by decide +kernel
theorem dX11_feed_11 : decode cX11_feed 11 = .ok (.iadd, 1) := by decide +kernel
theorem dX11_feed_12 : decode cX11_feed 12 = .ok (.sipush 300, 3) := by decide +kernel
theorem dX11_feed_15 : decode cX11_feed 15 = .ok (.if_icmp .le 5, 3) := by decide +kernel
theorem dX11_feed_18 : decode cX11_feed 18 = .ok (.iconst (-1), 1) := by decide +kernel
theorem dX11_feed_19 : decode cX11_feed 19 = .ok (.ireturn, 1) := by decide +kernel
theorem dX11_feed_20 : decode cX11_feed 20 = .ok (.iconst 0, 1) := by decide +kernel
theorem dX11_feed_21 : decode cX11_feed 21 = .ok (.istore 6, 2) := by decide +kernel
theorem dX11_feed_23 : decode cX11_feed 23 = .ok (.iload 6, 2) := by decide +kernel
theorem dX11_feed_25 : decode cX11_feed 25 = .ok (.bipush 20, 2) := by decide +kernel
theorem dX11_feed_27 : decode cX11_feed 27 = .ok (.if_icmp .ge 93, 3) := by decide +kernel
theorem dX11_feed_30 : decode cX11_feed 30 = .ok (.iload 6, 2) := by decide +kernel
theorem dX11_feed_32 : decode cX11_feed 32 = .ok (.iconst 4, 1) := by decide +kernel
theorem dX11_feed_33 : decode cX11_feed 33 = .ok (.if_icmp .ge 7, 3) := by decide +kernel
theorem dX11_feed_36 : decode cX11_feed 36 = .ok (.iload_n 1, 1) := by decide +kernel
theorem dX11_feed_37 : decode cX11_feed 37 = .ok (.goto 39, 3) := by decide +kernel
theorem dX11_feed_40 : decode cX11_feed 40 = .ok (.iload 6, 2) := by decide +kernel
theorem dX11_feed_42 : decode cX11_feed 42 = .ok (.bipush 8, 2) := by decide +kernel
theorem dX11_feed_44 : decode cX11_feed 44 = .ok (.if_icmp .ge 7, 3) := by decide +kernel
theorem dX11_feed_47 : decode cX11_feed 47 = .ok (.iload_n 2, 1) := by decide +kernel
theorem dX11_feed_48 : decode cX11_feed 48 = .ok (.goto 28, 3) := by decide +kernel
theorem dX11_feed_51 : decode cX11_feed 51 = .ok (.iload 6, 2) := by decide +kernel
theorem dX11_feed_53 : decode cX11_feed 53 = .ok (.bipush 12, 2) := by decide +kernel
theorem dX11_feed_55 : decode cX11_feed 55 = .ok (.if_icmp .ge 7, 3) := by decide +kernel
theorem dX11_feed_58 : decode cX11_feed 58 = .ok (.iload_n 3, 1) := by decide +kernel
theorem dX11_feed_59 : decode cX11_feed 59 = .ok (.goto 17, 3) := by decide +kernel
theorem dX11_feed_62 : decode cX11_feed 62 = .ok (.iload 6, 2) := by decide +kernel
theorem dX11_feed_64 : decode cX11_feed 64 = .ok (.bipush 16, 2) := by decide +kernel
theorem dX11_feed_66 : decode cX11_feed 66 = .ok (.if_icmp .ge 8, 3) := by decide +kernel
theorem dX11_feed_69 : decode cX11_feed 69 = .ok (.iload 4, 2) := by decide +kernel
theorem dX11_feed_71 : decode cX11_feed 71 = .ok (.goto 5, 3) := by decide +kernel
theorem dX11_feed_74 : decode cX11_feed 74 = .ok (.iload 5, 2) := by decide +kernel
theorem dX11_feed_76 : decode cX11_feed 76 = .ok (.istore 7, 2) := by decide +kernel
theorem dX11_feed_78 : decode cX11_feed 78 = .ok (.aload_n 0, 1) := by decide +kernel
theorem dX11_feed_79 : decode cX11_feed 79 = .ok (.getfield 13, 3) := by decide +kernel
theorem dX11_feed_82 : decode cX11_feed 82 = .ok (.aload_n 0, 1) := by decide +kernel
theorem dX11_feed_83 : decode cX11_feed 83 = .ok (.getfield 86, 3) := by decide +kernel
theorem dX11_feed_86 : decode cX11_feed 86 = .ok (.iload 7, 2) := by decide +kernel
theorem dX11_feed_88 : decode cX11_feed 88 = .ok (.bipush 24, 2) := by decide +kernel
theorem dX11_feed_90 : decode cX11_feed 90 = .ok (.bipush 8, 2) := by decide +kernel
theorem dX11_feed_92 : decode cX11_feed 92 = .ok (.iload 6, 2) := by decide +kernel
theorem dX11_feed_94 : decode cX11_feed 94 = .ok (.iconst 4, 1) := by decide +kernel
theorem dX11_feed_95 : decode cX11_feed 95 = .ok (.irem, 1) := by decide +kernel
theorem dX11_feed_96 : decode cX11_feed 96 = .ok (.imul, 1) := by decide +kernel
theorem dX11_feed_97 : decode cX11_feed 97 = .ok (.isub, 1) := by decide +kernel
theorem dX11_feed_98 : decode cX11_feed 98 = .ok (.ishr, 1) := by decide +kernel
theorem dX11_feed_99 : decode cX11_feed 99 = .ok (.sipush 255, 3) := by decide +kernel
theorem dX11_feed_102 : decode cX11_feed 102 = .ok (.iand, 1) := by decide +kernel
theorem dX11_feed_103 : decode cX11_feed 103 = .ok (.iastore, 1) := by decide +kernel
theorem dX11_feed_104 : decode cX11_feed 104 = .ok (.aload_n 0, 1) := by decide +kernel
theorem dX11_feed_105 : decode cX11_feed 105 = .ok (.dup, 1) := by decide +kernel
theorem dX11_feed_106 : decode cX11_feed 106 = .ok (.getfield 86, 3) := by decide +kernel
theorem dX11_feed_109 : decode cX11_feed 109 = .ok (.iconst 1, 1) := by decide +kernel
theorem dX11_feed_110 : decode cX11_feed 110 = .ok (.iadd, 1) := by decide +kernel
theorem dX11_feed_111 : decode cX11_feed 111 = .ok (.putfield 86, 3) := by decide +kernel
theorem dX11_feed_114 : decode cX11_feed 114 = .ok (.iinc 6 1, 3) := by decide +kernel
theorem dX11_feed_117 : decode cX11_feed 117 = .ok (.goto (-94), 3) := by decide +kernel
theorem dX11_feed_120 : decode cX11_feed 120 = .ok (.aload_n 0, 1) := by decide +kernel
theorem dX11_feed_121 : decode cX11_feed 121 = .ok (.getfield 86, 3) := by decide +kernel
theorem dX11_feed_124 : decode cX11_feed 124 = .ok (.ireturn, 1) := by decide +kernel
theorem dX11_byteAt_0 : decode cX11_byteAt 0 = .ok (.iload_n 1, 1) := by decide +kernel
theorem dX11_byteAt_1 : decode cX11_byteAt 1 = .ok (.aload_n 0, 1) := by decide +kernel
theorem dX11_byteAt_2 : decode cX11_byteAt 2 = .ok (.getfield 89, 3) := by decide +kernel
theorem dX11_byteAt_5 : decode cX11_byteAt 5 = .ok (.if_icmp .lt 7, 3) := by decide +kernel
theorem dX11_byteAt_8 : decode cX11_byteAt 8 = .ok (.iconst (-1), 1) := by decide +kernel
theorem dX11_byteAt_9 : decode cX11_byteAt 9 = .ok (.goto 9, 3) := by decide +kernel
theorem dX11_byteAt_12 : decode cX11_byteAt 12 = .ok (.aload_n 0, 1) := by decide +kernel
theorem dX11_byteAt_13 : decode cX11_byteAt 13 = .ok (.getfield 13, 3) := by decide +kernel
theorem dX11_byteAt_16 : decode cX11_byteAt 16 = .ok (.iload_n 1, 1) := by decide +kernel
theorem dX11_byteAt_17 : decode cX11_byteAt 17 = .ok (.iaload, 1) := by decide +kernel
theorem dX11_byteAt_18 : decode cX11_byteAt 18 = .ok (.ireturn, 1) := by decide +kernel
theorem dX11_blanks_0 : decode cX11_blanks 0 = .ok (.aload_n 0, 1) := by decide +kernel
theorem dX11_blanks_1 : decode cX11_blanks 1 = .ok (.aload_n 0, 1) := by decide +kernel
theorem dX11_blanks_2 : decode cX11_blanks 2 = .ok (.getfield 92, 3) := by decide +kernel
theorem dX11_blanks_5 : decode cX11_blanks 5 = .ok (.invokevirtual 95, 3) := by decide +kernel
theorem dX11_blanks_8 : decode cX11_blanks 8 = .ok (.bipush 32, 2) := by decide +kernel
theorem dX11_blanks_10 : decode cX11_blanks 10 = .ok (.if_icmp .ne 16, 3) := by decide +kernel
theorem dX11_blanks_13 : decode cX11_blanks 13 = .ok (.aload_n 0, 1) := by decide +kernel
theorem dX11_blanks_14 : decode cX11_blanks 14 = .ok (.dup, 1) := by decide +kernel
theorem dX11_blanks_15 : decode cX11_blanks 15 = .ok (.getfield 92, 3) := by decide +kernel
theorem dX11_blanks_18 : decode cX11_blanks 18 = .ok (.iconst 1, 1) := by decide +kernel
theorem dX11_blanks_19 : decode cX11_blanks 19 = .ok (.iadd, 1) := by decide +kernel
theorem dX11_blanks_20 : decode cX11_blanks 20 = .ok (.putfield 92, 3) := by decide +kernel
theorem dX11_blanks_23 : decode cX11_blanks 23 = .ok (.goto (-23), 3) := by decide +kernel
theorem dX11_blanks_26 : decode cX11_blanks 26 = .ok (.return_, 1) := by decide +kernel
theorem dX11_wrong_0 : decode cX11_wrong 0 = .ok (.aload_n 0, 1) := by decide +kernel
theorem dX11_wrong_1 : decode cX11_wrong 1 = .ok (.getfield 99, 3) := by decide +kernel
theorem dX11_wrong_4 : decode cX11_wrong 4 = .ok (.ifCond .ne 13, 3) := by decide +kernel
theorem dX11_wrong_7 : decode cX11_wrong 7 = .ok (.aload_n 0, 1) := by decide +kernel
theorem dX11_wrong_8 : decode cX11_wrong 8 = .ok (.iload_n 1, 1) := by decide +kernel
theorem dX11_wrong_9 : decode cX11_wrong 9 = .ok (.putfield 99, 3) := by decide +kernel
theorem dX11_wrong_12 : decode cX11_wrong 12 = .ok (.aload_n 0, 1) := by decide +kernel
theorem dX11_wrong_13 : decode cX11_wrong 13 = .ok (.iload_n 2, 1) := by decide +kernel
theorem dX11_wrong_14 : decode cX11_wrong 14 = .ok (.putfield 102, 3) := by decide +kernel
theorem dX11_wrong_17 : decode cX11_wrong 17 = .ok (.return_, 1) := by decide +kernel
theorem dX11_tells_0 : decode cX11_tells 0 = .ok (.aload_n 0, 1) := by decide +kernel
theorem dX11_tells_1 : decode cX11_tells 1 = .ok (.getfield 99, 3) := by decide +kernel
theorem dX11_tells_4 : decode cX11_tells 4 = .ok (.ifCond .eq 4, 3) := by decide +kernel
theorem dX11_tells_7 : decode cX11_tells 7 = .ok (.return_, 1) := by decide +kernel
theorem dX11_tells_8 : decode cX11_tells 8 = .ok (.aload_n 0, 1) := by decide +kernel
theorem dX11_tells_9 : decode cX11_tells 9 = .ok (.getfield 17, 3) := by decide +kernel
theorem dX11_tells_12 : decode cX11_tells 12 = .ok (.aload_n 0, 1) := by decide +kernel
theorem dX11_tells_13 : decode cX11_tells 13 = .ok (.getfield 105, 3) := by decide +kernel
theorem dX11_tells_16 : decode cX11_tells 16 = .ok (.iload_n 1, 1) := by decide +kernel
theorem dX11_tells_17 : decode cX11_tells 17 = .ok (.iastore, 1) := by decide +kernel
theorem dX11_tells_18 : decode cX11_tells 18 = .ok (.aload_n 0, 1) := by decide +kernel
theorem dX11_tells_19 : decode cX11_tells 19 = .ok (.dup, 1) := by decide +kernel
theorem dX11_tells_20 : decode cX11_tells 20 = .ok (.getfield 105, 3) := by decide +kernel
theorem dX11_tells_23 : decode cX11_tells 23 = .ok (.iconst 1, 1) := by decide +kernel
theorem dX11_tells_24 : decode cX11_tells 24 = .ok (.iadd, 1) := by decide +kernel
theorem dX11_tells_25 : decode cX11_tells 25 = .ok (.putfield 105, 3) := by decide +kernel
theorem dX11_tells_28 : decode cX11_tells 28 = .ok (.return_, 1) := by decide +kernel
theorem dX11_isDigit_0 : decode cX11_isDigit 0 = .ok (.iload_n 0, 1) := by decide +kernel
theorem dX11_isDigit_1 : decode cX11_isDigit 1 = .ok (.bipush 48, 2) := by decide +kernel
theorem dX11_isDigit_3 : decode cX11_isDigit 3 = .ok (.if_icmp .lt 13, 3) := by decide +kernel
theorem dX11_isDigit_6 : decode cX11_isDigit 6 = .ok (.iload_n 0, 1) := by decide +kernel
theorem dX11_isDigit_7 : decode cX11_isDigit 7 = .ok (.bipush 57, 2) := by decide +kernel
theorem dX11_isDigit_9 : decode cX11_isDigit 9 = .ok (.if_icmp .gt 7, 3) := by decide +kernel
theorem dX11_isDigit_12 : decode cX11_isDigit 12 = .ok (.iconst 1, 1) := by decide +kernel
theorem dX11_isDigit_13 : decode cX11_isDigit 13 = .ok (.goto 4, 3) := by decide +kernel
theorem dX11_isDigit_16 : decode cX11_isDigit 16 = .ok (.iconst 0, 1) := by decide +kernel
theorem dX11_isDigit_17 : decode cX11_isDigit 17 = .ok (.ireturn, 1) := by decide +kernel
theorem dX11_numberHere_0 : decode cX11_numberHere 0 = .ok (.aload_n 0, 1) := by decide +kernel
theorem dX11_numberHere_1 : decode cX11_numberHere 1 = .ok (.getfield 92, 3) := by decide +kernel
theorem dX11_numberHere_4 : decode cX11_numberHere 4 = .ok (.istore_n 1, 1) := by decide +kernel
theorem dX11_numberHere_5 : decode cX11_numberHere 5 = .ok (.iconst 0, 1) := by decide +kernel
theorem dX11_numberHere_6 : decode cX11_numberHere 6 = .ok (.istore_n 2, 1) := by decide +kernel
theorem dX11_numberHere_7 : decode cX11_numberHere 7 = .ok (.aload_n 0, 1) := by decide +kernel
theorem dX11_numberHere_8 : decode cX11_numberHere 8 = .ok (.aload_n 0, 1) := by decide +kernel
theorem dX11_numberHere_9 : decode cX11_numberHere 9 = .ok (.getfield 92, 3) := by decide +kernel
theorem dX11_numberHere_12 : decode cX11_numberHere 12 = .ok (.invokevirtual 95, 3) := by decide +kernel
theorem dX11_numberHere_15 : decode cX11_numberHere 15 = .ok (.invokestatic 108, 3) := by decide +kernel
theorem dX11_numberHere_18 : decode cX11_numberHere 18 = .ok (.ifCond .eq 46, 3) := by decide +kernel
theorem dX11_numberHere_21 : decode cX11_numberHere 21 = .ok (.bipush 10, 2) := by decide +kernel
theorem dX11_numberHere_23 : decode cX11_numberHere 23 = .ok (.iload_n 2, 1) := by decide +kernel
theorem dX11_numberHere_24 : decode cX11_numberHere 24 = .ok (.imul, 1) := by decide +kernel
theorem dX11_numberHere_25 : decode cX11_numberHere 25 = .ok (.aload_n 0, 1) := by decide +kernel
theorem dX11_numberHere_26 : decode cX11_numberHere 26 = .ok (.aload_n 0, 1) := by decide +kernel
theorem dX11_numberHere_27 : decode cX11_numberHere 27 = .ok (.getfield 92, 3) := by decide +kernel
theorem dX11_numberHere_30 : decode cX11_numberHere 30 = .ok (.invokevirtual 95, 3) := by decide +kernel
theorem dX11_numberHere_33 : decode cX11_numberHere 33 = .ok (.iadd, 1) := by decide +kernel
theorem dX11_numberHere_34 : decode cX11_numberHere 34 = .ok (.bipush 48, 2) := by decide +kernel
theorem dX11_numberHere_36 : decode cX11_numberHere 36 = .ok (.isub, 1) := by decide +kernel
theorem dX11_numberHere_37 : decode cX11_numberHere 37 = .ok (.istore_n 2, 1) := by decide +kernel
theorem dX11_numberHere_38 : decode cX11_numberHere 38 = .ok (.iload_n 2, 1) := by decide +kernel
theorem dX11_numberHere_39 : decode cX11_numberHere 39 = .ok (.ldc 112, 2) := by decide +kernel
theorem dX11_numberHere_41 : decode cX11_numberHere 41 = .ok (.if_icmp .le 8, 3) := by decide +kernel
theorem dX11_numberHere_44 : decode cX11_numberHere 44 = .ok (.ldc 112, 2) := by decide +kernel
theorem dX11_numberHere_46 : decode cX11_numberHere 46 = .ok (.goto 4, 3) := by decide +kernel
theorem dX11_numberHere_49 : decode cX11_numberHere 49 = .ok (.iload_n 2, 1) := by decide +kernel
theorem dX11_numberHere_50 : decode cX11_numberHere 50 = .ok (.istore_n 2, 1) := by decide +kernel
theorem dX11_numberHere_51 : decode cX11_numberHere 51 = .ok (.aload_n 0, 1) := by decide +kernel
theorem dX11_numberHere_52 : decode cX11_numberHere 52 = .ok (.dup, 1) := by decide +kernel
theorem dX11_numberHere_53 : decode cX11_numberHere 53 = .ok (.getfield 92, 3) := by decide +kernel
theorem dX11_numberHere_56 : decode cX11_numberHere 56 = .ok (.iconst 1, 1) := by decide +kernel
theorem dX11_numberHere_57 : decode cX11_numberHere 57 = .ok (.iadd, 1) := by decide +kernel
theorem dX11_numberHere_58 : decode cX11_numberHere 58 = .ok (.putfield 92, 3) := by decide +kernel
theorem dX11_numberHere_61 : decode cX11_numberHere 61 = .ok (.goto (-54), 3) := by decide +kernel
theorem dX11_numberHere_64 : decode cX11_numberHere 64 = .ok (.iload_n 2, 1) := by decide +kernel
theorem dX11_numberHere_65 : decode cX11_numberHere 65 = .ok (.sipush 9999, 3) := by decide +kernel
theorem dX11_numberHere_68 : decode cX11_numberHere 68 = .ok (.if_icmp .le 9, 3) := by decide +kernel
theorem dX11_numberHere_71 : decode cX11_numberHere 71 = .ok (.aload_n 0, 1) := by decide +kernel
theorem dX11_numberHere_72 : decode cX11_numberHere 72 = .ok (.iconst 2, 1) := by decide +kernel
theorem dX11_numberHere_73 : decode cX11_numberHere 73 = .ok (.iload_n 1, 1) := by decide +kernel
theorem dX11_numberHere_74 : decode cX11_numberHere 74 = .ok (.invokevirtual 113, 3) := by decide +kernel
theorem dX11_numberHere_77 : decode cX11_numberHere 77 = .ok (.aload_n 0, 1) := by decide +kernel
theorem dX11_numberHere_78 : decode cX11_numberHere 78 = .ok (.iload_n 2, 1) := by decide +kernel
theorem dX11_numberHere_79 : decode cX11_numberHere 79 = .ok (.invokevirtual 117, 3) := by decide +kernel
theorem dX11_numberHere_82 : decode cX11_numberHere 82 = .ok (.return_, 1) := by decide +kernel
theorem dX11_wordHere_0 : decode cX11_wordHere 0 = .ok (.aload_n 0, 1) := by decide +kernel
theorem dX11_wordHere_1 : decode cX11_wordHere 1 = .ok (.invokevirtual 121, 3) := by decide +kernel
theorem dX11_wordHere_4 : decode cX11_wordHere 4 = .ok (.iconst 0, 1) := by decide +kernel
theorem dX11_wordHere_5 : decode cX11_wordHere 5 = .ok (.istore_n 1, 1) := by decide +kernel
theorem dX11_wordHere_6 : decode cX11_wordHere 6 = .ok (.iconst 0, 1) := by decide +kernel
theorem dX11_wordHere_7 : decode cX11_wordHere 7 = .ok (.istore_n 2, 1) := by decide +kernel
theorem dX11_wordHere_8 : decode cX11_wordHere 8 = .ok (.aload_n 0, 1) := by decide +kernel
theorem dX11_wordHere_9 : decode cX11_wordHere 9 = .ok (.aload_n 0, 1) := by decide +kernel
theorem dX11_wordHere_10 : decode cX11_wordHere 10 = .ok (.getfield 92, 3) := by decide +kernel
theorem dX11_wordHere_13 : decode cX11_wordHere 13 = .ok (.iload_n 2, 1) := by decide +kernel
theorem dX11_wordHere_14 : decode cX11_wordHere 14 = .ok (.iadd, 1) := by decide +kernel
theorem dX11_wordHere_15 : decode cX11_wordHere 15 = .ok (.invokevirtual 95, 3) := by decide +kernel
theorem dX11_wordHere_18 : decode cX11_wordHere 18 = .ok (.bipush 97, 2) := by decide +kernel
theorem dX11_wordHere_20 : decode cX11_wordHere 20 = .ok (.if_icmp .lt 55, 3) := by decide +kernel
theorem dX11_wordHere_23 : decode cX11_wordHere 23 = .ok (.aload_n 0, 1) := by decide +kernel
theorem dX11_wordHere_24 : decode cX11_wordHere 24 = .ok (.aload_n 0, 1) := by decide +kernel
theorem dX11_wordHere_25 : decode cX11_wordHere 25 = .ok (.getfield 92, 3) := by decide +kernel
theorem dX11_wordHere_28 : decode cX11_wordHere 28 = .ok (.iload_n 2, 1) := by decide +kernel
theorem dX11_wordHere_29 : decode cX11_wordHere 29 = .ok (.iadd, 1) := by decide +kernel
theorem dX11_wordHere_30 : decode cX11_wordHere 30 = .ok (.invokevirtual 95, 3) := by decide +kernel
theorem dX11_wordHere_33 : decode cX11_wordHere 33 = .ok (.bipush 122, 2) := by decide +kernel
theorem dX11_wordHere_35 : decode cX11_wordHere 35 = .ok (.if_icmp .gt 40, 3) := by decide +kernel
theorem dX11_wordHere_38 : decode cX11_wordHere 38 = .ok (.iload_n 2, 1) := by decide +kernel
theorem dX11_wordHere_39 : decode cX11_wordHere 39 = .ok (.bipush 6, 2) := by decide +kernel
theorem dX11_wordHere_41 : decode cX11_wordHere 41 = .ok (.if_icmp .ge 26, 3) := by decide +kernel
theorem dX11_wordHere_44 : decode cX11_wordHere 44 = .ok (.bipush 27, 2) := by decide +kernel
theorem dX11_wordHere_46 : decode cX11_wordHere 46 = .ok (.iload_n 1, 1) := by decide +kernel
theorem dX11_wordHere_47 : decode cX11_wordHere 47 = .ok (.imul, 1) := by decide +kernel
theorem dX11_wordHere_48 : decode cX11_wordHere 48 = .ok (.aload_n 0, 1) := by decide +kernel
theorem dX11_wordHere_49 : decode cX11_wordHere 49 = .ok (.aload_n 0, 1) := by decide +kernel
theorem dX11_wordHere_50 : decode cX11_wordHere 50 = .ok (.getfield 92, 3) := by decide +kernel
theorem dX11_wordHere_53 : decode cX11_wordHere 53 = .ok (.iload_n 2, 1) := by decide +kernel
theorem dX11_wordHere_54 : decode cX11_wordHere 54 = .ok (.iadd, 1) := by decide +kernel
theorem dX11_wordHere_55 : decode cX11_wordHere 55 = .ok (.invokevirtual 95, 3) := by decide +kernel
theorem dX11_wordHere_58 : decode cX11_wordHere 58 = .ok (.iadd, 1) := by decide +kernel
theorem dX11_wordHere_59 : decode cX11_wordHere 59 = .ok (.bipush 97, 2) := by decide +kernel
theorem dX11_wordHere_61 : decode cX11_wordHere 61 = .ok (.isub, 1) := by decide +kernel
theorem dX11_wordHere_62 : decode cX11_wordHere 62 = .ok (.iconst 1, 1) := by decide +kernel
theorem dX11_wordHere_63 : decode cX11_wordHere 63 = .ok (.iadd, 1) := by decide +kernel
theorem dX11_wordHere_64 : decode cX11_wordHere 64 = .ok (.goto 4, 3) := by decide +kernel
theorem dX11_wordHere_67 : decode cX11_wordHere 67 = .ok (.iload_n 1, 1) := by decide +kernel
theorem dX11_wordHere_68 : decode cX11_wordHere 68 = .ok (.istore_n 1, 1) := by decide +kernel
theorem dX11_wordHere_69 : decode cX11_wordHere 69 = .ok (.iinc 2 1, 3) := by decide +kernel
theorem dX11_wordHere_72 : decode cX11_wordHere 72 = .ok (.goto (-64), 3) := by decide +kernel
theorem dX11_wordHere_75 : decode cX11_wordHere 75 = .ok (.iload_n 2, 1) := by decide +kernel
theorem dX11_wordHere_76 : decode cX11_wordHere 76 = .ok (.bipush 6, 2) := by decide +kernel
theorem dX11_wordHere_78 : decode cX11_wordHere 78 = .ok (.if_icmp .le 7, 3) := by decide +kernel
theorem dX11_wordHere_81 : decode cX11_wordHere 81 = .ok (.iconst (-1), 1) := by decide +kernel
theorem dX11_wordHere_82 : decode cX11_wordHere 82 = .ok (.goto 4, 3) := by decide +kernel
theorem dX11_wordHere_85 : decode cX11_wordHere 85 = .ok (.iload_n 1, 1) := by decide +kernel
theorem dX11_wordHere_86 : decode cX11_wordHere 86 = .ok (.ireturn, 1) := by decide +kernel
theorem dX11_word_0 : decode cX11_word 0 = .ok (.bipush 27, 2) := by decide +kernel
theorem dX11_word_2 : decode cX11_word 2 = .ok (.iload_n 0, 1) := by decide +kernel
theorem dX11_word_3 : decode cX11_word 3 = .ok (.imul, 1) := by decide +kernel
theorem dX11_word_4 : decode cX11_word 4 = .ok (.iload_n 1, 1) := by decide +kernel
theorem dX11_word_5 : decode cX11_word 5 = .ok (.iadd, 1) := by decide +kernel
theorem dX11_word_6 : decode cX11_word 6 = .ok (.istore 6, 2) := by decide +kernel
theorem dX11_word_8 : decode cX11_word 8 = .ok (.iload_n 2, 1) := by decide +kernel
theorem dX11_word_9 : decode cX11_word 9 = .ok (.ifCond .ne 8, 3) := by decide +kernel
theorem dX11_word_12 : decode cX11_word 12 = .ok (.iload 6, 2) := by decide +kernel
theorem dX11_word_14 : decode cX11_word 14 = .ok (.goto 10, 3) := by decide +kernel
theorem dX11_word_17 : decode cX11_word 17 = .ok (.bipush 27, 2) := by decide +kernel
theorem dX11_word_19 : decode cX11_word 19 = .ok (.iload 6, 2) := by decide +kernel
theorem dX11_word_21 : decode cX11_word 21 = .ok (.imul, 1) := by decide +kernel
theorem dX11_word_22 : decode cX11_word 22 = .ok (.iload_n 2, 1) := by decide +kernel
theorem dX11_word_23 : decode cX11_word 23 = .ok (.iadd, 1) := by decide +kernel
theorem dX11_word_24 : decode cX11_word 24 = .ok (.istore 6, 2) := by decide +kernel
theorem dX11_word_26 : decode cX11_word 26 = .ok (.iload_n 3, 1) := by decide +kernel
theorem dX11_word_27 : decode cX11_word 27 = .ok (.ifCond .ne 8, 3) := by decide +kernel
theorem dX11_word_30 : decode cX11_word 30 = .ok (.iload 6, 2) := by decide +kernel
theorem dX11_word_32 : decode cX11_word 32 = .ok (.goto 10, 3) := by decide +kernel
theorem dX11_word_35 : decode cX11_word 35 = .ok (.bipush 27, 2) := by decide +kernel
theorem dX11_word_37 : decode cX11_word 37 = .ok (.iload 6, 2) := by decide +kernel
theorem dX11_word_39 : decode cX11_word 39 = .ok (.imul, 1) := by decide +kernel
theorem dX11_word_40 : decode cX11_word 40 = .ok (.iload_n 3, 1) := by decide +kernel
theorem dX11_word_41 : decode cX11_word 41 = .ok (.iadd, 1) := by decide +kernel
theorem dX11_word_42 : decode cX11_word 42 = .ok (.istore 6, 2) := by decide +kernel
theorem dX11_word_44 : decode cX11_word 44 = .ok (.iload 4, 2) := by decide +kernel
theorem dX11_word_46 : decode cX11_word 46 = .ok (.ifCond .ne 8, 3) := by decide +kernel
theorem dX11_word_49 : decode cX11_word 49 = .ok (.iload 6, 2) := by decide +kernel
theorem dX11_word_51 : decode cX11_word 51 = .ok (.goto 11, 3) := by decide +kernel
theorem dX11_word_54 : decode cX11_word 54 = .ok (.bipush 27, 2) := by decide +kernel
theorem dX11_word_56 : decode cX11_word 56 = .ok (.iload 6, 2) := by decide +kernel
theorem dX11_word_58 : decode cX11_word 58 = .ok (.imul, 1) := by decide +kernel
theorem dX11_word_59 : decode cX11_word 59 = .ok (.iload 4, 2) := by decide +kernel
theorem dX11_word_61 : decode cX11_word 61 = .ok (.iadd, 1) := by decide +kernel
theorem dX11_word_62 : decode cX11_word 62 = .ok (.istore 6, 2) := by decide +kernel
theorem dX11_word_64 : decode cX11_word 64 = .ok (.iload 5, 2) := by decide +kernel
theorem dX11_word_66 : decode cX11_word 66 = .ok (.ifCond .ne 8, 3) := by decide +kernel
theorem dX11_word_69 : decode cX11_word 69 = .ok (.iload 6, 2) := by decide +kernel
theorem dX11_word_71 : decode cX11_word 71 = .ok (.goto 11, 3) := by decide +kernel
theorem dX11_word_74 : decode cX11_word 74 = .ok (.bipush 27, 2) := by decide +kernel
theorem dX11_word_76 : decode cX11_word 76 = .ok (.iload 6, 2) := by decide +kernel
theorem dX11_word_78 : decode cX11_word 78 = .ok (.imul, 1) := by decide +kernel
theorem dX11_word_79 : decode cX11_word 79 = .ok (.iload 5, 2) := by decide +kernel
theorem dX11_word_81 : decode cX11_word 81 = .ok (.iadd, 1) := by decide +kernel
theorem dX11_word_82 : decode cX11_word 82 = .ok (.ireturn, 1) := by decide +kernel
theorem dX11_isWord_0 : decode cX11_isWord 0 = .ok (.aload_n 0, 1) := by decide +kernel
theorem dX11_isWord_1 : decode cX11_isWord 1 = .ok (.invokevirtual 124, 3) := by decide +kernel
theorem dX11_isWord_4 : decode cX11_isWord 4 = .ok (.iload_n 1, 1) := by decide +kernel
theorem dX11_isWord_5 : decode cX11_isWord 5 = .ok (.iload_n 2, 1) := by decide +kernel
theorem dX11_isWord_6 : decode cX11_isWord 6 = .ok (.iload_n 3, 1) := by decide +kernel
theorem dX11_isWord_7 : decode cX11_isWord 7 = .ok (.iload 4, 2) := by decide +kernel
theorem dX11_isWord_9 : decode cX11_isWord 9 = .ok (.iload 5, 2) := by decide +kernel
theorem dX11_isWord_11 : decode cX11_isWord 11 = .ok (.iload 6, 2) := by decide +kernel
theorem dX11_isWord_13 : decode cX11_isWord 13 = .ok (.invokestatic 128, 3) := by decide +kernel
theorem dX11_isWord_16 : decode cX11_isWord 16 = .ok (.if_icmp .ne 7, 3) := by decide +kernel
theorem dX11_isWord_19 : decode cX11_isWord 19 = .ok (.iconst 1, 1) := by decide +kernel
theorem dX11_isWord_20 : decode cX11_isWord 20 = .ok (.goto 4, 3) := by decide +kernel
theorem dX11_isWord_23 : decode cX11_isWord 23 = .ok (.iconst 0, 1) := by decide +kernel
theorem dX11_isWord_24 : decode cX11_isWord 24 = .ok (.ireturn, 1) := by decide +kernel
theorem dX11_skipWord_0 : decode cX11_skipWord 0 = .ok (.aload_n 0, 1) := by decide +kernel
theorem dX11_skipWord_1 : decode cX11_skipWord 1 = .ok (.aload_n 0, 1) := by decide +kernel
theorem dX11_skipWord_2 : decode cX11_skipWord 2 = .ok (.getfield 92, 3) := by decide +kernel
theorem dX11_skipWord_5 : decode cX11_skipWord 5 = .ok (.invokevirtual 95, 3) := by decide +kernel
theorem dX11_skipWord_8 : decode cX11_skipWord 8 = .ok (.bipush 97, 2) := by decide +kernel
theorem dX11_skipWord_10 : decode cX11_skipWord 10 = .ok (.if_icmp .lt 29, 3) := by decide +kernel
theorem dX11_skipWord_13 : decode cX11_skipWord 13 = .ok (.aload_n 0, 1) := by decide +kernel
theorem dX11_skipWord_14 : decode cX11_skipWord 14 = .ok (.aload_n 0, 1) := by decide +kernel
theorem dX11_skipWord_15 : decode cX11_skipWord 15 = .ok (.getfield 92, 3) := by decide +kernel
theorem dX11_skipWord_18 : decode cX11_skipWord 18 = .ok (.invokevirtual 95, 3) := by decide +kernel
theorem dX11_skipWord_21 : decode cX11_skipWord 21 = .ok (.bipush 122, 2) := by decide +kernel
theorem dX11_skipWord_23 : decode cX11_skipWord 23 = .ok (.if_icmp .gt 16, 3) := by decide +kernel
theorem dX11_skipWord_26 : decode cX11_skipWord 26 = .ok (.aload_n 0, 1) := by decide +kernel
theorem dX11_skipWord_27 : decode cX11_skipWord 27 = .ok (.dup, 1) := by decide +kernel
theorem dX11_skipWord_28 : decode cX11_skipWord 28 = .ok (.getfield 92, 3) := by decide +kernel
theorem dX11_skipWord_31 : decode cX11_skipWord 31 = .ok (.iconst 1, 1) := by decide +kernel
theorem dX11_skipWord_32 : decode cX11_skipWord 32 = .ok (.iadd, 1) := by decide +kernel
theorem dX11_skipWord_33 : decode cX11_skipWord 33 = .ok (.putfield 92, 3) := by decide +kernel
theorem dX11_skipWord_36 : decode cX11_skipWord 36 = .ok (.goto (-36), 3) := by decide +kernel
theorem dX11_skipWord_39 : decode cX11_skipWord 39 = .ok (.return_, 1) := by decide +kernel
theorem dX11_sign_0 : decode cX11_sign 0 = .ok (.aload_n 0, 1) := by decide +kernel
theorem dX11_sign_1 : decode cX11_sign 1 = .ok (.getfield 99, 3) := by decide +kernel
theorem dX11_sign_4 : decode cX11_sign 4 = .ok (.ifCond .eq 4, 3) := by decide +kernel
theorem dX11_sign_7 : decode cX11_sign 7 = .ok (.return_, 1) := by decide +kernel
theorem dX11_sign_8 : decode cX11_sign 8 = .ok (.aload_n 0, 1) := by decide +kernel
theorem dX11_sign_9 : decode cX11_sign 9 = .ok (.invokevirtual 121, 3) := by decide +kernel
theorem dX11_sign_12 : decode cX11_sign 12 = .ok (.aload_n 0, 1) := by decide +kernel
theorem dX11_sign_13 : decode cX11_sign 13 = .ok (.aload_n 0, 1) := by decide +kernel
theorem dX11_sign_14 : decode cX11_sign 14 = .ok (.getfield 92, 3) := by decide +kernel
theorem dX11_sign_17 : decode cX11_sign 17 = .ok (.invokevirtual 95, 3) := by decide +kernel
theorem dX11_sign_20 : decode cX11_sign 20 = .ok (.iload_n 1, 1) := by decide +kernel
theorem dX11_sign_21 : decode cX11_sign 21 = .ok (.if_icmp .ne 16, 3) := by decide +kernel
theorem dX11_sign_24 : decode cX11_sign 24 = .ok (.aload_n 0, 1) := by decide +kernel
theorem dX11_sign_25 : decode cX11_sign 25 = .ok (.dup, 1) := by decide +kernel
theorem dX11_sign_26 : decode cX11_sign 26 = .ok (.getfield 92, 3) := by decide +kernel
theorem dX11_sign_29 : decode cX11_sign 29 = .ok (.iconst 1, 1) := by decide +kernel
theorem dX11_sign_30 : decode cX11_sign 30 = .ok (.iadd, 1) := by decide +kernel
theorem dX11_sign_31 : decode cX11_sign 31 = .ok (.putfield 92, 3) := by decide +kernel
theorem dX11_sign_34 : decode cX11_sign 34 = .ok (.goto 12, 3) := by decide +kernel
theorem dX11_sign_37 : decode cX11_sign 37 = .ok (.aload_n 0, 1) := by decide +kernel
theorem dX11_sign_38 : decode cX11_sign 38 = .ok (.iconst 1, 1) := by decide +kernel
theorem dX11_sign_39 : decode cX11_sign 39 = .ok (.aload_n 0, 1) := by decide +kernel
theorem dX11_sign_40 : decode cX11_sign 40 = .ok (.getfield 92, 3) := by decide +kernel
theorem dX11_sign_43 : decode cX11_sign 43 = .ok (.invokevirtual 113, 3) := by decide +kernel
theorem dX11_sign_46 : decode cX11_sign 46 = .ok (.return_, 1) := by decide +kernel
theorem dX11_opens_0 : decode cX11_opens 0 = .ok (.aload_n 0, 1) := by decide +kernel
theorem dX11_opens_1 : decode cX11_opens 1 = .ok (.getfield 132, 3) := by decide +kernel
theorem dX11_opens_4 : decode cX11_opens 4 = .ok (.bipush 6, 2) := by decide +kernel
theorem dX11_opens_6 : decode cX11_opens 6 = .ok (.if_icmp .ne 12, 3) := by decide +kernel
theorem dX11_opens_9 : decode cX11_opens 9 = .ok (.aload_n 0, 1) := by decide +kernel
theorem dX11_opens_10 : decode cX11_opens 10 = .ok (.iconst 3, 1) := by decide +kernel
theorem dX11_opens_11 : decode cX11_opens 11 = .ok (.aload_n 0, 1) := by decide +kernel
theorem dX11_opens_12 : decode cX11_opens 12 = .ok (.getfield 92, 3) := by decide +kernel
theorem dX11_opens_15 : decode cX11_opens 15 = .ok (.invokevirtual 113, 3) := by decide +kernel
theorem dX11_opens_18 : decode cX11_opens 18 = .ok (.aload_n 0, 1) := by decide +kernel
theorem dX11_opens_19 : decode cX11_opens 19 = .ok (.dup, 1) := by decide +kernel
theorem dX11_opens_20 : decode cX11_opens 20 = .ok (.getfield 132, 3) := by decide +kernel
theorem dX11_opens_23 : decode cX11_opens 23 = .ok (.iconst 1, 1) := by decide +kernel
theorem dX11_opens_24 : decode cX11_opens 24 = .ok (.iadd, 1) := by decide +kernel
theorem dX11_opens_25 : decode cX11_opens 25 = .ok (.putfield 132, 3) := by decide +kernel
theorem dX11_opens_28 : decode cX11_opens 28 = .ok (.aload_n 0, 1) := by decide +kernel
theorem dX11_opens_29 : decode cX11_opens 29 = .ok (.dup, 1) := by decide +kernel
theorem dX11_opens_30 : decode cX11_opens 30 = .ok (.getfield 92, 3) := by decide +kernel
theorem dX11_opens_33 : decode cX11_opens 33 = .ok (.iload_n 1, 1) := by decide +kernel
theorem dX11_opens_34 : decode cX11_opens 34 = .ok (.iadd, 1) := by decide +kernel
theorem dX11_opens_35 : decode cX11_opens 35 = .ok (.putfield 92, 3) := by decide +kernel
theorem dX11_opens_38 : decode cX11_opens 38 = .ok (.return_, 1) := by decide +kernel
theorem dX11_nameHere_0 : decode cX11_nameHere 0 = .ok (.aload_n 0, 1) := by decide +kernel
theorem dX11_nameHere_1 : decode cX11_nameHere 1 = .ok (.bipush 23, 2) := by decide +kernel
theorem dX11_nameHere_3 : decode cX11_nameHere 3 = .ok (.bipush 9, 2) := by decide +kernel
theorem dX11_nameHere_5 : decode cX11_nameHere 5 = .ok (.bipush 14, 2) := by decide +kernel
theorem dX11_nameHere_7 : decode cX11_nameHere 7 = .ok (.iconst 4, 1) := by decide +kernel
theorem dX11_nameHere_8 : decode cX11_nameHere 8 = .ok (.iconst 0, 1) := by decide +kernel
theorem dX11_nameHere_9 : decode cX11_nameHere 9 = .ok (.iconst 0, 1) := by decide +kernel
theorem dX11_nameHere_10 : decode cX11_nameHere 10 = .ok (.invokevirtual 135, 3) := by decide +kernel
theorem dX11_nameHere_13 : decode cX11_nameHere 13 = .ok (.ifCond .eq 5, 3) := by decide +kernel
theorem dX11_nameHere_16 : decode cX11_nameHere 16 = .ok (.iconst 0, 1) := by decide +kernel
theorem dX11_nameHere_17 : decode cX11_nameHere 17 = .ok (.ireturn, 1) := by decide +kernel
theorem dX11_nameHere_18 : decode cX11_nameHere 18 = .ok (.aload_n 0, 1) := by decide +kernel
theorem dX11_nameHere_19 : decode cX11_nameHere 19 = .ok (.bipush 20, 2) := by decide +kernel
theorem dX11_nameHere_21 : decode cX11_nameHere 21 = .ok (.bipush 9, 2) := by decide +kernel
theorem dX11_nameHere_23 : decode cX11_nameHere 23 = .ok (.iconst 3, 1) := by decide +kernel
theorem dX11_nameHere_24 : decode cX11_nameHere 24 = .ok (.bipush 11, 2) := by decide +kernel
theorem dX11_nameHere_26 : decode cX11_nameHere 26 = .ok (.iconst 0, 1) := by decide +kernel
theorem dX11_nameHere_27 : decode cX11_nameHere 27 = .ok (.iconst 0, 1) := by decide +kernel
theorem dX11_nameHere_28 : decode cX11_nameHere 28 = .ok (.invokevirtual 135, 3) := by decide +kernel
theorem dX11_nameHere_31 : decode cX11_nameHere 31 = .ok (.ifCond .eq 5, 3) := by decide +kernel
theorem dX11_nameHere_34 : decode cX11_nameHere 34 = .ok (.iconst 1, 1) := by decide +kernel
theorem dX11_nameHere_35 : decode cX11_nameHere 35 = .ok (.ireturn, 1) := by decide +kernel
theorem dX11_nameHere_36 : decode cX11_nameHere 36 = .ok (.aload_n 0, 1) := by decide +kernel
theorem dX11_nameHere_37 : decode cX11_nameHere 37 = .ok (.bipush 8, 2) := by decide +kernel
theorem dX11_nameHere_39 : decode cX11_nameHere 39 = .ok (.iconst 5, 1) := by decide +kernel
theorem dX11_nameHere_40 : decode cX11_nameHere 40 = .ok (.bipush 9, 2) := by decide +kernel
theorem dX11_nameHere_42 : decode cX11_nameHere 42 = .ok (.bipush 7, 2) := by decide +kernel
theorem dX11_nameHere_44 : decode cX11_nameHere 44 = .ok (.bipush 8, 2) := by decide +kernel
theorem dX11_nameHere_46 : decode cX11_nameHere 46 = .ok (.bipush 20, 2) := by decide +kernel
theorem dX11_nameHere_48 : decode cX11_nameHere 48 = .ok (.invokevirtual 135, 3) := by decide +kernel
theorem dX11_nameHere_51 : decode cX11_nameHere 51 = .ok (.ifCond .eq 5, 3) := by decide +kernel
theorem dX11_nameHere_54 : decode cX11_nameHere 54 = .ok (.iconst 2, 1) := by decide +kernel
theorem dX11_nameHere_55 : decode cX11_nameHere 55 = .ok (.ireturn, 1) := by decide +kernel
theorem dX11_nameHere_56 : decode cX11_nameHere 56 = .ok (.aload_n 0, 1) := by decide +kernel
theorem dX11_nameHere_57 : decode cX11_nameHere 57 = .ok (.bipush 20, 2) := by decide +kernel
theorem dX11_nameHere_59 : decode cX11_nameHere 59 = .ok (.bipush 21, 2) := by decide +kernel
theorem dX11_nameHere_61 : decode cX11_nameHere 61 = .ok (.bipush 18, 2) := by decide +kernel
theorem dX11_nameHere_63 : decode cX11_nameHere 63 = .ok (.bipush 14, 2) := by decide +kernel
theorem dX11_nameHere_65 : decode cX11_nameHere 65 = .ok (.iconst 0, 1) := by decide +kernel
theorem dX11_nameHere_66 : decode cX11_nameHere 66 = .ok (.iconst 0, 1) := by decide +kernel
theorem dX11_nameHere_67 : decode cX11_nameHere 67 = .ok (.invokevirtual 135, 3) := by decide +kernel
theorem dX11_nameHere_70 : decode cX11_nameHere 70 = .ok (.ifCond .eq 5, 3) := by decide +kernel
theorem dX11_nameHere_73 : decode cX11_nameHere 73 = .ok (.iconst 3, 1) := by decide +kernel
theorem dX11_nameHere_74 : decode cX11_nameHere 74 = .ok (.ireturn, 1) := by decide +kernel
theorem dX11_nameHere_75 : decode cX11_nameHere 75 = .ok (.aload_n 0, 1) := by decide +kernel
theorem dX11_nameHere_76 : decode cX11_nameHere 76 = .ok (.bipush 21, 2) := by decide +kernel
theorem dX11_nameHere_78 : decode cX11_nameHere 78 = .ok (.bipush 16, 2) := by decide +kernel
theorem dX11_nameHere_80 : decode cX11_nameHere 80 = .ok (.iconst 0, 1) := by decide +kernel
theorem dX11_nameHere_81 : decode cX11_nameHere 81 = .ok (.iconst 0, 1) := by decide +kernel
theorem dX11_nameHere_82 : decode cX11_nameHere 82 = .ok (.iconst 0, 1) := by decide +kernel
theorem dX11_nameHere_83 : decode cX11_nameHere 83 = .ok (.iconst 0, 1) := by decide +kernel
theorem dX11_nameHere_84 : decode cX11_nameHere 84 = .ok (.invokevirtual 135, 3) := by decide +kernel
theorem dX11_nameHere_87 : decode cX11_nameHere 87 = .ok (.ifCond .eq 5, 3) := by decide +kernel
theorem dX11_nameHere_90 : decode cX11_nameHere 90 = .ok (.iconst 4, 1) := by decide +kernel
theorem dX11_nameHere_91 : decode cX11_nameHere 91 = .ok (.ireturn, 1) := by decide +kernel
theorem dX11_nameHere_92 : decode cX11_nameHere 92 = .ok (.aload_n 0, 1) := by decide +kernel
theorem dX11_nameHere_93 : decode cX11_nameHere 93 = .ok (.bipush 19, 2) := by decide +kernel
theorem dX11_nameHere_95 : decode cX11_nameHere 95 = .ok (.bipush 16, 2) := by decide +kernel
theorem dX11_nameHere_97 : decode cX11_nameHere 97 = .ok (.bipush 9, 2) := by decide +kernel
theorem dX11_nameHere_99 : decode cX11_nameHere 99 = .ok (.bipush 14, 2) := by decide +kernel
theorem dX11_nameHere_101 : decode cX11_nameHere 101 = .ok (.iconst 0, 1) := by decide +kernel
theorem dX11_nameHere_102 : decode cX11_nameHere 102 = .ok (.iconst 0, 1) := by decide +kernel
theorem dX11_nameHere_103 : decode cX11_nameHere 103 = .ok (.invokevirtual 135, 3) := by decide +kernel
theorem dX11_nameHere_106 : decode cX11_nameHere 106 = .ok (.ifCond .eq 5, 3) := by decide +kernel
theorem dX11_nameHere_109 : decode cX11_nameHere 109 = .ok (.iconst 5, 1) := by decide +kernel
theorem dX11_nameHere_110 : decode cX11_nameHere 110 = .ok (.ireturn, 1) := by decide +kernel
theorem dX11_nameHere_111 : decode cX11_nameHere 111 = .ok (.aload_n 0, 1) := by decide +kernel
theorem dX11_nameHere_112 : decode cX11_nameHere 112 = .ok (.bipush 19, 2) := by decide +kernel
theorem dX11_nameHere_114 : decode cX11_nameHere 114 = .ok (.bipush 9, 2) := by decide +kernel
theorem dX11_nameHere_116 : decode cX11_nameHere 116 = .ok (.iconst 4, 1) := by decide +kernel
theorem dX11_nameHere_117 : decode cX11_nameHere 117 = .ok (.iconst 5, 1) := by decide +kernel
theorem dX11_nameHere_118 : decode cX11_nameHere 118 = .ok (.iconst 0, 1) := by decide +kernel
theorem dX11_nameHere_119 : decode cX11_nameHere 119 = .ok (.iconst 0, 1) := by decide +kernel
theorem dX11_nameHere_120 : decode cX11_nameHere 120 = .ok (.invokevirtual 135, 3) := by decide +kernel
theorem dX11_nameHere_123 : decode cX11_nameHere 123 = .ok (.ifCond .eq 6, 3) := by decide +kernel
theorem dX11_nameHere_126 : decode cX11_nameHere 126 = .ok (.bipush 6, 2) := by decide +kernel
theorem dX11_nameHere_128 : decode cX11_nameHere 128 = .ok (.ireturn, 1) := by decide +kernel
theorem dX11_nameHere_129 : decode cX11_nameHere 129 = .ok (.aload_n 0, 1) := by decide +kernel
theorem dX11_nameHere_130 : decode cX11_nameHere 130 = .ok (.bipush 8, 2) := by decide +kernel
theorem dX11_nameHere_132 : decode cX11_nameHere 132 = .ok (.bipush 15, 2) := by decide +kernel
theorem dX11_nameHere_134 : decode cX11_nameHere 134 = .ok (.bipush 12, 2) := by decide +kernel
theorem dX11_nameHere_136 : decode cX11_nameHere 136 = .ok (.iconst 5, 1) := by decide +kernel
theorem dX11_nameHere_137 : decode cX11_nameHere 137 = .ok (.bipush 19, 2) := by decide +kernel
theorem dX11_nameHere_139 : decode cX11_nameHere 139 = .ok (.iconst 0, 1) := by decide +kernel
theorem dX11_nameHere_140 : decode cX11_nameHere 140 = .ok (.invokevirtual 135, 3) := by decide +kernel
theorem dX11_nameHere_143 : decode cX11_nameHere 143 = .ok (.ifCond .eq 6, 3) := by decide +kernel
theorem dX11_nameHere_146 : decode cX11_nameHere 146 = .ok (.bipush 7, 2) := by decide +kernel
theorem dX11_nameHere_148 : decode cX11_nameHere 148 = .ok (.ireturn, 1) := by decide +kernel
theorem dX11_nameHere_149 : decode cX11_nameHere 149 = .ok (.aload_n 0, 1) := by decide +kernel
theorem dX11_nameHere_150 : decode cX11_nameHere 150 = .ok (.bipush 16, 2) := by decide +kernel
theorem dX11_nameHere_152 : decode cX11_nameHere 152 = .ok (.bipush 9, 2) := by decide +kernel
theorem dX11_nameHere_154 : decode cX11_nameHere 154 = .ok (.iconst 5, 1) := by decide +kernel
theorem dX11_nameHere_155 : decode cX11_nameHere 155 = .ok (.iconst 3, 1) := by decide +kernel
theorem dX11_nameHere_156 : decode cX11_nameHere 156 = .ok (.iconst 5, 1) := by decide +kernel
theorem dX11_nameHere_157 : decode cX11_nameHere 157 = .ok (.iconst 0, 1) := by decide +kernel
theorem dX11_nameHere_158 : decode cX11_nameHere 158 = .ok (.invokevirtual 135, 3) := by decide +kernel
theorem dX11_nameHere_161 : decode cX11_nameHere 161 = .ok (.ifCond .eq 8, 3) := by decide +kernel
theorem dX11_nameHere_164 : decode cX11_nameHere 164 = .ok (.bipush 8, 2) := by decide +kernel
theorem dX11_nameHere_166 : decode cX11_nameHere 166 = .ok (.goto 4, 3) := by decide +kernel
theorem dX11_nameHere_169 : decode cX11_nameHere 169 = .ok (.iconst (-1), 1) := by decide +kernel
theorem dX11_nameHere_170 : decode cX11_nameHere 170 = .ok (.ireturn, 1) := by decide +kernel
theorem dX11_unit_0 : decode cX11_unit 0 = .ok (.aload_n 0, 1) := by decide +kernel
theorem dX11_unit_1 : decode cX11_unit 1 = .ok (.getfield 99, 3) := by decide +kernel
theorem dX11_unit_4 : decode cX11_unit 4 = .ok (.ifCond .eq 4, 3) := by decide +kernel
theorem dX11_unit_7 : decode cX11_unit 7 = .ok (.return_, 1) := by decide +kernel
theorem dX11_unit_8 : decode cX11_unit 8 = .ok (.aload_n 0, 1) := by decide +kernel
theorem dX11_unit_9 : decode cX11_unit 9 = .ok (.invokevirtual 121, 3) := by decide +kernel
theorem dX11_unit_12 : decode cX11_unit 12 = .ok (.aload_n 0, 1) := by decide +kernel
theorem dX11_unit_13 : decode cX11_unit 13 = .ok (.aload_n 0, 1) := by decide +kernel
theorem dX11_unit_14 : decode cX11_unit 14 = .ok (.getfield 92, 3) := by decide +kernel
theorem dX11_unit_17 : decode cX11_unit 17 = .ok (.invokevirtual 95, 3) := by decide +kernel
theorem dX11_unit_20 : decode cX11_unit 20 = .ok (.invokestatic 108, 3) := by decide +kernel
theorem dX11_unit_23 : decode cX11_unit 23 = .ok (.ifCond .eq 8, 3) := by decide +kernel
theorem dX11_unit_26 : decode cX11_unit 26 = .ok (.aload_n 0, 1) := by decide +kernel
theorem dX11_unit_27 : decode cX11_unit 27 = .ok (.invokevirtual 139, 3) := by decide +kernel
theorem dX11_unit_30 : decode cX11_unit 30 = .ok (.return_, 1) := by decide +kernel
theorem dX11_unit_31 : decode cX11_unit 31 = .ok (.aload_n 0, 1) := by decide +kernel
theorem dX11_unit_32 : decode cX11_unit 32 = .ok (.invokevirtual 142, 3) := by decide +kernel
theorem dX11_unit_35 : decode cX11_unit 35 = .ok (.istore_n 1, 1) := by decide +kernel
theorem dX11_unit_36 : decode cX11_unit 36 = .ok (.iload_n 1, 1) := by decide +kernel
theorem dX11_unit_37 : decode cX11_unit 37 = .ok (.iconst (-1), 1) := by decide +kernel
theorem dX11_unit_38 : decode cX11_unit 38 = .ok (.if_icmp .eq 17, 3) := by decide +kernel
theorem dX11_unit_41 : decode cX11_unit 41 = .ok (.aload_n 0, 1) := by decide +kernel
theorem dX11_unit_42 : decode cX11_unit 42 = .ok (.invokevirtual 145, 3) := by decide +kernel
theorem dX11_unit_45 : decode cX11_unit 45 = .ok (.aload_n 0, 1) := by decide +kernel
theorem dX11_unit_46 : decode cX11_unit 46 = .ok (.sipush 10000, 3) := by decide +kernel
theorem dX11_unit_49 : decode cX11_unit 49 = .ok (.iload_n 1, 1) := by decide +kernel
theorem dX11_unit_50 : decode cX11_unit 50 = .ok (.iadd, 1) := by decide +kernel
theorem dX11_unit_51 : decode cX11_unit 51 = .ok (.invokevirtual 117, 3) := by decide +kernel
theorem dX11_unit_54 : decode cX11_unit 54 = .ok (.return_, 1) := by decide +kernel
theorem dX11_unit_55 : decode cX11_unit 55 = .ok (.aload_n 0, 1) := by decide +kernel
theorem dX11_unit_56 : decode cX11_unit 56 = .ok (.bipush 12, 2) := by decide +kernel
theorem dX11_unit_58 : decode cX11_unit 58 = .ok (.iconst 5, 1) := by decide +kernel
theorem dX11_unit_59 : decode cX11_unit 59 = .ok (.iconst 1, 1) := by decide +kernel
theorem dX11_unit_60 : decode cX11_unit 60 = .ok (.bipush 19, 2) := by decide +kernel
theorem dX11_unit_62 : decode cX11_unit 62 = .ok (.bipush 20, 2) := by decide +kernel
theorem dX11_unit_64 : decode cX11_unit 64 = .ok (.iconst 0, 1) := by decide +kernel
theorem dX11_unit_65 : decode cX11_unit 65 = .ok (.invokevirtual 135, 3) := by decide +kernel
theorem dX11_unit_68 : decode cX11_unit 68 = .ok (.ifCond .eq 9, 3) := by decide +kernel
theorem dX11_unit_71 : decode cX11_unit 71 = .ok (.sipush 10024, 3) := by decide +kernel
theorem dX11_unit_74 : decode cX11_unit 74 = .ok (.goto 50, 3) := by decide +kernel
theorem dX11_unit_77 : decode cX11_unit 77 = .ok (.aload_n 0, 1) := by decide +kernel
theorem dX11_unit_78 : decode cX11_unit 78 = .ok (.bipush 13, 2) := by decide +kernel
theorem dX11_unit_80 : decode cX11_unit 80 = .ok (.bipush 15, 2) := by decide +kernel
theorem dX11_unit_82 : decode cX11_unit 82 = .ok (.bipush 19, 2) := by decide +kernel
theorem dX11_unit_84 : decode cX11_unit 84 = .ok (.bipush 20, 2) := by decide +kernel
theorem dX11_unit_86 : decode cX11_unit 86 = .ok (.iconst 0, 1) := by decide +kernel
theorem dX11_unit_87 : decode cX11_unit 87 = .ok (.iconst 0, 1) := by decide +kernel
theorem dX11_unit_88 : decode cX11_unit 88 = .ok (.invokevirtual 135, 3) := by decide +kernel
theorem dX11_unit_91 : decode cX11_unit 91 = .ok (.ifCond .eq 9, 3) := by decide +kernel
theorem dX11_unit_94 : decode cX11_unit 94 = .ok (.sipush 10025, 3) := by decide +kernel
theorem dX11_unit_97 : decode cX11_unit 97 = .ok (.goto 27, 3) := by decide +kernel
theorem dX11_unit_100 : decode cX11_unit 100 = .ok (.aload_n 0, 1) := by decide +kernel
theorem dX11_unit_101 : decode cX11_unit 101 = .ok (.bipush 19, 2) := by decide +kernel
theorem dX11_unit_103 : decode cX11_unit 103 = .ok (.bipush 9, 2) := by decide +kernel
theorem dX11_unit_105 : decode cX11_unit 105 = .ok (.bipush 7, 2) := by decide +kernel
theorem dX11_unit_107 : decode cX11_unit 107 = .ok (.bipush 14, 2) := by decide +kernel
theorem dX11_unit_109 : decode cX11_unit 109 = .ok (.iconst 0, 1) := by decide +kernel
theorem dX11_unit_110 : decode cX11_unit 110 = .ok (.iconst 0, 1) := by decide +kernel
theorem dX11_unit_111 : decode cX11_unit 111 = .ok (.invokevirtual 135, 3) := by decide +kernel
theorem dX11_unit_114 : decode cX11_unit 114 = .ok (.ifCond .eq 9, 3) := by decide +kernel
theorem dX11_unit_117 : decode cX11_unit 117 = .ok (.sipush 10026, 3) := by decide +kernel
theorem dX11_unit_120 : decode cX11_unit 120 = .ok (.goto 4, 3) := by decide +kernel
theorem dX11_unit_123 : decode cX11_unit 123 = .ok (.iconst 0, 1) := by decide +kernel
theorem dX11_unit_124 : decode cX11_unit 124 = .ok (.istore_n 2, 1) := by decide +kernel
theorem dX11_unit_125 : decode cX11_unit 125 = .ok (.iload_n 2, 1) := by decide +kernel
theorem dX11_unit_126 : decode cX11_unit 126 = .ok (.ifCond .eq 7, 3) := by decide +kernel
theorem dX11_unit_129 : decode cX11_unit 129 = .ok (.aload_n 0, 1) := by decide +kernel
theorem dX11_unit_130 : decode cX11_unit 130 = .ok (.invokevirtual 145, 3) := by decide +kernel
theorem dX11_unit_133 : decode cX11_unit 133 = .ok (.aload_n 0, 1) := by decide +kernel
theorem dX11_unit_134 : decode cX11_unit 134 = .ok (.invokevirtual 121, 3) := by decide +kernel
theorem dX11_unit_137 : decode cX11_unit 137 = .ok (.aload_n 0, 1) := by decide +kernel
theorem dX11_unit_138 : decode cX11_unit 138 = .ok (.aload_n 0, 1) := by decide +kernel
theorem dX11_unit_139 : decode cX11_unit 139 = .ok (.getfield 92, 3) := by decide +kernel
theorem dX11_unit_142 : decode cX11_unit 142 = .ok (.invokevirtual 95, 3) := by decide +kernel
theorem dX11_unit_145 : decode cX11_unit 145 = .ok (.bipush 40, 2) := by decide +kernel
theorem dX11_unit_147 : decode cX11_unit 147 = .ok (.if_icmp .eq 13, 3) := by decide +kernel
theorem dX11_unit_150 : decode cX11_unit 150 = .ok (.aload_n 0, 1) := by decide +kernel
theorem dX11_unit_151 : decode cX11_unit 151 = .ok (.iconst 1, 1) := by decide +kernel
theorem dX11_unit_152 : decode cX11_unit 152 = .ok (.aload_n 0, 1) := by decide +kernel
theorem dX11_unit_153 : decode cX11_unit 153 = .ok (.getfield 92, 3) := by decide +kernel
theorem dX11_unit_156 : decode cX11_unit 156 = .ok (.invokevirtual 113, 3) := by decide +kernel
theorem dX11_unit_159 : decode cX11_unit 159 = .ok (.return_, 1) := by decide +kernel
theorem dX11_unit_160 : decode cX11_unit 160 = .ok (.aload_n 0, 1) := by decide +kernel
theorem dX11_unit_161 : decode cX11_unit 161 = .ok (.iconst 1, 1) := by decide +kernel
theorem dX11_unit_162 : decode cX11_unit 162 = .ok (.invokevirtual 148, 3) := by decide +kernel
theorem dX11_unit_165 : decode cX11_unit 165 = .ok (.aload_n 0, 1) := by decide +kernel
theorem dX11_unit_166 : decode cX11_unit 166 = .ok (.invokevirtual 151, 3) := by decide +kernel
theorem dX11_unit_169 : decode cX11_unit 169 = .ok (.iload_n 2, 1) := by decide +kernel
theorem dX11_unit_170 : decode cX11_unit 170 = .ok (.sipush 10024, 3) := by decide +kernel
theorem dX11_unit_173 : decode cX11_unit 173 = .ok (.if_icmp .eq 10, 3) := by decide +kernel
theorem dX11_unit_176 : decode cX11_unit 176 = .ok (.iload_n 2, 1) := by decide +kernel
theorem dX11_unit_177 : decode cX11_unit 177 = .ok (.sipush 10025, 3) := by decide +kernel
theorem dX11_unit_180 : decode cX11_unit 180 = .ok (.if_icmp .ne 13, 3) := by decide +kernel
theorem dX11_unit_183 : decode cX11_unit 183 = .ok (.aload_n 0, 1) := by decide +kernel
theorem dX11_unit_184 : decode cX11_unit 184 = .ok (.bipush 44, 2) := by decide +kernel
theorem dX11_unit_186 : decode cX11_unit 186 = .ok (.invokevirtual 154, 3) := by decide +kernel
theorem dX11_unit_189 : decode cX11_unit 189 = .ok (.aload_n 0, 1) := by decide +kernel
theorem dX11_unit_190 : decode cX11_unit 190 = .ok (.invokevirtual 151, 3) := by decide +kernel
theorem dX11_unit_193 : decode cX11_unit 193 = .ok (.aload_n 0, 1) := by decide +kernel
theorem dX11_unit_194 : decode cX11_unit 194 = .ok (.bipush 41, 2) := by decide +kernel
theorem dX11_unit_196 : decode cX11_unit 196 = .ok (.invokevirtual 154, 3) := by decide +kernel
theorem dX11_unit_199 : decode cX11_unit 199 = .ok (.aload_n 0, 1) := by decide +kernel
theorem dX11_unit_200 : decode cX11_unit 200 = .ok (.dup, 1) := by decide +kernel
theorem dX11_unit_201 : decode cX11_unit 201 = .ok (.getfield 132, 3) := by decide +kernel
theorem dX11_unit_204 : decode cX11_unit 204 = .ok (.iconst 1, 1) := by decide +kernel
theorem dX11_unit_205 : decode cX11_unit 205 = .ok (.isub, 1) := by decide +kernel
theorem dX11_unit_206 : decode cX11_unit 206 = .ok (.putfield 132, 3) := by decide +kernel
theorem dX11_unit_209 : decode cX11_unit 209 = .ok (.iload_n 2, 1) := by decide +kernel
theorem dX11_unit_210 : decode cX11_unit 210 = .ok (.ifCond .eq 8, 3) := by decide +kernel
theorem dX11_unit_213 : decode cX11_unit 213 = .ok (.aload_n 0, 1) := by decide +kernel
theorem dX11_unit_214 : decode cX11_unit 214 = .ok (.iload_n 2, 1) := by decide +kernel
theorem dX11_unit_215 : decode cX11_unit 215 = .ok (.invokevirtual 117, 3) := by decide +kernel
theorem dX11_unit_218 : decode cX11_unit 218 = .ok (.return_, 1) := by decide +kernel
theorem dX11_product_0 : decode cX11_product 0 = .ok (.aload_n 0, 1) := by decide +kernel
theorem dX11_product_1 : decode cX11_product 1 = .ok (.invokevirtual 157, 3) := by decide +kernel
theorem dX11_product_4 : decode cX11_product 4 = .ok (.aload_n 0, 1) := by decide +kernel
theorem dX11_product_5 : decode cX11_product 5 = .ok (.invokevirtual 121, 3) := by decide +kernel
theorem dX11_product_8 : decode cX11_product 8 = .ok (.aload_n 0, 1) := by decide +kernel
theorem dX11_product_9 : decode cX11_product 9 = .ok (.getfield 99, 3) := by decide +kernel
theorem dX11_product_12 : decode cX11_product 12 = .ok (.ifCond .ne 78, 3) := by decide +kernel
theorem dX11_product_15 : decode cX11_product 15 = .ok (.aload_n 0, 1) := by decide +kernel
theorem dX11_product_16 : decode cX11_product 16 = .ok (.aload_n 0, 1) := by decide +kernel
theorem dX11_product_17 : decode cX11_product 17 = .ok (.getfield 92, 3) := by decide +kernel
theorem dX11_product_20 : decode cX11_product 20 = .ok (.invokevirtual 95, 3) := by decide +kernel
theorem dX11_product_23 : decode cX11_product 23 = .ok (.bipush 42, 2) := by decide +kernel
theorem dX11_product_25 : decode cX11_product 25 = .ok (.if_icmp .eq 16, 3) := by decide +kernel
theorem dX11_product_28 : decode cX11_product 28 = .ok (.aload_n 0, 1) := by decide +kernel
theorem dX11_product_29 : decode cX11_product 29 = .ok (.aload_n 0, 1) := by decide +kernel
theorem dX11_product_30 : decode cX11_product 30 = .ok (.getfield 92, 3) := by decide +kernel
theorem dX11_product_33 : decode cX11_product 33 = .ok (.invokevirtual 95, 3) := by decide +kernel
theorem dX11_product_36 : decode cX11_product 36 = .ok (.bipush 47, 2) := by decide +kernel
theorem dX11_product_38 : decode cX11_product 38 = .ok (.if_icmp .ne 52, 3) := by decide +kernel
theorem dX11_product_41 : decode cX11_product 41 = .ok (.aload_n 0, 1) := by decide +kernel
theorem dX11_product_42 : decode cX11_product 42 = .ok (.aload_n 0, 1) := by decide +kernel
theorem dX11_product_43 : decode cX11_product 43 = .ok (.getfield 92, 3) := by decide +kernel
theorem dX11_product_46 : decode cX11_product 46 = .ok (.invokevirtual 95, 3) := by decide +kernel
theorem dX11_product_49 : decode cX11_product 49 = .ok (.istore_n 1, 1) := by decide +kernel
theorem dX11_product_50 : decode cX11_product 50 = .ok (.aload_n 0, 1) := by decide +kernel
theorem dX11_product_51 : decode cX11_product 51 = .ok (.dup, 1) := by decide +kernel
theorem dX11_product_52 : decode cX11_product 52 = .ok (.getfield 92, 3) := by decide +kernel
theorem dX11_product_55 : decode cX11_product 55 = .ok (.iconst 1, 1) := by decide +kernel
theorem dX11_product_56 : decode cX11_product 56 = .ok (.iadd, 1) := by decide +kernel
theorem dX11_product_57 : decode cX11_product 57 = .ok (.putfield 92, 3) := by decide +kernel
theorem dX11_product_60 : decode cX11_product 60 = .ok (.aload_n 0, 1) := by decide +kernel
theorem dX11_product_61 : decode cX11_product 61 = .ok (.invokevirtual 157, 3) := by decide +kernel
theorem dX11_product_64 : decode cX11_product 64 = .ok (.aload_n 0, 1) := by decide +kernel
theorem dX11_product_65 : decode cX11_product 65 = .ok (.iload_n 1, 1) := by decide +kernel
theorem dX11_product_66 : decode cX11_product 66 = .ok (.bipush 42, 2) := by decide +kernel
theorem dX11_product_68 : decode cX11_product 68 = .ok (.if_icmp .ne 9, 3) := by decide +kernel
theorem dX11_product_71 : decode cX11_product 71 = .ok (.sipush 10022, 3) := by decide +kernel
theorem dX11_product_74 : decode cX11_product 74 = .ok (.goto 6, 3) := by decide +kernel
theorem dX11_product_77 : decode cX11_product 77 = .ok (.sipush 10023, 3) := by decide +kernel
theorem dX11_product_80 : decode cX11_product 80 = .ok (.invokevirtual 117, 3) := by decide +kernel
theorem dX11_product_83 : decode cX11_product 83 = .ok (.aload_n 0, 1) := by decide +kernel
theorem dX11_product_84 : decode cX11_product 84 = .ok (.invokevirtual 121, 3) := by decide +kernel
theorem dX11_product_87 : decode cX11_product 87 = .ok (.goto (-79), 3) := by decide +kernel
theorem dX11_product_90 : decode cX11_product 90 = .ok (.return_, 1) := by decide +kernel
theorem dX11_sum_0 : decode cX11_sum 0 = .ok (.aload_n 0, 1) := by decide +kernel
theorem dX11_sum_1 : decode cX11_sum 1 = .ok (.invokevirtual 160, 3) := by decide +kernel
theorem dX11_sum_4 : decode cX11_sum 4 = .ok (.aload_n 0, 1) := by decide +kernel
theorem dX11_sum_5 : decode cX11_sum 5 = .ok (.invokevirtual 121, 3) := by decide +kernel
theorem dX11_sum_8 : decode cX11_sum 8 = .ok (.aload_n 0, 1) := by decide +kernel
theorem dX11_sum_9 : decode cX11_sum 9 = .ok (.getfield 99, 3) := by decide +kernel
theorem dX11_sum_12 : decode cX11_sum 12 = .ok (.ifCond .ne 78, 3) := by decide +kernel
theorem dX11_sum_15 : decode cX11_sum 15 = .ok (.aload_n 0, 1) := by decide +kernel
theorem dX11_sum_16 : decode cX11_sum 16 = .ok (.aload_n 0, 1) := by decide +kernel
theorem dX11_sum_17 : decode cX11_sum 17 = .ok (.getfield 92, 3) := by decide +kernel
theorem dX11_sum_20 : decode cX11_sum 20 = .ok (.invokevirtual 95, 3) := by decide +kernel
theorem dX11_sum_23 : decode cX11_sum 23 = .ok (.bipush 43, 2) := by decide +kernel
theorem dX11_sum_25 : decode cX11_sum 25 = .ok (.if_icmp .eq 16, 3) := by decide +kernel
theorem dX11_sum_28 : decode cX11_sum 28 = .ok (.aload_n 0, 1) := by decide +kernel
theorem dX11_sum_29 : decode cX11_sum 29 = .ok (.aload_n 0, 1) := by decide +kernel
theorem dX11_sum_30 : decode cX11_sum 30 = .ok (.getfield 92, 3) := by decide +kernel
theorem dX11_sum_33 : decode cX11_sum 33 = .ok (.invokevirtual 95, 3) := by decide +kernel
theorem dX11_sum_36 : decode cX11_sum 36 = .ok (.bipush 45, 2) := by decide +kernel
theorem dX11_sum_38 : decode cX11_sum 38 = .ok (.if_icmp .ne 52, 3) := by decide +kernel
theorem dX11_sum_41 : decode cX11_sum 41 = .ok (.aload_n 0, 1) := by decide +kernel
theorem dX11_sum_42 : decode cX11_sum 42 = .ok (.aload_n 0, 1) := by decide +kernel
theorem dX11_sum_43 : decode cX11_sum 43 = .ok (.getfield 92, 3) := by decide +kernel
theorem dX11_sum_46 : decode cX11_sum 46 = .ok (.invokevirtual 95, 3) := by decide +kernel
theorem dX11_sum_49 : decode cX11_sum 49 = .ok (.istore_n 1, 1) := by decide +kernel
theorem dX11_sum_50 : decode cX11_sum 50 = .ok (.aload_n 0, 1) := by decide +kernel
theorem dX11_sum_51 : decode cX11_sum 51 = .ok (.dup, 1) := by decide +kernel
theorem dX11_sum_52 : decode cX11_sum 52 = .ok (.getfield 92, 3) := by decide +kernel
theorem dX11_sum_55 : decode cX11_sum 55 = .ok (.iconst 1, 1) := by decide +kernel
theorem dX11_sum_56 : decode cX11_sum 56 = .ok (.iadd, 1) := by decide +kernel
theorem dX11_sum_57 : decode cX11_sum 57 = .ok (.putfield 92, 3) := by decide +kernel
theorem dX11_sum_60 : decode cX11_sum 60 = .ok (.aload_n 0, 1) := by decide +kernel
theorem dX11_sum_61 : decode cX11_sum 61 = .ok (.invokevirtual 160, 3) := by decide +kernel
theorem dX11_sum_64 : decode cX11_sum 64 = .ok (.aload_n 0, 1) := by decide +kernel
theorem dX11_sum_65 : decode cX11_sum 65 = .ok (.iload_n 1, 1) := by decide +kernel
theorem dX11_sum_66 : decode cX11_sum 66 = .ok (.bipush 43, 2) := by decide +kernel
theorem dX11_sum_68 : decode cX11_sum 68 = .ok (.if_icmp .ne 9, 3) := by decide +kernel
theorem dX11_sum_71 : decode cX11_sum 71 = .ok (.sipush 10020, 3) := by decide +kernel
theorem dX11_sum_74 : decode cX11_sum 74 = .ok (.goto 6, 3) := by decide +kernel
theorem dX11_sum_77 : decode cX11_sum 77 = .ok (.sipush 10021, 3) := by decide +kernel
theorem dX11_sum_80 : decode cX11_sum 80 = .ok (.invokevirtual 117, 3) := by decide +kernel
theorem dX11_sum_83 : decode cX11_sum 83 = .ok (.aload_n 0, 1) := by decide +kernel
theorem dX11_sum_84 : decode cX11_sum 84 = .ok (.invokevirtual 121, 3) := by decide +kernel
theorem dX11_sum_87 : decode cX11_sum 87 = .ok (.goto (-79), 3) := by decide +kernel
theorem dX11_sum_90 : decode cX11_sum 90 = .ok (.return_, 1) := by decide +kernel
theorem dX11_test_0 : decode cX11_test 0 = .ok (.aload_n 0, 1) := by decide +kernel
theorem dX11_test_1 : decode cX11_test 1 = .ok (.getfield 99, 3) := by decide +kernel
theorem dX11_test_4 : decode cX11_test 4 = .ok (.ifCond .eq 4, 3) := by decide +kernel
theorem dX11_test_7 : decode cX11_test 7 = .ok (.return_, 1) := by decide +kernel
theorem dX11_test_8 : decode cX11_test 8 = .ok (.aload_n 0, 1) := by decide +kernel
theorem dX11_test_9 : decode cX11_test 9 = .ok (.bipush 14, 2) := by decide +kernel
theorem dX11_test_11 : decode cX11_test 11 = .ok (.bipush 15, 2) := by decide +kernel
theorem dX11_test_13 : decode cX11_test 13 = .ok (.bipush 20, 2) := by decide +kernel
theorem dX11_test_15 : decode cX11_test 15 = .ok (.iconst 0, 1) := by decide +kernel
theorem dX11_test_16 : decode cX11_test 16 = .ok (.iconst 0, 1) := by decide +kernel
theorem dX11_test_17 : decode cX11_test 17 = .ok (.iconst 0, 1) := by decide +kernel
theorem dX11_test_18 : decode cX11_test 18 = .ok (.invokevirtual 135, 3) := by decide +kernel
theorem dX11_test_21 : decode cX11_test 21 = .ok (.ifCond .eq 30, 3) := by decide +kernel
theorem dX11_test_24 : decode cX11_test 24 = .ok (.aload_n 0, 1) := by decide +kernel
theorem dX11_test_25 : decode cX11_test 25 = .ok (.iconst 3, 1) := by decide +kernel
theorem dX11_test_26 : decode cX11_test 26 = .ok (.invokevirtual 148, 3) := by decide +kernel
theorem dX11_test_29 : decode cX11_test 29 = .ok (.aload_n 0, 1) := by decide +kernel
theorem dX11_test_30 : decode cX11_test 30 = .ok (.invokevirtual 163, 3) := by decide +kernel
theorem dX11_test_33 : decode cX11_test 33 = .ok (.aload_n 0, 1) := by decide +kernel
theorem dX11_test_34 : decode cX11_test 34 = .ok (.dup, 1) := by decide +kernel
theorem dX11_test_35 : decode cX11_test 35 = .ok (.getfield 132, 3) := by decide +kernel
theorem dX11_test_38 : decode cX11_test 38 = .ok (.iconst 1, 1) := by decide +kernel
theorem dX11_test_39 : decode cX11_test 39 = .ok (.isub, 1) := by decide +kernel
theorem dX11_test_40 : decode cX11_test 40 = .ok (.putfield 132, 3) := by decide +kernel
theorem dX11_test_43 : decode cX11_test 43 = .ok (.aload_n 0, 1) := by decide +kernel
theorem dX11_test_44 : decode cX11_test 44 = .ok (.sipush 10033, 3) := by decide +kernel
theorem dX11_test_47 : decode cX11_test 47 = .ok (.invokevirtual 117, 3) := by decide +kernel
theorem dX11_test_50 : decode cX11_test 50 = .ok (.return_, 1) := by decide +kernel
theorem dX11_test_51 : decode cX11_test 51 = .ok (.aload_n 0, 1) := by decide +kernel
theorem dX11_test_52 : decode cX11_test 52 = .ok (.aload_n 0, 1) := by decide +kernel
theorem dX11_test_53 : decode cX11_test 53 = .ok (.getfield 92, 3) := by decide +kernel
theorem dX11_test_56 : decode cX11_test 56 = .ok (.invokevirtual 95, 3) := by decide +kernel
theorem dX11_test_59 : decode cX11_test 59 = .ok (.bipush 91, 2) := by decide +kernel
theorem dX11_test_61 : decode cX11_test 61 = .ok (.if_icmp .ne 29, 3) := by decide +kernel
theorem dX11_test_64 : decode cX11_test 64 = .ok (.aload_n 0, 1) := by decide +kernel
theorem dX11_test_65 : decode cX11_test 65 = .ok (.iconst 1, 1) := by decide +kernel
theorem dX11_test_66 : decode cX11_test 66 = .ok (.invokevirtual 148, 3) := by decide +kernel
theorem dX11_test_69 : decode cX11_test 69 = .ok (.aload_n 0, 1) := by decide +kernel
theorem dX11_test_70 : decode cX11_test 70 = .ok (.invokevirtual 166, 3) := by decide +kernel
theorem dX11_test_73 : decode cX11_test 73 = .ok (.aload_n 0, 1) := by decide +kernel
theorem dX11_test_74 : decode cX11_test 74 = .ok (.bipush 93, 2) := by decide +kernel
theorem dX11_test_76 : decode cX11_test 76 = .ok (.invokevirtual 154, 3) := by decide +kernel
theorem dX11_test_79 : decode cX11_test 79 = .ok (.aload_n 0, 1) := by decide +kernel
theorem dX11_test_80 : decode cX11_test 80 = .ok (.dup, 1) := by decide +kernel
theorem dX11_test_81 : decode cX11_test 81 = .ok (.getfield 132, 3) := by decide +kernel
theorem dX11_test_84 : decode cX11_test 84 = .ok (.iconst 1, 1) := by decide +kernel
theorem dX11_test_85 : decode cX11_test 85 = .ok (.isub, 1) := by decide +kernel
theorem dX11_test_86 : decode cX11_test 86 = .ok (.putfield 132, 3) := by decide +kernel
theorem dX11_test_89 : decode cX11_test 89 = .ok (.return_, 1) := by decide +kernel
theorem dX11_test_90 : decode cX11_test 90 = .ok (.aload_n 0, 1) := by decide +kernel
theorem dX11_test_91 : decode cX11_test 91 = .ok (.invokevirtual 151, 3) := by decide +kernel
theorem dX11_test_94 : decode cX11_test 94 = .ok (.aload_n 0, 1) := by decide +kernel
theorem dX11_test_95 : decode cX11_test 95 = .ok (.getfield 99, 3) := by decide +kernel
theorem dX11_test_98 : decode cX11_test 98 = .ok (.ifCond .eq 4, 3) := by decide +kernel
theorem dX11_test_101 : decode cX11_test 101 = .ok (.return_, 1) := by decide +kernel
theorem dX11_test_102 : decode cX11_test 102 = .ok (.aload_n 0, 1) := by decide +kernel
theorem dX11_test_103 : decode cX11_test 103 = .ok (.invokevirtual 121, 3) := by decide +kernel
theorem dX11_test_106 : decode cX11_test 106 = .ok (.aload_n 0, 1) := by decide +kernel
theorem dX11_test_107 : decode cX11_test 107 = .ok (.aload_n 0, 1) := by decide +kernel
theorem dX11_test_108 : decode cX11_test 108 = .ok (.getfield 92, 3) := by decide +kernel
theorem dX11_test_111 : decode cX11_test 111 = .ok (.invokevirtual 95, 3) := by decide +kernel
theorem dX11_test_114 : decode cX11_test 114 = .ok (.istore_n 1, 1) := by decide +kernel
theorem dX11_test_115 : decode cX11_test 115 = .ok (.iload_n 1, 1) := by decide +kernel
theorem dX11_test_116 : decode cX11_test 116 = .ok (.bipush 60, 2) := by decide +kernel
theorem dX11_test_118 : decode cX11_test 118 = .ok (.if_icmp .eq 24, 3) := by decide +kernel
theorem dX11_test_121 : decode cX11_test 121 = .ok (.iload_n 1, 1) := by decide +kernel
theorem dX11_test_122 : decode cX11_test 122 = .ok (.bipush 62, 2) := by decide +kernel
theorem dX11_test_124 : decode cX11_test 124 = .ok (.if_icmp .eq 18, 3) := by decide +kernel
theorem dX11_test_127 : decode cX11_test 127 = .ok (.iload_n 1, 1) := by decide +kernel
theorem dX11_test_128 : decode cX11_test 128 = .ok (.bipush 61, 2) := by decide +kernel
theorem dX11_test_130 : decode cX11_test 130 = .ok (.if_icmp .eq 12, 3) := by decide +kernel
theorem dX11_test_133 : decode cX11_test 133 = .ok (.aload_n 0, 1) := by decide +kernel
theorem dX11_test_134 : decode cX11_test 134 = .ok (.iconst 1, 1) := by decide +kernel
theorem dX11_test_135 : decode cX11_test 135 = .ok (.aload_n 0, 1) := by decide +kernel
theorem dX11_test_136 : decode cX11_test 136 = .ok (.getfield 92, 3) := by decide +kernel
theorem dX11_test_139 : decode cX11_test 139 = .ok (.invokevirtual 113, 3) := by decide +kernel
theorem dX11_test_142 : decode cX11_test 142 = .ok (.aload_n 0, 1) := by decide +kernel
theorem dX11_test_143 : decode cX11_test 143 = .ok (.dup, 1) := by decide +kernel
theorem dX11_test_144 : decode cX11_test 144 = .ok (.getfield 92, 3) := by decide +kernel
theorem dX11_test_147 : decode cX11_test 147 = .ok (.iconst 1, 1) := by decide +kernel
theorem dX11_test_148 : decode cX11_test 148 = .ok (.iadd, 1) := by decide +kernel
theorem dX11_test_149 : decode cX11_test 149 = .ok (.putfield 92, 3) := by decide +kernel
theorem dX11_test_152 : decode cX11_test 152 = .ok (.aload_n 0, 1) := by decide +kernel
theorem dX11_test_153 : decode cX11_test 153 = .ok (.invokevirtual 151, 3) := by decide +kernel
theorem dX11_test_156 : decode cX11_test 156 = .ok (.aload_n 0, 1) := by decide +kernel
theorem dX11_test_157 : decode cX11_test 157 = .ok (.iload_n 1, 1) := by decide +kernel
theorem dX11_test_158 : decode cX11_test 158 = .ok (.bipush 60, 2) := by decide +kernel
theorem dX11_test_160 : decode cX11_test 160 = .ok (.if_icmp .ne 9, 3) := by decide +kernel
theorem dX11_test_163 : decode cX11_test 163 = .ok (.sipush 10030, 3) := by decide +kernel
theorem dX11_test_166 : decode cX11_test 166 = .ok (.goto 18, 3) := by decide +kernel
theorem dX11_test_169 : decode cX11_test 169 = .ok (.iload_n 1, 1) := by decide +kernel
theorem dX11_test_170 : decode cX11_test 170 = .ok (.bipush 62, 2) := by decide +kernel
theorem dX11_test_172 : decode cX11_test 172 = .ok (.if_icmp .ne 9, 3) := by decide +kernel
theorem dX11_test_175 : decode cX11_test 175 = .ok (.sipush 10031, 3) := by decide +kernel
theorem dX11_test_178 : decode cX11_test 178 = .ok (.goto 6, 3) := by decide +kernel
theorem dX11_test_181 : decode cX11_test 181 = .ok (.sipush 10032, 3) := by decide +kernel
theorem dX11_test_184 : decode cX11_test 184 = .ok (.invokevirtual 117, 3) := by decide +kernel
theorem dX11_test_187 : decode cX11_test 187 = .ok (.return_, 1) := by decide +kernel
theorem dX11_ands_0 : decode cX11_ands 0 = .ok (.aload_n 0, 1) := by decide +kernel
theorem dX11_ands_1 : decode cX11_ands 1 = .ok (.invokevirtual 163, 3) := by decide +kernel
theorem dX11_ands_4 : decode cX11_ands 4 = .ok (.aload_n 0, 1) := by decide +kernel
theorem dX11_ands_5 : decode cX11_ands 5 = .ok (.getfield 99, 3) := by decide +kernel
theorem dX11_ands_8 : decode cX11_ands 8 = .ok (.ifCond .ne 35, 3) := by decide +kernel
theorem dX11_ands_11 : decode cX11_ands 11 = .ok (.aload_n 0, 1) := by decide +kernel
theorem dX11_ands_12 : decode cX11_ands 12 = .ok (.iconst 1, 1) := by decide +kernel
theorem dX11_ands_13 : decode cX11_ands 13 = .ok (.bipush 14, 2) := by decide +kernel
theorem dX11_ands_15 : decode cX11_ands 15 = .ok (.iconst 4, 1) := by decide +kernel
theorem dX11_ands_16 : decode cX11_ands 16 = .ok (.iconst 0, 1) := by decide +kernel
theorem dX11_ands_17 : decode cX11_ands 17 = .ok (.iconst 0, 1) := by decide +kernel
theorem dX11_ands_18 : decode cX11_ands 18 = .ok (.iconst 0, 1) := by decide +kernel
theorem dX11_ands_19 : decode cX11_ands 19 = .ok (.invokevirtual 135, 3) := by decide +kernel
theorem dX11_ands_22 : decode cX11_ands 22 = .ok (.ifCond .eq 21, 3) := by decide +kernel
theorem dX11_ands_25 : decode cX11_ands 25 = .ok (.aload_n 0, 1) := by decide +kernel
theorem dX11_ands_26 : decode cX11_ands 26 = .ok (.invokevirtual 145, 3) := by decide +kernel
theorem dX11_ands_29 : decode cX11_ands 29 = .ok (.aload_n 0, 1) := by decide +kernel
theorem dX11_ands_30 : decode cX11_ands 30 = .ok (.invokevirtual 163, 3) := by decide +kernel
theorem dX11_ands_33 : decode cX11_ands 33 = .ok (.aload_n 0, 1) := by decide +kernel
theorem dX11_ands_34 : decode cX11_ands 34 = .ok (.sipush 10034, 3) := by decide +kernel
theorem dX11_ands_37 : decode cX11_ands 37 = .ok (.invokevirtual 117, 3) := by decide +kernel
theorem dX11_ands_40 : decode cX11_ands 40 = .ok (.goto (-36), 3) := by decide +kernel
theorem dX11_ands_43 : decode cX11_ands 43 = .ok (.return_, 1) := by decide +kernel
theorem dX11_ors_0 : decode cX11_ors 0 = .ok (.aload_n 0, 1) := by decide +kernel
theorem dX11_ors_1 : decode cX11_ors 1 = .ok (.invokevirtual 169, 3) := by decide +kernel
theorem dX11_ors_4 : decode cX11_ors 4 = .ok (.aload_n 0, 1) := by decide +kernel
theorem dX11_ors_5 : decode cX11_ors 5 = .ok (.getfield 99, 3) := by decide +kernel
theorem dX11_ors_8 : decode cX11_ors 8 = .ok (.ifCond .ne 36, 3) := by decide +kernel
theorem dX11_ors_11 : decode cX11_ors 11 = .ok (.aload_n 0, 1) := by decide +kernel
theorem dX11_ors_12 : decode cX11_ors 12 = .ok (.bipush 15, 2) := by decide +kernel
theorem dX11_ors_14 : decode cX11_ors 14 = .ok (.bipush 18, 2) := by decide +kernel
theorem dX11_ors_16 : decode cX11_ors 16 = .ok (.iconst 0, 1) := by decide +kernel
theorem dX11_ors_17 : decode cX11_ors 17 = .ok (.iconst 0, 1) := by decide +kernel
theorem dX11_ors_18 : decode cX11_ors 18 = .ok (.iconst 0, 1) := by decide +kernel
theorem dX11_ors_19 : decode cX11_ors 19 = .ok (.iconst 0, 1) := by decide +kernel
theorem dX11_ors_20 : decode cX11_ors 20 = .ok (.invokevirtual 135, 3) := by decide +kernel
theorem dX11_ors_23 : decode cX11_ors 23 = .ok (.ifCond .eq 21, 3) := by decide +kernel
theorem dX11_ors_26 : decode cX11_ors 26 = .ok (.aload_n 0, 1) := by decide +kernel
theorem dX11_ors_27 : decode cX11_ors 27 = .ok (.invokevirtual 145, 3) := by decide +kernel
theorem dX11_ors_30 : decode cX11_ors 30 = .ok (.aload_n 0, 1) := by decide +kernel
theorem dX11_ors_31 : decode cX11_ors 31 = .ok (.invokevirtual 169, 3) := by decide +kernel
theorem dX11_ors_34 : decode cX11_ors 34 = .ok (.aload_n 0, 1) := by decide +kernel
theorem dX11_ors_35 : decode cX11_ors 35 = .ok (.sipush 10035, 3) := by decide +kernel
theorem dX11_ors_38 : decode cX11_ors 38 = .ok (.invokevirtual 117, 3) := by decide +kernel
theorem dX11_ors_41 : decode cX11_ors 41 = .ok (.goto (-37), 3) := by decide +kernel
theorem dX11_ors_44 : decode cX11_ors 44 = .ok (.return_, 1) := by decide +kernel
theorem dX11_clause_0 : decode cX11_clause 0 = .ok (.aload_n 0, 1) := by decide +kernel
theorem dX11_clause_1 : decode cX11_clause 1 = .ok (.bipush 12, 2) := by decide +kernel
theorem dX11_clause_3 : decode cX11_clause 3 = .ok (.bipush 9, 2) := by decide +kernel
theorem dX11_clause_5 : decode cX11_clause 5 = .ok (.bipush 6, 2) := by decide +kernel
theorem dX11_clause_7 : decode cX11_clause 7 = .ok (.bipush 20, 2) := by decide +kernel
theorem dX11_clause_9 : decode cX11_clause 9 = .ok (.iconst 0, 1) := by decide +kernel
theorem dX11_clause_10 : decode cX11_clause 10 = .ok (.iconst 0, 1) := by decide +kernel
theorem dX11_clause_11 : decode cX11_clause 11 = .ok (.invokevirtual 135, 3) := by decide +kernel
theorem dX11_clause_14 : decode cX11_clause 14 = .ok (.istore_n 2, 1) := by decide +kernel
theorem dX11_clause_15 : decode cX11_clause 15 = .ok (.aload_n 0, 1) := by decide +kernel
theorem dX11_clause_16 : decode cX11_clause 16 = .ok (.bipush 20, 2) := by decide +kernel
theorem dX11_clause_18 : decode cX11_clause 18 = .ok (.bipush 23, 2) := by decide +kernel
theorem dX11_clause_20 : decode cX11_clause 20 = .ok (.bipush 9, 2) := by decide +kernel
theorem dX11_clause_22 : decode cX11_clause 22 = .ok (.bipush 19, 2) := by decide +kernel
theorem dX11_clause_24 : decode cX11_clause 24 = .ok (.bipush 20, 2) := by decide +kernel
theorem dX11_clause_26 : decode cX11_clause 26 = .ok (.iconst 0, 1) := by decide +kernel
theorem dX11_clause_27 : decode cX11_clause 27 = .ok (.invokevirtual 135, 3) := by decide +kernel
theorem dX11_clause_30 : decode cX11_clause 30 = .ok (.istore_n 3, 1) := by decide +kernel
theorem dX11_clause_31 : decode cX11_clause 31 = .ok (.iload_n 2, 1) := by decide +kernel
theorem dX11_clause_32 : decode cX11_clause 32 = .ok (.ifCond .ne 19, 3) := by decide +kernel
theorem dX11_clause_35 : decode cX11_clause 35 = .ok (.iload_n 3, 1) := by decide +kernel
theorem dX11_clause_36 : decode cX11_clause 36 = .ok (.ifCond .ne 15, 3) := by decide +kernel
theorem dX11_clause_39 : decode cX11_clause 39 = .ok (.aload_n 0, 1) := by decide +kernel
theorem dX11_clause_40 : decode cX11_clause 40 = .ok (.iconst 1, 1) := by decide +kernel
theorem dX11_clause_41 : decode cX11_clause 41 = .ok (.aload_n 0, 1) := by decide +kernel
theorem dX11_clause_42 : decode cX11_clause 42 = .ok (.getfield 92, 3) := by decide +kernel
theorem dX11_clause_45 : decode cX11_clause 45 = .ok (.invokevirtual 113, 3) := by decide +kernel
theorem dX11_clause_48 : decode cX11_clause 48 = .ok (.goto 18, 3) := by decide +kernel
theorem dX11_clause_51 : decode cX11_clause 51 = .ok (.iload_n 1, 1) := by decide +kernel
theorem dX11_clause_52 : decode cX11_clause 52 = .ok (.bipush 12, 2) := by decide +kernel
theorem dX11_clause_54 : decode cX11_clause 54 = .ok (.if_icmp .ne 12, 3) := by decide +kernel
theorem dX11_clause_57 : decode cX11_clause 57 = .ok (.aload_n 0, 1) := by decide +kernel
theorem dX11_clause_58 : decode cX11_clause 58 = .ok (.iconst 3, 1) := by decide +kernel
theorem dX11_clause_59 : decode cX11_clause 59 = .ok (.aload_n 0, 1) := by decide +kernel
theorem dX11_clause_60 : decode cX11_clause 60 = .ok (.getfield 92, 3) := by decide +kernel
theorem dX11_clause_63 : decode cX11_clause 63 = .ok (.invokevirtual 113, 3) := by decide +kernel
theorem dX11_clause_66 : decode cX11_clause 66 = .ok (.aload_n 0, 1) := by decide +kernel
theorem dX11_clause_67 : decode cX11_clause 67 = .ok (.getfield 99, 3) := by decide +kernel
theorem dX11_clause_70 : decode cX11_clause 70 = .ok (.ifCond .eq 4, 3) := by decide +kernel
theorem dX11_clause_73 : decode cX11_clause 73 = .ok (.return_, 1) := by decide +kernel
theorem dX11_clause_74 : decode cX11_clause 74 = .ok (.aload_n 0, 1) := by decide +kernel
theorem dX11_clause_75 : decode cX11_clause 75 = .ok (.invokevirtual 145, 3) := by decide +kernel
theorem dX11_clause_78 : decode cX11_clause 78 = .ok (.aload_n 0, 1) := by decide +kernel
theorem dX11_clause_79 : decode cX11_clause 79 = .ok (.invokevirtual 151, 3) := by decide +kernel
theorem dX11_clause_82 : decode cX11_clause 82 = .ok (.aload_n 0, 1) := by decide +kernel
theorem dX11_clause_83 : decode cX11_clause 83 = .ok (.getfield 99, 3) := by decide +kernel
theorem dX11_clause_86 : decode cX11_clause 86 = .ok (.ifCond .ne 22, 3) := by decide +kernel
theorem dX11_clause_89 : decode cX11_clause 89 = .ok (.aload_n 0, 1) := by decide +kernel
theorem dX11_clause_90 : decode cX11_clause 90 = .ok (.bipush 9, 2) := by decide +kernel
theorem dX11_clause_92 : decode cX11_clause 92 = .ok (.bipush 6, 2) := by decide +kernel
theorem dX11_clause_94 : decode cX11_clause 94 = .ok (.iconst 0, 1) := by decide +kernel
theorem dX11_clause_95 : decode cX11_clause 95 = .ok (.iconst 0, 1) := by decide +kernel
theorem dX11_clause_96 : decode cX11_clause 96 = .ok (.iconst 0, 1) := by decide +kernel
theorem dX11_clause_97 : decode cX11_clause 97 = .ok (.iconst 0, 1) := by decide +kernel
theorem dX11_clause_98 : decode cX11_clause 98 = .ok (.invokevirtual 135, 3) := by decide +kernel
theorem dX11_clause_101 : decode cX11_clause 101 = .ok (.ifCond .eq 7, 3) := by decide +kernel
theorem dX11_clause_104 : decode cX11_clause 104 = .ok (.iconst 1, 1) := by decide +kernel
theorem dX11_clause_105 : decode cX11_clause 105 = .ok (.goto 4, 3) := by decide +kernel
theorem dX11_clause_108 : decode cX11_clause 108 = .ok (.iconst 0, 1) := by decide +kernel
theorem dX11_clause_109 : decode cX11_clause 109 = .ok (.istore 4, 2) := by decide +kernel
theorem dX11_clause_111 : decode cX11_clause 111 = .ok (.iload 4, 2) := by decide +kernel
theorem dX11_clause_113 : decode cX11_clause 113 = .ok (.ifCond .eq 11, 3) := by decide +kernel
theorem dX11_clause_116 : decode cX11_clause 116 = .ok (.aload_n 0, 1) := by decide +kernel
theorem dX11_clause_117 : decode cX11_clause 117 = .ok (.invokevirtual 145, 3) := by decide +kernel
theorem dX11_clause_120 : decode cX11_clause 120 = .ok (.aload_n 0, 1) := by decide +kernel
theorem dX11_clause_121 : decode cX11_clause 121 = .ok (.invokevirtual 166, 3) := by decide +kernel
theorem dX11_clause_124 : decode cX11_clause 124 = .ok (.aload_n 0, 1) := by decide +kernel
theorem dX11_clause_125 : decode cX11_clause 125 = .ok (.bipush 59, 2) := by decide +kernel
theorem dX11_clause_127 : decode cX11_clause 127 = .ok (.invokevirtual 154, 3) := by decide +kernel
theorem dX11_clause_130 : decode cX11_clause 130 = .ok (.aload_n 0, 1) := by decide +kernel
theorem dX11_clause_131 : decode cX11_clause 131 = .ok (.iload 4, 2) := by decide +kernel
theorem dX11_clause_133 : decode cX11_clause 133 = .ok (.ifCond .eq 19, 3) := by decide +kernel
theorem dX11_clause_136 : decode cX11_clause 136 = .ok (.iload_n 2, 1) := by decide +kernel
theorem dX11_clause_137 : decode cX11_clause 137 = .ok (.ifCond .eq 9, 3) := by decide +kernel
theorem dX11_clause_140 : decode cX11_clause 140 = .ok (.sipush 10042, 3) := by decide +kernel
theorem dX11_clause_143 : decode cX11_clause 143 = .ok (.goto 22, 3) := by decide +kernel
theorem dX11_clause_146 : decode cX11_clause 146 = .ok (.sipush 10043, 3) := by decide +kernel
theorem dX11_clause_149 : decode cX11_clause 149 = .ok (.goto 16, 3) := by decide +kernel
theorem dX11_clause_152 : decode cX11_clause 152 = .ok (.iload_n 2, 1) := by decide +kernel
theorem dX11_clause_153 : decode cX11_clause 153 = .ok (.ifCond .eq 9, 3) := by decide +kernel
theorem dX11_clause_156 : decode cX11_clause 156 = .ok (.sipush 10040, 3) := by decide +kernel
theorem dX11_clause_159 : decode cX11_clause 159 = .ok (.goto 6, 3) := by decide +kernel
theorem dX11_clause_162 : decode cX11_clause 162 = .ok (.sipush 10041, 3) := by decide +kernel
theorem dX11_clause_165 : decode cX11_clause 165 = .ok (.invokevirtual 117, 3) := by decide +kernel
theorem dX11_clause_168 : decode cX11_clause 168 = .ok (.return_, 1) := by decide +kernel
theorem dX11_law_0 : decode cX11_law 0 = .ok (.aload_n 0, 1) := by decide +kernel
theorem dX11_law_1 : decode cX11_law 1 = .ok (.iconst 0, 1) := by decide +kernel
theorem dX11_law_2 : decode cX11_law 2 = .ok (.putfield 83, 3) := by decide +kernel
theorem dX11_law_5 : decode cX11_law 5 = .ok (.aload_n 0, 1) := by decide +kernel
theorem dX11_law_6 : decode cX11_law 6 = .ok (.iload_n 1, 1) := by decide +kernel
theorem dX11_law_7 : decode cX11_law 7 = .ok (.iconst 0, 1) := by decide +kernel
theorem dX11_law_8 : decode cX11_law 8 = .ok (.aload_n 0, 1) := by decide +kernel
theorem dX11_law_9 : decode cX11_law 9 = .ok (.getfield 86, 3) := by decide +kernel
theorem dX11_law_12 : decode cX11_law 12 = .ok (.invokestatic 172, 3) := by decide +kernel
theorem dX11_law_15 : decode cX11_law 15 = .ok (.ifCond .ne 7, 3) := by decide +kernel
theorem dX11_law_18 : decode cX11_law 18 = .ok (.iconst 1, 1) := by decide +kernel
theorem dX11_law_19 : decode cX11_law 19 = .ok (.goto 4, 3) := by decide +kernel
theorem dX11_law_22 : decode cX11_law 22 = .ok (.iconst 0, 1) := by decide +kernel
theorem dX11_law_23 : decode cX11_law 23 = .ok (.iconst 1, 1) := by decide +kernel
theorem dX11_law_24 : decode cX11_law 24 = .ok (.invokevirtual 176, 3) := by decide +kernel
theorem dX11_law_27 : decode cX11_law 27 = .ok (.ifCond .eq 5, 3) := by decide +kernel
theorem dX11_law_30 : decode cX11_law 30 = .ok (.iconst 0, 1) := by decide +kernel
theorem dX11_law_31 : decode cX11_law 31 = .ok (.ireturn, 1) := by decide +kernel
theorem dX11_law_32 : decode cX11_law 32 = .ok (.aload_n 0, 1) := by decide +kernel
theorem dX11_law_33 : decode cX11_law 33 = .ok (.iconst 0, 1) := by decide +kernel
theorem dX11_law_34 : decode cX11_law 34 = .ok (.putfield 86, 3) := by decide +kernel
theorem dX11_law_37 : decode cX11_law 37 = .ok (.aload_n 0, 1) := by decide +kernel
theorem dX11_law_38 : decode cX11_law 38 = .ok (.iconst (-1), 1) := by decide +kernel
theorem dX11_law_39 : decode cX11_law 39 = .ok (.putfield 9, 3) := by decide +kernel
theorem dX11_law_42 : decode cX11_law 42 = .ok (.aload_n 0, 1) := by decide +kernel
theorem dX11_law_43 : decode cX11_law 43 = .ok (.getfield 180, 3) := by decide +kernel
theorem dX11_law_46 : decode cX11_law 46 = .ok (.iconst 4, 1) := by decide +kernel
theorem dX11_law_47 : decode cX11_law 47 = .ok (.if_icmp .ne 5, 3) := by decide +kernel
theorem dX11_law_50 : decode cX11_law 50 = .ok (.iconst (-1), 1) := by decide +kernel
theorem dX11_law_51 : decode cX11_law 51 = .ok (.ireturn, 1) := by decide +kernel
theorem dX11_law_52 : decode cX11_law 52 = .ok (.aload_n 0, 1) := by decide +kernel
theorem dX11_law_53 : decode cX11_law 53 = .ok (.iload_n 1, 1) := by decide +kernel
theorem dX11_law_54 : decode cX11_law 54 = .ok (.putfield 89, 3) := by decide +kernel
theorem dX11_law_57 : decode cX11_law 57 = .ok (.aload_n 0, 1) := by decide +kernel
theorem dX11_law_58 : decode cX11_law 58 = .ok (.iconst 0, 1) := by decide +kernel
theorem dX11_law_59 : decode cX11_law 59 = .ok (.putfield 92, 3) := by decide +kernel
theorem dX11_law_62 : decode cX11_law 62 = .ok (.aload_n 0, 1) := by decide +kernel
theorem dX11_law_63 : decode cX11_law 63 = .ok (.iconst 0, 1) := by decide +kernel
theorem dX11_law_64 : decode cX11_law 64 = .ok (.putfield 132, 3) := by decide +kernel
theorem dX11_law_67 : decode cX11_law 67 = .ok (.aload_n 0, 1) := by decide +kernel
theorem dX11_law_68 : decode cX11_law 68 = .ok (.iconst 0, 1) := by decide +kernel
theorem dX11_law_69 : decode cX11_law 69 = .ok (.putfield 99, 3) := by decide +kernel
theorem dX11_law_72 : decode cX11_law 72 = .ok (.aload_n 0, 1) := by decide +kernel
theorem dX11_law_73 : decode cX11_law 73 = .ok (.iconst (-1), 1) := by decide +kernel
theorem dX11_law_74 : decode cX11_law 74 = .ok (.putfield 102, 3) := by decide +kernel
theorem dX11_law_77 : decode cX11_law 77 = .ok (.aload_n 0, 1) := by decide +kernel
theorem dX11_law_78 : decode cX11_law 78 = .ok (.iconst 0, 1) := by decide +kernel
theorem dX11_law_79 : decode cX11_law 79 = .ok (.putfield 105, 3) := by decide +kernel
theorem dX11_law_82 : decode cX11_law 82 = .ok (.aload_n 0, 1) := by decide +kernel
theorem dX11_law_83 : decode cX11_law 83 = .ok (.invokevirtual 121, 3) := by decide +kernel
theorem dX11_law_86 : decode cX11_law 86 = .ok (.iconst 0, 1) := by decide +kernel
theorem dX11_law_87 : decode cX11_law 87 = .ok (.istore_n 2, 1) := by decide +kernel
theorem dX11_law_88 : decode cX11_law 88 = .ok (.aload_n 0, 1) := by decide +kernel
theorem dX11_law_89 : decode cX11_law 89 = .ok (.getfield 99, 3) := by decide +kernel
theorem dX11_law_92 : decode cX11_law 92 = .ok (.ifCond .ne 29, 3) := by decide +kernel
theorem dX11_law_95 : decode cX11_law 95 = .ok (.aload_n 0, 1) := by decide +kernel
theorem dX11_law_96 : decode cX11_law 96 = .ok (.getfield 92, 3) := by decide +kernel
theorem dX11_law_99 : decode cX11_law 99 = .ok (.aload_n 0, 1) := by decide +kernel
theorem dX11_law_100 : decode cX11_law 100 = .ok (.getfield 89, 3) := by decide +kernel
theorem dX11_law_103 : decode cX11_law 103 = .ok (.if_icmp .ge 18, 3) := by decide +kernel
theorem dX11_law_106 : decode cX11_law 106 = .ok (.aload_n 0, 1) := by decide +kernel
theorem dX11_law_107 : decode cX11_law 107 = .ok (.iload_n 2, 1) := by decide +kernel
theorem dX11_law_108 : decode cX11_law 108 = .ok (.invokevirtual 183, 3) := by decide +kernel
theorem dX11_law_111 : decode cX11_law 111 = .ok (.aload_n 0, 1) := by decide +kernel
theorem dX11_law_112 : decode cX11_law 112 = .ok (.invokevirtual 121, 3) := by decide +kernel
theorem dX11_law_115 : decode cX11_law 115 = .ok (.iinc 2 1, 3) := by decide +kernel
theorem dX11_law_118 : decode cX11_law 118 = .ok (.goto (-30), 3) := by decide +kernel
theorem dX11_law_121 : decode cX11_law 121 = .ok (.aload_n 0, 1) := by decide +kernel
theorem dX11_law_122 : decode cX11_law 122 = .ok (.aload_n 0, 1) := by decide +kernel
theorem dX11_law_123 : decode cX11_law 123 = .ok (.getfield 102, 3) := by decide +kernel
theorem dX11_law_126 : decode cX11_law 126 = .ok (.putfield 9, 3) := by decide +kernel
theorem dX11_law_129 : decode cX11_law 129 = .ok (.aload_n 0, 1) := by decide +kernel
theorem dX11_law_130 : decode cX11_law 130 = .ok (.getfield 99, 3) := by decide +kernel
theorem dX11_law_133 : decode cX11_law 133 = .ok (.ifCond .eq 11, 3) := by decide +kernel
theorem dX11_law_136 : decode cX11_law 136 = .ok (.aload_n 0, 1) := by decide +kernel
theorem dX11_law_137 : decode cX11_law 137 = .ok (.getfield 99, 3) := by decide +kernel
theorem dX11_law_140 : decode cX11_law 140 = .ok (.bipush 10, 2) := by decide +kernel
theorem dX11_law_142 : decode cX11_law 142 = .ok (.isub, 1) := by decide +kernel
theorem dX11_law_143 : decode cX11_law 143 = .ok (.ireturn, 1) := by decide +kernel
theorem dX11_law_144 : decode cX11_law 144 = .ok (.iconst 0, 1) := by decide +kernel
theorem dX11_law_145 : decode cX11_law 145 = .ok (.istore_n 2, 1) := by decide +kernel
theorem dX11_law_146 : decode cX11_law 146 = .ok (.iload_n 2, 1) := by decide +kernel
theorem dX11_law_147 : decode cX11_law 147 = .ok (.aload_n 0, 1) := by decide +kernel
theorem dX11_law_148 : decode cX11_law 148 = .ok (.getfield 105, 3) := by decide +kernel
theorem dX11_law_151 : decode cX11_law 151 = .ok (.if_icmp .ge 26, 3) := by decide +kernel
theorem dX11_law_154 : decode cX11_law 154 = .ok (.aload_n 0, 1) := by decide +kernel
theorem dX11_law_155 : decode cX11_law 155 = .ok (.getfield 22, 3) := by decide +kernel
theorem dX11_law_158 : decode cX11_law 158 = .ok (.aload_n 0, 1) := by decide +kernel
theorem dX11_law_159 : decode cX11_law 159 = .ok (.getfield 180, 3) := by decide +kernel
theorem dX11_law_162 : decode cX11_law 162 = .ok (.aaload, 1) := by decide +kernel
theorem dX11_law_163 : decode cX11_law 163 = .ok (.iload_n 2, 1) := by decide +kernel
theorem dX11_law_164 : decode cX11_law 164 = .ok (.aload_n 0, 1) := by decide +kernel
theorem dX11_law_165 : decode cX11_law 165 = .ok (.getfield 17, 3) := by decide +kernel
theorem dX11_law_168 : decode cX11_law 168 = .ok (.iload_n 2, 1) := by decide +kernel
theorem dX11_law_169 : decode cX11_law 169 = .ok (.iaload, 1) := by decide +kernel
theorem dX11_law_170 : decode cX11_law 170 = .ok (.iastore, 1) := by decide +kernel
theorem dX11_law_171 : decode cX11_law 171 = .ok (.iinc 2 1, 3) := by decide +kernel
theorem dX11_law_174 : decode cX11_law 174 = .ok (.goto (-28), 3) := by decide +kernel
theorem dX11_law_177 : decode cX11_law 177 = .ok (.aload_n 0, 1) := by decide +kernel
theorem dX11_law_178 : decode cX11_law 178 = .ok (.getfield 25, 3) := by decide +kernel
theorem dX11_law_181 : decode cX11_law 181 = .ok (.aload_n 0, 1) := by decide +kernel
theorem dX11_law_182 : decode cX11_law 182 = .ok (.getfield 180, 3) := by decide +kernel
theorem dX11_law_185 : decode cX11_law 185 = .ok (.aload_n 0, 1) := by decide +kernel
theorem dX11_law_186 : decode cX11_law 186 = .ok (.getfield 105, 3) := by decide +kernel
theorem dX11_law_189 : decode cX11_law 189 = .ok (.iastore, 1) := by decide +kernel
theorem dX11_law_190 : decode cX11_law 190 = .ok (.aload_n 0, 1) := by decide +kernel
theorem dX11_law_191 : decode cX11_law 191 = .ok (.dup, 1) := by decide +kernel
theorem dX11_law_192 : decode cX11_law 192 = .ok (.getfield 180, 3) := by decide +kernel
theorem dX11_law_195 : decode cX11_law 195 = .ok (.iconst 1, 1) := by decide +kernel
theorem dX11_law_196 : decode cX11_law 196 = .ok (.iadd, 1) := by decide +kernel
theorem dX11_law_197 : decode cX11_law 197 = .ok (.putfield 180, 3) := by decide +kernel
theorem dX11_law_200 : decode cX11_law 200 = .ok (.aload_n 0, 1) := by decide +kernel
theorem dX11_law_201 : decode cX11_law 201 = .ok (.getfield 180, 3) := by decide +kernel
theorem dX11_law_204 : decode cX11_law 204 = .ok (.iconst 1, 1) := by decide +kernel
theorem dX11_law_205 : decode cX11_law 205 = .ok (.isub, 1) := by decide +kernel
theorem dX11_law_206 : decode cX11_law 206 = .ok (.ireturn, 1) := by decide +kernel
theorem dX11_fault_0 : decode cX11_fault 0 = .ok (.aload_n 0, 1) := by decide +kernel
theorem dX11_fault_1 : decode cX11_fault 1 = .ok (.iconst 0, 1) := by decide +kernel
theorem dX11_fault_2 : decode cX11_fault 2 = .ok (.putfield 83, 3) := by decide +kernel
theorem dX11_fault_5 : decode cX11_fault 5 = .ok (.aload_n 0, 1) := by decide +kernel
theorem dX11_fault_6 : decode cX11_fault 6 = .ok (.getfield 9, 3) := by decide +kernel
theorem dX11_fault_9 : decode cX11_fault 9 = .ok (.ireturn, 1) := by decide +kernel
theorem dX11_worked_0 : decode cX11_worked 0 = .ok (.iload_n 0, 1) := by decide +kernel
theorem dX11_worked_1 : decode cX11_worked 1 = .ok (.tableswitch 158 10020 10034 #[75, 79, 83, 87, 99, 110, 158, 158, 158, 158, 121, 132, 143, 158, 154], 75) := by decide +kernel
theorem dX11_worked_76 : decode cX11_worked 76 = .ok (.iload_n 1, 1) := by decide +kernel
theorem dX11_worked_77 : decode cX11_worked 77 = .ok (.iload_n 2, 1) := by decide +kernel
theorem dX11_worked_78 : decode cX11_worked 78 = .ok (.iadd, 1) := by decide +kernel
theorem dX11_worked_79 : decode cX11_worked 79 = .ok (.ireturn, 1) := by decide +kernel
theorem dX11_worked_80 : decode cX11_worked 80 = .ok (.iload_n 1, 1) := by decide +kernel
theorem dX11_worked_81 : decode cX11_worked 81 = .ok (.iload_n 2, 1) := by decide +kernel
theorem dX11_worked_82 : decode cX11_worked 82 = .ok (.isub, 1) := by decide +kernel
theorem dX11_worked_83 : decode cX11_worked 83 = .ok (.ireturn, 1) := by decide +kernel
theorem dX11_worked_84 : decode cX11_worked 84 = .ok (.iload_n 1, 1) := by decide +kernel
theorem dX11_worked_85 : decode cX11_worked 85 = .ok (.iload_n 2, 1) := by decide +kernel
theorem dX11_worked_86 : decode cX11_worked 86 = .ok (.imul, 1) := by decide +kernel
theorem dX11_worked_87 : decode cX11_worked 87 = .ok (.ireturn, 1) := by decide +kernel
theorem dX11_worked_88 : decode cX11_worked 88 = .ok (.iload_n 2, 1) := by decide +kernel
theorem dX11_worked_89 : decode cX11_worked 89 = .ok (.ifCond .ne 7, 3) := by decide +kernel
theorem dX11_worked_92 : decode cX11_worked 92 = .ok (.iconst 0, 1) := by decide +kernel
theorem dX11_worked_93 : decode cX11_worked 93 = .ok (.goto 6, 3) := by decide +kernel
theorem dX11_worked_96 : decode cX11_worked 96 = .ok (.iload_n 1, 1) := by decide +kernel
theorem dX11_worked_97 : decode cX11_worked 97 = .ok (.iload_n 2, 1) := by decide +kernel
theorem dX11_worked_98 : decode cX11_worked 98 = .ok (.idiv, 1) := by decide +kernel
theorem dX11_worked_99 : decode cX11_worked 99 = .ok (.ireturn, 1) := by decide +kernel
theorem dX11_worked_100 : decode cX11_worked 100 = .ok (.iload_n 1, 1) := by decide +kernel
theorem dX11_worked_101 : decode cX11_worked 101 = .ok (.iload_n 2, 1) := by decide +kernel
theorem dX11_worked_102 : decode cX11_worked 102 = .ok (.if_icmp .ge 7, 3) := by decide +kernel
theorem dX11_worked_105 : decode cX11_worked 105 = .ok (.iload_n 1, 1) := by decide +kernel
theorem dX11_worked_106 : decode cX11_worked 106 = .ok (.goto 4, 3) := by decide +kernel
theorem dX11_worked_109 : decode cX11_worked 109 = .ok (.iload_n 2, 1) := by decide +kernel
theorem dX11_worked_110 : decode cX11_worked 110 = .ok (.ireturn, 1) := by decide +kernel
theorem dX11_worked_111 : decode cX11_worked 111 = .ok (.iload_n 1, 1) := by decide +kernel
theorem dX11_worked_112 : decode cX11_worked 112 = .ok (.iload_n 2, 1) := by decide +kernel
theorem dX11_worked_113 : decode cX11_worked 113 = .ok (.if_icmp .le 7, 3) := by decide +kernel
theorem dX11_worked_116 : decode cX11_worked 116 = .ok (.iload_n 1, 1) := by decide +kernel
theorem dX11_worked_117 : decode cX11_worked 117 = .ok (.goto 4, 3) := by decide +kernel
theorem dX11_worked_120 : decode cX11_worked 120 = .ok (.iload_n 2, 1) := by decide +kernel
theorem dX11_worked_121 : decode cX11_worked 121 = .ok (.ireturn, 1) := by decide +kernel
theorem dX11_worked_122 : decode cX11_worked 122 = .ok (.iload_n 1, 1) := by decide +kernel
theorem dX11_worked_123 : decode cX11_worked 123 = .ok (.iload_n 2, 1) := by decide +kernel
theorem dX11_worked_124 : decode cX11_worked 124 = .ok (.if_icmp .ge 7, 3) := by decide +kernel
theorem dX11_worked_127 : decode cX11_worked 127 = .ok (.iconst 1, 1) := by decide +kernel
theorem dX11_worked_128 : decode cX11_worked 128 = .ok (.goto 4, 3) := by decide +kernel
theorem dX11_worked_131 : decode cX11_worked 131 = .ok (.iconst 0, 1) := by decide +kernel
theorem dX11_worked_132 : decode cX11_worked 132 = .ok (.ireturn, 1) := by decide +kernel
theorem dX11_worked_133 : decode cX11_worked 133 = .ok (.iload_n 1, 1) := by decide +kernel
theorem dX11_worked_134 : decode cX11_worked 134 = .ok (.iload_n 2, 1) := by decide +kernel
theorem dX11_worked_135 : decode cX11_worked 135 = .ok (.if_icmp .le 7, 3) := by decide +kernel
theorem dX11_worked_138 : decode cX11_worked 138 = .ok (.iconst 1, 1) := by decide +kernel
theorem dX11_worked_139 : decode cX11_worked 139 = .ok (.goto 4, 3) := by decide +kernel
theorem dX11_worked_142 : decode cX11_worked 142 = .ok (.iconst 0, 1) := by decide +kernel
theorem dX11_worked_143 : decode cX11_worked 143 = .ok (.ireturn, 1) := by decide +kernel
theorem dX11_worked_144 : decode cX11_worked 144 = .ok (.iload_n 1, 1) := by decide +kernel
theorem dX11_worked_145 : decode cX11_worked 145 = .ok (.iload_n 2, 1) := by decide +kernel
theorem dX11_worked_146 : decode cX11_worked 146 = .ok (.if_icmp .ne 7, 3) := by decide +kernel
theorem dX11_worked_149 : decode cX11_worked 149 = .ok (.iconst 1, 1) := by decide +kernel
theorem dX11_worked_150 : decode cX11_worked 150 = .ok (.goto 4, 3) := by decide +kernel
theorem dX11_worked_153 : decode cX11_worked 153 = .ok (.iconst 0, 1) := by decide +kernel
theorem dX11_worked_154 : decode cX11_worked 154 = .ok (.ireturn, 1) := by decide +kernel
theorem dX11_worked_155 : decode cX11_worked 155 = .ok (.iload_n 1, 1) := by decide +kernel
theorem dX11_worked_156 : decode cX11_worked 156 = .ok (.iload_n 2, 1) := by decide +kernel
theorem dX11_worked_157 : decode cX11_worked 157 = .ok (.iand, 1) := by decide +kernel
theorem dX11_worked_158 : decode cX11_worked 158 = .ok (.ireturn, 1) := by decide +kernel
theorem dX11_worked_159 : decode cX11_worked 159 = .ok (.iload_n 1, 1) := by decide +kernel
theorem dX11_worked_160 : decode cX11_worked 160 = .ok (.iload_n 2, 1) := by decide +kernel
theorem dX11_worked_161 : decode cX11_worked 161 = .ok (.ior, 1) := by decide +kernel
theorem dX11_worked_162 : decode cX11_worked 162 = .ok (.ireturn, 1) := by decide +kernel
theorem dX11_asks_0 : decode cX11_asks 0 = .ok (.iconst 0, 1) := by decide +kernel
theorem dX11_asks_1 : decode cX11_asks 1 = .ok (.istore_n 2, 1) := by decide +kernel
theorem dX11_asks_2 : decode cX11_asks 2 = .ok (.iconst 0, 1) := by decide +kernel
theorem dX11_asks_3 : decode cX11_asks 3 = .ok (.istore_n 3, 1) := by decide +kernel
theorem dX11_asks_4 : decode cX11_asks 4 = .ok (.iconst 0, 1) := by decide +kernel
theorem dX11_asks_5 : decode cX11_asks 5 = .ok (.istore 4, 2) := by decide +kernel
theorem dX11_asks_7 : decode cX11_asks 7 = .ok (.iconst 0, 1) := by decide +kernel
theorem dX11_asks_8 : decode cX11_asks 8 = .ok (.istore 5, 2) := by decide +kernel
theorem dX11_asks_10 : decode cX11_asks 10 = .ok (.iload 5, 2) := by decide +kernel
theorem dX11_asks_12 : decode cX11_asks 12 = .ok (.aload_n 0, 1) := by decide +kernel
theorem dX11_asks_13 : decode cX11_asks 13 = .ok (.getfield 25, 3) := by decide +kernel
theorem dX11_asks_16 : decode cX11_asks 16 = .ok (.iload_n 1, 1) := by decide +kernel
theorem dX11_asks_17 : decode cX11_asks 17 = .ok (.iaload, 1) := by decide +kernel
theorem dX11_asks_18 : decode cX11_asks 18 = .ok (.if_icmp .ge 256, 3) := by decide +kernel
theorem dX11_asks_21 : decode cX11_asks 21 = .ok (.aload_n 0, 1) := by decide +kernel
theorem dX11_asks_22 : decode cX11_asks 22 = .ok (.getfield 22, 3) := by decide +kernel
theorem dX11_asks_25 : decode cX11_asks 25 = .ok (.iload_n 1, 1) := by decide +kernel
theorem dX11_asks_26 : decode cX11_asks 26 = .ok (.aaload, 1) := by decide +kernel
theorem dX11_asks_27 : decode cX11_asks 27 = .ok (.iload 5, 2) := by decide +kernel
theorem dX11_asks_29 : decode cX11_asks 29 = .ok (.iaload, 1) := by decide +kernel
theorem dX11_asks_30 : decode cX11_asks 30 = .ok (.istore 6, 2) := by decide +kernel
theorem dX11_asks_32 : decode cX11_asks 32 = .ok (.iload 6, 2) := by decide +kernel
theorem dX11_asks_34 : decode cX11_asks 34 = .ok (.sipush 10020, 3) := by decide +kernel
theorem dX11_asks_37 : decode cX11_asks 37 = .ok (.if_icmp .ge 39, 3) := by decide +kernel
theorem dX11_asks_40 : decode cX11_asks 40 = .ok (.aload_n 0, 1) := by decide +kernel
theorem dX11_asks_41 : decode cX11_asks 41 = .ok (.getfield 28, 3) := by decide +kernel
theorem dX11_asks_44 : decode cX11_asks 44 = .ok (.iload_n 2, 1) := by decide +kernel
theorem dX11_asks_45 : decode cX11_asks 45 = .ok (.iload 6, 2) := by decide +kernel
theorem dX11_asks_47 : decode cX11_asks 47 = .ok (.sipush 10000, 3) := by decide +kernel
theorem dX11_asks_50 : decode cX11_asks 50 = .ok (.if_icmp .ge 8, 3) := by decide +kernel
theorem dX11_asks_53 : decode cX11_asks 53 = .ok (.iload 6, 2) := by decide +kernel
theorem dX11_asks_55 : decode cX11_asks 55 = .ok (.goto 14, 3) := by decide +kernel
theorem dX11_asks_58 : decode cX11_asks 58 = .ok (.aload_n 0, 1) := by decide +kernel
theorem dX11_asks_59 : decode cX11_asks 59 = .ok (.getfield 31, 3) := by decide +kernel
theorem dX11_asks_62 : decode cX11_asks 62 = .ok (.iload 6, 2) := by decide +kernel
theorem dX11_asks_64 : decode cX11_asks 64 = .ok (.sipush 10000, 3) := by decide +kernel
theorem dX11_asks_67 : decode cX11_asks 67 = .ok (.isub, 1) := by decide +kernel
theorem dX11_asks_68 : decode cX11_asks 68 = .ok (.iaload, 1) := by decide +kernel
theorem dX11_asks_69 : decode cX11_asks 69 = .ok (.iastore, 1) := by decide +kernel
theorem dX11_asks_70 : decode cX11_asks 70 = .ok (.iinc 2 1, 3) := by decide +kernel
theorem dX11_asks_73 : decode cX11_asks 73 = .ok (.goto 195, 3) := by decide +kernel
theorem dX11_asks_76 : decode cX11_asks 76 = .ok (.iload 6, 2) := by decide +kernel
theorem dX11_asks_78 : decode cX11_asks 78 = .ok (.sipush 10026, 3) := by decide +kernel
theorem dX11_asks_81 : decode cX11_asks 81 = .ok (.if_icmp .ne 45, 3) := by decide +kernel
theorem dX11_asks_84 : decode cX11_asks 84 = .ok (.aload_n 0, 1) := by decide +kernel
theorem dX11_asks_85 : decode cX11_asks 85 = .ok (.getfield 28, 3) := by decide +kernel
theorem dX11_asks_88 : decode cX11_asks 88 = .ok (.iload_n 2, 1) := by decide +kernel
theorem dX11_asks_89 : decode cX11_asks 89 = .ok (.iconst 1, 1) := by decide +kernel
theorem dX11_asks_90 : decode cX11_asks 90 = .ok (.isub, 1) := by decide +kernel
theorem dX11_asks_91 : decode cX11_asks 91 = .ok (.aload_n 0, 1) := by decide +kernel
theorem dX11_asks_92 : decode cX11_asks 92 = .ok (.getfield 28, 3) := by decide +kernel
theorem dX11_asks_95 : decode cX11_asks 95 = .ok (.iload_n 2, 1) := by decide +kernel
theorem dX11_asks_96 : decode cX11_asks 96 = .ok (.iconst 1, 1) := by decide +kernel
theorem dX11_asks_97 : decode cX11_asks 97 = .ok (.isub, 1) := by decide +kernel
theorem dX11_asks_98 : decode cX11_asks 98 = .ok (.iaload, 1) := by decide +kernel
theorem dX11_asks_99 : decode cX11_asks 99 = .ok (.ifCond .le 7, 3) := by decide +kernel
theorem dX11_asks_102 : decode cX11_asks 102 = .ok (.iconst 1, 1) := by decide +kernel
theorem dX11_asks_103 : decode cX11_asks 103 = .ok (.goto 19, 3) := by decide +kernel
theorem dX11_asks_106 : decode cX11_asks 106 = .ok (.aload_n 0, 1) := by decide +kernel
theorem dX11_asks_107 : decode cX11_asks 107 = .ok (.getfield 28, 3) := by decide +kernel
theorem dX11_asks_110 : decode cX11_asks 110 = .ok (.iload_n 2, 1) := by decide +kernel
theorem dX11_asks_111 : decode cX11_asks 111 = .ok (.iconst 1, 1) := by decide +kernel
theorem dX11_asks_112 : decode cX11_asks 112 = .ok (.isub, 1) := by decide +kernel
theorem dX11_asks_113 : decode cX11_asks 113 = .ok (.iaload, 1) := by decide +kernel
theorem dX11_asks_114 : decode cX11_asks 114 = .ok (.ifCond .ge 7, 3) := by decide +kernel
theorem dX11_asks_117 : decode cX11_asks 117 = .ok (.iconst (-1), 1) := by decide +kernel
theorem dX11_asks_118 : decode cX11_asks 118 = .ok (.goto 4, 3) := by decide +kernel
theorem dX11_asks_121 : decode cX11_asks 121 = .ok (.iconst 0, 1) := by decide +kernel
theorem dX11_asks_122 : decode cX11_asks 122 = .ok (.iastore, 1) := by decide +kernel
theorem dX11_asks_123 : decode cX11_asks 123 = .ok (.goto 145, 3) := by decide +kernel
theorem dX11_asks_126 : decode cX11_asks 126 = .ok (.iload 6, 2) := by decide +kernel
theorem dX11_asks_128 : decode cX11_asks 128 = .ok (.sipush 10033, 3) := by decide +kernel
theorem dX11_asks_131 : decode cX11_asks 131 = .ok (.if_icmp .ne 24, 3) := by decide +kernel
theorem dX11_asks_134 : decode cX11_asks 134 = .ok (.aload_n 0, 1) := by decide +kernel
theorem dX11_asks_135 : decode cX11_asks 135 = .ok (.getfield 28, 3) := by decide +kernel
theorem dX11_asks_138 : decode cX11_asks 138 = .ok (.iload_n 2, 1) := by decide +kernel
theorem dX11_asks_139 : decode cX11_asks 139 = .ok (.iconst 1, 1) := by decide +kernel
theorem dX11_asks_140 : decode cX11_asks 140 = .ok (.isub, 1) := by decide +kernel
theorem dX11_asks_141 : decode cX11_asks 141 = .ok (.iconst 1, 1) := by decide +kernel
theorem dX11_asks_142 : decode cX11_asks 142 = .ok (.aload_n 0, 1) := by decide +kernel
theorem dX11_asks_143 : decode cX11_asks 143 = .ok (.getfield 28, 3) := by decide +kernel
theorem dX11_asks_146 : decode cX11_asks 146 = .ok (.iload_n 2, 1) := by decide +kernel
theorem dX11_asks_147 : decode cX11_asks 147 = .ok (.iconst 1, 1) := by decide +kernel
theorem dX11_asks_148 : decode cX11_asks 148 = .ok (.isub, 1) := by decide +kernel
theorem dX11_asks_149 : decode cX11_asks 149 = .ok (.iaload, 1) := by decide +kernel
theorem dX11_asks_150 : decode cX11_asks 150 = .ok (.isub, 1) := by decide +kernel
theorem dX11_asks_151 : decode cX11_asks 151 = .ok (.iastore, 1) := by decide +kernel
theorem dX11_asks_152 : decode cX11_asks 152 = .ok (.goto 116, 3) := by decide +kernel
theorem dX11_asks_155 : decode cX11_asks 155 = .ok (.iload 6, 2) := by decide +kernel
theorem dX11_asks_157 : decode cX11_asks 157 = .ok (.sipush 10040, 3) := by decide +kernel
theorem dX11_asks_160 : decode cX11_asks 160 = .ok (.if_icmp .ge 36, 3) := by decide +kernel
theorem dX11_asks_163 : decode cX11_asks 163 = .ok (.iinc 2 (-1), 3) := by decide +kernel
theorem dX11_asks_166 : decode cX11_asks 166 = .ok (.aload_n 0, 1) := by decide +kernel
theorem dX11_asks_167 : decode cX11_asks 167 = .ok (.getfield 28, 3) := by decide +kernel
theorem dX11_asks_170 : decode cX11_asks 170 = .ok (.iload_n 2, 1) := by decide +kernel
theorem dX11_asks_171 : decode cX11_asks 171 = .ok (.iconst 1, 1) := by decide +kernel
theorem dX11_asks_172 : decode cX11_asks 172 = .ok (.isub, 1) := by decide +kernel
theorem dX11_asks_173 : decode cX11_asks 173 = .ok (.iload 6, 2) := by decide +kernel
theorem dX11_asks_175 : decode cX11_asks 175 = .ok (.aload_n 0, 1) := by decide +kernel
theorem dX11_asks_176 : decode cX11_asks 176 = .ok (.getfield 28, 3) := by decide +kernel
theorem dX11_asks_179 : decode cX11_asks 179 = .ok (.iload_n 2, 1) := by decide +kernel
theorem dX11_asks_180 : decode cX11_asks 180 = .ok (.iconst 1, 1) := by decide +kernel
theorem dX11_asks_181 : decode cX11_asks 181 = .ok (.isub, 1) := by decide +kernel
theorem dX11_asks_182 : decode cX11_asks 182 = .ok (.iaload, 1) := by decide +kernel
theorem dX11_asks_183 : decode cX11_asks 183 = .ok (.aload_n 0, 1) := by decide +kernel
theorem dX11_asks_184 : decode cX11_asks 184 = .ok (.getfield 28, 3) := by decide +kernel
theorem dX11_asks_187 : decode cX11_asks 187 = .ok (.iload_n 2, 1) := by decide +kernel
theorem dX11_asks_188 : decode cX11_asks 188 = .ok (.iaload, 1) := by decide +kernel
theorem dX11_asks_189 : decode cX11_asks 189 = .ok (.invokestatic 186, 3) := by decide +kernel
theorem dX11_asks_192 : decode cX11_asks 192 = .ok (.iastore, 1) := by decide +kernel
theorem dX11_asks_193 : decode cX11_asks 193 = .ok (.goto 75, 3) := by decide +kernel
theorem dX11_asks_196 : decode cX11_asks 196 = .ok (.iload 6, 2) := by decide +kernel
theorem dX11_asks_198 : decode cX11_asks 198 = .ok (.sipush 10042, 3) := by decide +kernel
theorem dX11_asks_201 : decode cX11_asks 201 = .ok (.if_icmp .ge 12, 3) := by decide +kernel
theorem dX11_asks_204 : decode cX11_asks 204 = .ok (.aload_n 0, 1) := by decide +kernel
theorem dX11_asks_205 : decode cX11_asks 205 = .ok (.getfield 28, 3) := by decide +kernel
theorem dX11_asks_208 : decode cX11_asks 208 = .ok (.iconst 0, 1) := by decide +kernel
theorem dX11_asks_209 : decode cX11_asks 209 = .ok (.iaload, 1) := by decide +kernel
theorem dX11_asks_210 : decode cX11_asks 210 = .ok (.goto 23, 3) := by decide +kernel
theorem dX11_asks_213 : decode cX11_asks 213 = .ok (.aload_n 0, 1) := by decide +kernel
theorem dX11_asks_214 : decode cX11_asks 214 = .ok (.getfield 28, 3) := by decide +kernel
theorem dX11_asks_217 : decode cX11_asks 217 = .ok (.iconst 1, 1) := by decide +kernel
theorem dX11_asks_218 : decode cX11_asks 218 = .ok (.iaload, 1) := by decide +kernel
theorem dX11_asks_219 : decode cX11_asks 219 = .ok (.iconst 1, 1) := by decide +kernel
theorem dX11_asks_220 : decode cX11_asks 220 = .ok (.if_icmp .ne 12, 3) := by decide +kernel
theorem dX11_asks_223 : decode cX11_asks 223 = .ok (.aload_n 0, 1) := by decide +kernel
theorem dX11_asks_224 : decode cX11_asks 224 = .ok (.getfield 28, 3) := by decide +kernel
theorem dX11_asks_227 : decode cX11_asks 227 = .ok (.iconst 0, 1) := by decide +kernel
theorem dX11_asks_228 : decode cX11_asks 228 = .ok (.iaload, 1) := by decide +kernel
theorem dX11_asks_229 : decode cX11_asks 229 = .ok (.goto 4, 3) := by decide +kernel
theorem dX11_asks_232 : decode cX11_asks 232 = .ok (.iconst 0, 1) := by decide +kernel
theorem dX11_asks_233 : decode cX11_asks 233 = .ok (.istore 7, 2) := by decide +kernel
theorem dX11_asks_235 : decode cX11_asks 235 = .ok (.iload 6, 2) := by decide +kernel
theorem dX11_asks_237 : decode cX11_asks 237 = .ok (.sipush 10040, 3) := by decide +kernel
theorem dX11_asks_240 : decode cX11_asks 240 = .ok (.if_icmp .eq 11, 3) := by decide +kernel
theorem dX11_asks_243 : decode cX11_asks 243 = .ok (.iload 6, 2) := by decide +kernel
theorem dX11_asks_245 : decode cX11_asks 245 = .ok (.sipush 10042, 3) := by decide +kernel
theorem dX11_asks_248 : decode cX11_asks 248 = .ok (.if_icmp .ne 11, 3) := by decide +kernel
theorem dX11_asks_251 : decode cX11_asks 251 = .ok (.iload_n 3, 1) := by decide +kernel
theorem dX11_asks_252 : decode cX11_asks 252 = .ok (.iload 7, 2) := by decide +kernel
theorem dX11_asks_254 : decode cX11_asks 254 = .ok (.iadd, 1) := by decide +kernel
theorem dX11_asks_255 : decode cX11_asks 255 = .ok (.istore_n 3, 1) := by decide +kernel
theorem dX11_asks_256 : decode cX11_asks 256 = .ok (.goto 10, 3) := by decide +kernel
theorem dX11_asks_259 : decode cX11_asks 259 = .ok (.iload 4, 2) := by decide +kernel
theorem dX11_asks_261 : decode cX11_asks 261 = .ok (.iload 7, 2) := by decide +kernel
theorem dX11_asks_263 : decode cX11_asks 263 = .ok (.iadd, 1) := by decide +kernel
theorem dX11_asks_264 : decode cX11_asks 264 = .ok (.istore 4, 2) := by decide +kernel
theorem dX11_asks_266 : decode cX11_asks 266 = .ok (.iconst 0, 1) := by decide +kernel
theorem dX11_asks_267 : decode cX11_asks 267 = .ok (.istore_n 2, 1) := by decide +kernel
theorem dX11_asks_268 : decode cX11_asks 268 = .ok (.iinc 5 1, 3) := by decide +kernel
theorem dX11_asks_271 : decode cX11_asks 271 = .ok (.goto (-261), 3) := by decide +kernel
theorem dX11_asks_274 : decode cX11_asks 274 = .ok (.aload_n 0, 1) := by decide +kernel
theorem dX11_asks_275 : decode cX11_asks 275 = .ok (.iload_n 3, 1) := by decide +kernel
theorem dX11_asks_276 : decode cX11_asks 276 = .ok (.ldc 190, 2) := by decide +kernel
theorem dX11_asks_278 : decode cX11_asks 278 = .ok (.ldc 112, 2) := by decide +kernel
theorem dX11_asks_280 : decode cX11_asks 280 = .ok (.invokestatic 191, 3) := by decide +kernel
theorem dX11_asks_283 : decode cX11_asks 283 = .ok (.aload_n 0, 1) := by decide +kernel
theorem dX11_asks_284 : decode cX11_asks 284 = .ok (.getfield 34, 3) := by decide +kernel
theorem dX11_asks_287 : decode cX11_asks 287 = .ok (.imul, 1) := by decide +kernel
theorem dX11_asks_288 : decode cX11_asks 288 = .ok (.bipush 100, 2) := by decide +kernel
theorem dX11_asks_290 : decode cX11_asks 290 = .ok (.idiv, 1) := by decide +kernel
theorem dX11_asks_291 : decode cX11_asks 291 = .ok (.putfield 194, 3) := by decide +kernel
theorem dX11_asks_294 : decode cX11_asks 294 = .ok (.aload_n 0, 1) := by decide +kernel
theorem dX11_asks_295 : decode cX11_asks 295 = .ok (.iload 4, 2) := by decide +kernel
theorem dX11_asks_297 : decode cX11_asks 297 = .ok (.ldc 190, 2) := by decide +kernel
theorem dX11_asks_299 : decode cX11_asks 299 = .ok (.ldc 112, 2) := by decide +kernel
theorem dX11_asks_301 : decode cX11_asks 301 = .ok (.invokestatic 191, 3) := by decide +kernel
theorem dX11_asks_304 : decode cX11_asks 304 = .ok (.aload_n 0, 1) := by decide +kernel
theorem dX11_asks_305 : decode cX11_asks 305 = .ok (.getfield 34, 3) := by decide +kernel
theorem dX11_asks_308 : decode cX11_asks 308 = .ok (.imul, 1) := by decide +kernel
theorem dX11_asks_309 : decode cX11_asks 309 = .ok (.bipush 100, 2) := by decide +kernel
theorem dX11_asks_311 : decode cX11_asks 311 = .ok (.idiv, 1) := by decide +kernel
theorem dX11_asks_312 : decode cX11_asks 312 = .ok (.putfield 197, 3) := by decide +kernel
theorem dX11_asks_315 : decode cX11_asks 315 = .ok (.return_, 1) := by decide +kernel
theorem dX11_deck_0 : decode cX11_deck 0 = .ok (.aload_n 0, 1) := by decide +kernel
theorem dX11_deck_1 : decode cX11_deck 1 = .ok (.iconst 0, 1) := by decide +kernel
theorem dX11_deck_2 : decode cX11_deck 2 = .ok (.putfield 83, 3) := by decide +kernel
theorem dX11_deck_5 : decode cX11_deck 5 = .ok (.aload_n 0, 1) := by decide +kernel
theorem dX11_deck_6 : decode cX11_deck 6 = .ok (.iload_n 1, 1) := by decide +kernel
theorem dX11_deck_7 : decode cX11_deck 7 = .ok (.iconst 2, 1) := by decide +kernel
theorem dX11_deck_8 : decode cX11_deck 8 = .ok (.bipush 8, 2) := by decide +kernel
theorem dX11_deck_10 : decode cX11_deck 10 = .ok (.invokestatic 172, 3) := by decide +kernel
theorem dX11_deck_13 : decode cX11_deck 13 = .ok (.ifCond .ne 7, 3) := by decide +kernel
theorem dX11_deck_16 : decode cX11_deck 16 = .ok (.iconst 1, 1) := by decide +kernel
theorem dX11_deck_17 : decode cX11_deck 17 = .ok (.goto 4, 3) := by decide +kernel
theorem dX11_deck_20 : decode cX11_deck 20 = .ok (.iconst 0, 1) := by decide +kernel
theorem dX11_deck_21 : decode cX11_deck 21 = .ok (.iconst 1, 1) := by decide +kernel
theorem dX11_deck_22 : decode cX11_deck 22 = .ok (.invokevirtual 176, 3) := by decide +kernel
theorem dX11_deck_25 : decode cX11_deck 25 = .ok (.ifCond .eq 5, 3) := by decide +kernel
theorem dX11_deck_28 : decode cX11_deck 28 = .ok (.iconst 0, 1) := by decide +kernel
theorem dX11_deck_29 : decode cX11_deck 29 = .ok (.ireturn, 1) := by decide +kernel
theorem dX11_deck_30 : decode cX11_deck 30 = .ok (.aload_n 0, 1) := by decide +kernel
theorem dX11_deck_31 : decode cX11_deck 31 = .ok (.getfield 37, 3) := by decide +kernel
theorem dX11_deck_34 : decode cX11_deck 34 = .ok (.istore_n 2, 1) := by decide +kernel
theorem dX11_deck_35 : decode cX11_deck 35 = .ok (.aload_n 0, 1) := by decide +kernel
theorem dX11_deck_36 : decode cX11_deck 36 = .ok (.iload_n 1, 1) := by decide +kernel
theorem dX11_deck_37 : decode cX11_deck 37 = .ok (.putfield 37, 3) := by decide +kernel
theorem dX11_deck_40 : decode cX11_deck 40 = .ok (.aload_n 0, 1) := by decide +kernel
theorem dX11_deck_41 : decode cX11_deck 41 = .ok (.iconst 0, 1) := by decide +kernel
theorem dX11_deck_42 : decode cX11_deck 42 = .ok (.putfield 200, 3) := by decide +kernel
theorem dX11_deck_45 : decode cX11_deck 45 = .ok (.iconst 0, 1) := by decide +kernel
theorem dX11_deck_46 : decode cX11_deck 46 = .ok (.istore_n 3, 1) := by decide +kernel
theorem dX11_deck_47 : decode cX11_deck 47 = .ok (.iload_n 3, 1) := by decide +kernel
theorem dX11_deck_48 : decode cX11_deck 48 = .ok (.bipush 8, 2) := by decide +kernel
theorem dX11_deck_50 : decode cX11_deck 50 = .ok (.if_icmp .ge 48, 3) := by decide +kernel
theorem dX11_deck_53 : decode cX11_deck 53 = .ok (.iconst 0, 1) := by decide +kernel
theorem dX11_deck_54 : decode cX11_deck 54 = .ok (.istore 4, 2) := by decide +kernel
theorem dX11_deck_56 : decode cX11_deck 56 = .ok (.iload 4, 2) := by decide +kernel
theorem dX11_deck_58 : decode cX11_deck 58 = .ok (.iconst 4, 1) := by decide +kernel
theorem dX11_deck_59 : decode cX11_deck 59 = .ok (.if_icmp .ge 19, 3) := by decide +kernel
