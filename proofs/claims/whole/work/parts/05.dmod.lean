theorem dX8_init_0 : decode cX8_init 0 = .ok (.aload_n 0, 1) := by decide +kernel
theorem dX8_init_1 : decode cX8_init 1 = .ok (.invokespecial 1, 3) := by decide +kernel
theorem dX8_init_4 : decode cX8_init 4 = .ok (.aload_n 0, 1) := by decide +kernel
theorem dX8_init_5 : decode cX8_init 5 = .ok (.bipush 6, 2) := by decide +kernel
theorem dX8_init_7 : decode cX8_init 7 = .ok (.newarray .int, 2) := by decide +kernel
theorem dX8_init_9 : decode cX8_init 9 = .ok (.putfield 7, 3) := by decide +kernel
theorem dX8_init_12 : decode cX8_init 12 = .ok (.aload_n 0, 1) := by decide +kernel
theorem dX8_init_13 : decode cX8_init 13 = .ok (.bipush 6, 2) := by decide +kernel
theorem dX8_init_15 : decode cX8_init 15 = .ok (.newarray .int, 2) := by decide +kernel
theorem dX8_init_17 : decode cX8_init 17 = .ok (.putfield 13, 3) := by decide +kernel
theorem dX8_init_20 : decode cX8_init 20 = .ok (.aload_n 0, 1) := by decide +kernel
theorem dX8_init_21 : decode cX8_init 21 = .ok (.bipush 12, 2) := by decide +kernel
theorem dX8_init_23 : decode cX8_init 23 = .ok (.newarray .int, 2) := by decide +kernel
theorem dX8_init_25 : decode cX8_init 25 = .ok (.putfield 16, 3) := by decide +kernel
theorem dX8_init_28 : decode cX8_init 28 = .ok (.aload_n 0, 1) := by decide +kernel
theorem dX8_init_29 : decode cX8_init 29 = .ok (.bipush 12, 2) := by decide +kernel
theorem dX8_init_31 : decode cX8_init 31 = .ok (.newarray .int, 2) := by decide +kernel
theorem dX8_init_33 : decode cX8_init 33 = .ok (.putfield 19, 3) := by decide +kernel
theorem dX8_init_36 : decode cX8_init 36 = .ok (.aload_n 0, 1) := by decide +kernel
theorem dX8_init_37 : decode cX8_init 37 = .ok (.bipush 12, 2) := by decide +kernel
theorem dX8_init_39 : decode cX8_init 39 = .ok (.newarray .int, 2) := by decide +kernel
theorem dX8_init_41 : decode cX8_init 41 = .ok (.putfield 22, 3) := by decide +kernel
theorem dX8_init_44 : decode cX8_init 44 = .ok (.aload_n 0, 1) := by decide +kernel
theorem dX8_init_45 : decode cX8_init 45 = .ok (.bipush 12, 2) := by decide +kernel
theorem dX8_init_47 : decode cX8_init 47 = .ok (.newarray .int, 2) := by decide +kernel
theorem dX8_init_49 : decode cX8_init 49 = .ok (.putfield 25, 3) := by decide +kernel
theorem dX8_init_52 : decode cX8_init 52 = .ok (.aload_n 0, 1) := by decide +kernel
theorem dX8_init_53 : decode cX8_init 53 = .ok (.bipush 12, 2) := by decide +kernel
theorem dX8_init_55 : decode cX8_init 55 = .ok (.newarray .int, 2) := by decide +kernel
theorem dX8_init_57 : decode cX8_init 57 = .ok (.putfield 28, 3) := by decide +kernel
theorem dX8_init_60 : decode cX8_init 60 = .ok (.aload_n 0, 1) := by decide +kernel
theorem dX8_init_61 : decode cX8_init 61 = .ok (.bipush 12, 2) := by decide +kernel
theorem dX8_init_63 : decode cX8_init 63 = .ok (.newarray .int, 2) := by decide +kernel
theorem dX8_init_65 : decode cX8_init 65 = .ok (.putfield 31, 3) := by decide +kernel
theorem dX8_init_68 : decode cX8_init 68 = .ok (.aload_n 0, 1) := by decide +kernel
theorem dX8_init_69 : decode cX8_init 69 = .ok (.bipush 12, 2) := by decide +kernel
theorem dX8_init_71 : decode cX8_init 71 = .ok (.newarray .int, 2) := by decide +kernel
theorem dX8_init_73 : decode cX8_init 73 = .ok (.putfield 34, 3) := by decide +kernel
theorem dX8_init_76 : decode cX8_init 76 = .ok (.aload_n 0, 1) := by decide +kernel
theorem dX8_init_77 : decode cX8_init 77 = .ok (.bipush 12, 2) := by decide +kernel
theorem dX8_init_79 : decode cX8_init 79 = .ok (.newarray .int, 2) := by decide +kernel
theorem dX8_init_81 : decode cX8_init 81 = .ok (.putfield 37, 3) := by decide +kernel
theorem dX8_init_84 : decode cX8_init 84 = .ok (.aload_n 0, 1) := by decide +kernel
theorem dX8_init_85 : decode cX8_init 85 = .ok (.bipush 60, 2) := by decide +kernel
theorem dX8_init_87 : decode cX8_init 87 = .ok (.newarray .int, 2) := by decide +kernel
theorem dX8_init_89 : decode cX8_init 89 = .ok (.putfield 40, 3) := by decide +kernel
theorem dX8_init_92 : decode cX8_init 92 = .ok (.aload_n 0, 1) := by decide +kernel
theorem dX8_init_93 : decode cX8_init 93 = .ok (.bipush 60, 2) := by decide +kernel
theorem dX8_init_95 : decode cX8_init 95 = .ok (.newarray .boolean, 2) := by decide +kernel
theorem dX8_init_97 : decode cX8_init 97 = .ok (.putfield 43, 3) := by decide +kernel
theorem dX8_init_100 : decode cX8_init 100 = .ok (.aload_n 0, 1) := by decide +kernel
theorem dX8_init_101 : decode cX8_init 101 = .ok (.bipush 60, 2) := by decide +kernel
theorem dX8_init_103 : decode cX8_init 103 = .ok (.newarray .int, 2) := by decide +kernel
theorem dX8_init_105 : decode cX8_init 105 = .ok (.putfield 47, 3) := by decide +kernel
theorem dX8_init_108 : decode cX8_init 108 = .ok (.aload_n 0, 1) := by decide +kernel
theorem dX8_init_109 : decode cX8_init 109 = .ok (.bipush 60, 2) := by decide +kernel
theorem dX8_init_111 : decode cX8_init 111 = .ok (.newarray .boolean, 2) := by decide +kernel
theorem dX8_init_113 : decode cX8_init 113 = .ok (.putfield 50, 3) := by decide +kernel
theorem dX8_init_116 : decode cX8_init 116 = .ok (.aload_n 0, 1) := by decide +kernel
theorem dX8_init_117 : decode cX8_init 117 = .ok (.bipush 16, 2) := by decide +kernel
theorem dX8_init_119 : decode cX8_init 119 = .ok (.newarray .int, 2) := by decide +kernel
theorem dX8_init_121 : decode cX8_init 121 = .ok (.putfield 53, 3) := by decide +kernel
theorem dX8_init_124 : decode cX8_init 124 = .ok (.aload_n 0, 1) := by decide +kernel
theorem dX8_init_125 : decode cX8_init 125 = .ok (.bipush 16, 2) := by decide +kernel
theorem dX8_init_127 : decode cX8_init 127 = .ok (.newarray .int, 2) := by decide +kernel
theorem dX8_init_129 : decode cX8_init 129 = .ok (.putfield 56, 3) := by decide +kernel
theorem dX8_init_132 : decode cX8_init 132 = .ok (.aload_n 0, 1) := by decide +kernel
theorem dX8_init_133 : decode cX8_init 133 = .ok (.bipush 8, 2) := by decide +kernel
theorem dX8_init_135 : decode cX8_init 135 = .ok (.newarray .int, 2) := by decide +kernel
theorem dX8_init_137 : decode cX8_init 137 = .ok (.putfield 59, 3) := by decide +kernel
theorem dX8_init_140 : decode cX8_init 140 = .ok (.aload_n 0, 1) := by decide +kernel
theorem dX8_init_141 : decode cX8_init 141 = .ok (.bipush 8, 2) := by decide +kernel
theorem dX8_init_143 : decode cX8_init 143 = .ok (.newarray .int, 2) := by decide +kernel
theorem dX8_init_145 : decode cX8_init 145 = .ok (.putfield 62, 3) := by decide +kernel
theorem dX8_init_148 : decode cX8_init 148 = .ok (.aload_n 0, 1) := by decide +kernel
theorem dX8_init_149 : decode cX8_init 149 = .ok (.bipush 8, 2) := by decide +kernel
theorem dX8_init_151 : decode cX8_init 151 = .ok (.newarray .int, 2) := by decide +kernel
theorem dX8_init_153 : decode cX8_init 153 = .ok (.putfield 65, 3) := by decide +kernel
theorem dX8_init_156 : decode cX8_init 156 = .ok (.aload_n 0, 1) := by decide +kernel
theorem dX8_init_157 : decode cX8_init 157 = .ok (.bipush 8, 2) := by decide +kernel
theorem dX8_init_159 : decode cX8_init 159 = .ok (.newarray .int, 2) := by decide +kernel
theorem dX8_init_161 : decode cX8_init 161 = .ok (.putfield 68, 3) := by decide +kernel
theorem dX8_init_164 : decode cX8_init 164 = .ok (.aload_n 0, 1) := by decide +kernel
theorem dX8_init_165 : decode cX8_init 165 = .ok (.bipush 8, 2) := by decide +kernel
theorem dX8_init_167 : decode cX8_init 167 = .ok (.newarray .int, 2) := by decide +kernel
theorem dX8_init_169 : decode cX8_init 169 = .ok (.putfield 71, 3) := by decide +kernel
theorem dX8_init_172 : decode cX8_init 172 = .ok (.aload_n 0, 1) := by decide +kernel
theorem dX8_init_173 : decode cX8_init 173 = .ok (.bipush 8, 2) := by decide +kernel
theorem dX8_init_175 : decode cX8_init 175 = .ok (.newarray .int, 2) := by decide +kernel
theorem dX8_init_177 : decode cX8_init 177 = .ok (.putfield 74, 3) := by decide +kernel
theorem dX8_init_180 : decode cX8_init 180 = .ok (.aload_n 0, 1) := by decide +kernel
theorem dX8_init_181 : decode cX8_init 181 = .ok (.bipush 8, 2) := by decide +kernel
theorem dX8_init_183 : decode cX8_init 183 = .ok (.newarray .int, 2) := by decide +kernel
theorem dX8_init_185 : decode cX8_init 185 = .ok (.putfield 77, 3) := by decide +kernel
theorem dX8_init_188 : decode cX8_init 188 = .ok (.aload_n 0, 1) := by decide +kernel
theorem dX8_init_189 : decode cX8_init 189 = .ok (.bipush 8, 2) := by decide +kernel
theorem dX8_init_191 : decode cX8_init 191 = .ok (.newarray .int, 2) := by decide +kernel
theorem dX8_init_193 : decode cX8_init 193 = .ok (.putfield 80, 3) := by decide +kernel
theorem dX8_init_196 : decode cX8_init 196 = .ok (.aload_n 0, 1) := by decide +kernel
theorem dX8_init_197 : decode cX8_init 197 = .ok (.bipush 10, 2) := by decide +kernel
theorem dX8_init_199 : decode cX8_init 199 = .ok (.newarray .int, 2) := by decide +kernel
theorem dX8_init_201 : decode cX8_init 201 = .ok (.putfield 83, 3) := by decide +kernel
theorem dX8_init_204 : decode cX8_init 204 = .ok (.aload_n 0, 1) := by decide +kernel
theorem dX8_init_205 : decode cX8_init 205 = .ok (.bipush 10, 2) := by decide +kernel
theorem dX8_init_207 : decode cX8_init 207 = .ok (.newarray .int, 2) := by decide +kernel
theorem dX8_init_209 : decode cX8_init 209 = .ok (.putfield 86, 3) := by decide +kernel
theorem dX8_init_212 : decode cX8_init 212 = .ok (.aload_n 0, 1) := by decide +kernel
theorem dX8_init_213 : decode cX8_init 213 = .ok (.bipush 10, 2) := by decide +kernel
theorem dX8_init_215 : decode cX8_init 215 = .ok (.newarray .int, 2) := by decide +kernel
theorem dX8_init_217 : decode cX8_init 217 = .ok (.putfield 89, 3) := by decide +kernel
theorem dX8_init_220 : decode cX8_init 220 = .ok (.aload_n 0, 1) := by decide +kernel
theorem dX8_init_221 : decode cX8_init 221 = .ok (.bipush 10, 2) := by decide +kernel
theorem dX8_init_223 : decode cX8_init 223 = .ok (.newarray .int, 2) := by decide +kernel
theorem dX8_init_225 : decode cX8_init 225 = .ok (.putfield 92, 3) := by decide +kernel
theorem dX8_init_228 : decode cX8_init 228 = .ok (.aload_n 0, 1) := by decide +kernel
theorem dX8_init_229 : decode cX8_init 229 = .ok (.bipush 10, 2) := by decide +kernel
theorem dX8_init_231 : decode cX8_init 231 = .ok (.newarray .int, 2) := by decide +kernel
theorem dX8_init_233 : decode cX8_init 233 = .ok (.putfield 95, 3) := by decide +kernel
theorem dX8_init_236 : decode cX8_init 236 = .ok (.aload_n 0, 1) := by decide +kernel
theorem dX8_init_237 : decode cX8_init 237 = .ok (.bipush 10, 2) := by decide +kernel
theorem dX8_init_239 : decode cX8_init 239 = .ok (.newarray .int, 2) := by decide +kernel
theorem dX8_init_241 : decode cX8_init 241 = .ok (.putfield 98, 3) := by decide +kernel
theorem dX8_init_244 : decode cX8_init 244 = .ok (.aload_n 0, 1) := by decide +kernel
theorem dX8_init_245 : decode cX8_init 245 = .ok (.bipush 10, 2) := by decide +kernel
theorem dX8_init_247 : decode cX8_init 247 = .ok (.newarray .int, 2) := by decide +kernel
theorem dX8_init_249 : decode cX8_init 249 = .ok (.putfield 101, 3) := by decide +kernel
theorem dX8_init_252 : decode cX8_init 252 = .ok (.aload_n 0, 1) := by decide +kernel
theorem dX8_init_253 : decode cX8_init 253 = .ok (.bipush 10, 2) := by decide +kernel
theorem dX8_init_255 : decode cX8_init 255 = .ok (.newarray .int, 2) := by decide +kernel
theorem dX8_init_257 : decode cX8_init 257 = .ok (.putfield 104, 3) := by decide +kernel
theorem dX8_init_260 : decode cX8_init 260 = .ok (.aload_n 0, 1) := by decide +kernel
theorem dX8_init_261 : decode cX8_init 261 = .ok (.bipush 10, 2) := by decide +kernel
theorem dX8_init_263 : decode cX8_init 263 = .ok (.newarray .boolean, 2) := by decide +kernel
theorem dX8_init_265 : decode cX8_init 265 = .ok (.putfield 107, 3) := by decide +kernel
theorem dX8_init_268 : decode cX8_init 268 = .ok (.aload_n 0, 1) := by decide +kernel
theorem dX8_init_269 : decode cX8_init 269 = .ok (.bipush 7, 2) := by decide +kernel
theorem dX8_init_271 : decode cX8_init 271 = .ok (.putfield 110, 3) := by decide +kernel
theorem dX8_init_274 : decode cX8_init 274 = .ok (.aload_n 0, 1) := by decide +kernel
theorem dX8_init_275 : decode cX8_init 275 = .ok (.bipush 7, 2) := by decide +kernel
theorem dX8_init_277 : decode cX8_init 277 = .ok (.putfield 114, 3) := by decide +kernel
theorem dX8_init_280 : decode cX8_init 280 = .ok (.aload_n 0, 1) := by decide +kernel
theorem dX8_init_281 : decode cX8_init 281 = .ok (.bipush 17, 2) := by decide +kernel
theorem dX8_init_283 : decode cX8_init 283 = .ok (.putfield 117, 3) := by decide +kernel
theorem dX8_init_286 : decode cX8_init 286 = .ok (.aload_n 0, 1) := by decide +kernel
theorem dX8_init_287 : decode cX8_init 287 = .ok (.bipush 120, 2) := by decide +kernel
theorem dX8_init_289 : decode cX8_init 289 = .ok (.newarray .int, 2) := by decide +kernel
theorem dX8_init_291 : decode cX8_init 291 = .ok (.putfield 120, 3) := by decide +kernel
theorem dX8_init_294 : decode cX8_init 294 = .ok (.aload_n 0, 1) := by decide +kernel
theorem dX8_init_295 : decode cX8_init 295 = .ok (.sipush 192, 3) := by decide +kernel
theorem dX8_init_298 : decode cX8_init 298 = .ok (.newarray .int, 2) := by decide +kernel
theorem dX8_init_300 : decode cX8_init 300 = .ok (.putfield 123, 3) := by decide +kernel
theorem dX8_init_303 : decode cX8_init 303 = .ok (.iconst 0, 1) := by decide +kernel
theorem dX8_init_304 : decode cX8_init 304 = .ok (.istore_n 1, 1) := by decide +kernel
theorem dX8_init_305 : decode cX8_init 305 = .ok (.iload_n 1, 1) := by decide +kernel
theorem dX8_init_306 : decode cX8_init 306 = .ok (.bipush 16, 2) := by decide +kernel
theorem dX8_init_308 : decode cX8_init 308 = .ok (.if_icmp .ge 16, 3) := by decide +kernel
theorem dX8_init_311 : decode cX8_init 311 = .ok (.aload_n 0, 1) := by decide +kernel
theorem dX8_init_312 : decode cX8_init 312 = .ok (.getfield 56, 3) := by decide +kernel
theorem dX8_init_315 : decode cX8_init 315 = .ok (.iload_n 1, 1) := by decide +kernel
theorem dX8_init_316 : decode cX8_init 316 = .ok (.iconst (-1), 1) := by decide +kernel
theorem dX8_init_317 : decode cX8_init 317 = .ok (.iastore, 1) := by decide +kernel
theorem dX8_init_318 : decode cX8_init 318 = .ok (.iinc 1 1, 3) := by decide +kernel
theorem dX8_init_321 : decode cX8_init 321 = .ok (.goto (-16), 3) := by decide +kernel
theorem dX8_init_324 : decode cX8_init 324 = .ok (.return_, 1) := by decide +kernel
theorem dX8_thrown_0 : decode cX8_thrown 0 = .ok (.aload_n 0, 1) := by decide +kernel
theorem dX8_thrown_1 : decode cX8_thrown 1 = .ok (.getfield 126, 3) := by decide +kernel
theorem dX8_thrown_4 : decode cX8_thrown 4 = .ok (.ireturn, 1) := by decide +kernel
theorem dX8_refused_0 : decode cX8_refused 0 = .ok (.aload_n 0, 1) := by decide +kernel
theorem dX8_refused_1 : decode cX8_refused 1 = .ok (.iload_n 1, 1) := by decide +kernel
theorem dX8_refused_2 : decode cX8_refused 2 = .ok (.putfield 126, 3) := by decide +kernel
theorem dX8_refused_5 : decode cX8_refused 5 = .ok (.iload_n 1, 1) := by decide +kernel
theorem dX8_refused_6 : decode cX8_refused 6 = .ok (.ifCond .eq 7, 3) := by decide +kernel
theorem dX8_refused_9 : decode cX8_refused 9 = .ok (.iconst 1, 1) := by decide +kernel
theorem dX8_refused_10 : decode cX8_refused 10 = .ok (.goto 4, 3) := by decide +kernel
theorem dX8_refused_13 : decode cX8_refused 13 = .ok (.iconst 0, 1) := by decide +kernel
theorem dX8_refused_14 : decode cX8_refused 14 = .ok (.ireturn, 1) := by decide +kernel
theorem dX8_within_0 : decode cX8_within 0 = .ok (.iload_n 0, 1) := by decide +kernel
theorem dX8_within_1 : decode cX8_within 1 = .ok (.iload_n 1, 1) := by decide +kernel
theorem dX8_within_2 : decode cX8_within 2 = .ok (.if_icmp .lt 12, 3) := by decide +kernel
theorem dX8_within_5 : decode cX8_within 5 = .ok (.iload_n 0, 1) := by decide +kernel
theorem dX8_within_6 : decode cX8_within 6 = .ok (.iload_n 2, 1) := by decide +kernel
theorem dX8_within_7 : decode cX8_within 7 = .ok (.if_icmp .gt 7, 3) := by decide +kernel
theorem dX8_within_10 : decode cX8_within 10 = .ok (.iconst 1, 1) := by decide +kernel
theorem dX8_within_11 : decode cX8_within 11 = .ok (.goto 4, 3) := by decide +kernel
theorem dX8_within_14 : decode cX8_within 14 = .ok (.iconst 0, 1) := by decide +kernel
theorem dX8_within_15 : decode cX8_within 15 = .ok (.ireturn, 1) := by decide +kernel
theorem dX8_isSix_0 : decode cX8_isSix 0 = .ok (.iload_n 0, 1) := by decide +kernel
theorem dX8_isSix_1 : decode cX8_isSix 1 = .ok (.iconst 0, 1) := by decide +kernel
theorem dX8_isSix_2 : decode cX8_isSix 2 = .ok (.iconst 5, 1) := by decide +kernel
theorem dX8_isSix_3 : decode cX8_isSix 3 = .ok (.invokestatic 129, 3) := by decide +kernel
theorem dX8_isSix_6 : decode cX8_isSix 6 = .ok (.ireturn, 1) := by decide +kernel
theorem dX8_isThing_0 : decode cX8_isThing 0 = .ok (.iload_n 1, 1) := by decide +kernel
theorem dX8_isThing_1 : decode cX8_isThing 1 = .ok (.iconst 0, 1) := by decide +kernel
theorem dX8_isThing_2 : decode cX8_isThing 2 = .ok (.aload_n 0, 1) := by decide +kernel
theorem dX8_isThing_3 : decode cX8_isThing 3 = .ok (.getfield 133, 3) := by decide +kernel
theorem dX8_isThing_6 : decode cX8_isThing 6 = .ok (.iconst 1, 1) := by decide +kernel
theorem dX8_isThing_7 : decode cX8_isThing 7 = .ok (.isub, 1) := by decide +kernel
theorem dX8_isThing_8 : decode cX8_isThing 8 = .ok (.invokestatic 129, 3) := by decide +kernel
theorem dX8_isThing_11 : decode cX8_isThing 11 = .ok (.ireturn, 1) := by decide +kernel
theorem dX8_isProcess_0 : decode cX8_isProcess 0 = .ok (.iload_n 1, 1) := by decide +kernel
theorem dX8_isProcess_1 : decode cX8_isProcess 1 = .ok (.iconst 0, 1) := by decide +kernel
theorem dX8_isProcess_2 : decode cX8_isProcess 2 = .ok (.aload_n 0, 1) := by decide +kernel
theorem dX8_isProcess_3 : decode cX8_isProcess 3 = .ok (.getfield 136, 3) := by decide +kernel
theorem dX8_isProcess_6 : decode cX8_isProcess 6 = .ok (.iconst 1, 1) := by decide +kernel
theorem dX8_isProcess_7 : decode cX8_isProcess 7 = .ok (.isub, 1) := by decide +kernel
theorem dX8_isProcess_8 : decode cX8_isProcess 8 = .ok (.invokestatic 129, 3) := by decide +kernel
theorem dX8_isProcess_11 : decode cX8_isProcess 11 = .ok (.ireturn, 1) := by decide +kernel
theorem dX8_isToken_0 : decode cX8_isToken 0 = .ok (.iload_n 1, 1) := by decide +kernel
theorem dX8_isToken_1 : decode cX8_isToken 1 = .ok (.iconst 0, 1) := by decide +kernel
theorem dX8_isToken_2 : decode cX8_isToken 2 = .ok (.aload_n 0, 1) := by decide +kernel
theorem dX8_isToken_3 : decode cX8_isToken 3 = .ok (.getfield 139, 3) := by decide +kernel
theorem dX8_isToken_6 : decode cX8_isToken 6 = .ok (.iconst 1, 1) := by decide +kernel
theorem dX8_isToken_7 : decode cX8_isToken 7 = .ok (.isub, 1) := by decide +kernel
theorem dX8_isToken_8 : decode cX8_isToken 8 = .ok (.invokestatic 129, 3) := by decide +kernel
theorem dX8_isToken_11 : decode cX8_isToken 11 = .ok (.ireturn, 1) := by decide +kernel
theorem dX8_isRight_0 : decode cX8_isRight 0 = .ok (.iload_n 0, 1) := by decide +kernel
theorem dX8_isRight_1 : decode cX8_isRight 1 = .ok (.iconst 1, 1) := by decide +kernel
theorem dX8_isRight_2 : decode cX8_isRight 2 = .ok (.if_icmp .eq 13, 3) := by decide +kernel
theorem dX8_isRight_5 : decode cX8_isRight 5 = .ok (.iload_n 0, 1) := by decide +kernel
theorem dX8_isRight_6 : decode cX8_isRight 6 = .ok (.iconst 2, 1) := by decide +kernel
theorem dX8_isRight_7 : decode cX8_isRight 7 = .ok (.if_icmp .eq 8, 3) := by decide +kernel
theorem dX8_isRight_10 : decode cX8_isRight 10 = .ok (.iload_n 0, 1) := by decide +kernel
theorem dX8_isRight_11 : decode cX8_isRight 11 = .ok (.iconst 4, 1) := by decide +kernel
theorem dX8_isRight_12 : decode cX8_isRight 12 = .ok (.if_icmp .ne 7, 3) := by decide +kernel
theorem dX8_isRight_15 : decode cX8_isRight 15 = .ok (.iconst 1, 1) := by decide +kernel
theorem dX8_isRight_16 : decode cX8_isRight 16 = .ok (.goto 4, 3) := by decide +kernel
theorem dX8_isRight_19 : decode cX8_isRight 19 = .ok (.iconst 0, 1) := by decide +kernel
theorem dX8_isRight_20 : decode cX8_isRight 20 = .ok (.ireturn, 1) := by decide +kernel
theorem dX8_hasBit_0 : decode cX8_hasBit 0 = .ok (.iload_n 0, 1) := by decide +kernel
theorem dX8_hasBit_1 : decode cX8_hasBit 1 = .ok (.iload_n 1, 1) := by decide +kernel
theorem dX8_hasBit_2 : decode cX8_hasBit 2 = .ok (.ishr, 1) := by decide +kernel
theorem dX8_hasBit_3 : decode cX8_hasBit 3 = .ok (.iconst 1, 1) := by decide +kernel
theorem dX8_hasBit_4 : decode cX8_hasBit 4 = .ok (.iand, 1) := by decide +kernel
theorem dX8_hasBit_5 : decode cX8_hasBit 5 = .ok (.iconst 1, 1) := by decide +kernel
theorem dX8_hasBit_6 : decode cX8_hasBit 6 = .ok (.if_icmp .ne 7, 3) := by decide +kernel
theorem dX8_hasBit_9 : decode cX8_hasBit 9 = .ok (.iconst 1, 1) := by decide +kernel
theorem dX8_hasBit_10 : decode cX8_hasBit 10 = .ok (.goto 4, 3) := by decide +kernel
theorem dX8_hasBit_13 : decode cX8_hasBit 13 = .ok (.iconst 0, 1) := by decide +kernel
theorem dX8_hasBit_14 : decode cX8_hasBit 14 = .ok (.ireturn, 1) := by decide +kernel
theorem dX8_above_0 : decode cX8_above 0 = .ok (.iload_n 1, 1) := by decide +kernel
theorem dX8_above_1 : decode cX8_above 1 = .ok (.istore_n 2, 1) := by decide +kernel
theorem dX8_above_2 : decode cX8_above 2 = .ok (.iconst 1, 1) := by decide +kernel
theorem dX8_above_3 : decode cX8_above 3 = .ok (.istore_n 3, 1) := by decide +kernel
theorem dX8_above_4 : decode cX8_above 4 = .ok (.iload_n 3, 1) := by decide +kernel
theorem dX8_above_5 : decode cX8_above 5 = .ok (.ifCond .eq 54, 3) := by decide +kernel
theorem dX8_above_8 : decode cX8_above 8 = .ok (.iconst 0, 1) := by decide +kernel
theorem dX8_above_9 : decode cX8_above 9 = .ok (.istore_n 3, 1) := by decide +kernel
theorem dX8_above_10 : decode cX8_above 10 = .ok (.iconst 0, 1) := by decide +kernel
theorem dX8_above_11 : decode cX8_above 11 = .ok (.istore 4, 2) := by decide +kernel
theorem dX8_above_13 : decode cX8_above 13 = .ok (.iload 4, 2) := by decide +kernel
theorem dX8_above_15 : decode cX8_above 15 = .ok (.bipush 6, 2) := by decide +kernel
theorem dX8_above_17 : decode cX8_above 17 = .ok (.if_icmp .ge 39, 3) := by decide +kernel
theorem dX8_above_20 : decode cX8_above 20 = .ok (.iload_n 2, 1) := by decide +kernel
theorem dX8_above_21 : decode cX8_above 21 = .ok (.iload 4, 2) := by decide +kernel
theorem dX8_above_23 : decode cX8_above 23 = .ok (.invokestatic 142, 3) := by decide +kernel
theorem dX8_above_26 : decode cX8_above 26 = .ok (.ifCond .ne 24, 3) := by decide +kernel
theorem dX8_above_29 : decode cX8_above 29 = .ok (.aload_n 0, 1) := by decide +kernel
theorem dX8_above_30 : decode cX8_above 30 = .ok (.getfield 13, 3) := by decide +kernel
theorem dX8_above_33 : decode cX8_above 33 = .ok (.iload 4, 2) := by decide +kernel
theorem dX8_above_35 : decode cX8_above 35 = .ok (.iaload, 1) := by decide +kernel
theorem dX8_above_36 : decode cX8_above 36 = .ok (.iload_n 2, 1) := by decide +kernel
theorem dX8_above_37 : decode cX8_above 37 = .ok (.iand, 1) := by decide +kernel
theorem dX8_above_38 : decode cX8_above 38 = .ok (.ifCond .eq 12, 3) := by decide +kernel
theorem dX8_above_41 : decode cX8_above 41 = .ok (.iload_n 2, 1) := by decide +kernel
theorem dX8_above_42 : decode cX8_above 42 = .ok (.iconst 1, 1) := by decide +kernel
theorem dX8_above_43 : decode cX8_above 43 = .ok (.iload 4, 2) := by decide +kernel
theorem dX8_above_45 : decode cX8_above 45 = .ok (.ishl, 1) := by decide +kernel
theorem dX8_above_46 : decode cX8_above 46 = .ok (.ior, 1) := by decide +kernel
theorem dX8_above_47 : decode cX8_above 47 = .ok (.istore_n 2, 1) := by decide +kernel
theorem dX8_above_48 : decode cX8_above 48 = .ok (.iconst 1, 1) := by decide +kernel
theorem dX8_above_49 : decode cX8_above 49 = .ok (.istore_n 3, 1) := by decide +kernel
theorem dX8_above_50 : decode cX8_above 50 = .ok (.iinc 4 1, 3) := by decide +kernel
theorem dX8_above_53 : decode cX8_above 53 = .ok (.goto (-40), 3) := by decide +kernel
theorem dX8_above_56 : decode cX8_above 56 = .ok (.goto (-52), 3) := by decide +kernel
theorem dX8_above_59 : decode cX8_above 59 = .ok (.iload_n 2, 1) := by decide +kernel
theorem dX8_above_60 : decode cX8_above 60 = .ok (.ireturn, 1) := by decide +kernel
theorem dX8_groupsOf_0 : decode cX8_groupsOf 0 = .ok (.iconst 0, 1) := by decide +kernel
theorem dX8_groupsOf_1 : decode cX8_groupsOf 1 = .ok (.istore_n 2, 1) := by decide +kernel
theorem dX8_groupsOf_2 : decode cX8_groupsOf 2 = .ok (.iconst 0, 1) := by decide +kernel
theorem dX8_groupsOf_3 : decode cX8_groupsOf 3 = .ok (.istore_n 3, 1) := by decide +kernel
theorem dX8_groupsOf_4 : decode cX8_groupsOf 4 = .ok (.iload_n 3, 1) := by decide +kernel
theorem dX8_groupsOf_5 : decode cX8_groupsOf 5 = .ok (.bipush 6, 2) := by decide +kernel
theorem dX8_groupsOf_7 : decode cX8_groupsOf 7 = .ok (.if_icmp .ge 32, 3) := by decide +kernel
theorem dX8_groupsOf_10 : decode cX8_groupsOf 10 = .ok (.iload_n 2, 1) := by decide +kernel
theorem dX8_groupsOf_11 : decode cX8_groupsOf 11 = .ok (.aload_n 0, 1) := by decide +kernel
theorem dX8_groupsOf_12 : decode cX8_groupsOf 12 = .ok (.getfield 7, 3) := by decide +kernel
theorem dX8_groupsOf_15 : decode cX8_groupsOf 15 = .ok (.iload_n 3, 1) := by decide +kernel
theorem dX8_groupsOf_16 : decode cX8_groupsOf 16 = .ok (.iaload, 1) := by decide +kernel
theorem dX8_groupsOf_17 : decode cX8_groupsOf 17 = .ok (.iload_n 1, 1) := by decide +kernel
theorem dX8_groupsOf_18 : decode cX8_groupsOf 18 = .ok (.invokestatic 142, 3) := by decide +kernel
theorem dX8_groupsOf_21 : decode cX8_groupsOf 21 = .ok (.ifCond .eq 9, 3) := by decide +kernel
theorem dX8_groupsOf_24 : decode cX8_groupsOf 24 = .ok (.iconst 1, 1) := by decide +kernel
theorem dX8_groupsOf_25 : decode cX8_groupsOf 25 = .ok (.iload_n 3, 1) := by decide +kernel
theorem dX8_groupsOf_26 : decode cX8_groupsOf 26 = .ok (.ishl, 1) := by decide +kernel
theorem dX8_groupsOf_27 : decode cX8_groupsOf 27 = .ok (.goto 4, 3) := by decide +kernel
theorem dX8_groupsOf_30 : decode cX8_groupsOf 30 = .ok (.iconst 0, 1) := by decide +kernel
theorem dX8_groupsOf_31 : decode cX8_groupsOf 31 = .ok (.ior, 1) := by decide +kernel
theorem dX8_groupsOf_32 : decode cX8_groupsOf 32 = .ok (.istore_n 2, 1) := by decide +kernel
theorem dX8_groupsOf_33 : decode cX8_groupsOf 33 = .ok (.iinc 3 1, 3) := by decide +kernel
theorem dX8_groupsOf_36 : decode cX8_groupsOf 36 = .ok (.goto (-32), 3) := by decide +kernel
theorem dX8_groupsOf_39 : decode cX8_groupsOf 39 = .ok (.aload_n 0, 1) := by decide +kernel
theorem dX8_groupsOf_40 : decode cX8_groupsOf 40 = .ok (.iload_n 2, 1) := by decide +kernel
theorem dX8_groupsOf_41 : decode cX8_groupsOf 41 = .ok (.invokevirtual 146, 3) := by decide +kernel
theorem dX8_groupsOf_44 : decode cX8_groupsOf 44 = .ok (.ireturn, 1) := by decide +kernel
theorem dX8_member_0 : decode cX8_member 0 = .ok (.iload_n 1, 1) := by decide +kernel
theorem dX8_member_1 : decode cX8_member 1 = .ok (.invokestatic 150, 3) := by decide +kernel
theorem dX8_member_4 : decode cX8_member 4 = .ok (.ifCond .eq 14, 3) := by decide +kernel
theorem dX8_member_7 : decode cX8_member 7 = .ok (.iload_n 3, 1) := by decide +kernel
theorem dX8_member_8 : decode cX8_member 8 = .ok (.invokestatic 150, 3) := by decide +kernel
theorem dX8_member_11 : decode cX8_member 11 = .ok (.ifCond .eq 7, 3) := by decide +kernel
theorem dX8_member_14 : decode cX8_member 14 = .ok (.iconst 1, 1) := by decide +kernel
theorem dX8_member_15 : decode cX8_member 15 = .ok (.goto 4, 3) := by decide +kernel
theorem dX8_member_18 : decode cX8_member 18 = .ok (.iconst 0, 1) := by decide +kernel
theorem dX8_member_19 : decode cX8_member 19 = .ok (.istore 5, 2) := by decide +kernel
theorem dX8_member_21 : decode cX8_member 21 = .ok (.iload 5, 2) := by decide +kernel
theorem dX8_member_23 : decode cX8_member 23 = .ok (.ifCond .eq 30, 3) := by decide +kernel
theorem dX8_member_26 : decode cX8_member 26 = .ok (.iload_n 2, 1) := by decide +kernel
theorem dX8_member_27 : decode cX8_member 27 = .ok (.ifCond .eq 26, 3) := by decide +kernel
theorem dX8_member_30 : decode cX8_member 30 = .ok (.iload 4, 2) := by decide +kernel
theorem dX8_member_32 : decode cX8_member 32 = .ok (.ifCond .eq 21, 3) := by decide +kernel
theorem dX8_member_35 : decode cX8_member 35 = .ok (.aload_n 0, 1) := by decide +kernel
theorem dX8_member_36 : decode cX8_member 36 = .ok (.iconst 1, 1) := by decide +kernel
theorem dX8_member_37 : decode cX8_member 37 = .ok (.iload_n 1, 1) := by decide +kernel
theorem dX8_member_38 : decode cX8_member 38 = .ok (.ishl, 1) := by decide +kernel
theorem dX8_member_39 : decode cX8_member 39 = .ok (.invokevirtual 146, 3) := by decide +kernel
theorem dX8_member_42 : decode cX8_member 42 = .ok (.iload_n 3, 1) := by decide +kernel
theorem dX8_member_43 : decode cX8_member 43 = .ok (.invokestatic 142, 3) := by decide +kernel
theorem dX8_member_46 : decode cX8_member 46 = .ok (.ifCond .eq 7, 3) := by decide +kernel
theorem dX8_member_49 : decode cX8_member 49 = .ok (.iconst 1, 1) := by decide +kernel
theorem dX8_member_50 : decode cX8_member 50 = .ok (.goto 4, 3) := by decide +kernel
theorem dX8_member_53 : decode cX8_member 53 = .ok (.iconst 0, 1) := by decide +kernel
theorem dX8_member_54 : decode cX8_member 54 = .ok (.istore 6, 2) := by decide +kernel
theorem dX8_member_56 : decode cX8_member 56 = .ok (.aload_n 0, 1) := by decide +kernel
theorem dX8_member_57 : decode cX8_member 57 = .ok (.iload 5, 2) := by decide +kernel
theorem dX8_member_59 : decode cX8_member 59 = .ok (.ifCond .ne 7, 3) := by decide +kernel
theorem dX8_member_62 : decode cX8_member 62 = .ok (.iconst 1, 1) := by decide +kernel
theorem dX8_member_63 : decode cX8_member 63 = .ok (.goto 13, 3) := by decide +kernel
theorem dX8_member_66 : decode cX8_member 66 = .ok (.iload 6, 2) := by decide +kernel
theorem dX8_member_68 : decode cX8_member 68 = .ok (.ifCond .eq 7, 3) := by decide +kernel
theorem dX8_member_71 : decode cX8_member 71 = .ok (.iconst 2, 1) := by decide +kernel
theorem dX8_member_72 : decode cX8_member 72 = .ok (.goto 4, 3) := by decide +kernel
theorem dX8_member_75 : decode cX8_member 75 = .ok (.iconst 0, 1) := by decide +kernel
theorem dX8_member_76 : decode cX8_member 76 = .ok (.invokevirtual 154, 3) := by decide +kernel
theorem dX8_member_79 : decode cX8_member 79 = .ok (.ifCond .eq 5, 3) := by decide +kernel
theorem dX8_member_82 : decode cX8_member 82 = .ok (.iconst 0, 1) := by decide +kernel
theorem dX8_member_83 : decode cX8_member 83 = .ok (.ireturn, 1) := by decide +kernel
theorem dX8_member_84 : decode cX8_member 84 = .ok (.iload_n 2, 1) := by decide +kernel
theorem dX8_member_85 : decode cX8_member 85 = .ok (.ifCond .eq 10, 3) := by decide +kernel
theorem dX8_member_88 : decode cX8_member 88 = .ok (.aload_n 0, 1) := by decide +kernel
theorem dX8_member_89 : decode cX8_member 89 = .ok (.getfield 13, 3) := by decide +kernel
theorem dX8_member_92 : decode cX8_member 92 = .ok (.goto 7, 3) := by decide +kernel
theorem dX8_member_95 : decode cX8_member 95 = .ok (.aload_n 0, 1) := by decide +kernel
theorem dX8_member_96 : decode cX8_member 96 = .ok (.getfield 7, 3) := by decide +kernel
theorem dX8_member_99 : decode cX8_member 99 = .ok (.astore 7, 2) := by decide +kernel
theorem dX8_member_101 : decode cX8_member 101 = .ok (.aload 7, 2) := by decide +kernel
theorem dX8_member_103 : decode cX8_member 103 = .ok (.iload_n 1, 1) := by decide +kernel
theorem dX8_member_104 : decode cX8_member 104 = .ok (.iaload, 1) := by decide +kernel
theorem dX8_member_105 : decode cX8_member 105 = .ok (.iload_n 3, 1) := by decide +kernel
theorem dX8_member_106 : decode cX8_member 106 = .ok (.invokestatic 142, 3) := by decide +kernel
theorem dX8_member_109 : decode cX8_member 109 = .ok (.istore 8, 2) := by decide +kernel
theorem dX8_member_111 : decode cX8_member 111 = .ok (.aload 7, 2) := by decide +kernel
theorem dX8_member_113 : decode cX8_member 113 = .ok (.iload_n 1, 1) := by decide +kernel
theorem dX8_member_114 : decode cX8_member 114 = .ok (.iload 4, 2) := by decide +kernel
theorem dX8_member_116 : decode cX8_member 116 = .ok (.ifCond .eq 14, 3) := by decide +kernel
theorem dX8_member_119 : decode cX8_member 119 = .ok (.aload 7, 2) := by decide +kernel
theorem dX8_member_121 : decode cX8_member 121 = .ok (.iload_n 1, 1) := by decide +kernel
theorem dX8_member_122 : decode cX8_member 122 = .ok (.iaload, 1) := by decide +kernel
theorem dX8_member_123 : decode cX8_member 123 = .ok (.iconst 1, 1) := by decide +kernel
theorem dX8_member_124 : decode cX8_member 124 = .ok (.iload_n 3, 1) := by decide +kernel
theorem dX8_member_125 : decode cX8_member 125 = .ok (.ishl, 1) := by decide +kernel
theorem dX8_member_126 : decode cX8_member 126 = .ok (.ior, 1) := by decide +kernel
theorem dX8_member_127 : decode cX8_member 127 = .ok (.goto 13, 3) := by decide +kernel
theorem dX8_member_130 : decode cX8_member 130 = .ok (.aload 7, 2) := by decide +kernel
theorem dX8_member_132 : decode cX8_member 132 = .ok (.iload_n 1, 1) := by decide +kernel
theorem dX8_member_133 : decode cX8_member 133 = .ok (.iaload, 1) := by decide +kernel
theorem dX8_member_134 : decode cX8_member 134 = .ok (.iconst 1, 1) := by decide +kernel
theorem dX8_member_135 : decode cX8_member 135 = .ok (.iload_n 3, 1) := by decide +kernel
theorem dX8_member_136 : decode cX8_member 136 = .ok (.ishl, 1) := by decide +kernel
theorem dX8_member_137 : decode cX8_member 137 = .ok (.iconst (-1), 1) := by decide +kernel
theorem dX8_member_138 : decode cX8_member 138 = .ok (.ixor, 1) := by decide +kernel
theorem dX8_member_139 : decode cX8_member 139 = .ok (.iand, 1) := by decide +kernel
theorem dX8_member_140 : decode cX8_member 140 = .ok (.iastore, 1) := by decide +kernel
theorem dX8_member_141 : decode cX8_member 141 = .ok (.iload 8, 2) := by decide +kernel
theorem dX8_member_143 : decode cX8_member 143 = .ok (.ireturn, 1) := by decide +kernel
theorem dX8_groups_0 : decode cX8_groups 0 = .ok (.aload_n 0, 1) := by decide +kernel
theorem dX8_groups_1 : decode cX8_groups 1 = .ok (.iload_n 1, 1) := by decide +kernel
theorem dX8_groups_2 : decode cX8_groups 2 = .ok (.invokestatic 150, 3) := by decide +kernel
theorem dX8_groups_5 : decode cX8_groups 5 = .ok (.ifCond .eq 7, 3) := by decide +kernel
theorem dX8_groups_8 : decode cX8_groups 8 = .ok (.iconst 0, 1) := by decide +kernel
theorem dX8_groups_9 : decode cX8_groups 9 = .ok (.goto 4, 3) := by decide +kernel
theorem dX8_groups_12 : decode cX8_groups 12 = .ok (.iconst 1, 1) := by decide +kernel
theorem dX8_groups_13 : decode cX8_groups 13 = .ok (.invokevirtual 154, 3) := by decide +kernel
theorem dX8_groups_16 : decode cX8_groups 16 = .ok (.ifCond .eq 7, 3) := by decide +kernel
theorem dX8_groups_19 : decode cX8_groups 19 = .ok (.iconst 0, 1) := by decide +kernel
theorem dX8_groups_20 : decode cX8_groups 20 = .ok (.goto 8, 3) := by decide +kernel
theorem dX8_groups_23 : decode cX8_groups 23 = .ok (.aload_n 0, 1) := by decide +kernel
theorem dX8_groups_24 : decode cX8_groups 24 = .ok (.iload_n 1, 1) := by decide +kernel
theorem dX8_groups_25 : decode cX8_groups 25 = .ok (.invokevirtual 156, 3) := by decide +kernel
theorem dX8_groups_28 : decode cX8_groups 28 = .ok (.ireturn, 1) := by decide +kernel
theorem dX8_thing_0 : decode cX8_thing 0 = .ok (.iload_n 1, 1) := by decide +kernel
theorem dX8_thing_1 : decode cX8_thing 1 = .ok (.iconst (-1), 1) := by decide +kernel
theorem dX8_thing_2 : decode cX8_thing 2 = .ok (.if_icmp .eq 11, 3) := by decide +kernel
theorem dX8_thing_5 : decode cX8_thing 5 = .ok (.aload_n 0, 1) := by decide +kernel
theorem dX8_thing_6 : decode cX8_thing 6 = .ok (.iload_n 1, 1) := by decide +kernel
theorem dX8_thing_7 : decode cX8_thing 7 = .ok (.invokevirtual 159, 3) := by decide +kernel
theorem dX8_thing_10 : decode cX8_thing 10 = .ok (.ifCond .eq 21, 3) := by decide +kernel
theorem dX8_thing_13 : decode cX8_thing 13 = .ok (.iload_n 2, 1) := by decide +kernel
theorem dX8_thing_14 : decode cX8_thing 14 = .ok (.invokestatic 150, 3) := by decide +kernel
theorem dX8_thing_17 : decode cX8_thing 17 = .ok (.ifCond .eq 14, 3) := by decide +kernel
theorem dX8_thing_20 : decode cX8_thing 20 = .ok (.iload_n 3, 1) := by decide +kernel
theorem dX8_thing_21 : decode cX8_thing 21 = .ok (.invokestatic 150, 3) := by decide +kernel
theorem dX8_thing_24 : decode cX8_thing 24 = .ok (.ifCond .eq 7, 3) := by decide +kernel
theorem dX8_thing_27 : decode cX8_thing 27 = .ok (.iconst 1, 1) := by decide +kernel
theorem dX8_thing_28 : decode cX8_thing 28 = .ok (.goto 4, 3) := by decide +kernel
theorem dX8_thing_31 : decode cX8_thing 31 = .ok (.iconst 0, 1) := by decide +kernel
theorem dX8_thing_32 : decode cX8_thing 32 = .ok (.istore 5, 2) := by decide +kernel
theorem dX8_thing_34 : decode cX8_thing 34 = .ok (.aload_n 0, 1) := by decide +kernel
theorem dX8_thing_35 : decode cX8_thing 35 = .ok (.iload 5, 2) := by decide +kernel
theorem dX8_thing_37 : decode cX8_thing 37 = .ok (.ifCond .ne 7, 3) := by decide +kernel
theorem dX8_thing_40 : decode cX8_thing 40 = .ok (.iconst 1, 1) := by decide +kernel
theorem dX8_thing_41 : decode cX8_thing 41 = .ok (.goto 33, 3) := by decide +kernel
theorem dX8_thing_44 : decode cX8_thing 44 = .ok (.iload 4, 2) := by decide +kernel
theorem dX8_thing_46 : decode cX8_thing 46 = .ok (.iconst 0, 1) := by decide +kernel
theorem dX8_thing_47 : decode cX8_thing 47 = .ok (.sipush 1023, 3) := by decide +kernel
theorem dX8_thing_50 : decode cX8_thing 50 = .ok (.invokestatic 129, 3) := by decide +kernel
theorem dX8_thing_53 : decode cX8_thing 53 = .ok (.ifCond .ne 7, 3) := by decide +kernel
theorem dX8_thing_56 : decode cX8_thing 56 = .ok (.iconst 2, 1) := by decide +kernel
theorem dX8_thing_57 : decode cX8_thing 57 = .ok (.goto 17, 3) := by decide +kernel
theorem dX8_thing_60 : decode cX8_thing 60 = .ok (.aload_n 0, 1) := by decide +kernel
theorem dX8_thing_61 : decode cX8_thing 61 = .ok (.getfield 133, 3) := by decide +kernel
theorem dX8_thing_64 : decode cX8_thing 64 = .ok (.bipush 12, 2) := by decide +kernel
theorem dX8_thing_66 : decode cX8_thing 66 = .ok (.if_icmp .ne 7, 3) := by decide +kernel
theorem dX8_thing_69 : decode cX8_thing 69 = .ok (.iconst 3, 1) := by decide +kernel
theorem dX8_thing_70 : decode cX8_thing 70 = .ok (.goto 4, 3) := by decide +kernel
theorem dX8_thing_73 : decode cX8_thing 73 = .ok (.iconst 0, 1) := by decide +kernel
theorem dX8_thing_74 : decode cX8_thing 74 = .ok (.invokevirtual 154, 3) := by decide +kernel
theorem dX8_thing_77 : decode cX8_thing 77 = .ok (.ifCond .eq 5, 3) := by decide +kernel
theorem dX8_thing_80 : decode cX8_thing 80 = .ok (.iconst 0, 1) := by decide +kernel
theorem dX8_thing_81 : decode cX8_thing 81 = .ok (.ireturn, 1) := by decide +kernel
theorem dX8_thing_82 : decode cX8_thing 82 = .ok (.aload_n 0, 1) := by decide +kernel
theorem dX8_thing_83 : decode cX8_thing 83 = .ok (.getfield 133, 3) := by decide +kernel
theorem dX8_thing_86 : decode cX8_thing 86 = .ok (.istore 6, 2) := by decide +kernel
theorem dX8_thing_88 : decode cX8_thing 88 = .ok (.aload_n 0, 1) := by decide +kernel
theorem dX8_thing_89 : decode cX8_thing 89 = .ok (.dup, 1) := by decide +kernel
theorem dX8_thing_90 : decode cX8_thing 90 = .ok (.getfield 133, 3) := by decide +kernel
theorem dX8_thing_93 : decode cX8_thing 93 = .ok (.iconst 1, 1) := by decide +kernel
theorem dX8_thing_94 : decode cX8_thing 94 = .ok (.iadd, 1) := by decide +kernel
theorem dX8_thing_95 : decode cX8_thing 95 = .ok (.putfield 133, 3) := by decide +kernel
theorem dX8_thing_98 : decode cX8_thing 98 = .ok (.aload_n 0, 1) := by decide +kernel
theorem dX8_thing_99 : decode cX8_thing 99 = .ok (.getfield 16, 3) := by decide +kernel
theorem dX8_thing_102 : decode cX8_thing 102 = .ok (.iload 6, 2) := by decide +kernel
theorem dX8_thing_104 : decode cX8_thing 104 = .ok (.iload_n 2, 1) := by decide +kernel
theorem dX8_thing_105 : decode cX8_thing 105 = .ok (.iastore, 1) := by decide +kernel
theorem dX8_thing_106 : decode cX8_thing 106 = .ok (.aload_n 0, 1) := by decide +kernel
theorem dX8_thing_107 : decode cX8_thing 107 = .ok (.getfield 19, 3) := by decide +kernel
theorem dX8_thing_110 : decode cX8_thing 110 = .ok (.iload 6, 2) := by decide +kernel
theorem dX8_thing_112 : decode cX8_thing 112 = .ok (.iload_n 3, 1) := by decide +kernel
theorem dX8_thing_113 : decode cX8_thing 113 = .ok (.iastore, 1) := by decide +kernel
theorem dX8_thing_114 : decode cX8_thing 114 = .ok (.aload_n 0, 1) := by decide +kernel
theorem dX8_thing_115 : decode cX8_thing 115 = .ok (.getfield 22, 3) := by decide +kernel
theorem dX8_thing_118 : decode cX8_thing 118 = .ok (.iload 6, 2) := by decide +kernel
theorem dX8_thing_120 : decode cX8_thing 120 = .ok (.iload 4, 2) := by decide +kernel
theorem dX8_thing_122 : decode cX8_thing 122 = .ok (.iastore, 1) := by decide +kernel
theorem dX8_thing_123 : decode cX8_thing 123 = .ok (.aload_n 0, 1) := by decide +kernel
theorem dX8_thing_124 : decode cX8_thing 124 = .ok (.getfield 34, 3) := by decide +kernel
theorem dX8_thing_127 : decode cX8_thing 127 = .ok (.iload 6, 2) := by decide +kernel
theorem dX8_thing_129 : decode cX8_thing 129 = .ok (.bipush 7, 2) := by decide +kernel
theorem dX8_thing_131 : decode cX8_thing 131 = .ok (.iastore, 1) := by decide +kernel
theorem dX8_thing_132 : decode cX8_thing 132 = .ok (.iconst 0, 1) := by decide +kernel
theorem dX8_thing_133 : decode cX8_thing 133 = .ok (.istore 7, 2) := by decide +kernel
theorem dX8_thing_135 : decode cX8_thing 135 = .ok (.iload_n 1, 1) := by decide +kernel
theorem dX8_thing_136 : decode cX8_thing 136 = .ok (.iconst (-1), 1) := by decide +kernel
theorem dX8_thing_137 : decode cX8_thing 137 = .ok (.if_icmp .eq 99, 3) := by decide +kernel
theorem dX8_thing_140 : decode cX8_thing 140 = .ok (.iload 7, 2) := by decide +kernel
theorem dX8_thing_142 : decode cX8_thing 142 = .ok (.aload_n 0, 1) := by decide +kernel
theorem dX8_thing_143 : decode cX8_thing 143 = .ok (.getfield 37, 3) := by decide +kernel
theorem dX8_thing_146 : decode cX8_thing 146 = .ok (.iload_n 1, 1) := by decide +kernel
theorem dX8_thing_147 : decode cX8_thing 147 = .ok (.iaload, 1) := by decide +kernel
theorem dX8_thing_148 : decode cX8_thing 148 = .ok (.if_icmp .ge 88, 3) := by decide +kernel
theorem dX8_thing_151 : decode cX8_thing 151 = .ok (.aload_n 0, 1) := by decide +kernel
theorem dX8_thing_152 : decode cX8_thing 152 = .ok (.getfield 50, 3) := by decide +kernel
theorem dX8_thing_155 : decode cX8_thing 155 = .ok (.iconst 5, 1) := by decide +kernel
theorem dX8_thing_156 : decode cX8_thing 156 = .ok (.iload_n 1, 1) := by decide +kernel
theorem dX8_thing_157 : decode cX8_thing 157 = .ok (.imul, 1) := by decide +kernel
theorem dX8_thing_158 : decode cX8_thing 158 = .ok (.iload 7, 2) := by decide +kernel
theorem dX8_thing_160 : decode cX8_thing 160 = .ok (.iadd, 1) := by decide +kernel
theorem dX8_thing_161 : decode cX8_thing 161 = .ok (.baload, 1) := by decide +kernel
theorem dX8_thing_162 : decode cX8_thing 162 = .ok (.ifCond .eq 68, 3) := by decide +kernel
theorem dX8_thing_165 : decode cX8_thing 165 = .ok (.iconst 5, 1) := by decide +kernel
theorem dX8_thing_166 : decode cX8_thing 166 = .ok (.iload 6, 2) := by decide +kernel
theorem dX8_thing_168 : decode cX8_thing 168 = .ok (.imul, 1) := by decide +kernel
theorem dX8_thing_169 : decode cX8_thing 169 = .ok (.aload_n 0, 1) := by decide +kernel
theorem dX8_thing_170 : decode cX8_thing 170 = .ok (.getfield 37, 3) := by decide +kernel
theorem dX8_thing_173 : decode cX8_thing 173 = .ok (.iload 6, 2) := by decide +kernel
theorem dX8_thing_175 : decode cX8_thing 175 = .ok (.iaload, 1) := by decide +kernel
theorem dX8_thing_176 : decode cX8_thing 176 = .ok (.iadd, 1) := by decide +kernel
theorem dX8_thing_177 : decode cX8_thing 177 = .ok (.istore 8, 2) := by decide +kernel
theorem dX8_thing_179 : decode cX8_thing 179 = .ok (.aload_n 0, 1) := by decide +kernel
theorem dX8_thing_180 : decode cX8_thing 180 = .ok (.iload 8, 2) := by decide +kernel
theorem dX8_thing_182 : decode cX8_thing 182 = .ok (.aload_n 0, 1) := by decide +kernel
theorem dX8_thing_183 : decode cX8_thing 183 = .ok (.getfield 43, 3) := by decide +kernel
theorem dX8_thing_186 : decode cX8_thing 186 = .ok (.iconst 5, 1) := by decide +kernel
theorem dX8_thing_187 : decode cX8_thing 187 = .ok (.iload_n 1, 1) := by decide +kernel
theorem dX8_thing_188 : decode cX8_thing 188 = .ok (.imul, 1) := by decide +kernel
theorem dX8_thing_189 : decode cX8_thing 189 = .ok (.iload 7, 2) := by decide +kernel
theorem dX8_thing_191 : decode cX8_thing 191 = .ok (.iadd, 1) := by decide +kernel
theorem dX8_thing_192 : decode cX8_thing 192 = .ok (.baload, 1) := by decide +kernel
theorem dX8_thing_193 : decode cX8_thing 193 = .ok (.aload_n 0, 1) := by decide +kernel
theorem dX8_thing_194 : decode cX8_thing 194 = .ok (.getfield 40, 3) := by decide +kernel
theorem dX8_thing_197 : decode cX8_thing 197 = .ok (.iconst 5, 1) := by decide +kernel
theorem dX8_thing_198 : decode cX8_thing 198 = .ok (.iload_n 1, 1) := by decide +kernel
theorem dX8_thing_199 : decode cX8_thing 199 = .ok (.imul, 1) := by decide +kernel
theorem dX8_thing_200 : decode cX8_thing 200 = .ok (.iload 7, 2) := by decide +kernel
theorem dX8_thing_202 : decode cX8_thing 202 = .ok (.iadd, 1) := by decide +kernel
theorem dX8_thing_203 : decode cX8_thing 203 = .ok (.iaload, 1) := by decide +kernel
theorem dX8_thing_204 : decode cX8_thing 204 = .ok (.aload_n 0, 1) := by decide +kernel
theorem dX8_thing_205 : decode cX8_thing 205 = .ok (.getfield 47, 3) := by decide +kernel
theorem dX8_thing_208 : decode cX8_thing 208 = .ok (.iconst 5, 1) := by decide +kernel
theorem dX8_thing_209 : decode cX8_thing 209 = .ok (.iload_n 1, 1) := by decide +kernel
theorem dX8_thing_210 : decode cX8_thing 210 = .ok (.imul, 1) := by decide +kernel
theorem dX8_thing_211 : decode cX8_thing 211 = .ok (.iload 7, 2) := by decide +kernel
theorem dX8_thing_213 : decode cX8_thing 213 = .ok (.iadd, 1) := by decide +kernel
theorem dX8_thing_214 : decode cX8_thing 214 = .ok (.iaload, 1) := by decide +kernel
theorem dX8_thing_215 : decode cX8_thing 215 = .ok (.iconst 1, 1) := by decide +kernel
theorem dX8_thing_216 : decode cX8_thing 216 = .ok (.invokevirtual 162, 3) := by decide +kernel
theorem dX8_thing_219 : decode cX8_thing 219 = .ok (.aload_n 0, 1) := by decide +kernel
theorem dX8_thing_220 : decode cX8_thing 220 = .ok (.getfield 37, 3) := by decide +kernel
theorem dX8_thing_223 : decode cX8_thing 223 = .ok (.iload 6, 2) := by decide +kernel
theorem dX8_thing_225 : decode cX8_thing 225 = .ok (.dup2, 1) := by decide +kernel
theorem dX8_thing_226 : decode cX8_thing 226 = .ok (.iaload, 1) := by decide +kernel
theorem dX8_thing_227 : decode cX8_thing 227 = .ok (.iconst 1, 1) := by decide +kernel
theorem dX8_thing_228 : decode cX8_thing 228 = .ok (.iadd, 1) := by decide +kernel
theorem dX8_thing_229 : decode cX8_thing 229 = .ok (.iastore, 1) := by decide +kernel
theorem dX8_thing_230 : decode cX8_thing 230 = .ok (.iinc 7 1, 3) := by decide +kernel
theorem dX8_thing_233 : decode cX8_thing 233 = .ok (.goto (-98), 3) := by decide +kernel
theorem dX8_thing_236 : decode cX8_thing 236 = .ok (.iload 6, 2) := by decide +kernel
theorem dX8_thing_238 : decode cX8_thing 238 = .ok (.ireturn, 1) := by decide +kernel
theorem dX8_layEntry_0 : decode cX8_layEntry 0 = .ok (.aload_n 0, 1) := by decide +kernel
theorem dX8_layEntry_1 : decode cX8_layEntry 1 = .ok (.getfield 43, 3) := by decide +kernel
theorem dX8_layEntry_4 : decode cX8_layEntry 4 = .ok (.iload_n 1, 1) := by decide +kernel
theorem dX8_layEntry_5 : decode cX8_layEntry 5 = .ok (.iload_n 2, 1) := by decide +kernel
theorem dX8_layEntry_6 : decode cX8_layEntry 6 = .ok (.bastore, 1) := by decide +kernel
theorem dX8_layEntry_7 : decode cX8_layEntry 7 = .ok (.aload_n 0, 1) := by decide +kernel
theorem dX8_layEntry_8 : decode cX8_layEntry 8 = .ok (.getfield 40, 3) := by decide +kernel
theorem dX8_layEntry_11 : decode cX8_layEntry 11 = .ok (.iload_n 1, 1) := by decide +kernel
theorem dX8_layEntry_12 : decode cX8_layEntry 12 = .ok (.iload_n 3, 1) := by decide +kernel
theorem dX8_layEntry_13 : decode cX8_layEntry 13 = .ok (.iastore, 1) := by decide +kernel
theorem dX8_layEntry_14 : decode cX8_layEntry 14 = .ok (.aload_n 0, 1) := by decide +kernel
theorem dX8_layEntry_15 : decode cX8_layEntry 15 = .ok (.getfield 47, 3) := by decide +kernel
theorem dX8_layEntry_18 : decode cX8_layEntry 18 = .ok (.iload_n 1, 1) := by decide +kernel
theorem dX8_layEntry_19 : decode cX8_layEntry 19 = .ok (.iload 4, 2) := by decide +kernel
theorem dX8_layEntry_21 : decode cX8_layEntry 21 = .ok (.iastore, 1) := by decide +kernel
theorem dX8_layEntry_22 : decode cX8_layEntry 22 = .ok (.aload_n 0, 1) := by decide +kernel
theorem dX8_layEntry_23 : decode cX8_layEntry 23 = .ok (.getfield 50, 3) := by decide +kernel
theorem dX8_layEntry_26 : decode cX8_layEntry 26 = .ok (.iload_n 1, 1) := by decide +kernel
theorem dX8_layEntry_27 : decode cX8_layEntry 27 = .ok (.iload 5, 2) := by decide +kernel
theorem dX8_layEntry_29 : decode cX8_layEntry 29 = .ok (.bastore, 1) := by decide +kernel
theorem dX8_layEntry_30 : decode cX8_layEntry 30 = .ok (.return_, 1) := by decide +kernel
theorem dX8_type_0 : decode cX8_type 0 = .ok (.aload_n 0, 1) := by decide +kernel
theorem dX8_type_1 : decode cX8_type 1 = .ok (.aload_n 0, 1) := by decide +kernel
theorem dX8_type_2 : decode cX8_type 2 = .ok (.iload_n 1, 1) := by decide +kernel
theorem dX8_type_3 : decode cX8_type 3 = .ok (.invokevirtual 159, 3) := by decide +kernel
theorem dX8_type_6 : decode cX8_type 6 = .ok (.ifCond .ne 7, 3) := by decide +kernel
theorem dX8_type_9 : decode cX8_type 9 = .ok (.iconst 1, 1) := by decide +kernel
theorem dX8_type_10 : decode cX8_type 10 = .ok (.goto 17, 3) := by decide +kernel
theorem dX8_type_13 : decode cX8_type 13 = .ok (.iload_n 2, 1) := by decide +kernel
theorem dX8_type_14 : decode cX8_type 14 = .ok (.iconst 0, 1) := by decide +kernel
theorem dX8_type_15 : decode cX8_type 15 = .ok (.iconst 3, 1) := by decide +kernel
theorem dX8_type_16 : decode cX8_type 16 = .ok (.invokestatic 129, 3) := by decide +kernel
theorem dX8_type_19 : decode cX8_type 19 = .ok (.ifCond .ne 7, 3) := by decide +kernel
theorem dX8_type_22 : decode cX8_type 22 = .ok (.iconst 2, 1) := by decide +kernel
theorem dX8_type_23 : decode cX8_type 23 = .ok (.goto 4, 3) := by decide +kernel
theorem dX8_type_26 : decode cX8_type 26 = .ok (.iconst 0, 1) := by decide +kernel
theorem dX8_type_27 : decode cX8_type 27 = .ok (.invokevirtual 154, 3) := by decide +kernel
theorem dX8_type_30 : decode cX8_type 30 = .ok (.ifCond .eq 5, 3) := by decide +kernel
theorem dX8_type_33 : decode cX8_type 33 = .ok (.iconst 0, 1) := by decide +kernel
theorem dX8_type_34 : decode cX8_type 34 = .ok (.ireturn, 1) := by decide +kernel
theorem dX8_type_35 : decode cX8_type 35 = .ok (.aload_n 0, 1) := by decide +kernel
theorem dX8_type_36 : decode cX8_type 36 = .ok (.getfield 25, 3) := by decide +kernel
theorem dX8_type_39 : decode cX8_type 39 = .ok (.iload_n 1, 1) := by decide +kernel
theorem dX8_type_40 : decode cX8_type 40 = .ok (.iaload, 1) := by decide +kernel
theorem dX8_type_41 : decode cX8_type 41 = .ok (.istore_n 3, 1) := by decide +kernel
theorem dX8_type_42 : decode cX8_type 42 = .ok (.aload_n 0, 1) := by decide +kernel
theorem dX8_type_43 : decode cX8_type 43 = .ok (.getfield 25, 3) := by decide +kernel
theorem dX8_type_46 : decode cX8_type 46 = .ok (.iload_n 1, 1) := by decide +kernel
theorem dX8_type_47 : decode cX8_type 47 = .ok (.iload_n 2, 1) := by decide +kernel
theorem dX8_type_48 : decode cX8_type 48 = .ok (.iastore, 1) := by decide +kernel
theorem dX8_type_49 : decode cX8_type 49 = .ok (.iload_n 3, 1) := by decide +kernel
theorem dX8_type_50 : decode cX8_type 50 = .ok (.ireturn, 1) := by decide +kernel
theorem dX8_mayChange_0 : decode cX8_mayChange 0 = .ok (.aload_n 0, 1) := by decide +kernel
theorem dX8_mayChange_1 : decode cX8_mayChange 1 = .ok (.getfield 59, 3) := by decide +kernel
theorem dX8_mayChange_4 : decode cX8_mayChange 4 = .ok (.iload_n 1, 1) := by decide +kernel
theorem dX8_mayChange_5 : decode cX8_mayChange 5 = .ok (.iaload, 1) := by decide +kernel
theorem dX8_mayChange_6 : decode cX8_mayChange 6 = .ok (.aload_n 0, 1) := by decide +kernel
theorem dX8_mayChange_7 : decode cX8_mayChange 7 = .ok (.getfield 16, 3) := by decide +kernel
theorem dX8_mayChange_10 : decode cX8_mayChange 10 = .ok (.iload_n 2, 1) := by decide +kernel
theorem dX8_mayChange_11 : decode cX8_mayChange 11 = .ok (.iaload, 1) := by decide +kernel
theorem dX8_mayChange_12 : decode cX8_mayChange 12 = .ok (.if_icmp .eq 16, 3) := by decide +kernel
theorem dX8_mayChange_15 : decode cX8_mayChange 15 = .ok (.aload_n 0, 1) := by decide +kernel
theorem dX8_mayChange_16 : decode cX8_mayChange 16 = .ok (.getfield 71, 3) := by decide +kernel
theorem dX8_mayChange_19 : decode cX8_mayChange 19 = .ok (.iload_n 1, 1) := by decide +kernel
theorem dX8_mayChange_20 : decode cX8_mayChange 20 = .ok (.iaload, 1) := by decide +kernel
theorem dX8_mayChange_21 : decode cX8_mayChange 21 = .ok (.iconst 1, 1) := by decide +kernel
theorem dX8_mayChange_22 : decode cX8_mayChange 22 = .ok (.invokestatic 142, 3) := by decide +kernel
theorem dX8_mayChange_25 : decode cX8_mayChange 25 = .ok (.ifCond .eq 7, 3) := by decide +kernel
theorem dX8_mayChange_28 : decode cX8_mayChange 28 = .ok (.iconst 1, 1) := by decide +kernel
theorem dX8_mayChange_29 : decode cX8_mayChange 29 = .ok (.goto 4, 3) := by decide +kernel
theorem dX8_mayChange_32 : decode cX8_mayChange 32 = .ok (.iconst 0, 1) := by decide +kernel
theorem dX8_mayChange_33 : decode cX8_mayChange 33 = .ok (.ireturn, 1) := by decide +kernel
theorem dX8_whyNot_0 : decode cX8_whyNot 0 = .ok (.aload_n 0, 1) := by decide +kernel
theorem dX8_whyNot_1 : decode cX8_whyNot 1 = .ok (.iload_n 1, 1) := by decide +kernel
theorem dX8_whyNot_2 : decode cX8_whyNot 2 = .ok (.invokevirtual 166, 3) := by decide +kernel
theorem dX8_whyNot_5 : decode cX8_whyNot 5 = .ok (.ifCond .eq 15, 3) := by decide +kernel
theorem dX8_whyNot_8 : decode cX8_whyNot 8 = .ok (.aload_n 0, 1) := by decide +kernel
theorem dX8_whyNot_9 : decode cX8_whyNot 9 = .ok (.iload_n 2, 1) := by decide +kernel
theorem dX8_whyNot_10 : decode cX8_whyNot 10 = .ok (.invokevirtual 159, 3) := by decide +kernel
theorem dX8_whyNot_13 : decode cX8_whyNot 13 = .ok (.ifCond .eq 7, 3) := by decide +kernel
theorem dX8_whyNot_16 : decode cX8_whyNot 16 = .ok (.iconst 1, 1) := by decide +kernel
theorem dX8_whyNot_17 : decode cX8_whyNot 17 = .ok (.goto 4, 3) := by decide +kernel
theorem dX8_whyNot_20 : decode cX8_whyNot 20 = .ok (.iconst 0, 1) := by decide +kernel
theorem dX8_whyNot_21 : decode cX8_whyNot 21 = .ok (.istore 4, 2) := by decide +kernel
theorem dX8_whyNot_23 : decode cX8_whyNot 23 = .ok (.iload 4, 2) := by decide +kernel
theorem dX8_whyNot_25 : decode cX8_whyNot 25 = .ok (.ifCond .ne 7, 3) := by decide +kernel
theorem dX8_whyNot_28 : decode cX8_whyNot 28 = .ok (.iconst 1, 1) := by decide +kernel
theorem dX8_whyNot_29 : decode cX8_whyNot 29 = .ok (.goto 25, 3) := by decide +kernel
theorem dX8_whyNot_32 : decode cX8_whyNot 32 = .ok (.iload_n 3, 1) := by decide +kernel
theorem dX8_whyNot_33 : decode cX8_whyNot 33 = .ok (.ifCond .ne 7, 3) := by decide +kernel
theorem dX8_whyNot_36 : decode cX8_whyNot 36 = .ok (.iconst 2, 1) := by decide +kernel
theorem dX8_whyNot_37 : decode cX8_whyNot 37 = .ok (.goto 17, 3) := by decide +kernel
theorem dX8_whyNot_40 : decode cX8_whyNot 40 = .ok (.aload_n 0, 1) := by decide +kernel
theorem dX8_whyNot_41 : decode cX8_whyNot 41 = .ok (.iload_n 1, 1) := by decide +kernel
theorem dX8_whyNot_42 : decode cX8_whyNot 42 = .ok (.iload_n 2, 1) := by decide +kernel
theorem dX8_whyNot_43 : decode cX8_whyNot 43 = .ok (.invokevirtual 169, 3) := by decide +kernel
theorem dX8_whyNot_46 : decode cX8_whyNot 46 = .ok (.ifCond .ne 7, 3) := by decide +kernel
theorem dX8_whyNot_49 : decode cX8_whyNot 49 = .ok (.iconst 3, 1) := by decide +kernel
theorem dX8_whyNot_50 : decode cX8_whyNot 50 = .ok (.goto 4, 3) := by decide +kernel
theorem dX8_whyNot_53 : decode cX8_whyNot 53 = .ok (.iconst 0, 1) := by decide +kernel
theorem dX8_whyNot_54 : decode cX8_whyNot 54 = .ok (.ireturn, 1) := by decide +kernel
theorem dX8_mode_0 : decode cX8_mode 0 = .ok (.aload_n 0, 1) := by decide +kernel
theorem dX8_mode_1 : decode cX8_mode 1 = .ok (.aload_n 0, 1) := by decide +kernel
theorem dX8_mode_2 : decode cX8_mode 2 = .ok (.iload_n 1, 1) := by decide +kernel
theorem dX8_mode_3 : decode cX8_mode 3 = .ok (.iload_n 2, 1) := by decide +kernel
theorem dX8_mode_4 : decode cX8_mode 4 = .ok (.iload_n 3, 1) := by decide +kernel
theorem dX8_mode_5 : decode cX8_mode 5 = .ok (.iconst 0, 1) := by decide +kernel
theorem dX8_mode_6 : decode cX8_mode 6 = .ok (.sipush 1023, 3) := by decide +kernel
theorem dX8_mode_9 : decode cX8_mode 9 = .ok (.invokestatic 129, 3) := by decide +kernel
theorem dX8_mode_12 : decode cX8_mode 12 = .ok (.invokevirtual 172, 3) := by decide +kernel
theorem dX8_mode_15 : decode cX8_mode 15 = .ok (.invokevirtual 154, 3) := by decide +kernel
theorem dX8_mode_18 : decode cX8_mode 18 = .ok (.ifCond .eq 5, 3) := by decide +kernel
theorem dX8_mode_21 : decode cX8_mode 21 = .ok (.iconst 0, 1) := by decide +kernel
theorem dX8_mode_22 : decode cX8_mode 22 = .ok (.ireturn, 1) := by decide +kernel
theorem dX8_mode_23 : decode cX8_mode 23 = .ok (.aload_n 0, 1) := by decide +kernel
theorem dX8_mode_24 : decode cX8_mode 24 = .ok (.getfield 22, 3) := by decide +kernel
theorem dX8_mode_27 : decode cX8_mode 27 = .ok (.iload_n 2, 1) := by decide +kernel
theorem dX8_mode_28 : decode cX8_mode 28 = .ok (.iaload, 1) := by decide +kernel
theorem dX8_mode_29 : decode cX8_mode 29 = .ok (.istore 4, 2) := by decide +kernel
theorem dX8_mode_31 : decode cX8_mode 31 = .ok (.aload_n 0, 1) := by decide +kernel
theorem dX8_mode_32 : decode cX8_mode 32 = .ok (.getfield 22, 3) := by decide +kernel
theorem dX8_mode_35 : decode cX8_mode 35 = .ok (.iload_n 2, 1) := by decide +kernel
theorem dX8_mode_36 : decode cX8_mode 36 = .ok (.iload_n 3, 1) := by decide +kernel
theorem dX8_mode_37 : decode cX8_mode 37 = .ok (.iastore, 1) := by decide +kernel
theorem dX8_mode_38 : decode cX8_mode 38 = .ok (.iload 4, 2) := by decide +kernel
theorem dX8_mode_40 : decode cX8_mode 40 = .ok (.ireturn, 1) := by decide +kernel
theorem dX8_mask_0 : decode cX8_mask 0 = .ok (.aload_n 0, 1) := by decide +kernel
theorem dX8_mask_1 : decode cX8_mask 1 = .ok (.aload_n 0, 1) := by decide +kernel
theorem dX8_mask_2 : decode cX8_mask 2 = .ok (.iload_n 1, 1) := by decide +kernel
theorem dX8_mask_3 : decode cX8_mask 3 = .ok (.iload_n 2, 1) := by decide +kernel
theorem dX8_mask_4 : decode cX8_mask 4 = .ok (.iload_n 3, 1) := by decide +kernel
theorem dX8_mask_5 : decode cX8_mask 5 = .ok (.iconst 0, 1) := by decide +kernel
theorem dX8_mask_6 : decode cX8_mask 6 = .ok (.bipush 7, 2) := by decide +kernel
theorem dX8_mask_8 : decode cX8_mask 8 = .ok (.invokestatic 129, 3) := by decide +kernel
theorem dX8_mask_11 : decode cX8_mask 11 = .ok (.invokevirtual 172, 3) := by decide +kernel
theorem dX8_mask_14 : decode cX8_mask 14 = .ok (.invokevirtual 154, 3) := by decide +kernel
theorem dX8_mask_17 : decode cX8_mask 17 = .ok (.ifCond .eq 5, 3) := by decide +kernel
theorem dX8_mask_20 : decode cX8_mask 20 = .ok (.iconst 0, 1) := by decide +kernel
theorem dX8_mask_21 : decode cX8_mask 21 = .ok (.ireturn, 1) := by decide +kernel
theorem dX8_mask_22 : decode cX8_mask 22 = .ok (.aload_n 0, 1) := by decide +kernel
theorem dX8_mask_23 : decode cX8_mask 23 = .ok (.getfield 34, 3) := by decide +kernel
theorem dX8_mask_26 : decode cX8_mask 26 = .ok (.iload_n 2, 1) := by decide +kernel
theorem dX8_mask_27 : decode cX8_mask 27 = .ok (.iaload, 1) := by decide +kernel
theorem dX8_mask_28 : decode cX8_mask 28 = .ok (.istore 4, 2) := by decide +kernel
theorem dX8_mask_30 : decode cX8_mask 30 = .ok (.aload_n 0, 1) := by decide +kernel
theorem dX8_mask_31 : decode cX8_mask 31 = .ok (.getfield 34, 3) := by decide +kernel
theorem dX8_mask_34 : decode cX8_mask 34 = .ok (.iload_n 2, 1) := by decide +kernel
theorem dX8_mask_35 : decode cX8_mask 35 = .ok (.iload_n 3, 1) := by decide +kernel
theorem dX8_mask_36 : decode cX8_mask 36 = .ok (.iastore, 1) := by decide +kernel
theorem dX8_mask_37 : decode cX8_mask 37 = .ok (.iload 4, 2) := by decide +kernel
theorem dX8_mask_39 : decode cX8_mask 39 = .ok (.ireturn, 1) := by decide +kernel
theorem dX8_entryOf_0 : decode cX8_entryOf 0 = .ok (.iconst (-1), 1) := by decide +kernel
theorem dX8_entryOf_1 : decode cX8_entryOf 1 = .ok (.istore 4, 2) := by decide +kernel
theorem dX8_entryOf_3 : decode cX8_entryOf 3 = .ok (.iconst 0, 1) := by decide +kernel
theorem dX8_entryOf_4 : decode cX8_entryOf 4 = .ok (.istore 5, 2) := by decide +kernel
theorem dX8_entryOf_6 : decode cX8_entryOf 6 = .ok (.iload 5, 2) := by decide +kernel
theorem dX8_entryOf_8 : decode cX8_entryOf 8 = .ok (.aload_n 0, 1) := by decide +kernel
theorem dX8_entryOf_9 : decode cX8_entryOf 9 = .ok (.getfield 37, 3) := by decide +kernel
theorem dX8_entryOf_12 : decode cX8_entryOf 12 = .ok (.iload_n 1, 1) := by decide +kernel
theorem dX8_entryOf_13 : decode cX8_entryOf 13 = .ok (.iaload, 1) := by decide +kernel
theorem dX8_entryOf_14 : decode cX8_entryOf 14 = .ok (.if_icmp .ge 48, 3) := by decide +kernel
theorem dX8_entryOf_17 : decode cX8_entryOf 17 = .ok (.aload_n 0, 1) := by decide +kernel
theorem dX8_entryOf_18 : decode cX8_entryOf 18 = .ok (.getfield 43, 3) := by decide +kernel
theorem dX8_entryOf_21 : decode cX8_entryOf 21 = .ok (.iconst 5, 1) := by decide +kernel
theorem dX8_entryOf_22 : decode cX8_entryOf 22 = .ok (.iload_n 1, 1) := by decide +kernel
theorem dX8_entryOf_23 : decode cX8_entryOf 23 = .ok (.imul, 1) := by decide +kernel
theorem dX8_entryOf_24 : decode cX8_entryOf 24 = .ok (.iload 5, 2) := by decide +kernel
theorem dX8_entryOf_26 : decode cX8_entryOf 26 = .ok (.iadd, 1) := by decide +kernel
theorem dX8_entryOf_27 : decode cX8_entryOf 27 = .ok (.baload, 1) := by decide +kernel
theorem dX8_entryOf_28 : decode cX8_entryOf 28 = .ok (.iload_n 2, 1) := by decide +kernel
theorem dX8_entryOf_29 : decode cX8_entryOf 29 = .ok (.if_icmp .ne 23, 3) := by decide +kernel
theorem dX8_entryOf_32 : decode cX8_entryOf 32 = .ok (.aload_n 0, 1) := by decide +kernel
theorem dX8_entryOf_33 : decode cX8_entryOf 33 = .ok (.getfield 40, 3) := by decide +kernel
theorem dX8_entryOf_36 : decode cX8_entryOf 36 = .ok (.iconst 5, 1) := by decide +kernel
theorem dX8_entryOf_37 : decode cX8_entryOf 37 = .ok (.iload_n 1, 1) := by decide +kernel
theorem dX8_entryOf_38 : decode cX8_entryOf 38 = .ok (.imul, 1) := by decide +kernel
theorem dX8_entryOf_39 : decode cX8_entryOf 39 = .ok (.iload 5, 2) := by decide +kernel
theorem dX8_entryOf_41 : decode cX8_entryOf 41 = .ok (.iadd, 1) := by decide +kernel
theorem dX8_entryOf_42 : decode cX8_entryOf 42 = .ok (.iaload, 1) := by decide +kernel
theorem dX8_entryOf_43 : decode cX8_entryOf 43 = .ok (.iload_n 3, 1) := by decide +kernel
theorem dX8_entryOf_44 : decode cX8_entryOf 44 = .ok (.if_icmp .ne 8, 3) := by decide +kernel
theorem dX8_entryOf_47 : decode cX8_entryOf 47 = .ok (.iload 5, 2) := by decide +kernel
theorem dX8_entryOf_49 : decode cX8_entryOf 49 = .ok (.goto 5, 3) := by decide +kernel
theorem dX8_entryOf_52 : decode cX8_entryOf 52 = .ok (.iload 4, 2) := by decide +kernel
theorem dX8_entryOf_54 : decode cX8_entryOf 54 = .ok (.istore 4, 2) := by decide +kernel
theorem dX8_entryOf_56 : decode cX8_entryOf 56 = .ok (.iinc 5 1, 3) := by decide +kernel
theorem dX8_entryOf_59 : decode cX8_entryOf 59 = .ok (.goto (-53), 3) := by decide +kernel
theorem dX8_entryOf_62 : decode cX8_entryOf 62 = .ok (.iload 4, 2) := by decide +kernel
theorem dX8_entryOf_64 : decode cX8_entryOf 64 = .ok (.ireturn, 1) := by decide +kernel
theorem dX8_entry_0 : decode cX8_entry 0 = .ok (.aload_n 0, 1) := by decide +kernel
theorem dX8_entry_1 : decode cX8_entry 1 = .ok (.iload_n 1, 1) := by decide +kernel
theorem dX8_entry_2 : decode cX8_entry 2 = .ok (.invokevirtual 166, 3) := by decide +kernel
theorem dX8_entry_5 : decode cX8_entry 5 = .ok (.ifCond .eq 23, 3) := by decide +kernel
theorem dX8_entry_8 : decode cX8_entry 8 = .ok (.aload_n 0, 1) := by decide +kernel
theorem dX8_entry_9 : decode cX8_entry 9 = .ok (.iload_n 2, 1) := by decide +kernel
theorem dX8_entry_10 : decode cX8_entry 10 = .ok (.invokevirtual 159, 3) := by decide +kernel
theorem dX8_entry_13 : decode cX8_entry 13 = .ok (.ifCond .eq 15, 3) := by decide +kernel
theorem dX8_entry_16 : decode cX8_entry 16 = .ok (.iload 4, 2) := by decide +kernel
theorem dX8_entry_18 : decode cX8_entry 18 = .ok (.invokestatic 150, 3) := by decide +kernel
theorem dX8_entry_21 : decode cX8_entry 21 = .ok (.ifCond .eq 7, 3) := by decide +kernel
theorem dX8_entry_24 : decode cX8_entry 24 = .ok (.iconst 1, 1) := by decide +kernel
theorem dX8_entry_25 : decode cX8_entry 25 = .ok (.goto 4, 3) := by decide +kernel
theorem dX8_entry_28 : decode cX8_entry 28 = .ok (.iconst 0, 1) := by decide +kernel
theorem dX8_entry_29 : decode cX8_entry 29 = .ok (.istore 7, 2) := by decide +kernel
theorem dX8_entry_31 : decode cX8_entry 31 = .ok (.iload 5, 2) := by decide +kernel
theorem dX8_entry_33 : decode cX8_entry 33 = .ok (.iconst (-1), 1) := by decide +kernel
theorem dX8_entry_34 : decode cX8_entry 34 = .ok (.bipush 7, 2) := by decide +kernel
theorem dX8_entry_36 : decode cX8_entry 36 = .ok (.invokestatic 129, 3) := by decide +kernel
theorem dX8_entry_39 : decode cX8_entry 39 = .ok (.istore 8, 2) := by decide +kernel
theorem dX8_entry_41 : decode cX8_entry 41 = .ok (.iload 7, 2) := by decide +kernel
theorem dX8_entry_43 : decode cX8_entry 43 = .ok (.ifCond .eq 21, 3) := by decide +kernel
theorem dX8_entry_46 : decode cX8_entry 46 = .ok (.iload 8, 2) := by decide +kernel
theorem dX8_entry_48 : decode cX8_entry 48 = .ok (.ifCond .eq 16, 3) := by decide +kernel
theorem dX8_entry_51 : decode cX8_entry 51 = .ok (.aload_n 0, 1) := by decide +kernel
theorem dX8_entry_52 : decode cX8_entry 52 = .ok (.iload_n 1, 1) := by decide +kernel
theorem dX8_entry_53 : decode cX8_entry 53 = .ok (.iload_n 2, 1) := by decide +kernel
theorem dX8_entry_54 : decode cX8_entry 54 = .ok (.invokevirtual 169, 3) := by decide +kernel
theorem dX8_entry_57 : decode cX8_entry 57 = .ok (.ifCond .eq 7, 3) := by decide +kernel
theorem dX8_entry_60 : decode cX8_entry 60 = .ok (.iconst 1, 1) := by decide +kernel
theorem dX8_entry_61 : decode cX8_entry 61 = .ok (.goto 4, 3) := by decide +kernel
theorem dX8_entry_64 : decode cX8_entry 64 = .ok (.iconst 0, 1) := by decide +kernel
theorem dX8_entry_65 : decode cX8_entry 65 = .ok (.istore 9, 2) := by decide +kernel
theorem dX8_entry_67 : decode cX8_entry 67 = .ok (.iload 9, 2) := by decide +kernel
theorem dX8_entry_69 : decode cX8_entry 69 = .ok (.ifCond .eq 14, 3) := by decide +kernel
theorem dX8_entry_72 : decode cX8_entry 72 = .ok (.aload_n 0, 1) := by decide +kernel
theorem dX8_entry_73 : decode cX8_entry 73 = .ok (.iload_n 2, 1) := by decide +kernel
theorem dX8_entry_74 : decode cX8_entry 74 = .ok (.iload_n 3, 1) := by decide +kernel
theorem dX8_entry_75 : decode cX8_entry 75 = .ok (.iload 4, 2) := by decide +kernel
theorem dX8_entry_77 : decode cX8_entry 77 = .ok (.invokevirtual 176, 3) := by decide +kernel
theorem dX8_entry_80 : decode cX8_entry 80 = .ok (.goto 4, 3) := by decide +kernel
theorem dX8_entry_83 : decode cX8_entry 83 = .ok (.iconst (-1), 1) := by decide +kernel
theorem dX8_entry_84 : decode cX8_entry 84 = .ok (.istore 10, 2) := by decide +kernel
theorem dX8_entry_86 : decode cX8_entry 86 = .ok (.aload_n 0, 1) := by decide +kernel
theorem dX8_entry_87 : decode cX8_entry 87 = .ok (.iload 7, 2) := by decide +kernel
theorem dX8_entry_89 : decode cX8_entry 89 = .ok (.ifCond .ne 7, 3) := by decide +kernel
theorem dX8_entry_92 : decode cX8_entry 92 = .ok (.iconst 1, 1) := by decide +kernel
theorem dX8_entry_93 : decode cX8_entry 93 = .ok (.goto 48, 3) := by decide +kernel
theorem dX8_entry_96 : decode cX8_entry 96 = .ok (.iload 8, 2) := by decide +kernel
theorem dX8_entry_98 : decode cX8_entry 98 = .ok (.ifCond .ne 7, 3) := by decide +kernel
theorem dX8_entry_101 : decode cX8_entry 101 = .ok (.iconst 2, 1) := by decide +kernel
theorem dX8_entry_102 : decode cX8_entry 102 = .ok (.goto 39, 3) := by decide +kernel
theorem dX8_entry_105 : decode cX8_entry 105 = .ok (.iload 9, 2) := by decide +kernel
theorem dX8_entry_107 : decode cX8_entry 107 = .ok (.ifCond .ne 7, 3) := by decide +kernel
theorem dX8_entry_110 : decode cX8_entry 110 = .ok (.iconst 3, 1) := by decide +kernel
theorem dX8_entry_111 : decode cX8_entry 111 = .ok (.goto 30, 3) := by decide +kernel
theorem dX8_entry_114 : decode cX8_entry 114 = .ok (.iload 10, 2) := by decide +kernel
theorem dX8_entry_116 : decode cX8_entry 116 = .ok (.iconst (-1), 1) := by decide +kernel
theorem dX8_entry_117 : decode cX8_entry 117 = .ok (.if_icmp .ne 23, 3) := by decide +kernel
theorem dX8_entry_120 : decode cX8_entry 120 = .ok (.iload 5, 2) := by decide +kernel
theorem dX8_entry_122 : decode cX8_entry 122 = .ok (.iconst (-1), 1) := by decide +kernel
theorem dX8_entry_123 : decode cX8_entry 123 = .ok (.if_icmp .eq 17, 3) := by decide +kernel
theorem dX8_entry_126 : decode cX8_entry 126 = .ok (.aload_n 0, 1) := by decide +kernel
theorem dX8_entry_127 : decode cX8_entry 127 = .ok (.getfield 37, 3) := by decide +kernel
theorem dX8_entry_130 : decode cX8_entry 130 = .ok (.iload_n 2, 1) := by decide +kernel
theorem dX8_entry_131 : decode cX8_entry 131 = .ok (.iaload, 1) := by decide +kernel
theorem dX8_entry_132 : decode cX8_entry 132 = .ok (.iconst 5, 1) := by decide +kernel
theorem dX8_entry_133 : decode cX8_entry 133 = .ok (.if_icmp .ne 7, 3) := by decide +kernel
theorem dX8_entry_136 : decode cX8_entry 136 = .ok (.iconst 4, 1) := by decide +kernel
theorem dX8_entry_137 : decode cX8_entry 137 = .ok (.goto 4, 3) := by decide +kernel
theorem dX8_entry_140 : decode cX8_entry 140 = .ok (.iconst 0, 1) := by decide +kernel
theorem dX8_entry_141 : decode cX8_entry 141 = .ok (.invokevirtual 154, 3) := by decide +kernel
theorem dX8_entry_144 : decode cX8_entry 144 = .ok (.ifCond .eq 5, 3) := by decide +kernel
theorem dX8_entry_147 : decode cX8_entry 147 = .ok (.iconst 0, 1) := by decide +kernel
theorem dX8_entry_148 : decode cX8_entry 148 = .ok (.ireturn, 1) := by decide +kernel
theorem dX8_entry_149 : decode cX8_entry 149 = .ok (.iload 10, 2) := by decide +kernel
theorem dX8_entry_151 : decode cX8_entry 151 = .ok (.iconst (-1), 1) := by decide +kernel
theorem dX8_entry_152 : decode cX8_entry 152 = .ok (.if_icmp .ne 7, 3) := by decide +kernel
theorem dX8_entry_155 : decode cX8_entry 155 = .ok (.iconst (-1), 1) := by decide +kernel
theorem dX8_entry_156 : decode cX8_entry 156 = .ok (.goto 14, 3) := by decide +kernel
theorem dX8_entry_159 : decode cX8_entry 159 = .ok (.aload_n 0, 1) := by decide +kernel
theorem dX8_entry_160 : decode cX8_entry 160 = .ok (.getfield 47, 3) := by decide +kernel
theorem dX8_entry_163 : decode cX8_entry 163 = .ok (.iconst 5, 1) := by decide +kernel
theorem dX8_entry_164 : decode cX8_entry 164 = .ok (.iload_n 2, 1) := by decide +kernel
theorem dX8_entry_165 : decode cX8_entry 165 = .ok (.imul, 1) := by decide +kernel
theorem dX8_entry_166 : decode cX8_entry 166 = .ok (.iload 10, 2) := by decide +kernel
theorem dX8_entry_168 : decode cX8_entry 168 = .ok (.iadd, 1) := by decide +kernel
theorem dX8_entry_169 : decode cX8_entry 169 = .ok (.iaload, 1) := by decide +kernel
theorem dX8_entry_170 : decode cX8_entry 170 = .ok (.istore 11, 2) := by decide +kernel
theorem dX8_entry_172 : decode cX8_entry 172 = .ok (.iload 5, 2) := by decide +kernel
theorem dX8_entry_174 : decode cX8_entry 174 = .ok (.iconst (-1), 1) := by decide +kernel
theorem dX8_entry_175 : decode cX8_entry 175 = .ok (.if_icmp .ne 91, 3) := by decide +kernel
theorem dX8_entry_178 : decode cX8_entry 178 = .ok (.iload 10, 2) := by decide +kernel
theorem dX8_entry_180 : decode cX8_entry 180 = .ok (.iconst (-1), 1) := by decide +kernel
theorem dX8_entry_181 : decode cX8_entry 181 = .ok (.if_icmp .eq 85, 3) := by decide +kernel
theorem dX8_entry_184 : decode cX8_entry 184 = .ok (.iload 10, 2) := by decide +kernel
theorem dX8_entry_186 : decode cX8_entry 186 = .ok (.istore 12, 2) := by decide +kernel
theorem dX8_entry_188 : decode cX8_entry 188 = .ok (.iload 12, 2) := by decide +kernel
theorem dX8_entry_190 : decode cX8_entry 190 = .ok (.iconst 1, 1) := by decide +kernel
theorem dX8_entry_191 : decode cX8_entry 191 = .ok (.iadd, 1) := by decide +kernel
theorem dX8_entry_192 : decode cX8_entry 192 = .ok (.aload_n 0, 1) := by decide +kernel
theorem dX8_entry_193 : decode cX8_entry 193 = .ok (.getfield 37, 3) := by decide +kernel
theorem dX8_entry_196 : decode cX8_entry 196 = .ok (.iload_n 2, 1) := by decide +kernel
theorem dX8_entry_197 : decode cX8_entry 197 = .ok (.iaload, 1) := by decide +kernel
theorem dX8_entry_198 : decode cX8_entry 198 = .ok (.if_icmp .ge 55, 3) := by decide +kernel
theorem dX8_entry_201 : decode cX8_entry 201 = .ok (.iconst 5, 1) := by decide +kernel
theorem dX8_entry_202 : decode cX8_entry 202 = .ok (.iload_n 2, 1) := by decide +kernel
theorem dX8_entry_203 : decode cX8_entry 203 = .ok (.imul, 1) := by decide +kernel
theorem dX8_entry_204 : decode cX8_entry 204 = .ok (.iload 12, 2) := by decide +kernel
theorem dX8_entry_206 : decode cX8_entry 206 = .ok (.iadd, 1) := by decide +kernel
theorem dX8_entry_207 : decode cX8_entry 207 = .ok (.iconst 1, 1) := by decide +kernel
theorem dX8_entry_208 : decode cX8_entry 208 = .ok (.iadd, 1) := by decide +kernel
theorem dX8_entry_209 : decode cX8_entry 209 = .ok (.istore 13, 2) := by decide +kernel
theorem dX8_entry_211 : decode cX8_entry 211 = .ok (.aload_n 0, 1) := by decide +kernel
theorem dX8_entry_212 : decode cX8_entry 212 = .ok (.iload 13, 2) := by decide +kernel
theorem dX8_entry_214 : decode cX8_entry 214 = .ok (.iconst 1, 1) := by decide +kernel
theorem dX8_entry_215 : decode cX8_entry 215 = .ok (.isub, 1) := by decide +kernel
theorem dX8_entry_216 : decode cX8_entry 216 = .ok (.aload_n 0, 1) := by decide +kernel
theorem dX8_entry_217 : decode cX8_entry 217 = .ok (.getfield 43, 3) := by decide +kernel
theorem dX8_entry_220 : decode cX8_entry 220 = .ok (.iload 13, 2) := by decide +kernel
theorem dX8_entry_222 : decode cX8_entry 222 = .ok (.baload, 1) := by decide +kernel
theorem dX8_entry_223 : decode cX8_entry 223 = .ok (.aload_n 0, 1) := by decide +kernel
theorem dX8_entry_224 : decode cX8_entry 224 = .ok (.getfield 40, 3) := by decide +kernel
theorem dX8_entry_227 : decode cX8_entry 227 = .ok (.iload 13, 2) := by decide +kernel
theorem dX8_entry_229 : decode cX8_entry 229 = .ok (.iaload, 1) := by decide +kernel
theorem dX8_entry_230 : decode cX8_entry 230 = .ok (.aload_n 0, 1) := by decide +kernel
theorem dX8_entry_231 : decode cX8_entry 231 = .ok (.getfield 47, 3) := by decide +kernel
theorem dX8_entry_234 : decode cX8_entry 234 = .ok (.iload 13, 2) := by decide +kernel
theorem dX8_entry_236 : decode cX8_entry 236 = .ok (.iaload, 1) := by decide +kernel
theorem dX8_entry_237 : decode cX8_entry 237 = .ok (.aload_n 0, 1) := by decide +kernel
theorem dX8_entry_238 : decode cX8_entry 238 = .ok (.getfield 50, 3) := by decide +kernel
theorem dX8_entry_241 : decode cX8_entry 241 = .ok (.iload 13, 2) := by decide +kernel
theorem dX8_entry_243 : decode cX8_entry 243 = .ok (.baload, 1) := by decide +kernel
theorem dX8_entry_244 : decode cX8_entry 244 = .ok (.invokevirtual 162, 3) := by decide +kernel
theorem dX8_entry_247 : decode cX8_entry 247 = .ok (.iinc 12 1, 3) := by decide +kernel
theorem dX8_entry_250 : decode cX8_entry 250 = .ok (.goto (-62), 3) := by decide +kernel
theorem dX8_entry_253 : decode cX8_entry 253 = .ok (.aload_n 0, 1) := by decide +kernel
theorem dX8_entry_254 : decode cX8_entry 254 = .ok (.getfield 37, 3) := by decide +kernel
theorem dX8_entry_257 : decode cX8_entry 257 = .ok (.iload_n 2, 1) := by decide +kernel
theorem dX8_entry_258 : decode cX8_entry 258 = .ok (.dup2, 1) := by decide +kernel
theorem dX8_entry_259 : decode cX8_entry 259 = .ok (.iaload, 1) := by decide +kernel
theorem dX8_entry_260 : decode cX8_entry 260 = .ok (.iconst 1, 1) := by decide +kernel
theorem dX8_entry_261 : decode cX8_entry 261 = .ok (.isub, 1) := by decide +kernel
theorem dX8_entry_262 : decode cX8_entry 262 = .ok (.iastore, 1) := by decide +kernel
theorem dX8_entry_263 : decode cX8_entry 263 = .ok (.goto 65, 3) := by decide +kernel
theorem dX8_entry_266 : decode cX8_entry 266 = .ok (.iload 5, 2) := by decide +kernel
theorem dX8_entry_268 : decode cX8_entry 268 = .ok (.iconst (-1), 1) := by decide +kernel
theorem dX8_entry_269 : decode cX8_entry 269 = .ok (.if_icmp .eq 59, 3) := by decide +kernel
theorem dX8_entry_272 : decode cX8_entry 272 = .ok (.iload 10, 2) := by decide +kernel
theorem dX8_entry_274 : decode cX8_entry 274 = .ok (.iconst (-1), 1) := by decide +kernel
theorem dX8_entry_275 : decode cX8_entry 275 = .ok (.if_icmp .ne 12, 3) := by decide +kernel
theorem dX8_entry_278 : decode cX8_entry 278 = .ok (.aload_n 0, 1) := by decide +kernel
theorem dX8_entry_279 : decode cX8_entry 279 = .ok (.getfield 37, 3) := by decide +kernel
theorem dX8_entry_282 : decode cX8_entry 282 = .ok (.iload_n 2, 1) := by decide +kernel
theorem dX8_entry_283 : decode cX8_entry 283 = .ok (.iaload, 1) := by decide +kernel
theorem dX8_entry_284 : decode cX8_entry 284 = .ok (.goto 5, 3) := by decide +kernel
theorem dX8_entry_287 : decode cX8_entry 287 = .ok (.iload 10, 2) := by decide +kernel
theorem dX8_entry_289 : decode cX8_entry 289 = .ok (.istore 12, 2) := by decide +kernel
theorem dX8_entry_291 : decode cX8_entry 291 = .ok (.aload_n 0, 1) := by decide +kernel
theorem dX8_entry_292 : decode cX8_entry 292 = .ok (.getfield 37, 3) := by decide +kernel
theorem dX8_entry_295 : decode cX8_entry 295 = .ok (.iload_n 2, 1) := by decide +kernel
theorem dX8_entry_296 : decode cX8_entry 296 = .ok (.dup2, 1) := by decide +kernel
theorem dX8_entry_297 : decode cX8_entry 297 = .ok (.iaload, 1) := by decide +kernel
theorem dX8_entry_298 : decode cX8_entry 298 = .ok (.iload 10, 2) := by decide +kernel
theorem dX8_entry_300 : decode cX8_entry 300 = .ok (.iconst (-1), 1) := by decide +kernel
theorem dX8_entry_301 : decode cX8_entry 301 = .ok (.if_icmp .ne 7, 3) := by decide +kernel
theorem dX8_entry_304 : decode cX8_entry 304 = .ok (.iconst 1, 1) := by decide +kernel
theorem dX8_entry_305 : decode cX8_entry 305 = .ok (.goto 4, 3) := by decide +kernel
theorem dX8_entry_308 : decode cX8_entry 308 = .ok (.iconst 0, 1) := by decide +kernel
theorem dX8_entry_309 : decode cX8_entry 309 = .ok (.iadd, 1) := by decide +kernel
theorem dX8_entry_310 : decode cX8_entry 310 = .ok (.iastore, 1) := by decide +kernel
theorem dX8_entry_311 : decode cX8_entry 311 = .ok (.aload_n 0, 1) := by decide +kernel
theorem dX8_entry_312 : decode cX8_entry 312 = .ok (.iconst 5, 1) := by decide +kernel
theorem dX8_entry_313 : decode cX8_entry 313 = .ok (.iload_n 2, 1) := by decide +kernel
theorem dX8_entry_314 : decode cX8_entry 314 = .ok (.imul, 1) := by decide +kernel
theorem dX8_entry_315 : decode cX8_entry 315 = .ok (.iload 12, 2) := by decide +kernel
theorem dX8_entry_317 : decode cX8_entry 317 = .ok (.iadd, 1) := by decide +kernel
theorem dX8_entry_318 : decode cX8_entry 318 = .ok (.iload_n 3, 1) := by decide +kernel
theorem dX8_entry_319 : decode cX8_entry 319 = .ok (.iload 4, 2) := by decide +kernel
theorem dX8_entry_321 : decode cX8_entry 321 = .ok (.iload 5, 2) := by decide +kernel
theorem dX8_entry_323 : decode cX8_entry 323 = .ok (.iload 6, 2) := by decide +kernel
theorem dX8_entry_325 : decode cX8_entry 325 = .ok (.invokevirtual 162, 3) := by decide +kernel
theorem dX8_entry_328 : decode cX8_entry 328 = .ok (.iload 11, 2) := by decide +kernel
theorem dX8_entry_330 : decode cX8_entry 330 = .ok (.ireturn, 1) := by decide +kernel
theorem dX8_give_0 : decode cX8_give 0 = .ok (.aload_n 0, 1) := by decide +kernel
theorem dX8_give_1 : decode cX8_give 1 = .ok (.iload_n 1, 1) := by decide +kernel
theorem dX8_give_2 : decode cX8_give 2 = .ok (.invokevirtual 166, 3) := by decide +kernel
theorem dX8_give_5 : decode cX8_give 5 = .ok (.ifCond .eq 22, 3) := by decide +kernel
theorem dX8_give_8 : decode cX8_give 8 = .ok (.aload_n 0, 1) := by decide +kernel
theorem dX8_give_9 : decode cX8_give 9 = .ok (.iload_n 2, 1) := by decide +kernel
theorem dX8_give_10 : decode cX8_give 10 = .ok (.invokevirtual 159, 3) := by decide +kernel
theorem dX8_give_13 : decode cX8_give 13 = .ok (.ifCond .eq 14, 3) := by decide +kernel
theorem dX8_give_16 : decode cX8_give 16 = .ok (.iload_n 3, 1) := by decide +kernel
theorem dX8_give_17 : decode cX8_give 17 = .ok (.invokestatic 150, 3) := by decide +kernel
theorem dX8_give_20 : decode cX8_give 20 = .ok (.ifCond .eq 7, 3) := by decide +kernel
theorem dX8_give_23 : decode cX8_give 23 = .ok (.iconst 1, 1) := by decide +kernel
theorem dX8_give_24 : decode cX8_give 24 = .ok (.goto 4, 3) := by decide +kernel
theorem dX8_give_27 : decode cX8_give 27 = .ok (.iconst 0, 1) := by decide +kernel
theorem dX8_give_28 : decode cX8_give 28 = .ok (.istore 4, 2) := by decide +kernel
theorem dX8_give_30 : decode cX8_give 30 = .ok (.iload 4, 2) := by decide +kernel
theorem dX8_give_32 : decode cX8_give 32 = .ok (.ifCond .eq 45, 3) := by decide +kernel
theorem dX8_give_35 : decode cX8_give 35 = .ok (.aload_n 0, 1) := by decide +kernel
theorem dX8_give_36 : decode cX8_give 36 = .ok (.getfield 71, 3) := by decide +kernel
theorem dX8_give_39 : decode cX8_give 39 = .ok (.iload_n 1, 1) := by decide +kernel
theorem dX8_give_40 : decode cX8_give 40 = .ok (.iaload, 1) := by decide +kernel
theorem dX8_give_41 : decode cX8_give 41 = .ok (.iconst 1, 1) := by decide +kernel
theorem dX8_give_42 : decode cX8_give 42 = .ok (.invokestatic 142, 3) := by decide +kernel
theorem dX8_give_45 : decode cX8_give 45 = .ok (.ifCond .ne 28, 3) := by decide +kernel
theorem dX8_give_48 : decode cX8_give 48 = .ok (.aload_n 0, 1) := by decide +kernel
theorem dX8_give_49 : decode cX8_give 49 = .ok (.getfield 59, 3) := by decide +kernel
theorem dX8_give_52 : decode cX8_give 52 = .ok (.iload_n 1, 1) := by decide +kernel
theorem dX8_give_53 : decode cX8_give 53 = .ok (.iaload, 1) := by decide +kernel
theorem dX8_give_54 : decode cX8_give 54 = .ok (.aload_n 0, 1) := by decide +kernel
theorem dX8_give_55 : decode cX8_give 55 = .ok (.getfield 16, 3) := by decide +kernel
theorem dX8_give_58 : decode cX8_give 58 = .ok (.iload_n 2, 1) := by decide +kernel
theorem dX8_give_59 : decode cX8_give 59 = .ok (.iaload, 1) := by decide +kernel
theorem dX8_give_60 : decode cX8_give 60 = .ok (.if_icmp .ne 17, 3) := by decide +kernel
theorem dX8_give_63 : decode cX8_give 63 = .ok (.iload_n 3, 1) := by decide +kernel
theorem dX8_give_64 : decode cX8_give 64 = .ok (.aload_n 0, 1) := by decide +kernel
theorem dX8_give_65 : decode cX8_give 65 = .ok (.getfield 16, 3) := by decide +kernel
theorem dX8_give_68 : decode cX8_give 68 = .ok (.iload_n 2, 1) := by decide +kernel
theorem dX8_give_69 : decode cX8_give 69 = .ok (.iaload, 1) := by decide +kernel
theorem dX8_give_70 : decode cX8_give 70 = .ok (.if_icmp .ne 7, 3) := by decide +kernel
theorem dX8_give_73 : decode cX8_give 73 = .ok (.iconst 1, 1) := by decide +kernel
theorem dX8_give_74 : decode cX8_give 74 = .ok (.goto 4, 3) := by decide +kernel
theorem dX8_give_77 : decode cX8_give 77 = .ok (.iconst 0, 1) := by decide +kernel
theorem dX8_give_78 : decode cX8_give 78 = .ok (.istore 5, 2) := by decide +kernel
theorem dX8_give_80 : decode cX8_give 80 = .ok (.aload_n 0, 1) := by decide +kernel
theorem dX8_give_81 : decode cX8_give 81 = .ok (.iload 4, 2) := by decide +kernel
theorem dX8_give_83 : decode cX8_give 83 = .ok (.ifCond .ne 7, 3) := by decide +kernel
theorem dX8_give_86 : decode cX8_give 86 = .ok (.iconst 1, 1) := by decide +kernel
theorem dX8_give_87 : decode cX8_give 87 = .ok (.goto 13, 3) := by decide +kernel
theorem dX8_give_90 : decode cX8_give 90 = .ok (.iload 5, 2) := by decide +kernel
theorem dX8_give_92 : decode cX8_give 92 = .ok (.ifCond .ne 7, 3) := by decide +kernel
theorem dX8_give_95 : decode cX8_give 95 = .ok (.iconst 2, 1) := by decide +kernel
theorem dX8_give_96 : decode cX8_give 96 = .ok (.goto 4, 3) := by decide +kernel
theorem dX8_give_99 : decode cX8_give 99 = .ok (.iconst 0, 1) := by decide +kernel
theorem dX8_give_100 : decode cX8_give 100 = .ok (.invokevirtual 154, 3) := by decide +kernel
theorem dX8_give_103 : decode cX8_give 103 = .ok (.ifCond .eq 5, 3) := by decide +kernel
theorem dX8_give_106 : decode cX8_give 106 = .ok (.iconst 0, 1) := by decide +kernel
theorem dX8_give_107 : decode cX8_give 107 = .ok (.ireturn, 1) := by decide +kernel
theorem dX8_give_108 : decode cX8_give 108 = .ok (.aload_n 0, 1) := by decide +kernel
theorem dX8_give_109 : decode cX8_give 109 = .ok (.getfield 16, 3) := by decide +kernel
theorem dX8_give_112 : decode cX8_give 112 = .ok (.iload_n 2, 1) := by decide +kernel
theorem dX8_give_113 : decode cX8_give 113 = .ok (.iaload, 1) := by decide +kernel
theorem dX8_give_114 : decode cX8_give 114 = .ok (.istore 6, 2) := by decide +kernel
theorem dX8_give_116 : decode cX8_give 116 = .ok (.aload_n 0, 1) := by decide +kernel
theorem dX8_give_117 : decode cX8_give 117 = .ok (.getfield 16, 3) := by decide +kernel
theorem dX8_give_120 : decode cX8_give 120 = .ok (.iload_n 2, 1) := by decide +kernel
theorem dX8_give_121 : decode cX8_give 121 = .ok (.iload_n 3, 1) := by decide +kernel
theorem dX8_give_122 : decode cX8_give 122 = .ok (.iastore, 1) := by decide +kernel
theorem dX8_give_123 : decode cX8_give 123 = .ok (.iload 6, 2) := by decide +kernel
theorem dX8_give_125 : decode cX8_give 125 = .ok (.ireturn, 1) := by decide +kernel
theorem dX8_label_0 : decode cX8_label 0 = .ok (.aload_n 0, 1) := by decide +kernel
theorem dX8_label_1 : decode cX8_label 1 = .ok (.iload_n 1, 1) := by decide +kernel
theorem dX8_label_2 : decode cX8_label 2 = .ok (.invokevirtual 166, 3) := by decide +kernel
theorem dX8_label_5 : decode cX8_label 5 = .ok (.ifCond .eq 15, 3) := by decide +kernel
theorem dX8_label_8 : decode cX8_label 8 = .ok (.aload_n 0, 1) := by decide +kernel
theorem dX8_label_9 : decode cX8_label 9 = .ok (.iload_n 2, 1) := by decide +kernel
theorem dX8_label_10 : decode cX8_label 10 = .ok (.invokevirtual 159, 3) := by decide +kernel
theorem dX8_label_13 : decode cX8_label 13 = .ok (.ifCond .eq 7, 3) := by decide +kernel
theorem dX8_label_16 : decode cX8_label 16 = .ok (.iconst 1, 1) := by decide +kernel
theorem dX8_label_17 : decode cX8_label 17 = .ok (.goto 4, 3) := by decide +kernel
theorem dX8_label_20 : decode cX8_label 20 = .ok (.iconst 0, 1) := by decide +kernel
theorem dX8_label_21 : decode cX8_label 21 = .ok (.istore 5, 2) := by decide +kernel
theorem dX8_label_23 : decode cX8_label 23 = .ok (.iload_n 3, 1) := by decide +kernel
theorem dX8_label_24 : decode cX8_label 24 = .ok (.iconst 0, 1) := by decide +kernel
theorem dX8_label_25 : decode cX8_label 25 = .ok (.iconst 3, 1) := by decide +kernel
theorem dX8_label_26 : decode cX8_label 26 = .ok (.invokestatic 129, 3) := by decide +kernel
theorem dX8_label_29 : decode cX8_label 29 = .ok (.ifCond .eq 18, 3) := by decide +kernel
theorem dX8_label_32 : decode cX8_label 32 = .ok (.iload 4, 2) := by decide +kernel
theorem dX8_label_34 : decode cX8_label 34 = .ok (.iconst 0, 1) := by decide +kernel
theorem dX8_label_35 : decode cX8_label 35 = .ok (.bipush 7, 2) := by decide +kernel
theorem dX8_label_37 : decode cX8_label 37 = .ok (.invokestatic 129, 3) := by decide +kernel
theorem dX8_label_40 : decode cX8_label 40 = .ok (.ifCond .eq 7, 3) := by decide +kernel
theorem dX8_label_43 : decode cX8_label 43 = .ok (.iconst 1, 1) := by decide +kernel
theorem dX8_label_44 : decode cX8_label 44 = .ok (.goto 4, 3) := by decide +kernel
theorem dX8_label_47 : decode cX8_label 47 = .ok (.iconst 0, 1) := by decide +kernel
theorem dX8_label_48 : decode cX8_label 48 = .ok (.istore 6, 2) := by decide +kernel
theorem dX8_label_50 : decode cX8_label 50 = .ok (.iload 5, 2) := by decide +kernel
theorem dX8_label_52 : decode cX8_label 52 = .ok (.ifCond .eq 49, 3) := by decide +kernel
theorem dX8_label_55 : decode cX8_label 55 = .ok (.iload 6, 2) := by decide +kernel
theorem dX8_label_57 : decode cX8_label 57 = .ok (.ifCond .eq 44, 3) := by decide +kernel
theorem dX8_label_60 : decode cX8_label 60 = .ok (.aload_n 0, 1) := by decide +kernel
theorem dX8_label_61 : decode cX8_label 61 = .ok (.getfield 71, 3) := by decide +kernel
theorem dX8_label_64 : decode cX8_label 64 = .ok (.iload_n 1, 1) := by decide +kernel
theorem dX8_label_65 : decode cX8_label 65 = .ok (.iaload, 1) := by decide +kernel
theorem dX8_label_66 : decode cX8_label 66 = .ok (.iconst 2, 1) := by decide +kernel
theorem dX8_label_67 : decode cX8_label 67 = .ok (.invokestatic 142, 3) := by decide +kernel
theorem dX8_label_70 : decode cX8_label 70 = .ok (.ifCond .eq 31, 3) := by decide +kernel
theorem dX8_label_73 : decode cX8_label 73 = .ok (.iload_n 3, 1) := by decide +kernel
theorem dX8_label_74 : decode cX8_label 74 = .ok (.aload_n 0, 1) := by decide +kernel
theorem dX8_label_75 : decode cX8_label 75 = .ok (.getfield 65, 3) := by decide +kernel
theorem dX8_label_78 : decode cX8_label 78 = .ok (.iload_n 1, 1) := by decide +kernel
theorem dX8_label_79 : decode cX8_label 79 = .ok (.iaload, 1) := by decide +kernel
theorem dX8_label_80 : decode cX8_label 80 = .ok (.if_icmp .gt 21, 3) := by decide +kernel
theorem dX8_label_83 : decode cX8_label 83 = .ok (.iload 4, 2) := by decide +kernel
theorem dX8_label_85 : decode cX8_label 85 = .ok (.aload_n 0, 1) := by decide +kernel
theorem dX8_label_86 : decode cX8_label 86 = .ok (.getfield 68, 3) := by decide +kernel
theorem dX8_label_89 : decode cX8_label 89 = .ok (.iload_n 1, 1) := by decide +kernel
theorem dX8_label_90 : decode cX8_label 90 = .ok (.iaload, 1) := by decide +kernel
theorem dX8_label_91 : decode cX8_label 91 = .ok (.iconst (-1), 1) := by decide +kernel
theorem dX8_label_92 : decode cX8_label 92 = .ok (.ixor, 1) := by decide +kernel
theorem dX8_label_93 : decode cX8_label 93 = .ok (.iand, 1) := by decide +kernel
theorem dX8_label_94 : decode cX8_label 94 = .ok (.ifCond .ne 7, 3) := by decide +kernel
theorem dX8_label_97 : decode cX8_label 97 = .ok (.iconst 1, 1) := by decide +kernel
theorem dX8_label_98 : decode cX8_label 98 = .ok (.goto 4, 3) := by decide +kernel
theorem dX8_label_101 : decode cX8_label 101 = .ok (.iconst 0, 1) := by decide +kernel
theorem dX8_label_102 : decode cX8_label 102 = .ok (.istore 7, 2) := by decide +kernel
theorem dX8_label_104 : decode cX8_label 104 = .ok (.aload_n 0, 1) := by decide +kernel
theorem dX8_label_105 : decode cX8_label 105 = .ok (.iload 5, 2) := by decide +kernel
theorem dX8_label_107 : decode cX8_label 107 = .ok (.ifCond .ne 7, 3) := by decide +kernel
theorem dX8_label_110 : decode cX8_label 110 = .ok (.iconst 1, 1) := by decide +kernel
theorem dX8_label_111 : decode cX8_label 111 = .ok (.goto 22, 3) := by decide +kernel
theorem dX8_label_114 : decode cX8_label 114 = .ok (.iload 6, 2) := by decide +kernel
theorem dX8_label_116 : decode cX8_label 116 = .ok (.ifCond .ne 7, 3) := by decide +kernel
theorem dX8_label_119 : decode cX8_label 119 = .ok (.iconst 2, 1) := by decide +kernel
theorem dX8_label_120 : decode cX8_label 120 = .ok (.goto 13, 3) := by decide +kernel
theorem dX8_label_123 : decode cX8_label 123 = .ok (.iload 7, 2) := by decide +kernel
theorem dX8_label_125 : decode cX8_label 125 = .ok (.ifCond .ne 7, 3) := by decide +kernel
theorem dX8_label_128 : decode cX8_label 128 = .ok (.iconst 3, 1) := by decide +kernel
theorem dX8_label_129 : decode cX8_label 129 = .ok (.goto 4, 3) := by decide +kernel
theorem dX8_label_132 : decode cX8_label 132 = .ok (.iconst 0, 1) := by decide +kernel
theorem dX8_label_133 : decode cX8_label 133 = .ok (.invokevirtual 154, 3) := by decide +kernel
theorem dX8_label_136 : decode cX8_label 136 = .ok (.ifCond .eq 5, 3) := by decide +kernel
theorem dX8_label_139 : decode cX8_label 139 = .ok (.iconst 0, 1) := by decide +kernel
theorem dX8_label_140 : decode cX8_label 140 = .ok (.ireturn, 1) := by decide +kernel
theorem dX8_label_141 : decode cX8_label 141 = .ok (.bipush 10, 2) := by decide +kernel
theorem dX8_label_143 : decode cX8_label 143 = .ok (.aload_n 0, 1) := by decide +kernel
theorem dX8_label_144 : decode cX8_label 144 = .ok (.getfield 28, 3) := by decide +kernel
theorem dX8_label_147 : decode cX8_label 147 = .ok (.iload_n 2, 1) := by decide +kernel
theorem dX8_label_148 : decode cX8_label 148 = .ok (.iaload, 1) := by decide +kernel
theorem dX8_label_149 : decode cX8_label 149 = .ok (.imul, 1) := by decide +kernel
theorem dX8_label_150 : decode cX8_label 150 = .ok (.aload_n 0, 1) := by decide +kernel
theorem dX8_label_151 : decode cX8_label 151 = .ok (.getfield 31, 3) := by decide +kernel
theorem dX8_label_154 : decode cX8_label 154 = .ok (.iload_n 2, 1) := by decide +kernel
theorem dX8_label_155 : decode cX8_label 155 = .ok (.iaload, 1) := by decide +kernel
theorem dX8_label_156 : decode cX8_label 156 = .ok (.iadd, 1) := by decide +kernel
theorem dX8_label_157 : decode cX8_label 157 = .ok (.istore 8, 2) := by decide +kernel
theorem dX8_label_159 : decode cX8_label 159 = .ok (.aload_n 0, 1) := by decide +kernel
theorem dX8_label_160 : decode cX8_label 160 = .ok (.getfield 28, 3) := by decide +kernel
theorem dX8_label_163 : decode cX8_label 163 = .ok (.iload_n 2, 1) := by decide +kernel
theorem dX8_label_164 : decode cX8_label 164 = .ok (.iload_n 3, 1) := by decide +kernel
theorem dX8_label_165 : decode cX8_label 165 = .ok (.iastore, 1) := by decide +kernel
theorem dX8_label_166 : decode cX8_label 166 = .ok (.aload_n 0, 1) := by decide +kernel
theorem dX8_label_167 : decode cX8_label 167 = .ok (.getfield 31, 3) := by decide +kernel
theorem dX8_label_170 : decode cX8_label 170 = .ok (.iload_n 2, 1) := by decide +kernel
theorem dX8_label_171 : decode cX8_label 171 = .ok (.iload 4, 2) := by decide +kernel
theorem dX8_label_173 : decode cX8_label 173 = .ok (.iastore, 1) := by decide +kernel
theorem dX8_label_174 : decode cX8_label 174 = .ok (.iload 8, 2) := by decide +kernel
theorem dX8_label_176 : decode cX8_label 176 = .ok (.ireturn, 1) := by decide +kernel
theorem dX8_rule_0 : decode cX8_rule 0 = .ok (.aload_n 0, 1) := by decide +kernel
theorem dX8_rule_1 : decode cX8_rule 1 = .ok (.iload_n 1, 1) := by decide +kernel
theorem dX8_rule_2 : decode cX8_rule 2 = .ok (.iconst 0, 1) := by decide +kernel
theorem dX8_rule_3 : decode cX8_rule 3 = .ok (.iconst 3, 1) := by decide +kernel
theorem dX8_rule_4 : decode cX8_rule 4 = .ok (.invokestatic 129, 3) := by decide +kernel
theorem dX8_rule_7 : decode cX8_rule 7 = .ok (.ifCond .ne 7, 3) := by decide +kernel
theorem dX8_rule_10 : decode cX8_rule 10 = .ok (.iconst 1, 1) := by decide +kernel
theorem dX8_rule_11 : decode cX8_rule 11 = .ok (.goto 27, 3) := by decide +kernel
theorem dX8_rule_14 : decode cX8_rule 14 = .ok (.iload_n 2, 1) := by decide +kernel
theorem dX8_rule_15 : decode cX8_rule 15 = .ok (.iconst 0, 1) := by decide +kernel
theorem dX8_rule_16 : decode cX8_rule 16 = .ok (.iconst 3, 1) := by decide +kernel
theorem dX8_rule_17 : decode cX8_rule 17 = .ok (.invokestatic 129, 3) := by decide +kernel
theorem dX8_rule_20 : decode cX8_rule 20 = .ok (.ifCond .eq 13, 3) := by decide +kernel
theorem dX8_rule_23 : decode cX8_rule 23 = .ok (.iload_n 3, 1) := by decide +kernel
theorem dX8_rule_24 : decode cX8_rule 24 = .ok (.iconst 0, 1) := by decide +kernel
theorem dX8_rule_25 : decode cX8_rule 25 = .ok (.bipush 7, 2) := by decide +kernel
theorem dX8_rule_27 : decode cX8_rule 27 = .ok (.invokestatic 129, 3) := by decide +kernel
theorem dX8_rule_30 : decode cX8_rule 30 = .ok (.ifCond .ne 7, 3) := by decide +kernel
theorem dX8_rule_33 : decode cX8_rule 33 = .ok (.iconst 2, 1) := by decide +kernel
theorem dX8_rule_34 : decode cX8_rule 34 = .ok (.goto 4, 3) := by decide +kernel
theorem dX8_rule_37 : decode cX8_rule 37 = .ok (.iconst 0, 1) := by decide +kernel
theorem dX8_rule_38 : decode cX8_rule 38 = .ok (.invokevirtual 154, 3) := by decide +kernel
theorem dX8_rule_41 : decode cX8_rule 41 = .ok (.ifCond .eq 5, 3) := by decide +kernel
theorem dX8_rule_44 : decode cX8_rule 44 = .ok (.iconst 0, 1) := by decide +kernel
theorem dX8_rule_45 : decode cX8_rule 45 = .ok (.ireturn, 1) := by decide +kernel
theorem dX8_rule_46 : decode cX8_rule 46 = .ok (.aload_n 0, 1) := by decide +kernel
theorem dX8_rule_47 : decode cX8_rule 47 = .ok (.getfield 53, 3) := by decide +kernel
theorem dX8_rule_50 : decode cX8_rule 50 = .ok (.iconst 4, 1) := by decide +kernel
theorem dX8_rule_51 : decode cX8_rule 51 = .ok (.iload_n 1, 1) := by decide +kernel
theorem dX8_rule_52 : decode cX8_rule 52 = .ok (.imul, 1) := by decide +kernel
theorem dX8_rule_53 : decode cX8_rule 53 = .ok (.iload_n 2, 1) := by decide +kernel
theorem dX8_rule_54 : decode cX8_rule 54 = .ok (.iadd, 1) := by decide +kernel
theorem dX8_rule_55 : decode cX8_rule 55 = .ok (.iaload, 1) := by decide +kernel
theorem dX8_rule_56 : decode cX8_rule 56 = .ok (.istore 4, 2) := by decide +kernel
theorem dX8_rule_58 : decode cX8_rule 58 = .ok (.aload_n 0, 1) := by decide +kernel
theorem dX8_rule_59 : decode cX8_rule 59 = .ok (.getfield 53, 3) := by decide +kernel
theorem dX8_rule_62 : decode cX8_rule 62 = .ok (.iconst 4, 1) := by decide +kernel
theorem dX8_rule_63 : decode cX8_rule 63 = .ok (.iload_n 1, 1) := by decide +kernel
theorem dX8_rule_64 : decode cX8_rule 64 = .ok (.imul, 1) := by decide +kernel
theorem dX8_rule_65 : decode cX8_rule 65 = .ok (.iload_n 2, 1) := by decide +kernel
theorem dX8_rule_66 : decode cX8_rule 66 = .ok (.iadd, 1) := by decide +kernel
theorem dX8_rule_67 : decode cX8_rule 67 = .ok (.iload_n 3, 1) := by decide +kernel
theorem dX8_rule_68 : decode cX8_rule 68 = .ok (.iastore, 1) := by decide +kernel
theorem dX8_rule_69 : decode cX8_rule 69 = .ok (.iload 4, 2) := by decide +kernel
theorem dX8_rule_71 : decode cX8_rule 71 = .ok (.ireturn, 1) := by decide +kernel
theorem dX8_move_0 : decode cX8_move 0 = .ok (.iload_n 1, 1) := by decide +kernel
theorem dX8_move_1 : decode cX8_move 1 = .ok (.iconst 0, 1) := by decide +kernel
theorem dX8_move_2 : decode cX8_move 2 = .ok (.iconst 3, 1) := by decide +kernel
theorem dX8_move_3 : decode cX8_move 3 = .ok (.invokestatic 129, 3) := by decide +kernel
theorem dX8_move_6 : decode cX8_move 6 = .ok (.ifCond .eq 16, 3) := by decide +kernel
theorem dX8_move_9 : decode cX8_move 9 = .ok (.iload_n 3, 1) := by decide +kernel
theorem dX8_move_10 : decode cX8_move 10 = .ok (.iconst (-1), 1) := by decide +kernel
theorem dX8_move_11 : decode cX8_move 11 = .ok (.iconst 3, 1) := by decide +kernel
theorem dX8_move_12 : decode cX8_move 12 = .ok (.invokestatic 129, 3) := by decide +kernel
theorem dX8_move_15 : decode cX8_move 15 = .ok (.ifCond .eq 7, 3) := by decide +kernel
theorem dX8_move_18 : decode cX8_move 18 = .ok (.iconst 1, 1) := by decide +kernel
theorem dX8_move_19 : decode cX8_move 19 = .ok (.goto 4, 3) := by decide +kernel
theorem dX8_move_22 : decode cX8_move 22 = .ok (.iconst 0, 1) := by decide +kernel
theorem dX8_move_23 : decode cX8_move 23 = .ok (.istore 4, 2) := by decide +kernel
theorem dX8_move_25 : decode cX8_move 25 = .ok (.aload_n 0, 1) := by decide +kernel
theorem dX8_move_26 : decode cX8_move 26 = .ok (.iload 4, 2) := by decide +kernel
theorem dX8_move_28 : decode cX8_move 28 = .ok (.ifCond .ne 7, 3) := by decide +kernel
theorem dX8_move_31 : decode cX8_move 31 = .ok (.iconst 1, 1) := by decide +kernel
theorem dX8_move_32 : decode cX8_move 32 = .ok (.goto 17, 3) := by decide +kernel
theorem dX8_move_35 : decode cX8_move 35 = .ok (.iload_n 2, 1) := by decide +kernel
theorem dX8_move_36 : decode cX8_move 36 = .ok (.iconst 0, 1) := by decide +kernel
theorem dX8_move_37 : decode cX8_move 37 = .ok (.iconst 3, 1) := by decide +kernel
theorem dX8_move_38 : decode cX8_move 38 = .ok (.invokestatic 129, 3) := by decide +kernel
theorem dX8_move_41 : decode cX8_move 41 = .ok (.ifCond .ne 7, 3) := by decide +kernel
theorem dX8_move_44 : decode cX8_move 44 = .ok (.iconst 2, 1) := by decide +kernel
theorem dX8_move_45 : decode cX8_move 45 = .ok (.goto 4, 3) := by decide +kernel
theorem dX8_move_48 : decode cX8_move 48 = .ok (.iconst 0, 1) := by decide +kernel
theorem dX8_move_49 : decode cX8_move 49 = .ok (.invokevirtual 154, 3) := by decide +kernel
theorem dX8_move_52 : decode cX8_move 52 = .ok (.ifCond .eq 5, 3) := by decide +kernel
theorem dX8_move_55 : decode cX8_move 55 = .ok (.iconst 0, 1) := by decide +kernel
theorem dX8_move_56 : decode cX8_move 56 = .ok (.ireturn, 1) := by decide +kernel
theorem dX8_move_57 : decode cX8_move 57 = .ok (.aload_n 0, 1) := by decide +kernel
theorem dX8_move_58 : decode cX8_move 58 = .ok (.getfield 56, 3) := by decide +kernel
theorem dX8_move_61 : decode cX8_move 61 = .ok (.iconst 4, 1) := by decide +kernel
theorem dX8_move_62 : decode cX8_move 62 = .ok (.iload_n 1, 1) := by decide +kernel
theorem dX8_move_63 : decode cX8_move 63 = .ok (.imul, 1) := by decide +kernel
theorem dX8_move_64 : decode cX8_move 64 = .ok (.iload_n 2, 1) := by decide +kernel
theorem dX8_move_65 : decode cX8_move 65 = .ok (.iadd, 1) := by decide +kernel
theorem dX8_move_66 : decode cX8_move 66 = .ok (.iaload, 1) := by decide +kernel
theorem dX8_move_67 : decode cX8_move 67 = .ok (.istore 5, 2) := by decide +kernel
theorem dX8_move_69 : decode cX8_move 69 = .ok (.aload_n 0, 1) := by decide +kernel
theorem dX8_move_70 : decode cX8_move 70 = .ok (.getfield 56, 3) := by decide +kernel
theorem dX8_move_73 : decode cX8_move 73 = .ok (.iconst 4, 1) := by decide +kernel
theorem dX8_move_74 : decode cX8_move 74 = .ok (.iload_n 1, 1) := by decide +kernel
theorem dX8_move_75 : decode cX8_move 75 = .ok (.imul, 1) := by decide +kernel
theorem dX8_move_76 : decode cX8_move 76 = .ok (.iload_n 2, 1) := by decide +kernel
theorem dX8_move_77 : decode cX8_move 77 = .ok (.iadd, 1) := by decide +kernel
theorem dX8_move_78 : decode cX8_move 78 = .ok (.iload_n 3, 1) := by decide +kernel
theorem dX8_move_79 : decode cX8_move 79 = .ok (.iastore, 1) := by decide +kernel
theorem dX8_move_80 : decode cX8_move 80 = .ok (.iload 5, 2) := by decide +kernel
theorem dX8_move_82 : decode cX8_move 82 = .ok (.ireturn, 1) := by decide +kernel
theorem dX8_process_0 : decode cX8_process 0 = .ok (.iload_n 1, 1) := by decide +kernel
theorem dX8_process_1 : decode cX8_process 1 = .ok (.invokestatic 150, 3) := by decide +kernel
theorem dX8_process_4 : decode cX8_process 4 = .ok (.ifCond .eq 16, 3) := by decide +kernel
theorem dX8_process_7 : decode cX8_process 7 = .ok (.iload_n 2, 1) := by decide +kernel
theorem dX8_process_8 : decode cX8_process 8 = .ok (.iconst 0, 1) := by decide +kernel
theorem dX8_process_9 : decode cX8_process 9 = .ok (.iconst 3, 1) := by decide +kernel
theorem dX8_process_10 : decode cX8_process 10 = .ok (.invokestatic 129, 3) := by decide +kernel
theorem dX8_process_13 : decode cX8_process 13 = .ok (.ifCond .eq 7, 3) := by decide +kernel
theorem dX8_process_16 : decode cX8_process 16 = .ok (.iconst 1, 1) := by decide +kernel
theorem dX8_process_17 : decode cX8_process 17 = .ok (.goto 4, 3) := by decide +kernel
theorem dX8_process_20 : decode cX8_process 20 = .ok (.iconst 0, 1) := by decide +kernel
theorem dX8_process_21 : decode cX8_process 21 = .ok (.istore 7, 2) := by decide +kernel
theorem dX8_process_23 : decode cX8_process 23 = .ok (.iload_n 3, 1) := by decide +kernel
theorem dX8_process_24 : decode cX8_process 24 = .ok (.iconst 0, 1) := by decide +kernel
theorem dX8_process_25 : decode cX8_process 25 = .ok (.iconst 3, 1) := by decide +kernel
theorem dX8_process_26 : decode cX8_process 26 = .ok (.invokestatic 129, 3) := by decide +kernel
theorem dX8_process_29 : decode cX8_process 29 = .ok (.ifCond .eq 50, 3) := by decide +kernel
theorem dX8_process_32 : decode cX8_process 32 = .ok (.iload 4, 2) := by decide +kernel
theorem dX8_process_34 : decode cX8_process 34 = .ok (.iconst 0, 1) := by decide +kernel
theorem dX8_process_35 : decode cX8_process 35 = .ok (.bipush 7, 2) := by decide +kernel
theorem dX8_process_37 : decode cX8_process 37 = .ok (.invokestatic 129, 3) := by decide +kernel
theorem dX8_process_40 : decode cX8_process 40 = .ok (.ifCond .eq 39, 3) := by decide +kernel
theorem dX8_process_43 : decode cX8_process 43 = .ok (.iload 5, 2) := by decide +kernel
theorem dX8_process_45 : decode cX8_process 45 = .ok (.iconst 0, 1) := by decide +kernel
theorem dX8_process_46 : decode cX8_process 46 = .ok (.bipush 7, 2) := by decide +kernel
theorem dX8_process_48 : decode cX8_process 48 = .ok (.invokestatic 129, 3) := by decide +kernel
theorem dX8_process_51 : decode cX8_process 51 = .ok (.ifCond .eq 28, 3) := by decide +kernel
theorem dX8_process_54 : decode cX8_process 54 = .ok (.iload 6, 2) := by decide +kernel
theorem dX8_process_56 : decode cX8_process 56 = .ok (.iconst 0, 1) := by decide +kernel
theorem dX8_process_57 : decode cX8_process 57 = .ok (.bipush 7, 2) := by decide +kernel
theorem dX8_process_59 : decode cX8_process 59 = .ok (.invokestatic 129, 3) := by decide +kernel
theorem dX8_process_62 : decode cX8_process 62 = .ok (.ifCond .eq 17, 3) := by decide +kernel
theorem dX8_process_65 : decode cX8_process 65 = .ok (.iload 5, 2) := by decide +kernel
theorem dX8_process_67 : decode cX8_process 67 = .ok (.iload 6, 2) := by decide +kernel
theorem dX8_process_69 : decode cX8_process 69 = .ok (.iconst (-1), 1) := by decide +kernel
theorem dX8_process_70 : decode cX8_process 70 = .ok (.ixor, 1) := by decide +kernel
theorem dX8_process_71 : decode cX8_process 71 = .ok (.iand, 1) := by decide +kernel
theorem dX8_process_72 : decode cX8_process 72 = .ok (.ifCond .ne 7, 3) := by decide +kernel
theorem dX8_process_75 : decode cX8_process 75 = .ok (.iconst 1, 1) := by decide +kernel
theorem dX8_process_76 : decode cX8_process 76 = .ok (.goto 4, 3) := by decide +kernel
theorem dX8_process_79 : decode cX8_process 79 = .ok (.iconst 0, 1) := by decide +kernel
theorem dX8_process_80 : decode cX8_process 80 = .ok (.istore 8, 2) := by decide +kernel
theorem dX8_process_82 : decode cX8_process 82 = .ok (.aload_n 0, 1) := by decide +kernel
theorem dX8_process_83 : decode cX8_process 83 = .ok (.iload 7, 2) := by decide +kernel
theorem dX8_process_85 : decode cX8_process 85 = .ok (.ifCond .ne 7, 3) := by decide +kernel
theorem dX8_process_88 : decode cX8_process 88 = .ok (.iconst 1, 1) := by decide +kernel
theorem dX8_process_89 : decode cX8_process 89 = .ok (.goto 26, 3) := by decide +kernel
theorem dX8_process_92 : decode cX8_process 92 = .ok (.iload 8, 2) := by decide +kernel
theorem dX8_process_94 : decode cX8_process 94 = .ok (.ifCond .ne 7, 3) := by decide +kernel
theorem dX8_process_97 : decode cX8_process 97 = .ok (.iconst 2, 1) := by decide +kernel
theorem dX8_process_98 : decode cX8_process 98 = .ok (.goto 17, 3) := by decide +kernel
theorem dX8_process_101 : decode cX8_process 101 = .ok (.aload_n 0, 1) := by decide +kernel
theorem dX8_process_102 : decode cX8_process 102 = .ok (.getfield 136, 3) := by decide +kernel
theorem dX8_process_105 : decode cX8_process 105 = .ok (.bipush 8, 2) := by decide +kernel
theorem dX8_process_107 : decode cX8_process 107 = .ok (.if_icmp .ne 7, 3) := by decide +kernel
theorem dX8_process_110 : decode cX8_process 110 = .ok (.iconst 3, 1) := by decide +kernel
theorem dX8_process_111 : decode cX8_process 111 = .ok (.goto 4, 3) := by decide +kernel
theorem dX8_process_114 : decode cX8_process 114 = .ok (.iconst 0, 1) := by decide +kernel
theorem dX8_process_115 : decode cX8_process 115 = .ok (.invokevirtual 154, 3) := by decide +kernel
theorem dX8_process_118 : decode cX8_process 118 = .ok (.ifCond .eq 5, 3) := by decide +kernel
theorem dX8_process_121 : decode cX8_process 121 = .ok (.iconst 0, 1) := by decide +kernel
theorem dX8_process_122 : decode cX8_process 122 = .ok (.ireturn, 1) := by decide +kernel
theorem dX8_process_123 : decode cX8_process 123 = .ok (.aload_n 0, 1) := by decide +kernel
theorem dX8_process_124 : decode cX8_process 124 = .ok (.getfield 136, 3) := by decide +kernel
theorem dX8_process_127 : decode cX8_process 127 = .ok (.istore 9, 2) := by decide +kernel
theorem dX8_process_129 : decode cX8_process 129 = .ok (.aload_n 0, 1) := by decide +kernel
theorem dX8_process_130 : decode cX8_process 130 = .ok (.dup, 1) := by decide +kernel
theorem dX8_process_131 : decode cX8_process 131 = .ok (.getfield 136, 3) := by decide +kernel
theorem dX8_process_134 : decode cX8_process 134 = .ok (.iconst 1, 1) := by decide +kernel
theorem dX8_process_135 : decode cX8_process 135 = .ok (.iadd, 1) := by decide +kernel
theorem dX8_process_136 : decode cX8_process 136 = .ok (.putfield 136, 3) := by decide +kernel
theorem dX8_process_139 : decode cX8_process 139 = .ok (.aload_n 0, 1) := by decide +kernel
theorem dX8_process_140 : decode cX8_process 140 = .ok (.getfield 59, 3) := by decide +kernel
theorem dX8_process_143 : decode cX8_process 143 = .ok (.iload 9, 2) := by decide +kernel
theorem dX8_process_145 : decode cX8_process 145 = .ok (.iload_n 1, 1) := by decide +kernel
theorem dX8_process_146 : decode cX8_process 146 = .ok (.iastore, 1) := by decide +kernel
theorem dX8_process_147 : decode cX8_process 147 = .ok (.aload_n 0, 1) := by decide +kernel
theorem dX8_process_148 : decode cX8_process 148 = .ok (.getfield 62, 3) := by decide +kernel
theorem dX8_process_151 : decode cX8_process 151 = .ok (.iload 9, 2) := by decide +kernel
theorem dX8_process_153 : decode cX8_process 153 = .ok (.iload_n 2, 1) := by decide +kernel
theorem dX8_process_154 : decode cX8_process 154 = .ok (.iastore, 1) := by decide +kernel
theorem dX8_process_155 : decode cX8_process 155 = .ok (.aload_n 0, 1) := by decide +kernel
theorem dX8_process_156 : decode cX8_process 156 = .ok (.getfield 65, 3) := by decide +kernel
theorem dX8_process_159 : decode cX8_process 159 = .ok (.iload 9, 2) := by decide +kernel
theorem dX8_process_161 : decode cX8_process 161 = .ok (.iload_n 3, 1) := by decide +kernel
theorem dX8_process_162 : decode cX8_process 162 = .ok (.iastore, 1) := by decide +kernel
theorem dX8_process_163 : decode cX8_process 163 = .ok (.aload_n 0, 1) := by decide +kernel
theorem dX8_process_164 : decode cX8_process 164 = .ok (.getfield 68, 3) := by decide +kernel
theorem dX8_process_167 : decode cX8_process 167 = .ok (.iload 9, 2) := by decide +kernel
theorem dX8_process_169 : decode cX8_process 169 = .ok (.iload 4, 2) := by decide +kernel
theorem dX8_process_171 : decode cX8_process 171 = .ok (.iastore, 1) := by decide +kernel
theorem dX8_process_172 : decode cX8_process 172 = .ok (.aload_n 0, 1) := by decide +kernel
theorem dX8_process_173 : decode cX8_process 173 = .ok (.getfield 71, 3) := by decide +kernel
theorem dX8_process_176 : decode cX8_process 176 = .ok (.iload 9, 2) := by decide +kernel
theorem dX8_process_178 : decode cX8_process 178 = .ok (.iload 5, 2) := by decide +kernel
theorem dX8_process_180 : decode cX8_process 180 = .ok (.iastore, 1) := by decide +kernel
theorem dX8_process_181 : decode cX8_process 181 = .ok (.aload_n 0, 1) := by decide +kernel
theorem dX8_process_182 : decode cX8_process 182 = .ok (.getfield 74, 3) := by decide +kernel
theorem dX8_process_185 : decode cX8_process 185 = .ok (.iload 9, 2) := by decide +kernel
theorem dX8_process_187 : decode cX8_process 187 = .ok (.iload 6, 2) := by decide +kernel
theorem dX8_process_189 : decode cX8_process 189 = .ok (.iastore, 1) := by decide +kernel
theorem dX8_process_190 : decode cX8_process 190 = .ok (.aload_n 0, 1) := by decide +kernel
theorem dX8_process_191 : decode cX8_process 191 = .ok (.getfield 80, 3) := by decide +kernel
theorem dX8_process_194 : decode cX8_process 194 = .ok (.iload 9, 2) := by decide +kernel
theorem dX8_process_196 : decode cX8_process 196 = .ok (.bipush 7, 2) := by decide +kernel
theorem dX8_process_198 : decode cX8_process 198 = .ok (.iastore, 1) := by decide +kernel
theorem dX8_process_199 : decode cX8_process 199 = .ok (.iload 9, 2) := by decide +kernel
theorem dX8_process_201 : decode cX8_process 201 = .ok (.ireturn, 1) := by decide +kernel
theorem dX8_filter_0 : decode cX8_filter 0 = .ok (.aload_n 0, 1) := by decide +kernel
theorem dX8_filter_1 : decode cX8_filter 1 = .ok (.iload_n 1, 1) := by decide +kernel
theorem dX8_filter_2 : decode cX8_filter 2 = .ok (.invokevirtual 166, 3) := by decide +kernel
theorem dX8_filter_5 : decode cX8_filter 5 = .ok (.istore_n 3, 1) := by decide +kernel
theorem dX8_filter_6 : decode cX8_filter 6 = .ok (.aload_n 0, 1) := by decide +kernel
theorem dX8_filter_7 : decode cX8_filter 7 = .ok (.iload_n 3, 1) := by decide +kernel
theorem dX8_filter_8 : decode cX8_filter 8 = .ok (.ifCond .ne 7, 3) := by decide +kernel
theorem dX8_filter_11 : decode cX8_filter 11 = .ok (.iconst 1, 1) := by decide +kernel
theorem dX8_filter_12 : decode cX8_filter 12 = .ok (.goto 32, 3) := by decide +kernel
theorem dX8_filter_15 : decode cX8_filter 15 = .ok (.iload_n 2, 1) := by decide +kernel
theorem dX8_filter_16 : decode cX8_filter 16 = .ok (.iconst 0, 1) := by decide +kernel
theorem dX8_filter_17 : decode cX8_filter 17 = .ok (.bipush 7, 2) := by decide +kernel
theorem dX8_filter_19 : decode cX8_filter 19 = .ok (.invokestatic 129, 3) := by decide +kernel
theorem dX8_filter_22 : decode cX8_filter 22 = .ok (.ifCond .ne 7, 3) := by decide +kernel
theorem dX8_filter_25 : decode cX8_filter 25 = .ok (.iconst 2, 1) := by decide +kernel
theorem dX8_filter_26 : decode cX8_filter 26 = .ok (.goto 18, 3) := by decide +kernel
theorem dX8_filter_29 : decode cX8_filter 29 = .ok (.aload_n 0, 1) := by decide +kernel
theorem dX8_filter_30 : decode cX8_filter 30 = .ok (.getfield 77, 3) := by decide +kernel
theorem dX8_filter_33 : decode cX8_filter 33 = .ok (.iload_n 1, 1) := by decide +kernel
theorem dX8_filter_34 : decode cX8_filter 34 = .ok (.iaload, 1) := by decide +kernel
theorem dX8_filter_35 : decode cX8_filter 35 = .ok (.iconst 3, 1) := by decide +kernel
theorem dX8_filter_36 : decode cX8_filter 36 = .ok (.if_icmp .ne 7, 3) := by decide +kernel
theorem dX8_filter_39 : decode cX8_filter 39 = .ok (.iconst 3, 1) := by decide +kernel
theorem dX8_filter_40 : decode cX8_filter 40 = .ok (.goto 4, 3) := by decide +kernel
theorem dX8_filter_43 : decode cX8_filter 43 = .ok (.iconst 0, 1) := by decide +kernel
theorem dX8_filter_44 : decode cX8_filter 44 = .ok (.invokevirtual 154, 3) := by decide +kernel
theorem dX8_filter_47 : decode cX8_filter 47 = .ok (.ifCond .eq 5, 3) := by decide +kernel
theorem dX8_filter_50 : decode cX8_filter 50 = .ok (.iconst 0, 1) := by decide +kernel
theorem dX8_filter_51 : decode cX8_filter 51 = .ok (.ireturn, 1) := by decide +kernel
theorem dX8_filter_52 : decode cX8_filter 52 = .ok (.aload_n 0, 1) := by decide +kernel
theorem dX8_filter_53 : decode cX8_filter 53 = .ok (.getfield 77, 3) := by decide +kernel
theorem dX8_filter_56 : decode cX8_filter 56 = .ok (.iload_n 1, 1) := by decide +kernel
theorem dX8_filter_57 : decode cX8_filter 57 = .ok (.dup2, 1) := by decide +kernel
theorem dX8_filter_58 : decode cX8_filter 58 = .ok (.iaload, 1) := by decide +kernel
theorem dX8_filter_59 : decode cX8_filter 59 = .ok (.iconst 1, 1) := by decide +kernel
theorem dX8_filter_60 : decode cX8_filter 60 = .ok (.iadd, 1) := by decide +kernel
theorem dX8_filter_61 : decode cX8_filter 61 = .ok (.iastore, 1) := by decide +kernel
theorem dX8_filter_62 : decode cX8_filter 62 = .ok (.aload_n 0, 1) := by decide +kernel
theorem dX8_filter_63 : decode cX8_filter 63 = .ok (.getfield 80, 3) := by decide +kernel
theorem dX8_filter_66 : decode cX8_filter 66 = .ok (.iload_n 1, 1) := by decide +kernel
theorem dX8_filter_67 : decode cX8_filter 67 = .ok (.dup2, 1) := by decide +kernel
theorem dX8_filter_68 : decode cX8_filter 68 = .ok (.iaload, 1) := by decide +kernel
theorem dX8_filter_69 : decode cX8_filter 69 = .ok (.iload_n 2, 1) := by decide +kernel
theorem dX8_filter_70 : decode cX8_filter 70 = .ok (.iand, 1) := by decide +kernel
theorem dX8_filter_71 : decode cX8_filter 71 = .ok (.iastore, 1) := by decide +kernel
theorem dX8_filter_72 : decode cX8_filter 72 = .ok (.aload_n 0, 1) := by decide +kernel
theorem dX8_filter_73 : decode cX8_filter 73 = .ok (.getfield 80, 3) := by decide +kernel
theorem dX8_filter_76 : decode cX8_filter 76 = .ok (.iload_n 1, 1) := by decide +kernel
theorem dX8_filter_77 : decode cX8_filter 77 = .ok (.iaload, 1) := by decide +kernel
theorem dX8_filter_78 : decode cX8_filter 78 = .ok (.ireturn, 1) := by decide +kernel
theorem dX8_bound_0 : decode cX8_bound 0 = .ok (.aload_n 0, 1) := by decide +kernel
theorem dX8_bound_1 : decode cX8_bound 1 = .ok (.aload_n 0, 1) := by decide +kernel
theorem dX8_bound_2 : decode cX8_bound 2 = .ok (.iload_n 1, 1) := by decide +kernel
theorem dX8_bound_3 : decode cX8_bound 3 = .ok (.invokevirtual 166, 3) := by decide +kernel
theorem dX8_bound_6 : decode cX8_bound 6 = .ok (.ifCond .ne 7, 3) := by decide +kernel
theorem dX8_bound_9 : decode cX8_bound 9 = .ok (.iconst 1, 1) := by decide +kernel
theorem dX8_bound_10 : decode cX8_bound 10 = .ok (.goto 18, 3) := by decide +kernel
theorem dX8_bound_13 : decode cX8_bound 13 = .ok (.iload_n 2, 1) := by decide +kernel
theorem dX8_bound_14 : decode cX8_bound 14 = .ok (.iconst 0, 1) := by decide +kernel
theorem dX8_bound_15 : decode cX8_bound 15 = .ok (.bipush 7, 2) := by decide +kernel
theorem dX8_bound_17 : decode cX8_bound 17 = .ok (.invokestatic 129, 3) := by decide +kernel
theorem dX8_bound_20 : decode cX8_bound 20 = .ok (.ifCond .ne 7, 3) := by decide +kernel
theorem dX8_bound_23 : decode cX8_bound 23 = .ok (.iconst 2, 1) := by decide +kernel
theorem dX8_bound_24 : decode cX8_bound 24 = .ok (.goto 4, 3) := by decide +kernel
theorem dX8_bound_27 : decode cX8_bound 27 = .ok (.iconst 0, 1) := by decide +kernel
theorem dX8_bound_28 : decode cX8_bound 28 = .ok (.invokevirtual 154, 3) := by decide +kernel
theorem dX8_bound_31 : decode cX8_bound 31 = .ok (.ifCond .eq 5, 3) := by decide +kernel
theorem dX8_bound_34 : decode cX8_bound 34 = .ok (.iconst 0, 1) := by decide +kernel
theorem dX8_bound_35 : decode cX8_bound 35 = .ok (.ireturn, 1) := by decide +kernel
theorem dX8_bound_36 : decode cX8_bound 36 = .ok (.aload_n 0, 1) := by decide +kernel
theorem dX8_bound_37 : decode cX8_bound 37 = .ok (.getfield 74, 3) := by decide +kernel
theorem dX8_bound_40 : decode cX8_bound 40 = .ok (.iload_n 1, 1) := by decide +kernel
theorem dX8_bound_41 : decode cX8_bound 41 = .ok (.dup2, 1) := by decide +kernel
theorem dX8_bound_42 : decode cX8_bound 42 = .ok (.iaload, 1) := by decide +kernel
theorem dX8_bound_43 : decode cX8_bound 43 = .ok (.iload_n 2, 1) := by decide +kernel
theorem dX8_bound_44 : decode cX8_bound 44 = .ok (.iconst (-1), 1) := by decide +kernel
theorem dX8_bound_45 : decode cX8_bound 45 = .ok (.ixor, 1) := by decide +kernel
theorem dX8_bound_46 : decode cX8_bound 46 = .ok (.iand, 1) := by decide +kernel
theorem dX8_bound_47 : decode cX8_bound 47 = .ok (.iastore, 1) := by decide +kernel
theorem dX8_bound_48 : decode cX8_bound 48 = .ok (.aload_n 0, 1) := by decide +kernel
theorem dX8_bound_49 : decode cX8_bound 49 = .ok (.getfield 71, 3) := by decide +kernel
theorem dX8_bound_52 : decode cX8_bound 52 = .ok (.iload_n 1, 1) := by decide +kernel
theorem dX8_bound_53 : decode cX8_bound 53 = .ok (.dup2, 1) := by decide +kernel
theorem dX8_bound_54 : decode cX8_bound 54 = .ok (.iaload, 1) := by decide +kernel
theorem dX8_bound_55 : decode cX8_bound 55 = .ok (.iload_n 2, 1) := by decide +kernel
theorem dX8_bound_56 : decode cX8_bound 56 = .ok (.iconst (-1), 1) := by decide +kernel
theorem dX8_bound_57 : decode cX8_bound 57 = .ok (.ixor, 1) := by decide +kernel
theorem dX8_bound_58 : decode cX8_bound 58 = .ok (.iand, 1) := by decide +kernel
theorem dX8_bound_59 : decode cX8_bound 59 = .ok (.iastore, 1) := by decide +kernel
theorem dX8_bound_60 : decode cX8_bound 60 = .ok (.aload_n 0, 1) := by decide +kernel
theorem dX8_bound_61 : decode cX8_bound 61 = .ok (.getfield 74, 3) := by decide +kernel
theorem dX8_bound_64 : decode cX8_bound 64 = .ok (.iload_n 1, 1) := by decide +kernel
theorem dX8_bound_65 : decode cX8_bound 65 = .ok (.iaload, 1) := by decide +kernel
theorem dX8_bound_66 : decode cX8_bound 66 = .ok (.ireturn, 1) := by decide +kernel
theorem dX8_about_0 : decode cX8_about 0 = .ok (.aload_n 0, 1) := by decide +kernel
theorem dX8_about_1 : decode cX8_about 1 = .ok (.aload_n 0, 1) := by decide +kernel
theorem dX8_about_2 : decode cX8_about 2 = .ok (.iload_n 1, 1) := by decide +kernel
theorem dX8_about_3 : decode cX8_about 3 = .ok (.invokevirtual 166, 3) := by decide +kernel
theorem dX8_about_6 : decode cX8_about 6 = .ok (.ifCond .ne 7, 3) := by decide +kernel
theorem dX8_about_9 : decode cX8_about 9 = .ok (.iconst 1, 1) := by decide +kernel
theorem dX8_about_10 : decode cX8_about 10 = .ok (.goto 18, 3) := by decide +kernel
theorem dX8_about_13 : decode cX8_about 13 = .ok (.iload_n 2, 1) := by decide +kernel
theorem dX8_about_14 : decode cX8_about 14 = .ok (.iconst 0, 1) := by decide +kernel
theorem dX8_about_15 : decode cX8_about 15 = .ok (.bipush 6, 2) := by decide +kernel
theorem dX8_about_17 : decode cX8_about 17 = .ok (.invokestatic 129, 3) := by decide +kernel
theorem dX8_about_20 : decode cX8_about 20 = .ok (.ifCond .ne 7, 3) := by decide +kernel
theorem dX8_about_23 : decode cX8_about 23 = .ok (.iconst 2, 1) := by decide +kernel
theorem dX8_about_24 : decode cX8_about 24 = .ok (.goto 4, 3) := by decide +kernel
theorem dX8_about_27 : decode cX8_about 27 = .ok (.iconst 0, 1) := by decide +kernel
theorem dX8_about_28 : decode cX8_about 28 = .ok (.invokevirtual 154, 3) := by decide +kernel
theorem dX8_about_31 : decode cX8_about 31 = .ok (.ifCond .eq 5, 3) := by decide +kernel
theorem dX8_about_34 : decode cX8_about 34 = .ok (.iconst 0, 1) := by decide +kernel
theorem dX8_about_35 : decode cX8_about 35 = .ok (.ireturn, 1) := by decide +kernel
theorem dX8_about_36 : decode cX8_about 36 = .ok (.iload_n 2, 1) := by decide +kernel
theorem dX8_about_37 : decode cX8_about 37 = .ok (.iconst 4, 1) := by decide +kernel
theorem dX8_about_38 : decode cX8_about 38 = .ok (.if_icmp .ge 51, 3) := by decide +kernel
theorem dX8_about_41 : decode cX8_about 41 = .ok (.iload_n 2, 1) := by decide +kernel
theorem dX8_about_42 : decode cX8_about 42 = .ok (.ifCond .ne 12, 3) := by decide +kernel
theorem dX8_about_45 : decode cX8_about 45 = .ok (.aload_n 0, 1) := by decide +kernel
theorem dX8_about_46 : decode cX8_about 46 = .ok (.getfield 59, 3) := by decide +kernel
theorem dX8_about_49 : decode cX8_about 49 = .ok (.iload_n 1, 1) := by decide +kernel
theorem dX8_about_50 : decode cX8_about 50 = .ok (.iaload, 1) := by decide +kernel
theorem dX8_about_51 : decode cX8_about 51 = .ok (.goto 37, 3) := by decide +kernel
theorem dX8_about_54 : decode cX8_about 54 = .ok (.iload_n 2, 1) := by decide +kernel
theorem dX8_about_55 : decode cX8_about 55 = .ok (.iconst 1, 1) := by decide +kernel
theorem dX8_about_56 : decode cX8_about 56 = .ok (.if_icmp .ne 12, 3) := by decide +kernel
theorem dX8_about_59 : decode cX8_about 59 = .ok (.aload_n 0, 1) := by decide +kernel
theorem dX8_about_60 : decode cX8_about 60 = .ok (.getfield 62, 3) := by decide +kernel
theorem dX8_about_63 : decode cX8_about 63 = .ok (.iload_n 1, 1) := by decide +kernel
theorem dX8_about_64 : decode cX8_about 64 = .ok (.iaload, 1) := by decide +kernel
theorem dX8_about_65 : decode cX8_about 65 = .ok (.goto 23, 3) := by decide +kernel
theorem dX8_about_68 : decode cX8_about 68 = .ok (.iload_n 2, 1) := by decide +kernel
theorem dX8_about_69 : decode cX8_about 69 = .ok (.iconst 2, 1) := by decide +kernel
theorem dX8_about_70 : decode cX8_about 70 = .ok (.if_icmp .ne 12, 3) := by decide +kernel
theorem dX8_about_73 : decode cX8_about 73 = .ok (.aload_n 0, 1) := by decide +kernel
theorem dX8_about_74 : decode cX8_about 74 = .ok (.getfield 65, 3) := by decide +kernel
theorem dX8_about_77 : decode cX8_about 77 = .ok (.iload_n 1, 1) := by decide +kernel
theorem dX8_about_78 : decode cX8_about 78 = .ok (.iaload, 1) := by decide +kernel
theorem dX8_about_79 : decode cX8_about 79 = .ok (.goto 9, 3) := by decide +kernel
theorem dX8_about_82 : decode cX8_about 82 = .ok (.aload_n 0, 1) := by decide +kernel
theorem dX8_about_83 : decode cX8_about 83 = .ok (.getfield 68, 3) := by decide +kernel
theorem dX8_about_86 : decode cX8_about 86 = .ok (.iload_n 1, 1) := by decide +kernel
theorem dX8_about_87 : decode cX8_about 87 = .ok (.iaload, 1) := by decide +kernel
theorem dX8_about_88 : decode cX8_about 88 = .ok (.ireturn, 1) := by decide +kernel
theorem dX8_about_89 : decode cX8_about 89 = .ok (.iload_n 2, 1) := by decide +kernel
theorem dX8_about_90 : decode cX8_about 90 = .ok (.iconst 4, 1) := by decide +kernel
theorem dX8_about_91 : decode cX8_about 91 = .ok (.if_icmp .ne 12, 3) := by decide +kernel
theorem dX8_about_94 : decode cX8_about 94 = .ok (.aload_n 0, 1) := by decide +kernel
theorem dX8_about_95 : decode cX8_about 95 = .ok (.getfield 71, 3) := by decide +kernel
theorem dX8_about_98 : decode cX8_about 98 = .ok (.iload_n 1, 1) := by decide +kernel
theorem dX8_about_99 : decode cX8_about 99 = .ok (.iaload, 1) := by decide +kernel
theorem dX8_about_100 : decode cX8_about 100 = .ok (.goto 23, 3) := by decide +kernel
theorem dX8_about_103 : decode cX8_about 103 = .ok (.iload_n 2, 1) := by decide +kernel
theorem dX8_about_104 : decode cX8_about 104 = .ok (.iconst 5, 1) := by decide +kernel
theorem dX8_about_105 : decode cX8_about 105 = .ok (.if_icmp .ne 12, 3) := by decide +kernel
theorem dX8_about_108 : decode cX8_about 108 = .ok (.aload_n 0, 1) := by decide +kernel
theorem dX8_about_109 : decode cX8_about 109 = .ok (.getfield 74, 3) := by decide +kernel
theorem dX8_about_112 : decode cX8_about 112 = .ok (.iload_n 1, 1) := by decide +kernel
theorem dX8_about_113 : decode cX8_about 113 = .ok (.iaload, 1) := by decide +kernel
theorem dX8_about_114 : decode cX8_about 114 = .ok (.goto 9, 3) := by decide +kernel
theorem dX8_about_117 : decode cX8_about 117 = .ok (.aload_n 0, 1) := by decide +kernel
theorem dX8_about_118 : decode cX8_about 118 = .ok (.getfield 80, 3) := by decide +kernel
theorem dX8_about_121 : decode cX8_about 121 = .ok (.iload_n 1, 1) := by decide +kernel
theorem dX8_about_122 : decode cX8_about 122 = .ok (.iaload, 1) := by decide +kernel
theorem dX8_about_123 : decode cX8_about 123 = .ok (.ireturn, 1) := by decide +kernel
theorem dX8_byGroups_0 : decode cX8_byGroups 0 = .ok (.aload_n 0, 1) := by decide +kernel
theorem dX8_byGroups_1 : decode cX8_byGroups 1 = .ok (.iload_n 1, 1) := by decide +kernel
theorem dX8_byGroups_2 : decode cX8_byGroups 2 = .ok (.invokevirtual 156, 3) := by decide +kernel
theorem dX8_byGroups_5 : decode cX8_byGroups 5 = .ok (.istore 4, 2) := by decide +kernel
theorem dX8_byGroups_7 : decode cX8_byGroups 7 = .ok (.iconst (-1), 1) := by decide +kernel
theorem dX8_byGroups_8 : decode cX8_byGroups 8 = .ok (.istore 5, 2) := by decide +kernel
theorem dX8_byGroups_10 : decode cX8_byGroups 10 = .ok (.iload 4, 2) := by decide +kernel
theorem dX8_byGroups_12 : decode cX8_byGroups 12 = .ok (.aload_n 0, 1) := by decide +kernel
theorem dX8_byGroups_13 : decode cX8_byGroups 13 = .ok (.getfield 19, 3) := by decide +kernel
theorem dX8_byGroups_16 : decode cX8_byGroups 16 = .ok (.iload_n 2, 1) := by decide +kernel
theorem dX8_byGroups_17 : decode cX8_byGroups 17 = .ok (.iaload, 1) := by decide +kernel
theorem dX8_byGroups_18 : decode cX8_byGroups 18 = .ok (.invokestatic 142, 3) := by decide +kernel
theorem dX8_byGroups_21 : decode cX8_byGroups 21 = .ok (.ifCond .eq 55, 3) := by decide +kernel
theorem dX8_byGroups_24 : decode cX8_byGroups 24 = .ok (.aload_n 0, 1) := by decide +kernel
theorem dX8_byGroups_25 : decode cX8_byGroups 25 = .ok (.getfield 22, 3) := by decide +kernel
theorem dX8_byGroups_28 : decode cX8_byGroups 28 = .ok (.iload_n 2, 1) := by decide +kernel
theorem dX8_byGroups_29 : decode cX8_byGroups 29 = .ok (.iaload, 1) := by decide +kernel
theorem dX8_byGroups_30 : decode cX8_byGroups 30 = .ok (.iconst 3, 1) := by decide +kernel
theorem dX8_byGroups_31 : decode cX8_byGroups 31 = .ok (.ishr, 1) := by decide +kernel
theorem dX8_byGroups_32 : decode cX8_byGroups 32 = .ok (.iload_n 3, 1) := by decide +kernel
theorem dX8_byGroups_33 : decode cX8_byGroups 33 = .ok (.iand, 1) := by decide +kernel
theorem dX8_byGroups_34 : decode cX8_byGroups 34 = .ok (.ifCond .eq 27, 3) := by decide +kernel
theorem dX8_byGroups_37 : decode cX8_byGroups 37 = .ok (.aload_n 0, 1) := by decide +kernel
theorem dX8_byGroups_38 : decode cX8_byGroups 38 = .ok (.getfield 37, 3) := by decide +kernel
theorem dX8_byGroups_41 : decode cX8_byGroups 41 = .ok (.iload_n 2, 1) := by decide +kernel
theorem dX8_byGroups_42 : decode cX8_byGroups 42 = .ok (.iaload, 1) := by decide +kernel
theorem dX8_byGroups_43 : decode cX8_byGroups 43 = .ok (.ifCond .eq 14, 3) := by decide +kernel
theorem dX8_byGroups_46 : decode cX8_byGroups 46 = .ok (.aload_n 0, 1) := by decide +kernel
theorem dX8_byGroups_47 : decode cX8_byGroups 47 = .ok (.getfield 34, 3) := by decide +kernel
theorem dX8_byGroups_50 : decode cX8_byGroups 50 = .ok (.iload_n 2, 1) := by decide +kernel
theorem dX8_byGroups_51 : decode cX8_byGroups 51 = .ok (.iaload, 1) := by decide +kernel
theorem dX8_byGroups_52 : decode cX8_byGroups 52 = .ok (.iload_n 3, 1) := by decide +kernel
theorem dX8_byGroups_53 : decode cX8_byGroups 53 = .ok (.iand, 1) := by decide +kernel
theorem dX8_byGroups_54 : decode cX8_byGroups 54 = .ok (.ifCond .eq 7, 3) := by decide +kernel
theorem dX8_byGroups_57 : decode cX8_byGroups 57 = .ok (.iconst 1, 1) := by decide +kernel
theorem dX8_byGroups_58 : decode cX8_byGroups 58 = .ok (.goto 4, 3) := by decide +kernel
theorem dX8_byGroups_61 : decode cX8_byGroups 61 = .ok (.iconst 0, 1) := by decide +kernel
theorem dX8_byGroups_62 : decode cX8_byGroups 62 = .ok (.istore 6, 2) := by decide +kernel
theorem dX8_byGroups_64 : decode cX8_byGroups 64 = .ok (.iload 6, 2) := by decide +kernel
theorem dX8_byGroups_66 : decode cX8_byGroups 66 = .ok (.ifCond .eq 7, 3) := by decide +kernel
theorem dX8_byGroups_69 : decode cX8_byGroups 69 = .ok (.iconst 1, 1) := by decide +kernel
theorem dX8_byGroups_70 : decode cX8_byGroups 70 = .ok (.goto 4, 3) := by decide +kernel
theorem dX8_byGroups_73 : decode cX8_byGroups 73 = .ok (.iconst 0, 1) := by decide +kernel
theorem dX8_byGroups_74 : decode cX8_byGroups 74 = .ok (.istore 5, 2) := by decide +kernel
theorem dX8_byGroups_76 : decode cX8_byGroups 76 = .ok (.iconst 0, 1) := by decide +kernel
theorem dX8_byGroups_77 : decode cX8_byGroups 77 = .ok (.istore 6, 2) := by decide +kernel
theorem dX8_byGroups_79 : decode cX8_byGroups 79 = .ok (.iload 6, 2) := by decide +kernel
theorem dX8_byGroups_81 : decode cX8_byGroups 81 = .ok (.aload_n 0, 1) := by decide +kernel
theorem dX8_byGroups_82 : decode cX8_byGroups 82 = .ok (.getfield 37, 3) := by decide +kernel
theorem dX8_byGroups_85 : decode cX8_byGroups 85 = .ok (.iload_n 2, 1) := by decide +kernel
theorem dX8_byGroups_86 : decode cX8_byGroups 86 = .ok (.iaload, 1) := by decide +kernel
theorem dX8_byGroups_87 : decode cX8_byGroups 87 = .ok (.if_icmp .ge 81, 3) := by decide +kernel
theorem dX8_byGroups_90 : decode cX8_byGroups 90 = .ok (.iconst 5, 1) := by decide +kernel
theorem dX8_byGroups_91 : decode cX8_byGroups 91 = .ok (.iload_n 2, 1) := by decide +kernel
theorem dX8_byGroups_92 : decode cX8_byGroups 92 = .ok (.imul, 1) := by decide +kernel
theorem dX8_byGroups_93 : decode cX8_byGroups 93 = .ok (.iload 6, 2) := by decide +kernel
theorem dX8_byGroups_95 : decode cX8_byGroups 95 = .ok (.iadd, 1) := by decide +kernel
theorem dX8_byGroups_96 : decode cX8_byGroups 96 = .ok (.istore 7, 2) := by decide +kernel
theorem dX8_byGroups_98 : decode cX8_byGroups 98 = .ok (.aload_n 0, 1) := by decide +kernel
theorem dX8_byGroups_99 : decode cX8_byGroups 99 = .ok (.getfield 43, 3) := by decide +kernel
theorem dX8_byGroups_102 : decode cX8_byGroups 102 = .ok (.iload 7, 2) := by decide +kernel
theorem dX8_byGroups_104 : decode cX8_byGroups 104 = .ok (.baload, 1) := by decide +kernel
theorem dX8_byGroups_105 : decode cX8_byGroups 105 = .ok (.ifCond .eq 57, 3) := by decide +kernel
theorem dX8_byGroups_108 : decode cX8_byGroups 108 = .ok (.iload 4, 2) := by decide +kernel
theorem dX8_byGroups_110 : decode cX8_byGroups 110 = .ok (.aload_n 0, 1) := by decide +kernel
theorem dX8_byGroups_111 : decode cX8_byGroups 111 = .ok (.getfield 40, 3) := by decide +kernel
theorem dX8_byGroups_114 : decode cX8_byGroups 114 = .ok (.iload 7, 2) := by decide +kernel
theorem dX8_byGroups_116 : decode cX8_byGroups 116 = .ok (.iaload, 1) := by decide +kernel
theorem dX8_byGroups_117 : decode cX8_byGroups 117 = .ok (.invokestatic 142, 3) := by decide +kernel
theorem dX8_byGroups_120 : decode cX8_byGroups 120 = .ok (.ifCond .eq 42, 3) := by decide +kernel
theorem dX8_byGroups_123 : decode cX8_byGroups 123 = .ok (.iload 5, 2) := by decide +kernel
theorem dX8_byGroups_125 : decode cX8_byGroups 125 = .ok (.iconst (-1), 1) := by decide +kernel
theorem dX8_byGroups_126 : decode cX8_byGroups 126 = .ok (.if_icmp .ne 7, 3) := by decide +kernel
theorem dX8_byGroups_129 : decode cX8_byGroups 129 = .ok (.iconst 0, 1) := by decide +kernel
theorem dX8_byGroups_130 : decode cX8_byGroups 130 = .ok (.goto 5, 3) := by decide +kernel
theorem dX8_byGroups_133 : decode cX8_byGroups 133 = .ok (.iload 5, 2) := by decide +kernel
theorem dX8_byGroups_135 : decode cX8_byGroups 135 = .ok (.aload_n 0, 1) := by decide +kernel
theorem dX8_byGroups_136 : decode cX8_byGroups 136 = .ok (.getfield 47, 3) := by decide +kernel
theorem dX8_byGroups_139 : decode cX8_byGroups 139 = .ok (.iload 7, 2) := by decide +kernel
theorem dX8_byGroups_141 : decode cX8_byGroups 141 = .ok (.iaload, 1) := by decide +kernel
theorem dX8_byGroups_142 : decode cX8_byGroups 142 = .ok (.aload_n 0, 1) := by decide +kernel
theorem dX8_byGroups_143 : decode cX8_byGroups 143 = .ok (.getfield 34, 3) := by decide +kernel
theorem dX8_byGroups_146 : decode cX8_byGroups 146 = .ok (.iload_n 2, 1) := by decide +kernel
theorem dX8_byGroups_147 : decode cX8_byGroups 147 = .ok (.iaload, 1) := by decide +kernel
theorem dX8_byGroups_148 : decode cX8_byGroups 148 = .ok (.iand, 1) := by decide +kernel
theorem dX8_byGroups_149 : decode cX8_byGroups 149 = .ok (.iload_n 3, 1) := by decide +kernel
theorem dX8_byGroups_150 : decode cX8_byGroups 150 = .ok (.iand, 1) := by decide +kernel
theorem dX8_byGroups_151 : decode cX8_byGroups 151 = .ok (.ifCond .eq 7, 3) := by decide +kernel
theorem dX8_byGroups_154 : decode cX8_byGroups 154 = .ok (.iconst 1, 1) := by decide +kernel
theorem dX8_byGroups_155 : decode cX8_byGroups 155 = .ok (.goto 4, 3) := by decide +kernel
theorem dX8_byGroups_158 : decode cX8_byGroups 158 = .ok (.iconst 0, 1) := by decide +kernel
theorem dX8_byGroups_159 : decode cX8_byGroups 159 = .ok (.iadd, 1) := by decide +kernel
theorem dX8_byGroups_160 : decode cX8_byGroups 160 = .ok (.istore 5, 2) := by decide +kernel
theorem dX8_byGroups_162 : decode cX8_byGroups 162 = .ok (.iinc 6 1, 3) := by decide +kernel
theorem dX8_byGroups_165 : decode cX8_byGroups 165 = .ok (.goto (-86), 3) := by decide +kernel
theorem dX8_byGroups_168 : decode cX8_byGroups 168 = .ok (.iload 5, 2) := by decide +kernel
theorem dX8_byGroups_170 : decode cX8_byGroups 170 = .ok (.ireturn, 1) := by decide +kernel
theorem dX8_leastOf_0 : decode cX8_leastOf 0 = .ok (.iload_n 1, 1) := by decide +kernel
theorem dX8_leastOf_1 : decode cX8_leastOf 1 = .ok (.aload_n 0, 1) := by decide +kernel
theorem dX8_leastOf_2 : decode cX8_leastOf 2 = .ok (.getfield 16, 3) := by decide +kernel
theorem dX8_leastOf_5 : decode cX8_leastOf 5 = .ok (.iload_n 2, 1) := by decide +kernel
theorem dX8_leastOf_6 : decode cX8_leastOf 6 = .ok (.iaload, 1) := by decide +kernel
theorem dX8_leastOf_7 : decode cX8_leastOf 7 = .ok (.if_icmp .ne 23, 3) := by decide +kernel
theorem dX8_leastOf_10 : decode cX8_leastOf 10 = .ok (.aload_n 0, 1) := by decide +kernel
theorem dX8_leastOf_11 : decode cX8_leastOf 11 = .ok (.getfield 22, 3) := by decide +kernel
theorem dX8_leastOf_14 : decode cX8_leastOf 14 = .ok (.iload_n 2, 1) := by decide +kernel
theorem dX8_leastOf_15 : decode cX8_leastOf 15 = .ok (.iaload, 1) := by decide +kernel
theorem dX8_leastOf_16 : decode cX8_leastOf 16 = .ok (.bipush 6, 2) := by decide +kernel
theorem dX8_leastOf_18 : decode cX8_leastOf 18 = .ok (.ishr, 1) := by decide +kernel
theorem dX8_leastOf_19 : decode cX8_leastOf 19 = .ok (.iload_n 3, 1) := by decide +kernel
theorem dX8_leastOf_20 : decode cX8_leastOf 20 = .ok (.iand, 1) := by decide +kernel
theorem dX8_leastOf_21 : decode cX8_leastOf 21 = .ok (.ifCond .eq 7, 3) := by decide +kernel
theorem dX8_leastOf_24 : decode cX8_leastOf 24 = .ok (.iconst 1, 1) := by decide +kernel
theorem dX8_leastOf_25 : decode cX8_leastOf 25 = .ok (.goto 4, 3) := by decide +kernel
theorem dX8_leastOf_28 : decode cX8_leastOf 28 = .ok (.iconst 0, 1) := by decide +kernel
theorem dX8_leastOf_29 : decode cX8_leastOf 29 = .ok (.ireturn, 1) := by decide +kernel
theorem dX8_leastOf_30 : decode cX8_leastOf 30 = .ok (.aload_n 0, 1) := by decide +kernel
theorem dX8_leastOf_31 : decode cX8_leastOf 31 = .ok (.iload_n 2, 1) := by decide +kernel
theorem dX8_leastOf_32 : decode cX8_leastOf 32 = .ok (.iconst 0, 1) := by decide +kernel
theorem dX8_leastOf_33 : decode cX8_leastOf 33 = .ok (.iload_n 1, 1) := by decide +kernel
theorem dX8_leastOf_34 : decode cX8_leastOf 34 = .ok (.invokevirtual 176, 3) := by decide +kernel
theorem dX8_leastOf_37 : decode cX8_leastOf 37 = .ok (.istore 4, 2) := by decide +kernel
theorem dX8_leastOf_39 : decode cX8_leastOf 39 = .ok (.iload 4, 2) := by decide +kernel
theorem dX8_leastOf_41 : decode cX8_leastOf 41 = .ok (.iconst (-1), 1) := by decide +kernel
theorem dX8_leastOf_42 : decode cX8_leastOf 42 = .ok (.if_icmp .eq 32, 3) := by decide +kernel
theorem dX8_leastOf_45 : decode cX8_leastOf 45 = .ok (.aload_n 0, 1) := by decide +kernel
theorem dX8_leastOf_46 : decode cX8_leastOf 46 = .ok (.getfield 47, 3) := by decide +kernel
theorem dX8_leastOf_49 : decode cX8_leastOf 49 = .ok (.iconst 5, 1) := by decide +kernel
theorem dX8_leastOf_50 : decode cX8_leastOf 50 = .ok (.iload_n 2, 1) := by decide +kernel
theorem dX8_leastOf_51 : decode cX8_leastOf 51 = .ok (.imul, 1) := by decide +kernel
theorem dX8_leastOf_52 : decode cX8_leastOf 52 = .ok (.iload 4, 2) := by decide +kernel
theorem dX8_leastOf_54 : decode cX8_leastOf 54 = .ok (.iadd, 1) := by decide +kernel
theorem dX8_leastOf_55 : decode cX8_leastOf 55 = .ok (.iaload, 1) := by decide +kernel
theorem dX8_leastOf_56 : decode cX8_leastOf 56 = .ok (.aload_n 0, 1) := by decide +kernel
theorem dX8_leastOf_57 : decode cX8_leastOf 57 = .ok (.getfield 34, 3) := by decide +kernel
theorem dX8_leastOf_60 : decode cX8_leastOf 60 = .ok (.iload_n 2, 1) := by decide +kernel
theorem dX8_leastOf_61 : decode cX8_leastOf 61 = .ok (.iaload, 1) := by decide +kernel
theorem dX8_leastOf_62 : decode cX8_leastOf 62 = .ok (.iand, 1) := by decide +kernel
theorem dX8_leastOf_63 : decode cX8_leastOf 63 = .ok (.iload_n 3, 1) := by decide +kernel
theorem dX8_leastOf_64 : decode cX8_leastOf 64 = .ok (.iand, 1) := by decide +kernel
theorem dX8_leastOf_65 : decode cX8_leastOf 65 = .ok (.ifCond .eq 7, 3) := by decide +kernel
theorem dX8_leastOf_68 : decode cX8_leastOf 68 = .ok (.iconst 1, 1) := by decide +kernel
theorem dX8_leastOf_69 : decode cX8_leastOf 69 = .ok (.goto 4, 3) := by decide +kernel
theorem dX8_leastOf_72 : decode cX8_leastOf 72 = .ok (.iconst 0, 1) := by decide +kernel
theorem dX8_leastOf_73 : decode cX8_leastOf 73 = .ok (.ireturn, 1) := by decide +kernel
theorem dX8_leastOf_74 : decode cX8_leastOf 74 = .ok (.aload_n 0, 1) := by decide +kernel
theorem dX8_leastOf_75 : decode cX8_leastOf 75 = .ok (.iload_n 1, 1) := by decide +kernel
theorem dX8_leastOf_76 : decode cX8_leastOf 76 = .ok (.iload_n 2, 1) := by decide +kernel
theorem dX8_leastOf_77 : decode cX8_leastOf 77 = .ok (.iload_n 3, 1) := by decide +kernel
theorem dX8_leastOf_78 : decode cX8_leastOf 78 = .ok (.invokevirtual 180, 3) := by decide +kernel
theorem dX8_leastOf_81 : decode cX8_leastOf 81 = .ok (.istore 5, 2) := by decide +kernel
theorem dX8_leastOf_83 : decode cX8_leastOf 83 = .ok (.iload 5, 2) := by decide +kernel
theorem dX8_leastOf_85 : decode cX8_leastOf 85 = .ok (.iconst (-1), 1) := by decide +kernel
theorem dX8_leastOf_86 : decode cX8_leastOf 86 = .ok (.if_icmp .eq 8, 3) := by decide +kernel
theorem dX8_leastOf_89 : decode cX8_leastOf 89 = .ok (.iload 5, 2) := by decide +kernel
theorem dX8_leastOf_91 : decode cX8_leastOf 91 = .ok (.goto 19, 3) := by decide +kernel
theorem dX8_leastOf_94 : decode cX8_leastOf 94 = .ok (.aload_n 0, 1) := by decide +kernel
theorem dX8_leastOf_95 : decode cX8_leastOf 95 = .ok (.getfield 22, 3) := by decide +kernel
theorem dX8_leastOf_98 : decode cX8_leastOf 98 = .ok (.iload_n 2, 1) := by decide +kernel
theorem dX8_leastOf_99 : decode cX8_leastOf 99 = .ok (.iaload, 1) := by decide +kernel
theorem dX8_leastOf_100 : decode cX8_leastOf 100 = .ok (.iload_n 3, 1) := by decide +kernel
theorem dX8_leastOf_101 : decode cX8_leastOf 101 = .ok (.iand, 1) := by decide +kernel
theorem dX8_leastOf_102 : decode cX8_leastOf 102 = .ok (.ifCond .eq 7, 3) := by decide +kernel
theorem dX8_leastOf_105 : decode cX8_leastOf 105 = .ok (.iconst 1, 1) := by decide +kernel
theorem dX8_leastOf_106 : decode cX8_leastOf 106 = .ok (.goto 4, 3) := by decide +kernel
theorem dX8_leastOf_109 : decode cX8_leastOf 109 = .ok (.iconst 0, 1) := by decide +kernel
theorem dX8_leastOf_110 : decode cX8_leastOf 110 = .ok (.ireturn, 1) := by decide +kernel
theorem dX8_canRunAtAll_0 : decode cX8_canRunAtAll 0 = .ok (.aload_n 0, 1) := by decide +kernel
theorem dX8_canRunAtAll_1 : decode cX8_canRunAtAll 1 = .ok (.getfield 22, 3) := by decide +kernel
theorem dX8_canRunAtAll_4 : decode cX8_canRunAtAll 4 = .ok (.iload_n 1, 1) := by decide +kernel
theorem dX8_canRunAtAll_5 : decode cX8_canRunAtAll 5 = .ok (.iaload, 1) := by decide +kernel
theorem dX8_canRunAtAll_6 : decode cX8_canRunAtAll 6 = .ok (.bipush 6, 2) := by decide +kernel
theorem dX8_canRunAtAll_8 : decode cX8_canRunAtAll 8 = .ok (.ishr, 1) := by decide +kernel
theorem dX8_canRunAtAll_9 : decode cX8_canRunAtAll 9 = .ok (.aload_n 0, 1) := by decide +kernel
theorem dX8_canRunAtAll_10 : decode cX8_canRunAtAll 10 = .ok (.getfield 22, 3) := by decide +kernel
theorem dX8_canRunAtAll_13 : decode cX8_canRunAtAll 13 = .ok (.iload_n 1, 1) := by decide +kernel
theorem dX8_canRunAtAll_14 : decode cX8_canRunAtAll 14 = .ok (.iaload, 1) := by decide +kernel
theorem dX8_canRunAtAll_15 : decode cX8_canRunAtAll 15 = .ok (.iconst 3, 1) := by decide +kernel
theorem dX8_canRunAtAll_16 : decode cX8_canRunAtAll 16 = .ok (.ishr, 1) := by decide +kernel
theorem dX8_canRunAtAll_17 : decode cX8_canRunAtAll 17 = .ok (.ior, 1) := by decide +kernel
theorem dX8_canRunAtAll_18 : decode cX8_canRunAtAll 18 = .ok (.aload_n 0, 1) := by decide +kernel
theorem dX8_canRunAtAll_19 : decode cX8_canRunAtAll 19 = .ok (.getfield 22, 3) := by decide +kernel
theorem dX8_canRunAtAll_22 : decode cX8_canRunAtAll 22 = .ok (.iload_n 1, 1) := by decide +kernel
theorem dX8_canRunAtAll_23 : decode cX8_canRunAtAll 23 = .ok (.iaload, 1) := by decide +kernel
theorem dX8_canRunAtAll_24 : decode cX8_canRunAtAll 24 = .ok (.ior, 1) := by decide +kernel
theorem dX8_canRunAtAll_25 : decode cX8_canRunAtAll 25 = .ok (.iconst 4, 1) := by decide +kernel
theorem dX8_canRunAtAll_26 : decode cX8_canRunAtAll 26 = .ok (.iand, 1) := by decide +kernel
theorem dX8_canRunAtAll_27 : decode cX8_canRunAtAll 27 = .ok (.ifCond .eq 7, 3) := by decide +kernel
theorem dX8_canRunAtAll_30 : decode cX8_canRunAtAll 30 = .ok (.iconst 1, 1) := by decide +kernel
theorem dX8_canRunAtAll_31 : decode cX8_canRunAtAll 31 = .ok (.goto 4, 3) := by decide +kernel
theorem dX8_canRunAtAll_34 : decode cX8_canRunAtAll 34 = .ok (.iconst 0, 1) := by decide +kernel
theorem dX8_canRunAtAll_35 : decode cX8_canRunAtAll 35 = .ok (.istore_n 2, 1) := by decide +kernel
theorem dX8_canRunAtAll_36 : decode cX8_canRunAtAll 36 = .ok (.iconst 0, 1) := by decide +kernel
theorem dX8_canRunAtAll_37 : decode cX8_canRunAtAll 37 = .ok (.istore_n 3, 1) := by decide +kernel
theorem dX8_canRunAtAll_38 : decode cX8_canRunAtAll 38 = .ok (.iload_n 3, 1) := by decide +kernel
theorem dX8_canRunAtAll_39 : decode cX8_canRunAtAll 39 = .ok (.aload_n 0, 1) := by decide +kernel
theorem dX8_canRunAtAll_40 : decode cX8_canRunAtAll 40 = .ok (.getfield 37, 3) := by decide +kernel
theorem dX8_canRunAtAll_43 : decode cX8_canRunAtAll 43 = .ok (.iload_n 1, 1) := by decide +kernel
theorem dX8_canRunAtAll_44 : decode cX8_canRunAtAll 44 = .ok (.iaload, 1) := by decide +kernel
theorem dX8_canRunAtAll_45 : decode cX8_canRunAtAll 45 = .ok (.if_icmp .ge 34, 3) := by decide +kernel
theorem dX8_canRunAtAll_48 : decode cX8_canRunAtAll 48 = .ok (.iload_n 2, 1) := by decide +kernel
theorem dX8_canRunAtAll_49 : decode cX8_canRunAtAll 49 = .ok (.ifCond .ne 18, 3) := by decide +kernel
theorem dX8_canRunAtAll_52 : decode cX8_canRunAtAll 52 = .ok (.aload_n 0, 1) := by decide +kernel
theorem dX8_canRunAtAll_53 : decode cX8_canRunAtAll 53 = .ok (.getfield 47, 3) := by decide +kernel
theorem dX8_canRunAtAll_56 : decode cX8_canRunAtAll 56 = .ok (.iconst 5, 1) := by decide +kernel
theorem dX8_canRunAtAll_57 : decode cX8_canRunAtAll 57 = .ok (.iload_n 1, 1) := by decide +kernel
theorem dX8_canRunAtAll_58 : decode cX8_canRunAtAll 58 = .ok (.imul, 1) := by decide +kernel
theorem dX8_canRunAtAll_59 : decode cX8_canRunAtAll 59 = .ok (.iload_n 3, 1) := by decide +kernel
theorem dX8_canRunAtAll_60 : decode cX8_canRunAtAll 60 = .ok (.iadd, 1) := by decide +kernel
theorem dX8_canRunAtAll_61 : decode cX8_canRunAtAll 61 = .ok (.iaload, 1) := by decide +kernel
theorem dX8_canRunAtAll_62 : decode cX8_canRunAtAll 62 = .ok (.iconst 4, 1) := by decide +kernel
theorem dX8_canRunAtAll_63 : decode cX8_canRunAtAll 63 = .ok (.iand, 1) := by decide +kernel
theorem dX8_canRunAtAll_64 : decode cX8_canRunAtAll 64 = .ok (.ifCond .eq 7, 3) := by decide +kernel
theorem dX8_canRunAtAll_67 : decode cX8_canRunAtAll 67 = .ok (.iconst 1, 1) := by decide +kernel
theorem dX8_canRunAtAll_68 : decode cX8_canRunAtAll 68 = .ok (.goto 4, 3) := by decide +kernel
theorem dX8_canRunAtAll_71 : decode cX8_canRunAtAll 71 = .ok (.iconst 0, 1) := by decide +kernel
theorem dX8_canRunAtAll_72 : decode cX8_canRunAtAll 72 = .ok (.istore_n 2, 1) := by decide +kernel
theorem dX8_canRunAtAll_73 : decode cX8_canRunAtAll 73 = .ok (.iinc 3 1, 3) := by decide +kernel
theorem dX8_canRunAtAll_76 : decode cX8_canRunAtAll 76 = .ok (.goto (-38), 3) := by decide +kernel
theorem dX8_canRunAtAll_79 : decode cX8_canRunAtAll 79 = .ok (.iload_n 2, 1) := by decide +kernel
theorem dX8_canRunAtAll_80 : decode cX8_canRunAtAll 80 = .ok (.ireturn, 1) := by decide +kernel
theorem dX8_verdictOf_0 : decode cX8_verdictOf 0 = .ok (.iload 4, 2) := by decide +kernel
theorem dX8_verdictOf_2 : decode cX8_verdictOf 2 = .ok (.iconst 0, 1) := by decide +kernel
theorem dX8_verdictOf_3 : decode cX8_verdictOf 3 = .ok (.invokestatic 142, 3) := by decide +kernel
theorem dX8_verdictOf_6 : decode cX8_verdictOf 6 = .ok (.ifCond .eq 26, 3) := by decide +kernel
theorem dX8_verdictOf_9 : decode cX8_verdictOf 9 = .ok (.iload 6, 2) := by decide +kernel
theorem dX8_verdictOf_11 : decode cX8_verdictOf 11 = .ok (.iconst 4, 1) := by decide +kernel
theorem dX8_verdictOf_12 : decode cX8_verdictOf 12 = .ok (.if_icmp .ne 12, 3) := by decide +kernel
theorem dX8_verdictOf_15 : decode cX8_verdictOf 15 = .ok (.aload_n 0, 1) := by decide +kernel
theorem dX8_verdictOf_16 : decode cX8_verdictOf 16 = .ok (.iload 5, 2) := by decide +kernel
theorem dX8_verdictOf_18 : decode cX8_verdictOf 18 = .ok (.invokevirtual 184, 3) := by decide +kernel
theorem dX8_verdictOf_21 : decode cX8_verdictOf 21 = .ok (.ifCond .eq 7, 3) := by decide +kernel
theorem dX8_verdictOf_24 : decode cX8_verdictOf 24 = .ok (.iconst 1, 1) := by decide +kernel
theorem dX8_verdictOf_25 : decode cX8_verdictOf 25 = .ok (.goto 24, 3) := by decide +kernel
theorem dX8_verdictOf_28 : decode cX8_verdictOf 28 = .ok (.iconst 0, 1) := by decide +kernel
theorem dX8_verdictOf_29 : decode cX8_verdictOf 29 = .ok (.goto 20, 3) := by decide +kernel
theorem dX8_verdictOf_32 : decode cX8_verdictOf 32 = .ok (.aload_n 0, 1) := by decide +kernel
theorem dX8_verdictOf_33 : decode cX8_verdictOf 33 = .ok (.iload_n 1, 1) := by decide +kernel
theorem dX8_verdictOf_34 : decode cX8_verdictOf 34 = .ok (.iload 5, 2) := by decide +kernel
theorem dX8_verdictOf_36 : decode cX8_verdictOf 36 = .ok (.iload 6, 2) := by decide +kernel
theorem dX8_verdictOf_38 : decode cX8_verdictOf 38 = .ok (.invokevirtual 187, 3) := by decide +kernel
theorem dX8_verdictOf_41 : decode cX8_verdictOf 41 = .ok (.ifCond .le 7, 3) := by decide +kernel
theorem dX8_verdictOf_44 : decode cX8_verdictOf 44 = .ok (.iconst 1, 1) := by decide +kernel
theorem dX8_verdictOf_45 : decode cX8_verdictOf 45 = .ok (.goto 4, 3) := by decide +kernel
theorem dX8_verdictOf_48 : decode cX8_verdictOf 48 = .ok (.iconst 0, 1) := by decide +kernel
theorem dX8_verdictOf_49 : decode cX8_verdictOf 49 = .ok (.istore 7, 2) := by decide +kernel
theorem dX8_verdictOf_51 : decode cX8_verdictOf 51 = .ok (.iload 7, 2) := by decide +kernel
theorem dX8_verdictOf_53 : decode cX8_verdictOf 53 = .ok (.ifCond .ne 5, 3) := by decide +kernel
theorem dX8_verdictOf_56 : decode cX8_verdictOf 56 = .ok (.iconst 1, 1) := by decide +kernel
theorem dX8_verdictOf_57 : decode cX8_verdictOf 57 = .ok (.ireturn, 1) := by decide +kernel
theorem dX8_verdictOf_58 : decode cX8_verdictOf 58 = .ok (.aload_n 0, 1) := by decide +kernel
theorem dX8_verdictOf_59 : decode cX8_verdictOf 59 = .ok (.getfield 65, 3) := by decide +kernel
theorem dX8_verdictOf_62 : decode cX8_verdictOf 62 = .ok (.iload_n 3, 1) := by decide +kernel
theorem dX8_verdictOf_63 : decode cX8_verdictOf 63 = .ok (.iaload, 1) := by decide +kernel
theorem dX8_verdictOf_64 : decode cX8_verdictOf 64 = .ok (.aload_n 0, 1) := by decide +kernel
theorem dX8_verdictOf_65 : decode cX8_verdictOf 65 = .ok (.getfield 28, 3) := by decide +kernel
theorem dX8_verdictOf_68 : decode cX8_verdictOf 68 = .ok (.iload 5, 2) := by decide +kernel
theorem dX8_verdictOf_70 : decode cX8_verdictOf 70 = .ok (.iaload, 1) := by decide +kernel
theorem dX8_verdictOf_71 : decode cX8_verdictOf 71 = .ok (.if_icmp .lt 26, 3) := by decide +kernel
theorem dX8_verdictOf_74 : decode cX8_verdictOf 74 = .ok (.aload_n 0, 1) := by decide +kernel
theorem dX8_verdictOf_75 : decode cX8_verdictOf 75 = .ok (.getfield 31, 3) := by decide +kernel
theorem dX8_verdictOf_78 : decode cX8_verdictOf 78 = .ok (.iload 5, 2) := by decide +kernel
theorem dX8_verdictOf_80 : decode cX8_verdictOf 80 = .ok (.iaload, 1) := by decide +kernel
theorem dX8_verdictOf_81 : decode cX8_verdictOf 81 = .ok (.aload_n 0, 1) := by decide +kernel
theorem dX8_verdictOf_82 : decode cX8_verdictOf 82 = .ok (.getfield 68, 3) := by decide +kernel
theorem dX8_verdictOf_85 : decode cX8_verdictOf 85 = .ok (.iload_n 3, 1) := by decide +kernel
theorem dX8_verdictOf_86 : decode cX8_verdictOf 86 = .ok (.iaload, 1) := by decide +kernel
theorem dX8_verdictOf_87 : decode cX8_verdictOf 87 = .ok (.iconst (-1), 1) := by decide +kernel
theorem dX8_verdictOf_88 : decode cX8_verdictOf 88 = .ok (.ixor, 1) := by decide +kernel
theorem dX8_verdictOf_89 : decode cX8_verdictOf 89 = .ok (.iand, 1) := by decide +kernel
theorem dX8_verdictOf_90 : decode cX8_verdictOf 90 = .ok (.ifCond .ne 7, 3) := by decide +kernel
theorem dX8_verdictOf_93 : decode cX8_verdictOf 93 = .ok (.iconst 1, 1) := by decide +kernel
theorem dX8_verdictOf_94 : decode cX8_verdictOf 94 = .ok (.goto 4, 3) := by decide +kernel
theorem dX8_verdictOf_97 : decode cX8_verdictOf 97 = .ok (.iconst 0, 1) := by decide +kernel
theorem dX8_verdictOf_98 : decode cX8_verdictOf 98 = .ok (.istore 8, 2) := by decide +kernel
theorem dX8_verdictOf_100 : decode cX8_verdictOf 100 = .ok (.aload_n 0, 1) := by decide +kernel
theorem dX8_verdictOf_101 : decode cX8_verdictOf 101 = .ok (.getfield 65, 3) := by decide +kernel
theorem dX8_verdictOf_104 : decode cX8_verdictOf 104 = .ok (.iload_n 3, 1) := by decide +kernel
theorem dX8_verdictOf_105 : decode cX8_verdictOf 105 = .ok (.iaload, 1) := by decide +kernel
theorem dX8_verdictOf_106 : decode cX8_verdictOf 106 = .ok (.aload_n 0, 1) := by decide +kernel
theorem dX8_verdictOf_107 : decode cX8_verdictOf 107 = .ok (.getfield 28, 3) := by decide +kernel
theorem dX8_verdictOf_110 : decode cX8_verdictOf 110 = .ok (.iload 5, 2) := by decide +kernel
theorem dX8_verdictOf_112 : decode cX8_verdictOf 112 = .ok (.iaload, 1) := by decide +kernel
theorem dX8_verdictOf_113 : decode cX8_verdictOf 113 = .ok (.if_icmp .gt 26, 3) := by decide +kernel
theorem dX8_verdictOf_116 : decode cX8_verdictOf 116 = .ok (.aload_n 0, 1) := by decide +kernel
theorem dX8_verdictOf_117 : decode cX8_verdictOf 117 = .ok (.getfield 68, 3) := by decide +kernel
theorem dX8_verdictOf_120 : decode cX8_verdictOf 120 = .ok (.iload_n 3, 1) := by decide +kernel
theorem dX8_verdictOf_121 : decode cX8_verdictOf 121 = .ok (.iaload, 1) := by decide +kernel
theorem dX8_verdictOf_122 : decode cX8_verdictOf 122 = .ok (.aload_n 0, 1) := by decide +kernel
theorem dX8_verdictOf_123 : decode cX8_verdictOf 123 = .ok (.getfield 31, 3) := by decide +kernel
theorem dX8_verdictOf_126 : decode cX8_verdictOf 126 = .ok (.iload 5, 2) := by decide +kernel
theorem dX8_verdictOf_128 : decode cX8_verdictOf 128 = .ok (.iaload, 1) := by decide +kernel
theorem dX8_verdictOf_129 : decode cX8_verdictOf 129 = .ok (.iconst (-1), 1) := by decide +kernel
theorem dX8_verdictOf_130 : decode cX8_verdictOf 130 = .ok (.ixor, 1) := by decide +kernel
theorem dX8_verdictOf_131 : decode cX8_verdictOf 131 = .ok (.iand, 1) := by decide +kernel
theorem dX8_verdictOf_132 : decode cX8_verdictOf 132 = .ok (.ifCond .ne 7, 3) := by decide +kernel
theorem dX8_verdictOf_135 : decode cX8_verdictOf 135 = .ok (.iconst 1, 1) := by decide +kernel
theorem dX8_verdictOf_136 : decode cX8_verdictOf 136 = .ok (.goto 4, 3) := by decide +kernel
theorem dX8_verdictOf_139 : decode cX8_verdictOf 139 = .ok (.iconst 0, 1) := by decide +kernel
theorem dX8_verdictOf_140 : decode cX8_verdictOf 140 = .ok (.istore 9, 2) := by decide +kernel
theorem dX8_verdictOf_142 : decode cX8_verdictOf 142 = .ok (.iload 6, 2) := by decide +kernel
theorem dX8_verdictOf_144 : decode cX8_verdictOf 144 = .ok (.iconst 2, 1) := by decide +kernel
theorem dX8_verdictOf_145 : decode cX8_verdictOf 145 = .ok (.if_icmp .ne 11, 3) := by decide +kernel
theorem dX8_verdictOf_148 : decode cX8_verdictOf 148 = .ok (.iload 9, 2) := by decide +kernel
theorem dX8_verdictOf_150 : decode cX8_verdictOf 150 = .ok (.ifCond .ne 13, 3) := by decide +kernel
theorem dX8_verdictOf_153 : decode cX8_verdictOf 153 = .ok (.goto 8, 3) := by decide +kernel
theorem dX8_verdictOf_156 : decode cX8_verdictOf 156 = .ok (.iload 8, 2) := by decide +kernel
theorem dX8_verdictOf_158 : decode cX8_verdictOf 158 = .ok (.ifCond .ne 5, 3) := by decide +kernel
theorem dX8_verdictOf_161 : decode cX8_verdictOf 161 = .ok (.iconst 2, 1) := by decide +kernel
theorem dX8_verdictOf_162 : decode cX8_verdictOf 162 = .ok (.ireturn, 1) := by decide +kernel
theorem dX8_verdictOf_163 : decode cX8_verdictOf 163 = .ok (.aload_n 0, 1) := by decide +kernel
theorem dX8_verdictOf_164 : decode cX8_verdictOf 164 = .ok (.getfield 53, 3) := by decide +kernel
theorem dX8_verdictOf_167 : decode cX8_verdictOf 167 = .ok (.iconst 4, 1) := by decide +kernel
theorem dX8_verdictOf_168 : decode cX8_verdictOf 168 = .ok (.iload_n 2, 1) := by decide +kernel
theorem dX8_verdictOf_169 : decode cX8_verdictOf 169 = .ok (.imul, 1) := by decide +kernel
theorem dX8_verdictOf_170 : decode cX8_verdictOf 170 = .ok (.aload_n 0, 1) := by decide +kernel
theorem dX8_verdictOf_171 : decode cX8_verdictOf 171 = .ok (.getfield 25, 3) := by decide +kernel
theorem dX8_verdictOf_174 : decode cX8_verdictOf 174 = .ok (.iload 5, 2) := by decide +kernel
theorem dX8_verdictOf_176 : decode cX8_verdictOf 176 = .ok (.iaload, 1) := by decide +kernel
theorem dX8_verdictOf_177 : decode cX8_verdictOf 177 = .ok (.iadd, 1) := by decide +kernel
theorem dX8_verdictOf_178 : decode cX8_verdictOf 178 = .ok (.iaload, 1) := by decide +kernel
theorem dX8_verdictOf_179 : decode cX8_verdictOf 179 = .ok (.iload 6, 2) := by decide +kernel
theorem dX8_verdictOf_181 : decode cX8_verdictOf 181 = .ok (.iand, 1) := by decide +kernel
theorem dX8_verdictOf_182 : decode cX8_verdictOf 182 = .ok (.ifCond .ne 5, 3) := by decide +kernel
theorem dX8_verdictOf_185 : decode cX8_verdictOf 185 = .ok (.iconst 3, 1) := by decide +kernel
theorem dX8_verdictOf_186 : decode cX8_verdictOf 186 = .ok (.ireturn, 1) := by decide +kernel
theorem dX8_verdictOf_187 : decode cX8_verdictOf 187 = .ok (.aload_n 0, 1) := by decide +kernel
theorem dX8_verdictOf_188 : decode cX8_verdictOf 188 = .ok (.getfield 80, 3) := by decide +kernel
theorem dX8_verdictOf_191 : decode cX8_verdictOf 191 = .ok (.iload_n 3, 1) := by decide +kernel
theorem dX8_verdictOf_192 : decode cX8_verdictOf 192 = .ok (.iaload, 1) := by decide +kernel
theorem dX8_verdictOf_193 : decode cX8_verdictOf 193 = .ok (.iload 6, 2) := by decide +kernel
theorem dX8_verdictOf_195 : decode cX8_verdictOf 195 = .ok (.iand, 1) := by decide +kernel
theorem dX8_verdictOf_196 : decode cX8_verdictOf 196 = .ok (.ifCond .ne 7, 3) := by decide +kernel
theorem dX8_verdictOf_199 : decode cX8_verdictOf 199 = .ok (.iconst 4, 1) := by decide +kernel
theorem dX8_verdictOf_200 : decode cX8_verdictOf 200 = .ok (.goto 4, 3) := by decide +kernel
theorem dX8_verdictOf_203 : decode cX8_verdictOf 203 = .ok (.iconst 0, 1) := by decide +kernel
theorem dX8_verdictOf_204 : decode cX8_verdictOf 204 = .ok (.ireturn, 1) := by decide +kernel
theorem dX8_verdictNow_0 : decode cX8_verdictNow 0 = .ok (.aload_n 0, 1) := by decide +kernel
theorem dX8_verdictNow_1 : decode cX8_verdictNow 1 = .ok (.aload_n 0, 1) := by decide +kernel
theorem dX8_verdictNow_2 : decode cX8_verdictNow 2 = .ok (.getfield 59, 3) := by decide +kernel
theorem dX8_verdictNow_5 : decode cX8_verdictNow 5 = .ok (.iload_n 1, 1) := by decide +kernel
theorem dX8_verdictNow_6 : decode cX8_verdictNow 6 = .ok (.iaload, 1) := by decide +kernel
theorem dX8_verdictNow_7 : decode cX8_verdictNow 7 = .ok (.aload_n 0, 1) := by decide +kernel
theorem dX8_verdictNow_8 : decode cX8_verdictNow 8 = .ok (.getfield 62, 3) := by decide +kernel
theorem dX8_verdictNow_11 : decode cX8_verdictNow 11 = .ok (.iload_n 1, 1) := by decide +kernel
theorem dX8_verdictNow_12 : decode cX8_verdictNow 12 = .ok (.iaload, 1) := by decide +kernel
theorem dX8_verdictNow_13 : decode cX8_verdictNow 13 = .ok (.iload_n 1, 1) := by decide +kernel
theorem dX8_verdictNow_14 : decode cX8_verdictNow 14 = .ok (.aload_n 0, 1) := by decide +kernel
theorem dX8_verdictNow_15 : decode cX8_verdictNow 15 = .ok (.getfield 71, 3) := by decide +kernel
theorem dX8_verdictNow_18 : decode cX8_verdictNow 18 = .ok (.iload_n 1, 1) := by decide +kernel
theorem dX8_verdictNow_19 : decode cX8_verdictNow 19 = .ok (.iaload, 1) := by decide +kernel
theorem dX8_verdictNow_20 : decode cX8_verdictNow 20 = .ok (.iload_n 2, 1) := by decide +kernel
theorem dX8_verdictNow_21 : decode cX8_verdictNow 21 = .ok (.iload_n 3, 1) := by decide +kernel
theorem dX8_verdictNow_22 : decode cX8_verdictNow 22 = .ok (.invokevirtual 190, 3) := by decide +kernel
theorem dX8_verdictNow_25 : decode cX8_verdictNow 25 = .ok (.ireturn, 1) := by decide +kernel
theorem dX8_whyNoVerdict_0 : decode cX8_whyNoVerdict 0 = .ok (.aload_n 0, 1) := by decide +kernel
theorem dX8_whyNoVerdict_1 : decode cX8_whyNoVerdict 1 = .ok (.iload_n 1, 1) := by decide +kernel
theorem dX8_whyNoVerdict_2 : decode cX8_whyNoVerdict 2 = .ok (.invokevirtual 166, 3) := by decide +kernel
theorem dX8_whyNoVerdict_5 : decode cX8_whyNoVerdict 5 = .ok (.ifCond .eq 11, 3) := by decide +kernel
theorem dX8_whyNoVerdict_8 : decode cX8_whyNoVerdict 8 = .ok (.aload_n 0, 1) := by decide +kernel
theorem dX8_whyNoVerdict_9 : decode cX8_whyNoVerdict 9 = .ok (.iload_n 2, 1) := by decide +kernel
theorem dX8_whyNoVerdict_10 : decode cX8_whyNoVerdict 10 = .ok (.invokevirtual 159, 3) := by decide +kernel
theorem dX8_whyNoVerdict_13 : decode cX8_whyNoVerdict 13 = .ok (.ifCond .ne 7, 3) := by decide +kernel
theorem dX8_whyNoVerdict_16 : decode cX8_whyNoVerdict 16 = .ok (.iconst 1, 1) := by decide +kernel
theorem dX8_whyNoVerdict_17 : decode cX8_whyNoVerdict 17 = .ok (.goto 15, 3) := by decide +kernel
theorem dX8_whyNoVerdict_20 : decode cX8_whyNoVerdict 20 = .ok (.iload_n 3, 1) := by decide +kernel
theorem dX8_whyNoVerdict_21 : decode cX8_whyNoVerdict 21 = .ok (.invokestatic 194, 3) := by decide +kernel
theorem dX8_whyNoVerdict_24 : decode cX8_whyNoVerdict 24 = .ok (.ifCond .ne 7, 3) := by decide +kernel
theorem dX8_whyNoVerdict_27 : decode cX8_whyNoVerdict 27 = .ok (.iconst 2, 1) := by decide +kernel
theorem dX8_whyNoVerdict_28 : decode cX8_whyNoVerdict 28 = .ok (.goto 4, 3) := by decide +kernel
theorem dX8_whyNoVerdict_31 : decode cX8_whyNoVerdict 31 = .ok (.iconst 0, 1) := by decide +kernel
theorem dX8_whyNoVerdict_32 : decode cX8_whyNoVerdict 32 = .ok (.ireturn, 1) := by decide +kernel
theorem dX8_verdict_0 : decode cX8_verdict 0 = .ok (.aload_n 0, 1) := by decide +kernel
theorem dX8_verdict_1 : decode cX8_verdict 1 = .ok (.aload_n 0, 1) := by decide +kernel
theorem dX8_verdict_2 : decode cX8_verdict 2 = .ok (.iload_n 1, 1) := by decide +kernel
theorem dX8_verdict_3 : decode cX8_verdict 3 = .ok (.iload_n 2, 1) := by decide +kernel
theorem dX8_verdict_4 : decode cX8_verdict 4 = .ok (.iload_n 3, 1) := by decide +kernel
theorem dX8_verdict_5 : decode cX8_verdict 5 = .ok (.invokevirtual 197, 3) := by decide +kernel
theorem dX8_verdict_8 : decode cX8_verdict 8 = .ok (.invokevirtual 154, 3) := by decide +kernel
theorem dX8_verdict_11 : decode cX8_verdict 11 = .ok (.ifCond .eq 7, 3) := by decide +kernel
theorem dX8_verdict_14 : decode cX8_verdict 14 = .ok (.iconst 0, 1) := by decide +kernel
theorem dX8_verdict_15 : decode cX8_verdict 15 = .ok (.goto 10, 3) := by decide +kernel
theorem dX8_verdict_18 : decode cX8_verdict 18 = .ok (.aload_n 0, 1) := by decide +kernel
theorem dX8_verdict_19 : decode cX8_verdict 19 = .ok (.iload_n 1, 1) := by decide +kernel
theorem dX8_verdict_20 : decode cX8_verdict 20 = .ok (.iload_n 2, 1) := by decide +kernel
theorem dX8_verdict_21 : decode cX8_verdict 21 = .ok (.iload_n 3, 1) := by decide +kernel
theorem dX8_verdict_22 : decode cX8_verdict 22 = .ok (.invokevirtual 200, 3) := by decide +kernel
theorem dX8_verdict_25 : decode cX8_verdict 25 = .ok (.ireturn, 1) := by decide +kernel
theorem dX8_verdictAnew_0 : decode cX8_verdictAnew 0 = .ok (.aload_n 0, 1) := by decide +kernel
theorem dX8_verdictAnew_1 : decode cX8_verdictAnew 1 = .ok (.iload_n 1, 1) := by decide +kernel
theorem dX8_verdictAnew_2 : decode cX8_verdictAnew 2 = .ok (.iload_n 2, 1) := by decide +kernel
theorem dX8_verdictAnew_3 : decode cX8_verdictAnew 3 = .ok (.iload_n 3, 1) := by decide +kernel
theorem dX8_verdictAnew_4 : decode cX8_verdictAnew 4 = .ok (.invokevirtual 203, 3) := by decide +kernel
theorem dX8_verdictAnew_7 : decode cX8_verdictAnew 7 = .ok (.ireturn, 1) := by decide +kernel
theorem dX8_runAs_0 : decode cX8_runAs 0 = .ok (.aload_n 0, 1) := by decide +kernel
theorem dX8_runAs_1 : decode cX8_runAs 1 = .ok (.getfield 56, 3) := by decide +kernel
theorem dX8_runAs_4 : decode cX8_runAs 4 = .ok (.iconst 4, 1) := by decide +kernel
theorem dX8_runAs_5 : decode cX8_runAs 5 = .ok (.iload_n 3, 1) := by decide +kernel
theorem dX8_runAs_6 : decode cX8_runAs 6 = .ok (.imul, 1) := by decide +kernel
theorem dX8_runAs_7 : decode cX8_runAs 7 = .ok (.aload_n 0, 1) := by decide +kernel
theorem dX8_runAs_8 : decode cX8_runAs 8 = .ok (.getfield 25, 3) := by decide +kernel
theorem dX8_runAs_11 : decode cX8_runAs 11 = .ok (.iload 5, 2) := by decide +kernel
theorem dX8_runAs_13 : decode cX8_runAs 13 = .ok (.iaload, 1) := by decide +kernel
theorem dX8_runAs_14 : decode cX8_runAs 14 = .ok (.iadd, 1) := by decide +kernel
theorem dX8_runAs_15 : decode cX8_runAs 15 = .ok (.iaload, 1) := by decide +kernel
theorem dX8_runAs_16 : decode cX8_runAs 16 = .ok (.istore 6, 2) := by decide +kernel
theorem dX8_runAs_18 : decode cX8_runAs 18 = .ok (.aload_n 0, 1) := by decide +kernel
theorem dX8_runAs_19 : decode cX8_runAs 19 = .ok (.iload 6, 2) := by decide +kernel
theorem dX8_runAs_21 : decode cX8_runAs 21 = .ok (.iconst (-1), 1) := by decide +kernel
theorem dX8_runAs_22 : decode cX8_runAs 22 = .ok (.if_icmp .ne 7, 3) := by decide +kernel
theorem dX8_runAs_25 : decode cX8_runAs 25 = .ok (.iload_n 3, 1) := by decide +kernel
theorem dX8_runAs_26 : decode cX8_runAs 26 = .ok (.goto 5, 3) := by decide +kernel
theorem dX8_runAs_29 : decode cX8_runAs 29 = .ok (.iload 6, 2) := by decide +kernel
theorem dX8_runAs_31 : decode cX8_runAs 31 = .ok (.putfield 206, 3) := by decide +kernel
theorem dX8_runAs_34 : decode cX8_runAs 34 = .ok (.aload_n 0, 1) := by decide +kernel
theorem dX8_runAs_35 : decode cX8_runAs 35 = .ok (.getfield 22, 3) := by decide +kernel
theorem dX8_runAs_38 : decode cX8_runAs 38 = .ok (.iload 5, 2) := by decide +kernel
theorem dX8_runAs_40 : decode cX8_runAs 40 = .ok (.iaload, 1) := by decide +kernel
theorem dX8_runAs_41 : decode cX8_runAs 41 = .ok (.bipush 9, 2) := by decide +kernel
theorem dX8_runAs_43 : decode cX8_runAs 43 = .ok (.invokestatic 142, 3) := by decide +kernel
theorem dX8_runAs_46 : decode cX8_runAs 46 = .ok (.istore 7, 2) := by decide +kernel
theorem dX8_runAs_48 : decode cX8_runAs 48 = .ok (.aload_n 0, 1) := by decide +kernel
theorem dX8_runAs_49 : decode cX8_runAs 49 = .ok (.iload 7, 2) := by decide +kernel
theorem dX8_runAs_51 : decode cX8_runAs 51 = .ok (.ifCond .eq 13, 3) := by decide +kernel
theorem dX8_runAs_54 : decode cX8_runAs 54 = .ok (.aload_n 0, 1) := by decide +kernel
theorem dX8_runAs_55 : decode cX8_runAs 55 = .ok (.getfield 16, 3) := by decide +kernel
theorem dX8_runAs_58 : decode cX8_runAs 58 = .ok (.iload 5, 2) := by decide +kernel
theorem dX8_runAs_60 : decode cX8_runAs 60 = .ok (.iaload, 1) := by decide +kernel
theorem dX8_runAs_61 : decode cX8_runAs 61 = .ok (.goto 4, 3) := by decide +kernel
theorem dX8_runAs_64 : decode cX8_runAs 64 = .ok (.iload_n 2, 1) := by decide +kernel
theorem dX8_runAs_65 : decode cX8_runAs 65 = .ok (.putfield 209, 3) := by decide +kernel
theorem dX8_runAs_68 : decode cX8_runAs 68 = .ok (.aload_n 0, 1) := by decide +kernel
theorem dX8_runAs_69 : decode cX8_runAs 69 = .ok (.iload 7, 2) := by decide +kernel
theorem dX8_runAs_71 : decode cX8_runAs 71 = .ok (.ifCond .ne 8, 3) := by decide +kernel
theorem dX8_runAs_74 : decode cX8_runAs 74 = .ok (.iload 4, 2) := by decide +kernel
theorem dX8_runAs_76 : decode cX8_runAs 76 = .ok (.goto 23, 3) := by decide +kernel
theorem dX8_runAs_79 : decode cX8_runAs 79 = .ok (.aload_n 0, 1) := by decide +kernel
theorem dX8_runAs_80 : decode cX8_runAs 80 = .ok (.getfield 16, 3) := by decide +kernel
theorem dX8_runAs_83 : decode cX8_runAs 83 = .ok (.iload 5, 2) := by decide +kernel
theorem dX8_runAs_85 : decode cX8_runAs 85 = .ok (.iaload, 1) := by decide +kernel
theorem dX8_runAs_86 : decode cX8_runAs 86 = .ok (.ifCond .ne 12, 3) := by decide +kernel
theorem dX8_runAs_89 : decode cX8_runAs 89 = .ok (.aload_n 0, 1) := by decide +kernel
theorem dX8_runAs_90 : decode cX8_runAs 90 = .ok (.getfield 74, 3) := by decide +kernel
theorem dX8_runAs_93 : decode cX8_runAs 93 = .ok (.iload_n 1, 1) := by decide +kernel
theorem dX8_runAs_94 : decode cX8_runAs 94 = .ok (.iaload, 1) := by decide +kernel
theorem dX8_runAs_95 : decode cX8_runAs 95 = .ok (.goto 4, 3) := by decide +kernel
theorem dX8_runAs_98 : decode cX8_runAs 98 = .ok (.iconst 0, 1) := by decide +kernel
theorem dX8_runAs_99 : decode cX8_runAs 99 = .ok (.putfield 212, 3) := by decide +kernel
theorem dX8_runAs_102 : decode cX8_runAs 102 = .ok (.return_, 1) := by decide +kernel
theorem dX8_act_0 : decode cX8_act 0 = .ok (.aload_n 0, 1) := by decide +kernel
theorem dX8_act_1 : decode cX8_act 1 = .ok (.aload_n 0, 1) := by decide +kernel
theorem dX8_act_2 : decode cX8_act 2 = .ok (.iload_n 1, 1) := by decide +kernel
theorem dX8_act_3 : decode cX8_act 3 = .ok (.iload_n 2, 1) := by decide +kernel
theorem dX8_act_4 : decode cX8_act 4 = .ok (.iload_n 3, 1) := by decide +kernel
theorem dX8_act_5 : decode cX8_act 5 = .ok (.invokevirtual 197, 3) := by decide +kernel
theorem dX8_act_8 : decode cX8_act 8 = .ok (.invokevirtual 154, 3) := by decide +kernel
theorem dX8_act_11 : decode cX8_act 11 = .ok (.ifCond .eq 5, 3) := by decide +kernel
theorem dX8_act_14 : decode cX8_act 14 = .ok (.iconst 0, 1) := by decide +kernel
theorem dX8_act_15 : decode cX8_act 15 = .ok (.ireturn, 1) := by decide +kernel
theorem dX8_act_16 : decode cX8_act 16 = .ok (.aload_n 0, 1) := by decide +kernel
theorem dX8_act_17 : decode cX8_act 17 = .ok (.iload_n 1, 1) := by decide +kernel
theorem dX8_act_18 : decode cX8_act 18 = .ok (.iload_n 2, 1) := by decide +kernel
theorem dX8_act_19 : decode cX8_act 19 = .ok (.iload_n 3, 1) := by decide +kernel
theorem dX8_act_20 : decode cX8_act 20 = .ok (.invokevirtual 200, 3) := by decide +kernel
theorem dX8_act_23 : decode cX8_act 23 = .ok (.istore 4, 2) := by decide +kernel
theorem dX8_act_25 : decode cX8_act 25 = .ok (.aload_n 0, 1) := by decide +kernel
theorem dX8_act_26 : decode cX8_act 26 = .ok (.iload_n 1, 1) := by decide +kernel
theorem dX8_act_27 : decode cX8_act 27 = .ok (.iload_n 2, 1) := by decide +kernel
theorem dX8_act_28 : decode cX8_act 28 = .ok (.iload_n 3, 1) := by decide +kernel
theorem dX8_act_29 : decode cX8_act 29 = .ok (.iload 4, 2) := by decide +kernel
theorem dX8_act_31 : decode cX8_act 31 = .ok (.invokevirtual 215, 3) := by decide +kernel
theorem dX8_act_34 : decode cX8_act 34 = .ok (.iload 4, 2) := by decide +kernel
theorem dX8_act_36 : decode cX8_act 36 = .ok (.ifCond .ne 62, 3) := by decide +kernel
theorem dX8_act_39 : decode cX8_act 39 = .ok (.iload_n 3, 1) := by decide +kernel
theorem dX8_act_40 : decode cX8_act 40 = .ok (.iconst 4, 1) := by decide +kernel
theorem dX8_act_41 : decode cX8_act 41 = .ok (.if_icmp .ne 57, 3) := by decide +kernel
theorem dX8_act_44 : decode cX8_act 44 = .ok (.aload_n 0, 1) := by decide +kernel
theorem dX8_act_45 : decode cX8_act 45 = .ok (.iload_n 1, 1) := by decide +kernel
theorem dX8_act_46 : decode cX8_act 46 = .ok (.aload_n 0, 1) := by decide +kernel
theorem dX8_act_47 : decode cX8_act 47 = .ok (.getfield 59, 3) := by decide +kernel
theorem dX8_act_50 : decode cX8_act 50 = .ok (.iload_n 1, 1) := by decide +kernel
theorem dX8_act_51 : decode cX8_act 51 = .ok (.iaload, 1) := by decide +kernel
theorem dX8_act_52 : decode cX8_act 52 = .ok (.aload_n 0, 1) := by decide +kernel
theorem dX8_act_53 : decode cX8_act 53 = .ok (.getfield 62, 3) := by decide +kernel
theorem dX8_act_56 : decode cX8_act 56 = .ok (.iload_n 1, 1) := by decide +kernel
theorem dX8_act_57 : decode cX8_act 57 = .ok (.iaload, 1) := by decide +kernel
theorem dX8_act_58 : decode cX8_act 58 = .ok (.aload_n 0, 1) := by decide +kernel
theorem dX8_act_59 : decode cX8_act 59 = .ok (.getfield 71, 3) := by decide +kernel
theorem dX8_act_62 : decode cX8_act 62 = .ok (.iload_n 1, 1) := by decide +kernel
theorem dX8_act_63 : decode cX8_act 63 = .ok (.iaload, 1) := by decide +kernel
theorem dX8_act_64 : decode cX8_act 64 = .ok (.iload_n 2, 1) := by decide +kernel
theorem dX8_act_65 : decode cX8_act 65 = .ok (.invokevirtual 219, 3) := by decide +kernel
theorem dX8_act_68 : decode cX8_act 68 = .ok (.aload_n 0, 1) := by decide +kernel
theorem dX8_act_69 : decode cX8_act 69 = .ok (.getfield 59, 3) := by decide +kernel
theorem dX8_act_72 : decode cX8_act 72 = .ok (.iload_n 1, 1) := by decide +kernel
theorem dX8_act_73 : decode cX8_act 73 = .ok (.aload_n 0, 1) := by decide +kernel
theorem dX8_act_74 : decode cX8_act 74 = .ok (.getfield 209, 3) := by decide +kernel
theorem dX8_act_77 : decode cX8_act 77 = .ok (.iastore, 1) := by decide +kernel
theorem dX8_act_78 : decode cX8_act 78 = .ok (.aload_n 0, 1) := by decide +kernel
theorem dX8_act_79 : decode cX8_act 79 = .ok (.getfield 62, 3) := by decide +kernel
theorem dX8_act_82 : decode cX8_act 82 = .ok (.iload_n 1, 1) := by decide +kernel
theorem dX8_act_83 : decode cX8_act 83 = .ok (.aload_n 0, 1) := by decide +kernel
theorem dX8_act_84 : decode cX8_act 84 = .ok (.getfield 206, 3) := by decide +kernel
theorem dX8_act_87 : decode cX8_act 87 = .ok (.iastore, 1) := by decide +kernel
theorem dX8_act_88 : decode cX8_act 88 = .ok (.aload_n 0, 1) := by decide +kernel
theorem dX8_act_89 : decode cX8_act 89 = .ok (.getfield 71, 3) := by decide +kernel
theorem dX8_act_92 : decode cX8_act 92 = .ok (.iload_n 1, 1) := by decide +kernel
theorem dX8_act_93 : decode cX8_act 93 = .ok (.aload_n 0, 1) := by decide +kernel
theorem dX8_act_94 : decode cX8_act 94 = .ok (.getfield 212, 3) := by decide +kernel
theorem dX8_act_97 : decode cX8_act 97 = .ok (.iastore, 1) := by decide +kernel
theorem dX8_act_98 : decode cX8_act 98 = .ok (.iload 4, 2) := by decide +kernel
theorem dX8_act_100 : decode cX8_act 100 = .ok (.ireturn, 1) := by decide +kernel
theorem dX8_isStill_0 : decode cX8_isStill 0 = .ok (.aload_n 0, 1) := by decide +kernel
theorem dX8_isStill_1 : decode cX8_isStill 1 = .ok (.getfield 223, 3) := by decide +kernel
theorem dX8_isStill_4 : decode cX8_isStill 4 = .ok (.aload_n 0, 1) := by decide +kernel
theorem dX8_isStill_5 : decode cX8_isStill 5 = .ok (.getfield 89, 3) := by decide +kernel
theorem dX8_isStill_8 : decode cX8_isStill 8 = .ok (.iload_n 1, 1) := by decide +kernel
theorem dX8_isStill_9 : decode cX8_isStill 9 = .ok (.iaload, 1) := by decide +kernel
theorem dX8_isStill_10 : decode cX8_isStill 10 = .ok (.if_icmp .gt 7, 3) := by decide +kernel
theorem dX8_isStill_13 : decode cX8_isStill 13 = .ok (.iconst 1, 1) := by decide +kernel
theorem dX8_isStill_14 : decode cX8_isStill 14 = .ok (.goto 4, 3) := by decide +kernel
theorem dX8_isStill_17 : decode cX8_isStill 17 = .ok (.iconst 0, 1) := by decide +kernel
theorem dX8_isStill_18 : decode cX8_isStill 18 = .ok (.istore_n 2, 1) := by decide +kernel
theorem dX8_isStill_19 : decode cX8_isStill 19 = .ok (.iload_n 1, 1) := by decide +kernel
theorem dX8_isStill_20 : decode cX8_isStill 20 = .ok (.istore_n 3, 1) := by decide +kernel
theorem dX8_isStill_21 : decode cX8_isStill 21 = .ok (.iload_n 3, 1) := by decide +kernel
theorem dX8_isStill_22 : decode cX8_isStill 22 = .ok (.iconst (-1), 1) := by decide +kernel
theorem dX8_isStill_23 : decode cX8_isStill 23 = .ok (.if_icmp .eq 32, 3) := by decide +kernel
theorem dX8_isStill_26 : decode cX8_isStill 26 = .ok (.iload_n 2, 1) := by decide +kernel
theorem dX8_isStill_27 : decode cX8_isStill 27 = .ok (.ifCond .eq 16, 3) := by decide +kernel
theorem dX8_isStill_30 : decode cX8_isStill 30 = .ok (.aload_n 0, 1) := by decide +kernel
theorem dX8_isStill_31 : decode cX8_isStill 31 = .ok (.getfield 107, 3) := by decide +kernel
theorem dX8_isStill_34 : decode cX8_isStill 34 = .ok (.iload_n 3, 1) := by decide +kernel
theorem dX8_isStill_35 : decode cX8_isStill 35 = .ok (.baload, 1) := by decide +kernel
theorem dX8_isStill_36 : decode cX8_isStill 36 = .ok (.ifCond .eq 7, 3) := by decide +kernel
theorem dX8_isStill_39 : decode cX8_isStill 39 = .ok (.iconst 1, 1) := by decide +kernel
theorem dX8_isStill_40 : decode cX8_isStill 40 = .ok (.goto 4, 3) := by decide +kernel
theorem dX8_isStill_43 : decode cX8_isStill 43 = .ok (.iconst 0, 1) := by decide +kernel
theorem dX8_isStill_44 : decode cX8_isStill 44 = .ok (.istore_n 2, 1) := by decide +kernel
theorem dX8_isStill_45 : decode cX8_isStill 45 = .ok (.aload_n 0, 1) := by decide +kernel
theorem dX8_isStill_46 : decode cX8_isStill 46 = .ok (.getfield 104, 3) := by decide +kernel
theorem dX8_isStill_49 : decode cX8_isStill 49 = .ok (.iload_n 3, 1) := by decide +kernel
theorem dX8_isStill_50 : decode cX8_isStill 50 = .ok (.iaload, 1) := by decide +kernel
theorem dX8_isStill_51 : decode cX8_isStill 51 = .ok (.istore_n 3, 1) := by decide +kernel
theorem dX8_isStill_52 : decode cX8_isStill 52 = .ok (.goto (-31), 3) := by decide +kernel
theorem dX8_isStill_55 : decode cX8_isStill 55 = .ok (.iload_n 2, 1) := by decide +kernel
theorem dX8_isStill_56 : decode cX8_isStill 56 = .ok (.ireturn, 1) := by decide +kernel
theorem dX8_lets_0 : decode cX8_lets 0 = .ok (.aload_n 0, 1) := by decide +kernel
theorem dX8_lets_1 : decode cX8_lets 1 = .ok (.getfield 86, 3) := by decide +kernel
theorem dX8_lets_4 : decode cX8_lets 4 = .ok (.iload_n 1, 1) := by decide +kernel
theorem dX8_lets_5 : decode cX8_lets 5 = .ok (.iaload, 1) := by decide +kernel
theorem dX8_lets_6 : decode cX8_lets 6 = .ok (.iload_n 2, 1) := by decide +kernel
theorem dX8_lets_7 : decode cX8_lets 7 = .ok (.iand, 1) := by decide +kernel
theorem dX8_lets_8 : decode cX8_lets 8 = .ok (.ifCond .eq 15, 3) := by decide +kernel
theorem dX8_lets_11 : decode cX8_lets 11 = .ok (.aload_n 0, 1) := by decide +kernel
theorem dX8_lets_12 : decode cX8_lets 12 = .ok (.iload_n 1, 1) := by decide +kernel
theorem dX8_lets_13 : decode cX8_lets 13 = .ok (.invokevirtual 226, 3) := by decide +kernel
theorem dX8_lets_16 : decode cX8_lets 16 = .ok (.ifCond .eq 7, 3) := by decide +kernel
theorem dX8_lets_19 : decode cX8_lets 19 = .ok (.iconst 1, 1) := by decide +kernel
theorem dX8_lets_20 : decode cX8_lets 20 = .ok (.goto 4, 3) := by decide +kernel
theorem dX8_lets_23 : decode cX8_lets 23 = .ok (.iconst 0, 1) := by decide +kernel
theorem dX8_lets_24 : decode cX8_lets 24 = .ok (.ireturn, 1) := by decide +kernel
theorem dX8_actBy_0 : decode cX8_actBy 0 = .ok (.aload_n 0, 1) := by decide +kernel
theorem dX8_actBy_1 : decode cX8_actBy 1 = .ok (.iload_n 1, 1) := by decide +kernel
theorem dX8_actBy_2 : decode cX8_actBy 2 = .ok (.invokevirtual 166, 3) := by decide +kernel
theorem dX8_actBy_5 : decode cX8_actBy 5 = .ok (.ifCond .eq 15, 3) := by decide +kernel
theorem dX8_actBy_8 : decode cX8_actBy 8 = .ok (.aload_n 0, 1) := by decide +kernel
theorem dX8_actBy_9 : decode cX8_actBy 9 = .ok (.iload_n 2, 1) := by decide +kernel
theorem dX8_actBy_10 : decode cX8_actBy 10 = .ok (.invokevirtual 229, 3) := by decide +kernel
theorem dX8_actBy_13 : decode cX8_actBy 13 = .ok (.ifCond .eq 7, 3) := by decide +kernel
theorem dX8_actBy_16 : decode cX8_actBy 16 = .ok (.iconst 1, 1) := by decide +kernel
theorem dX8_actBy_17 : decode cX8_actBy 17 = .ok (.goto 4, 3) := by decide +kernel
theorem dX8_actBy_20 : decode cX8_actBy 20 = .ok (.iconst 0, 1) := by decide +kernel
theorem dX8_actBy_21 : decode cX8_actBy 21 = .ok (.istore 4, 2) := by decide +kernel
theorem dX8_actBy_23 : decode cX8_actBy 23 = .ok (.aload_n 0, 1) := by decide +kernel
theorem dX8_actBy_24 : decode cX8_actBy 24 = .ok (.iload 4, 2) := by decide +kernel
theorem dX8_actBy_26 : decode cX8_actBy 26 = .ok (.ifCond .ne 7, 3) := by decide +kernel
theorem dX8_actBy_29 : decode cX8_actBy 29 = .ok (.iconst 1, 1) := by decide +kernel
theorem dX8_actBy_30 : decode cX8_actBy 30 = .ok (.goto 29, 3) := by decide +kernel
theorem dX8_actBy_33 : decode cX8_actBy 33 = .ok (.iload_n 3, 1) := by decide +kernel
theorem dX8_actBy_34 : decode cX8_actBy 34 = .ok (.invokestatic 194, 3) := by decide +kernel
theorem dX8_actBy_37 : decode cX8_actBy 37 = .ok (.ifCond .ne 7, 3) := by decide +kernel
theorem dX8_actBy_40 : decode cX8_actBy 40 = .ok (.iconst 2, 1) := by decide +kernel
theorem dX8_actBy_41 : decode cX8_actBy 41 = .ok (.goto 18, 3) := by decide +kernel
theorem dX8_actBy_44 : decode cX8_actBy 44 = .ok (.aload_n 0, 1) := by decide +kernel
theorem dX8_actBy_45 : decode cX8_actBy 45 = .ok (.getfield 95, 3) := by decide +kernel
theorem dX8_actBy_48 : decode cX8_actBy 48 = .ok (.iload_n 2, 1) := by decide +kernel
theorem dX8_actBy_49 : decode cX8_actBy 49 = .ok (.iaload, 1) := by decide +kernel
theorem dX8_actBy_50 : decode cX8_actBy 50 = .ok (.iload_n 1, 1) := by decide +kernel
theorem dX8_actBy_51 : decode cX8_actBy 51 = .ok (.if_icmp .eq 7, 3) := by decide +kernel
theorem dX8_actBy_54 : decode cX8_actBy 54 = .ok (.iconst 3, 1) := by decide +kernel
theorem dX8_actBy_55 : decode cX8_actBy 55 = .ok (.goto 4, 3) := by decide +kernel
theorem dX8_actBy_58 : decode cX8_actBy 58 = .ok (.iconst 0, 1) := by decide +kernel
theorem dX8_actBy_59 : decode cX8_actBy 59 = .ok (.invokevirtual 154, 3) := by decide +kernel
theorem dX8_actBy_62 : decode cX8_actBy 62 = .ok (.ifCond .eq 5, 3) := by decide +kernel
theorem dX8_actBy_65 : decode cX8_actBy 65 = .ok (.iconst 0, 1) := by decide +kernel
theorem dX8_actBy_66 : decode cX8_actBy 66 = .ok (.ireturn, 1) := by decide +kernel
theorem dX8_actBy_67 : decode cX8_actBy 67 = .ok (.aload_n 0, 1) := by decide +kernel
theorem dX8_actBy_68 : decode cX8_actBy 68 = .ok (.iload_n 2, 1) := by decide +kernel
theorem dX8_actBy_69 : decode cX8_actBy 69 = .ok (.iload_n 3, 1) := by decide +kernel
theorem dX8_actBy_70 : decode cX8_actBy 70 = .ok (.invokevirtual 232, 3) := by decide +kernel
theorem dX8_actBy_73 : decode cX8_actBy 73 = .ok (.ifCond .eq 31, 3) := by decide +kernel
theorem dX8_actBy_76 : decode cX8_actBy 76 = .ok (.aload_n 0, 1) := by decide +kernel
theorem dX8_actBy_77 : decode cX8_actBy 77 = .ok (.aload_n 0, 1) := by decide +kernel
theorem dX8_actBy_78 : decode cX8_actBy 78 = .ok (.getfield 98, 3) := by decide +kernel
theorem dX8_actBy_81 : decode cX8_actBy 81 = .ok (.iload_n 2, 1) := by decide +kernel
theorem dX8_actBy_82 : decode cX8_actBy 82 = .ok (.iaload, 1) := by decide +kernel
theorem dX8_actBy_83 : decode cX8_actBy 83 = .ok (.aload_n 0, 1) := by decide +kernel
theorem dX8_actBy_84 : decode cX8_actBy 84 = .ok (.getfield 101, 3) := by decide +kernel
theorem dX8_actBy_87 : decode cX8_actBy 87 = .ok (.iload_n 2, 1) := by decide +kernel
theorem dX8_actBy_88 : decode cX8_actBy 88 = .ok (.iaload, 1) := by decide +kernel
theorem dX8_actBy_89 : decode cX8_actBy 89 = .ok (.iload_n 1, 1) := by decide +kernel
theorem dX8_actBy_90 : decode cX8_actBy 90 = .ok (.iconst 0, 1) := by decide +kernel
theorem dX8_actBy_91 : decode cX8_actBy 91 = .ok (.aload_n 0, 1) := by decide +kernel
theorem dX8_actBy_92 : decode cX8_actBy 92 = .ok (.getfield 83, 3) := by decide +kernel
theorem dX8_actBy_95 : decode cX8_actBy 95 = .ok (.iload_n 2, 1) := by decide +kernel
theorem dX8_actBy_96 : decode cX8_actBy 96 = .ok (.iaload, 1) := by decide +kernel
theorem dX8_actBy_97 : decode cX8_actBy 97 = .ok (.iload_n 3, 1) := by decide +kernel
theorem dX8_actBy_98 : decode cX8_actBy 98 = .ok (.invokevirtual 190, 3) := by decide +kernel
theorem dX8_actBy_101 : decode cX8_actBy 101 = .ok (.goto 4, 3) := by decide +kernel
theorem dX8_actBy_104 : decode cX8_actBy 104 = .ok (.iconst 5, 1) := by decide +kernel
theorem dX8_actBy_105 : decode cX8_actBy 105 = .ok (.istore 5, 2) := by decide +kernel
theorem dX8_actBy_107 : decode cX8_actBy 107 = .ok (.aload_n 0, 1) := by decide +kernel
theorem dX8_actBy_108 : decode cX8_actBy 108 = .ok (.iload_n 1, 1) := by decide +kernel
theorem dX8_actBy_109 : decode cX8_actBy 109 = .ok (.aload_n 0, 1) := by decide +kernel
theorem dX8_actBy_110 : decode cX8_actBy 110 = .ok (.getfield 83, 3) := by decide +kernel
theorem dX8_actBy_113 : decode cX8_actBy 113 = .ok (.iload_n 2, 1) := by decide +kernel
theorem dX8_actBy_114 : decode cX8_actBy 114 = .ok (.iaload, 1) := by decide +kernel
theorem dX8_actBy_115 : decode cX8_actBy 115 = .ok (.iload_n 3, 1) := by decide +kernel
theorem dX8_actBy_116 : decode cX8_actBy 116 = .ok (.iload 5, 2) := by decide +kernel
theorem dX8_actBy_118 : decode cX8_actBy 118 = .ok (.invokevirtual 215, 3) := by decide +kernel
theorem dX8_actBy_121 : decode cX8_actBy 121 = .ok (.iload 5, 2) := by decide +kernel
theorem dX8_actBy_123 : decode cX8_actBy 123 = .ok (.ireturn, 1) := by decide +kernel
theorem dX8_makeToken_0 : decode cX8_makeToken 0 = .ok (.aload_n 0, 1) := by decide +kernel
theorem dX8_makeToken_1 : decode cX8_makeToken 1 = .ok (.getfield 139, 3) := by decide +kernel
theorem dX8_makeToken_4 : decode cX8_makeToken 4 = .ok (.istore 7, 2) := by decide +kernel
theorem dX8_makeToken_6 : decode cX8_makeToken 6 = .ok (.aload_n 0, 1) := by decide +kernel
theorem dX8_makeToken_7 : decode cX8_makeToken 7 = .ok (.dup, 1) := by decide +kernel
theorem dX8_makeToken_8 : decode cX8_makeToken 8 = .ok (.getfield 139, 3) := by decide +kernel
theorem dX8_makeToken_11 : decode cX8_makeToken 11 = .ok (.iconst 1, 1) := by decide +kernel
theorem dX8_makeToken_12 : decode cX8_makeToken 12 = .ok (.iadd, 1) := by decide +kernel
theorem dX8_makeToken_13 : decode cX8_makeToken 13 = .ok (.putfield 139, 3) := by decide +kernel
theorem dX8_makeToken_16 : decode cX8_makeToken 16 = .ok (.aload_n 0, 1) := by decide +kernel
theorem dX8_makeToken_17 : decode cX8_makeToken 17 = .ok (.getfield 92, 3) := by decide +kernel
theorem dX8_makeToken_20 : decode cX8_makeToken 20 = .ok (.iload 7, 2) := by decide +kernel
theorem dX8_makeToken_22 : decode cX8_makeToken 22 = .ok (.iload_n 1, 1) := by decide +kernel
theorem dX8_makeToken_23 : decode cX8_makeToken 23 = .ok (.iastore, 1) := by decide +kernel
theorem dX8_makeToken_24 : decode cX8_makeToken 24 = .ok (.aload_n 0, 1) := by decide +kernel
theorem dX8_makeToken_25 : decode cX8_makeToken 25 = .ok (.getfield 95, 3) := by decide +kernel
theorem dX8_makeToken_28 : decode cX8_makeToken 28 = .ok (.iload 7, 2) := by decide +kernel
theorem dX8_makeToken_30 : decode cX8_makeToken 30 = .ok (.iload_n 2, 1) := by decide +kernel
theorem dX8_makeToken_31 : decode cX8_makeToken 31 = .ok (.iastore, 1) := by decide +kernel
theorem dX8_makeToken_32 : decode cX8_makeToken 32 = .ok (.aload_n 0, 1) := by decide +kernel
theorem dX8_makeToken_33 : decode cX8_makeToken 33 = .ok (.getfield 83, 3) := by decide +kernel
theorem dX8_makeToken_36 : decode cX8_makeToken 36 = .ok (.iload 7, 2) := by decide +kernel
theorem dX8_makeToken_38 : decode cX8_makeToken 38 = .ok (.iload_n 3, 1) := by decide +kernel
theorem dX8_makeToken_39 : decode cX8_makeToken 39 = .ok (.iastore, 1) := by decide +kernel
theorem dX8_makeToken_40 : decode cX8_makeToken 40 = .ok (.aload_n 0, 1) := by decide +kernel
theorem dX8_makeToken_41 : decode cX8_makeToken 41 = .ok (.getfield 86, 3) := by decide +kernel
theorem dX8_makeToken_44 : decode cX8_makeToken 44 = .ok (.iload 7, 2) := by decide +kernel
theorem dX8_makeToken_46 : decode cX8_makeToken 46 = .ok (.iload 4, 2) := by decide +kernel
theorem dX8_makeToken_48 : decode cX8_makeToken 48 = .ok (.iastore, 1) := by decide +kernel
theorem dX8_makeToken_49 : decode cX8_makeToken 49 = .ok (.aload_n 0, 1) := by decide +kernel
theorem dX8_makeToken_50 : decode cX8_makeToken 50 = .ok (.getfield 89, 3) := by decide +kernel
theorem dX8_makeToken_53 : decode cX8_makeToken 53 = .ok (.iload 7, 2) := by decide +kernel
theorem dX8_makeToken_55 : decode cX8_makeToken 55 = .ok (.iload 5, 2) := by decide +kernel
theorem dX8_makeToken_57 : decode cX8_makeToken 57 = .ok (.iastore, 1) := by decide +kernel
theorem dX8_makeToken_58 : decode cX8_makeToken 58 = .ok (.aload_n 0, 1) := by decide +kernel
theorem dX8_makeToken_59 : decode cX8_makeToken 59 = .ok (.getfield 104, 3) := by decide +kernel
theorem dX8_makeToken_62 : decode cX8_makeToken 62 = .ok (.iload 7, 2) := by decide +kernel
theorem dX8_makeToken_64 : decode cX8_makeToken 64 = .ok (.iload 6, 2) := by decide +kernel
theorem dX8_makeToken_66 : decode cX8_makeToken 66 = .ok (.iastore, 1) := by decide +kernel
theorem dX8_makeToken_67 : decode cX8_makeToken 67 = .ok (.aload_n 0, 1) := by decide +kernel
theorem dX8_makeToken_68 : decode cX8_makeToken 68 = .ok (.getfield 107, 3) := by decide +kernel
theorem dX8_makeToken_71 : decode cX8_makeToken 71 = .ok (.iload 7, 2) := by decide +kernel
theorem dX8_makeToken_73 : decode cX8_makeToken 73 = .ok (.iconst 1, 1) := by decide +kernel
theorem dX8_makeToken_74 : decode cX8_makeToken 74 = .ok (.bastore, 1) := by decide +kernel
theorem dX8_makeToken_75 : decode cX8_makeToken 75 = .ok (.iload 7, 2) := by decide +kernel
theorem dX8_makeToken_77 : decode cX8_makeToken 77 = .ok (.ireturn, 1) := by decide +kernel
theorem dX8_token_0 : decode cX8_token 0 = .ok (.aload_n 0, 1) := by decide +kernel
theorem dX8_token_1 : decode cX8_token 1 = .ok (.iload_n 1, 1) := by decide +kernel
theorem dX8_token_2 : decode cX8_token 2 = .ok (.invokevirtual 166, 3) := by decide +kernel
theorem dX8_token_5 : decode cX8_token 5 = .ok (.ifCond .eq 15, 3) := by decide +kernel
theorem dX8_token_8 : decode cX8_token 8 = .ok (.aload_n 0, 1) := by decide +kernel
theorem dX8_token_9 : decode cX8_token 9 = .ok (.iload_n 2, 1) := by decide +kernel
theorem dX8_token_10 : decode cX8_token 10 = .ok (.invokevirtual 159, 3) := by decide +kernel
theorem dX8_token_13 : decode cX8_token 13 = .ok (.ifCond .eq 7, 3) := by decide +kernel
theorem dX8_token_16 : decode cX8_token 16 = .ok (.iconst 1, 1) := by decide +kernel
theorem dX8_token_17 : decode cX8_token 17 = .ok (.goto 4, 3) := by decide +kernel
theorem dX8_token_20 : decode cX8_token 20 = .ok (.iconst 0, 1) := by decide +kernel
theorem dX8_token_21 : decode cX8_token 21 = .ok (.istore 5, 2) := by decide +kernel
theorem dX8_token_23 : decode cX8_token 23 = .ok (.iload_n 3, 1) := by decide +kernel
theorem dX8_token_24 : decode cX8_token 24 = .ok (.iconst 1, 1) := by decide +kernel
theorem dX8_token_25 : decode cX8_token 25 = .ok (.bipush 7, 2) := by decide +kernel
theorem dX8_token_27 : decode cX8_token 27 = .ok (.invokestatic 129, 3) := by decide +kernel
theorem dX8_token_30 : decode cX8_token 30 = .ok (.ifCond .eq 22, 3) := by decide +kernel
theorem dX8_token_33 : decode cX8_token 33 = .ok (.iload 4, 2) := by decide +kernel
theorem dX8_token_35 : decode cX8_token 35 = .ok (.aload_n 0, 1) := by decide +kernel
theorem dX8_token_36 : decode cX8_token 36 = .ok (.getfield 223, 3) := by decide +kernel
theorem dX8_token_39 : decode cX8_token 39 = .ok (.sipush 10000, 3) := by decide +kernel
theorem dX8_token_42 : decode cX8_token 42 = .ok (.invokestatic 129, 3) := by decide +kernel
theorem dX8_token_45 : decode cX8_token 45 = .ok (.ifCond .eq 7, 3) := by decide +kernel
theorem dX8_token_48 : decode cX8_token 48 = .ok (.iconst 1, 1) := by decide +kernel
theorem dX8_token_49 : decode cX8_token 49 = .ok (.goto 4, 3) := by decide +kernel
theorem dX8_token_52 : decode cX8_token 52 = .ok (.iconst 0, 1) := by decide +kernel
theorem dX8_token_53 : decode cX8_token 53 = .ok (.istore 6, 2) := by decide +kernel
theorem dX8_token_55 : decode cX8_token 55 = .ok (.aload_n 0, 1) := by decide +kernel
theorem dX8_token_56 : decode cX8_token 56 = .ok (.iload 5, 2) := by decide +kernel
theorem dX8_token_58 : decode cX8_token 58 = .ok (.ifCond .ne 7, 3) := by decide +kernel
theorem dX8_token_61 : decode cX8_token 61 = .ok (.iconst 1, 1) := by decide +kernel
theorem dX8_token_62 : decode cX8_token 62 = .ok (.goto 26, 3) := by decide +kernel
theorem dX8_token_65 : decode cX8_token 65 = .ok (.iload 6, 2) := by decide +kernel
theorem dX8_token_67 : decode cX8_token 67 = .ok (.ifCond .ne 7, 3) := by decide +kernel
theorem dX8_token_70 : decode cX8_token 70 = .ok (.iconst 2, 1) := by decide +kernel
theorem dX8_token_71 : decode cX8_token 71 = .ok (.goto 17, 3) := by decide +kernel
theorem dX8_token_74 : decode cX8_token 74 = .ok (.aload_n 0, 1) := by decide +kernel
theorem dX8_token_75 : decode cX8_token 75 = .ok (.getfield 139, 3) := by decide +kernel
theorem dX8_token_78 : decode cX8_token 78 = .ok (.bipush 10, 2) := by decide +kernel
theorem dX8_token_80 : decode cX8_token 80 = .ok (.if_icmp .ne 7, 3) := by decide +kernel
theorem dX8_token_83 : decode cX8_token 83 = .ok (.iconst 3, 1) := by decide +kernel
theorem dX8_token_84 : decode cX8_token 84 = .ok (.goto 4, 3) := by decide +kernel
theorem dX8_token_87 : decode cX8_token 87 = .ok (.iconst 0, 1) := by decide +kernel
theorem dX8_token_88 : decode cX8_token 88 = .ok (.invokevirtual 154, 3) := by decide +kernel
theorem dX8_token_91 : decode cX8_token 91 = .ok (.ifCond .eq 5, 3) := by decide +kernel
theorem dX8_token_94 : decode cX8_token 94 = .ok (.iconst 0, 1) := by decide +kernel
theorem dX8_token_95 : decode cX8_token 95 = .ok (.ireturn, 1) := by decide +kernel
theorem dX8_token_96 : decode cX8_token 96 = .ok (.aload_n 0, 1) := by decide +kernel
theorem dX8_token_97 : decode cX8_token 97 = .ok (.iload_n 1, 1) := by decide +kernel
theorem dX8_token_98 : decode cX8_token 98 = .ok (.iload_n 1, 1) := by decide +kernel
theorem dX8_token_99 : decode cX8_token 99 = .ok (.iload_n 2, 1) := by decide +kernel
theorem dX8_token_100 : decode cX8_token 100 = .ok (.iload_n 3, 1) := by decide +kernel
theorem dX8_token_101 : decode cX8_token 101 = .ok (.iload 4, 2) := by decide +kernel
theorem dX8_token_103 : decode cX8_token 103 = .ok (.iconst (-1), 1) := by decide +kernel
theorem dX8_token_104 : decode cX8_token 104 = .ok (.invokevirtual 235, 3) := by decide +kernel
theorem dX8_token_107 : decode cX8_token 107 = .ok (.istore 7, 2) := by decide +kernel
theorem dX8_token_109 : decode cX8_token 109 = .ok (.aload_n 0, 1) := by decide +kernel
theorem dX8_token_110 : decode cX8_token 110 = .ok (.getfield 98, 3) := by decide +kernel
theorem dX8_token_113 : decode cX8_token 113 = .ok (.iload 7, 2) := by decide +kernel
theorem dX8_token_115 : decode cX8_token 115 = .ok (.aload_n 0, 1) := by decide +kernel
theorem dX8_token_116 : decode cX8_token 116 = .ok (.getfield 59, 3) := by decide +kernel
theorem dX8_token_119 : decode cX8_token 119 = .ok (.iload_n 1, 1) := by decide +kernel
theorem dX8_token_120 : decode cX8_token 120 = .ok (.iaload, 1) := by decide +kernel
theorem dX8_token_121 : decode cX8_token 121 = .ok (.iastore, 1) := by decide +kernel
theorem dX8_token_122 : decode cX8_token 122 = .ok (.aload_n 0, 1) := by decide +kernel
theorem dX8_token_123 : decode cX8_token 123 = .ok (.getfield 101, 3) := by decide +kernel
theorem dX8_token_126 : decode cX8_token 126 = .ok (.iload 7, 2) := by decide +kernel
theorem dX8_token_128 : decode cX8_token 128 = .ok (.aload_n 0, 1) := by decide +kernel
theorem dX8_token_129 : decode cX8_token 129 = .ok (.getfield 62, 3) := by decide +kernel
theorem dX8_token_132 : decode cX8_token 132 = .ok (.iload_n 1, 1) := by decide +kernel
theorem dX8_token_133 : decode cX8_token 133 = .ok (.iaload, 1) := by decide +kernel
theorem dX8_token_134 : decode cX8_token 134 = .ok (.iastore, 1) := by decide +kernel
theorem dX8_token_135 : decode cX8_token 135 = .ok (.iload 7, 2) := by decide +kernel
theorem dX8_token_137 : decode cX8_token 137 = .ok (.ireturn, 1) := by decide +kernel
theorem dX8_narrow_0 : decode cX8_narrow 0 = .ok (.aload_n 0, 1) := by decide +kernel
theorem dX8_narrow_1 : decode cX8_narrow 1 = .ok (.iload_n 1, 1) := by decide +kernel
theorem dX8_narrow_2 : decode cX8_narrow 2 = .ok (.invokevirtual 166, 3) := by decide +kernel
theorem dX8_narrow_5 : decode cX8_narrow 5 = .ok (.ifCond .eq 24, 3) := by decide +kernel
theorem dX8_narrow_8 : decode cX8_narrow 8 = .ok (.aload_n 0, 1) := by decide +kernel
theorem dX8_narrow_9 : decode cX8_narrow 9 = .ok (.iload 5, 2) := by decide +kernel
theorem dX8_narrow_11 : decode cX8_narrow 11 = .ok (.invokevirtual 166, 3) := by decide +kernel
theorem dX8_narrow_14 : decode cX8_narrow 14 = .ok (.ifCond .eq 15, 3) := by decide +kernel
theorem dX8_narrow_17 : decode cX8_narrow 17 = .ok (.aload_n 0, 1) := by decide +kernel
theorem dX8_narrow_18 : decode cX8_narrow 18 = .ok (.iload_n 2, 1) := by decide +kernel
theorem dX8_narrow_19 : decode cX8_narrow 19 = .ok (.invokevirtual 229, 3) := by decide +kernel
theorem dX8_narrow_22 : decode cX8_narrow 22 = .ok (.ifCond .eq 7, 3) := by decide +kernel
theorem dX8_narrow_25 : decode cX8_narrow 25 = .ok (.iconst 1, 1) := by decide +kernel
theorem dX8_narrow_26 : decode cX8_narrow 26 = .ok (.goto 4, 3) := by decide +kernel
theorem dX8_narrow_29 : decode cX8_narrow 29 = .ok (.iconst 0, 1) := by decide +kernel
theorem dX8_narrow_30 : decode cX8_narrow 30 = .ok (.istore 6, 2) := by decide +kernel
theorem dX8_narrow_32 : decode cX8_narrow 32 = .ok (.iload 6, 2) := by decide +kernel
theorem dX8_narrow_34 : decode cX8_narrow 34 = .ok (.ifCond .eq 56, 3) := by decide +kernel
theorem dX8_narrow_37 : decode cX8_narrow 37 = .ok (.iload_n 3, 1) := by decide +kernel
theorem dX8_narrow_38 : decode cX8_narrow 38 = .ok (.iconst 1, 1) := by decide +kernel
theorem dX8_narrow_39 : decode cX8_narrow 39 = .ok (.bipush 7, 2) := by decide +kernel
theorem dX8_narrow_41 : decode cX8_narrow 41 = .ok (.invokestatic 129, 3) := by decide +kernel
theorem dX8_narrow_44 : decode cX8_narrow 44 = .ok (.ifCond .eq 46, 3) := by decide +kernel
theorem dX8_narrow_47 : decode cX8_narrow 47 = .ok (.iload 4, 2) := by decide +kernel
theorem dX8_narrow_49 : decode cX8_narrow 49 = .ok (.aload_n 0, 1) := by decide +kernel
theorem dX8_narrow_50 : decode cX8_narrow 50 = .ok (.getfield 223, 3) := by decide +kernel
theorem dX8_narrow_53 : decode cX8_narrow 53 = .ok (.sipush 10000, 3) := by decide +kernel
theorem dX8_narrow_56 : decode cX8_narrow 56 = .ok (.invokestatic 129, 3) := by decide +kernel
theorem dX8_narrow_59 : decode cX8_narrow 59 = .ok (.ifCond .eq 31, 3) := by decide +kernel
theorem dX8_narrow_62 : decode cX8_narrow 62 = .ok (.iload_n 3, 1) := by decide +kernel
theorem dX8_narrow_63 : decode cX8_narrow 63 = .ok (.aload_n 0, 1) := by decide +kernel
theorem dX8_narrow_64 : decode cX8_narrow 64 = .ok (.getfield 86, 3) := by decide +kernel
theorem dX8_narrow_67 : decode cX8_narrow 67 = .ok (.iload_n 2, 1) := by decide +kernel
theorem dX8_narrow_68 : decode cX8_narrow 68 = .ok (.iaload, 1) := by decide +kernel
theorem dX8_narrow_69 : decode cX8_narrow 69 = .ok (.iconst (-1), 1) := by decide +kernel
theorem dX8_narrow_70 : decode cX8_narrow 70 = .ok (.ixor, 1) := by decide +kernel
theorem dX8_narrow_71 : decode cX8_narrow 71 = .ok (.iand, 1) := by decide +kernel
theorem dX8_narrow_72 : decode cX8_narrow 72 = .ok (.ifCond .ne 18, 3) := by decide +kernel
theorem dX8_narrow_75 : decode cX8_narrow 75 = .ok (.iload 4, 2) := by decide +kernel
theorem dX8_narrow_77 : decode cX8_narrow 77 = .ok (.aload_n 0, 1) := by decide +kernel
theorem dX8_narrow_78 : decode cX8_narrow 78 = .ok (.getfield 89, 3) := by decide +kernel
theorem dX8_narrow_81 : decode cX8_narrow 81 = .ok (.iload_n 2, 1) := by decide +kernel
theorem dX8_narrow_82 : decode cX8_narrow 82 = .ok (.iaload, 1) := by decide +kernel
theorem dX8_narrow_83 : decode cX8_narrow 83 = .ok (.if_icmp .gt 7, 3) := by decide +kernel
theorem dX8_narrow_86 : decode cX8_narrow 86 = .ok (.iconst 1, 1) := by decide +kernel
theorem dX8_narrow_87 : decode cX8_narrow 87 = .ok (.goto 4, 3) := by decide +kernel
theorem dX8_narrow_90 : decode cX8_narrow 90 = .ok (.iconst 0, 1) := by decide +kernel
theorem dX8_narrow_91 : decode cX8_narrow 91 = .ok (.istore 7, 2) := by decide +kernel
theorem dX8_narrow_93 : decode cX8_narrow 93 = .ok (.aload_n 0, 1) := by decide +kernel
theorem dX8_narrow_94 : decode cX8_narrow 94 = .ok (.iload 6, 2) := by decide +kernel
theorem dX8_narrow_96 : decode cX8_narrow 96 = .ok (.ifCond .ne 7, 3) := by decide +kernel
theorem dX8_narrow_99 : decode cX8_narrow 99 = .ok (.iconst 1, 1) := by decide +kernel
theorem dX8_narrow_100 : decode cX8_narrow 100 = .ok (.goto 40, 3) := by decide +kernel
theorem dX8_narrow_103 : decode cX8_narrow 103 = .ok (.iload 7, 2) := by decide +kernel
theorem dX8_narrow_105 : decode cX8_narrow 105 = .ok (.ifCond .ne 7, 3) := by decide +kernel
theorem dX8_narrow_108 : decode cX8_narrow 108 = .ok (.iconst 2, 1) := by decide +kernel
theorem dX8_narrow_109 : decode cX8_narrow 109 = .ok (.goto 31, 3) := by decide +kernel
theorem dX8_narrow_112 : decode cX8_narrow 112 = .ok (.aload_n 0, 1) := by decide +kernel
theorem dX8_narrow_113 : decode cX8_narrow 113 = .ok (.getfield 95, 3) := by decide +kernel
theorem dX8_narrow_116 : decode cX8_narrow 116 = .ok (.iload_n 2, 1) := by decide +kernel
theorem dX8_narrow_117 : decode cX8_narrow 117 = .ok (.iaload, 1) := by decide +kernel
theorem dX8_narrow_118 : decode cX8_narrow 118 = .ok (.iload_n 1, 1) := by decide +kernel
theorem dX8_narrow_119 : decode cX8_narrow 119 = .ok (.if_icmp .eq 7, 3) := by decide +kernel
theorem dX8_narrow_122 : decode cX8_narrow 122 = .ok (.iconst 3, 1) := by decide +kernel
theorem dX8_narrow_123 : decode cX8_narrow 123 = .ok (.goto 17, 3) := by decide +kernel
theorem dX8_narrow_126 : decode cX8_narrow 126 = .ok (.aload_n 0, 1) := by decide +kernel
theorem dX8_narrow_127 : decode cX8_narrow 127 = .ok (.getfield 139, 3) := by decide +kernel
theorem dX8_narrow_130 : decode cX8_narrow 130 = .ok (.bipush 10, 2) := by decide +kernel
theorem dX8_narrow_132 : decode cX8_narrow 132 = .ok (.if_icmp .ne 7, 3) := by decide +kernel
theorem dX8_narrow_135 : decode cX8_narrow 135 = .ok (.iconst 4, 1) := by decide +kernel
theorem dX8_narrow_136 : decode cX8_narrow 136 = .ok (.goto 4, 3) := by decide +kernel
theorem dX8_narrow_139 : decode cX8_narrow 139 = .ok (.iconst 0, 1) := by decide +kernel
theorem dX8_narrow_140 : decode cX8_narrow 140 = .ok (.invokevirtual 154, 3) := by decide +kernel
theorem dX8_narrow_143 : decode cX8_narrow 143 = .ok (.ifCond .eq 5, 3) := by decide +kernel
theorem dX8_narrow_146 : decode cX8_narrow 146 = .ok (.iconst 0, 1) := by decide +kernel
theorem dX8_narrow_147 : decode cX8_narrow 147 = .ok (.ireturn, 1) := by decide +kernel
theorem dX8_narrow_148 : decode cX8_narrow 148 = .ok (.aload_n 0, 1) := by decide +kernel
theorem dX8_narrow_149 : decode cX8_narrow 149 = .ok (.iload_n 1, 1) := by decide +kernel
theorem dX8_narrow_150 : decode cX8_narrow 150 = .ok (.iload 5, 2) := by decide +kernel
theorem dX8_narrow_152 : decode cX8_narrow 152 = .ok (.aload_n 0, 1) := by decide +kernel
theorem dX8_narrow_153 : decode cX8_narrow 153 = .ok (.getfield 83, 3) := by decide +kernel
theorem dX8_narrow_156 : decode cX8_narrow 156 = .ok (.iload_n 2, 1) := by decide +kernel
theorem dX8_narrow_157 : decode cX8_narrow 157 = .ok (.iaload, 1) := by decide +kernel
theorem dX8_narrow_158 : decode cX8_narrow 158 = .ok (.iload_n 3, 1) := by decide +kernel
theorem dX8_narrow_159 : decode cX8_narrow 159 = .ok (.iload 4, 2) := by decide +kernel
theorem dX8_narrow_161 : decode cX8_narrow 161 = .ok (.iload_n 2, 1) := by decide +kernel
theorem dX8_narrow_162 : decode cX8_narrow 162 = .ok (.invokevirtual 235, 3) := by decide +kernel
theorem dX8_narrow_165 : decode cX8_narrow 165 = .ok (.istore 8, 2) := by decide +kernel
theorem dX8_narrow_167 : decode cX8_narrow 167 = .ok (.aload_n 0, 1) := by decide +kernel
theorem dX8_narrow_168 : decode cX8_narrow 168 = .ok (.getfield 98, 3) := by decide +kernel
theorem dX8_narrow_171 : decode cX8_narrow 171 = .ok (.iload 8, 2) := by decide +kernel
theorem dX8_narrow_173 : decode cX8_narrow 173 = .ok (.aload_n 0, 1) := by decide +kernel
theorem dX8_narrow_174 : decode cX8_narrow 174 = .ok (.getfield 98, 3) := by decide +kernel
theorem dX8_narrow_177 : decode cX8_narrow 177 = .ok (.iload_n 2, 1) := by decide +kernel
theorem dX8_narrow_178 : decode cX8_narrow 178 = .ok (.iaload, 1) := by decide +kernel
theorem dX8_narrow_179 : decode cX8_narrow 179 = .ok (.iastore, 1) := by decide +kernel
theorem dX8_narrow_180 : decode cX8_narrow 180 = .ok (.aload_n 0, 1) := by decide +kernel
theorem dX8_narrow_181 : decode cX8_narrow 181 = .ok (.getfield 101, 3) := by decide +kernel
theorem dX8_narrow_184 : decode cX8_narrow 184 = .ok (.iload 8, 2) := by decide +kernel
theorem dX8_narrow_186 : decode cX8_narrow 186 = .ok (.aload_n 0, 1) := by decide +kernel
theorem dX8_narrow_187 : decode cX8_narrow 187 = .ok (.getfield 101, 3) := by decide +kernel
theorem dX8_narrow_190 : decode cX8_narrow 190 = .ok (.iload_n 2, 1) := by decide +kernel
theorem dX8_narrow_191 : decode cX8_narrow 191 = .ok (.iaload, 1) := by decide +kernel
theorem dX8_narrow_192 : decode cX8_narrow 192 = .ok (.iastore, 1) := by decide +kernel
theorem dX8_narrow_193 : decode cX8_narrow 193 = .ok (.iload 8, 2) := by decide +kernel
theorem dX8_narrow_195 : decode cX8_narrow 195 = .ok (.ireturn, 1) := by decide +kernel
theorem dX8_takeBack_0 : decode cX8_takeBack 0 = .ok (.aload_n 0, 1) := by decide +kernel
theorem dX8_takeBack_1 : decode cX8_takeBack 1 = .ok (.iload_n 1, 1) := by decide +kernel
theorem dX8_takeBack_2 : decode cX8_takeBack 2 = .ok (.invokevirtual 166, 3) := by decide +kernel
theorem dX8_takeBack_5 : decode cX8_takeBack 5 = .ok (.ifCond .eq 15, 3) := by decide +kernel
theorem dX8_takeBack_8 : decode cX8_takeBack 8 = .ok (.aload_n 0, 1) := by decide +kernel
theorem dX8_takeBack_9 : decode cX8_takeBack 9 = .ok (.iload_n 2, 1) := by decide +kernel
theorem dX8_takeBack_10 : decode cX8_takeBack 10 = .ok (.invokevirtual 229, 3) := by decide +kernel
theorem dX8_takeBack_13 : decode cX8_takeBack 13 = .ok (.ifCond .eq 7, 3) := by decide +kernel
theorem dX8_takeBack_16 : decode cX8_takeBack 16 = .ok (.iconst 1, 1) := by decide +kernel
theorem dX8_takeBack_17 : decode cX8_takeBack 17 = .ok (.goto 4, 3) := by decide +kernel
theorem dX8_takeBack_20 : decode cX8_takeBack 20 = .ok (.iconst 0, 1) := by decide +kernel
theorem dX8_takeBack_21 : decode cX8_takeBack 21 = .ok (.istore_n 3, 1) := by decide +kernel
theorem dX8_takeBack_22 : decode cX8_takeBack 22 = .ok (.aload_n 0, 1) := by decide +kernel
theorem dX8_takeBack_23 : decode cX8_takeBack 23 = .ok (.iload_n 3, 1) := by decide +kernel
theorem dX8_takeBack_24 : decode cX8_takeBack 24 = .ok (.ifCond .ne 7, 3) := by decide +kernel
theorem dX8_takeBack_27 : decode cX8_takeBack 27 = .ok (.iconst 1, 1) := by decide +kernel
theorem dX8_takeBack_28 : decode cX8_takeBack 28 = .ok (.goto 18, 3) := by decide +kernel
theorem dX8_takeBack_31 : decode cX8_takeBack 31 = .ok (.aload_n 0, 1) := by decide +kernel
theorem dX8_takeBack_32 : decode cX8_takeBack 32 = .ok (.getfield 92, 3) := by decide +kernel
theorem dX8_takeBack_35 : decode cX8_takeBack 35 = .ok (.iload_n 2, 1) := by decide +kernel
theorem dX8_takeBack_36 : decode cX8_takeBack 36 = .ok (.iaload, 1) := by decide +kernel
theorem dX8_takeBack_37 : decode cX8_takeBack 37 = .ok (.iload_n 1, 1) := by decide +kernel
theorem dX8_takeBack_38 : decode cX8_takeBack 38 = .ok (.if_icmp .eq 7, 3) := by decide +kernel
theorem dX8_takeBack_41 : decode cX8_takeBack 41 = .ok (.iconst 2, 1) := by decide +kernel
theorem dX8_takeBack_42 : decode cX8_takeBack 42 = .ok (.goto 4, 3) := by decide +kernel
theorem dX8_takeBack_45 : decode cX8_takeBack 45 = .ok (.iconst 0, 1) := by decide +kernel
theorem dX8_takeBack_46 : decode cX8_takeBack 46 = .ok (.invokevirtual 154, 3) := by decide +kernel
theorem dX8_takeBack_49 : decode cX8_takeBack 49 = .ok (.ifCond .eq 5, 3) := by decide +kernel
theorem dX8_takeBack_52 : decode cX8_takeBack 52 = .ok (.iconst 0, 1) := by decide +kernel
theorem dX8_takeBack_53 : decode cX8_takeBack 53 = .ok (.ireturn, 1) := by decide +kernel
theorem dX8_takeBack_54 : decode cX8_takeBack 54 = .ok (.aload_n 0, 1) := by decide +kernel
theorem dX8_takeBack_55 : decode cX8_takeBack 55 = .ok (.iload_n 2, 1) := by decide +kernel
theorem dX8_takeBack_56 : decode cX8_takeBack 56 = .ok (.invokevirtual 226, 3) := by decide +kernel
theorem dX8_takeBack_59 : decode cX8_takeBack 59 = .ok (.istore 4, 2) := by decide +kernel
theorem dX8_takeBack_61 : decode cX8_takeBack 61 = .ok (.aload_n 0, 1) := by decide +kernel
theorem dX8_takeBack_62 : decode cX8_takeBack 62 = .ok (.getfield 107, 3) := by decide +kernel
theorem dX8_takeBack_65 : decode cX8_takeBack 65 = .ok (.iload_n 2, 1) := by decide +kernel
theorem dX8_takeBack_66 : decode cX8_takeBack 66 = .ok (.iconst 0, 1) := by decide +kernel
theorem dX8_takeBack_67 : decode cX8_takeBack 67 = .ok (.bastore, 1) := by decide +kernel
theorem dX8_takeBack_68 : decode cX8_takeBack 68 = .ok (.iload 4, 2) := by decide +kernel
theorem dX8_takeBack_70 : decode cX8_takeBack 70 = .ok (.ireturn, 1) := by decide +kernel
theorem dX8_pass_0 : decode cX8_pass 0 = .ok (.iload_n 1, 1) := by decide +kernel
theorem dX8_pass_1 : decode cX8_pass 1 = .ok (.iconst 1, 1) := by decide +kernel
theorem dX8_pass_2 : decode cX8_pass 2 = .ok (.sipush 1000, 3) := by decide +kernel
theorem dX8_pass_5 : decode cX8_pass 5 = .ok (.invokestatic 129, 3) := by decide +kernel
theorem dX8_pass_8 : decode cX8_pass 8 = .ok (.istore_n 2, 1) := by decide +kernel
theorem dX8_pass_9 : decode cX8_pass 9 = .ok (.aload_n 0, 1) := by decide +kernel
theorem dX8_pass_10 : decode cX8_pass 10 = .ok (.iload_n 2, 1) := by decide +kernel
theorem dX8_pass_11 : decode cX8_pass 11 = .ok (.ifCond .ne 7, 3) := by decide +kernel
theorem dX8_pass_14 : decode cX8_pass 14 = .ok (.iconst 1, 1) := by decide +kernel
theorem dX8_pass_15 : decode cX8_pass 15 = .ok (.goto 20, 3) := by decide +kernel
theorem dX8_pass_18 : decode cX8_pass 18 = .ok (.aload_n 0, 1) := by decide +kernel
theorem dX8_pass_19 : decode cX8_pass 19 = .ok (.getfield 223, 3) := by decide +kernel
theorem dX8_pass_22 : decode cX8_pass 22 = .ok (.iload_n 1, 1) := by decide +kernel
theorem dX8_pass_23 : decode cX8_pass 23 = .ok (.iadd, 1) := by decide +kernel
theorem dX8_pass_24 : decode cX8_pass 24 = .ok (.sipush 10000, 3) := by decide +kernel
theorem dX8_pass_27 : decode cX8_pass 27 = .ok (.if_icmp .le 7, 3) := by decide +kernel
theorem dX8_pass_30 : decode cX8_pass 30 = .ok (.iconst 2, 1) := by decide +kernel
theorem dX8_pass_31 : decode cX8_pass 31 = .ok (.goto 4, 3) := by decide +kernel
theorem dX8_pass_34 : decode cX8_pass 34 = .ok (.iconst 0, 1) := by decide +kernel
theorem dX8_pass_35 : decode cX8_pass 35 = .ok (.invokevirtual 154, 3) := by decide +kernel
theorem dX8_pass_38 : decode cX8_pass 38 = .ok (.ifCond .eq 5, 3) := by decide +kernel
theorem dX8_pass_41 : decode cX8_pass 41 = .ok (.iconst 0, 1) := by decide +kernel
theorem dX8_pass_42 : decode cX8_pass 42 = .ok (.ireturn, 1) := by decide +kernel
theorem dX8_pass_43 : decode cX8_pass 43 = .ok (.aload_n 0, 1) := by decide +kernel
theorem dX8_pass_44 : decode cX8_pass 44 = .ok (.dup, 1) := by decide +kernel
theorem dX8_pass_45 : decode cX8_pass 45 = .ok (.getfield 223, 3) := by decide +kernel
theorem dX8_pass_48 : decode cX8_pass 48 = .ok (.iload_n 1, 1) := by decide +kernel
theorem dX8_pass_49 : decode cX8_pass 49 = .ok (.iadd, 1) := by decide +kernel
theorem dX8_pass_50 : decode cX8_pass 50 = .ok (.putfield 223, 3) := by decide +kernel
theorem dX8_pass_53 : decode cX8_pass 53 = .ok (.aload_n 0, 1) := by decide +kernel
theorem dX8_pass_54 : decode cX8_pass 54 = .ok (.getfield 223, 3) := by decide +kernel
theorem dX8_pass_57 : decode cX8_pass 57 = .ok (.ireturn, 1) := by decide +kernel
theorem dX8_checked_0 : decode cX8_checked 0 = .ok (.bipush 31, 2) := by decide +kernel
theorem dX8_checked_2 : decode cX8_checked 2 = .ok (.iload_n 2, 1) := by decide +kernel
theorem dX8_checked_3 : decode cX8_checked 3 = .ok (.imul, 1) := by decide +kernel
theorem dX8_checked_4 : decode cX8_checked 4 = .ok (.istore_n 3, 1) := by decide +kernel
theorem dX8_checked_5 : decode cX8_checked 5 = .ok (.iconst 0, 1) := by decide +kernel
theorem dX8_checked_6 : decode cX8_checked 6 = .ok (.istore 4, 2) := by decide +kernel
theorem dX8_checked_8 : decode cX8_checked 8 = .ok (.iload 4, 2) := by decide +kernel
theorem dX8_checked_10 : decode cX8_checked 10 = .ok (.iconst 5, 1) := by decide +kernel
theorem dX8_checked_11 : decode cX8_checked 11 = .ok (.if_icmp .ge 21, 3) := by decide +kernel
theorem dX8_checked_14 : decode cX8_checked 14 = .ok (.bipush 31, 2) := by decide +kernel
theorem dX8_checked_16 : decode cX8_checked 16 = .ok (.iload_n 3, 1) := by decide +kernel
theorem dX8_checked_17 : decode cX8_checked 17 = .ok (.imul, 1) := by decide +kernel
theorem dX8_checked_18 : decode cX8_checked 18 = .ok (.aload_n 0, 1) := by decide +kernel
theorem dX8_checked_19 : decode cX8_checked 19 = .ok (.iload_n 1, 1) := by decide +kernel
theorem dX8_checked_20 : decode cX8_checked 20 = .ok (.iload 4, 2) := by decide +kernel
theorem dX8_checked_22 : decode cX8_checked 22 = .ok (.iadd, 1) := by decide +kernel
theorem dX8_checked_23 : decode cX8_checked 23 = .ok (.iaload, 1) := by decide +kernel
theorem dX8_checked_24 : decode cX8_checked 24 = .ok (.iadd, 1) := by decide +kernel
theorem dX8_checked_25 : decode cX8_checked 25 = .ok (.istore_n 3, 1) := by decide +kernel
theorem dX8_checked_26 : decode cX8_checked 26 = .ok (.iinc 4 1, 3) := by decide +kernel
theorem dX8_checked_29 : decode cX8_checked 29 = .ok (.goto (-21), 3) := by decide +kernel
theorem dX8_checked_32 : decode cX8_checked 32 = .ok (.iload_n 3, 1) := by decide +kernel
theorem dX8_checked_33 : decode cX8_checked 33 = .ok (.ireturn, 1) := by decide +kernel
theorem dX8_log_0 : decode cX8_log 0 = .ok (.iload 4, 2) := by decide +kernel
theorem dX8_log_2 : decode cX8_log 2 = .ok (.ifCond .ne 10, 3) := by decide +kernel
theorem dX8_log_5 : decode cX8_log 5 = .ok (.aload_n 0, 1) := by decide +kernel
theorem dX8_log_6 : decode cX8_log 6 = .ok (.getfield 110, 3) := by decide +kernel
theorem dX8_log_9 : decode cX8_log 9 = .ok (.goto 7, 3) := by decide +kernel
theorem dX8_log_12 : decode cX8_log 12 = .ok (.aload_n 0, 1) := by decide +kernel
theorem dX8_log_13 : decode cX8_log 13 = .ok (.getfield 114, 3) := by decide +kernel
theorem dX8_log_16 : decode cX8_log 16 = .ok (.iload_n 3, 1) := by decide +kernel
theorem dX8_log_17 : decode cX8_log 17 = .ok (.iand, 1) := by decide +kernel
theorem dX8_log_18 : decode cX8_log 18 = .ok (.ifCond .ne 4, 3) := by decide +kernel
theorem dX8_log_21 : decode cX8_log 21 = .ok (.return_, 1) := by decide +kernel
theorem dX8_log_22 : decode cX8_log 22 = .ok (.aload_n 0, 1) := by decide +kernel
theorem dX8_log_23 : decode cX8_log 23 = .ok (.getfield 238, 3) := by decide +kernel
theorem dX8_log_26 : decode cX8_log 26 = .ok (.bipush 20, 2) := by decide +kernel
theorem dX8_log_28 : decode cX8_log 28 = .ok (.if_icmp .ne 66, 3) := by decide +kernel
theorem dX8_log_31 : decode cX8_log 31 = .ok (.aload_n 0, 1) := by decide +kernel
theorem dX8_log_32 : decode cX8_log 32 = .ok (.aload_n 0, 1) := by decide +kernel
theorem dX8_log_33 : decode cX8_log 33 = .ok (.getfield 120, 3) := by decide +kernel
theorem dX8_log_36 : decode cX8_log 36 = .ok (.iconst 5, 1) := by decide +kernel
theorem dX8_log_37 : decode cX8_log 37 = .ok (.iaload, 1) := by decide +kernel
theorem dX8_log_38 : decode cX8_log 38 = .ok (.putfield 117, 3) := by decide +kernel
theorem dX8_log_41 : decode cX8_log 41 = .ok (.aload_n 0, 1) := by decide +kernel
theorem dX8_log_42 : decode cX8_log 42 = .ok (.dup, 1) := by decide +kernel
theorem dX8_log_43 : decode cX8_log 43 = .ok (.getfield 241, 3) := by decide +kernel
theorem dX8_log_46 : decode cX8_log 46 = .ok (.iconst 1, 1) := by decide +kernel
theorem dX8_log_47 : decode cX8_log 47 = .ok (.iadd, 1) := by decide +kernel
theorem dX8_log_48 : decode cX8_log 48 = .ok (.putfield 241, 3) := by decide +kernel
theorem dX8_log_51 : decode cX8_log 51 = .ok (.iconst 0, 1) := by decide +kernel
theorem dX8_log_52 : decode cX8_log 52 = .ok (.istore 5, 2) := by decide +kernel
theorem dX8_log_54 : decode cX8_log 54 = .ok (.iload 5, 2) := by decide +kernel
theorem dX8_log_56 : decode cX8_log 56 = .ok (.bipush 114, 2) := by decide +kernel
theorem dX8_log_58 : decode cX8_log 58 = .ok (.if_icmp .ge 26, 3) := by decide +kernel
theorem dX8_log_61 : decode cX8_log 61 = .ok (.aload_n 0, 1) := by decide +kernel
theorem dX8_log_62 : decode cX8_log 62 = .ok (.getfield 120, 3) := by decide +kernel
theorem dX8_log_65 : decode cX8_log 65 = .ok (.iload 5, 2) := by decide +kernel
theorem dX8_log_67 : decode cX8_log 67 = .ok (.aload_n 0, 1) := by decide +kernel
theorem dX8_log_68 : decode cX8_log 68 = .ok (.getfield 120, 3) := by decide +kernel
theorem dX8_log_71 : decode cX8_log 71 = .ok (.iload 5, 2) := by decide +kernel
theorem dX8_log_73 : decode cX8_log 73 = .ok (.bipush 6, 2) := by decide +kernel
theorem dX8_log_75 : decode cX8_log 75 = .ok (.iadd, 1) := by decide +kernel
theorem dX8_log_76 : decode cX8_log 76 = .ok (.iaload, 1) := by decide +kernel
theorem dX8_log_77 : decode cX8_log 77 = .ok (.iastore, 1) := by decide +kernel
theorem dX8_log_78 : decode cX8_log 78 = .ok (.iinc 5 1, 3) := by decide +kernel
theorem dX8_log_81 : decode cX8_log 81 = .ok (.goto (-27), 3) := by decide +kernel
theorem dX8_log_84 : decode cX8_log 84 = .ok (.aload_n 0, 1) := by decide +kernel
theorem dX8_log_85 : decode cX8_log 85 = .ok (.dup, 1) := by decide +kernel
theorem dX8_log_86 : decode cX8_log 86 = .ok (.getfield 238, 3) := by decide +kernel
theorem dX8_log_89 : decode cX8_log 89 = .ok (.iconst 1, 1) := by decide +kernel
theorem dX8_log_90 : decode cX8_log 90 = .ok (.isub, 1) := by decide +kernel
theorem dX8_log_91 : decode cX8_log 91 = .ok (.putfield 238, 3) := by decide +kernel
theorem dX8_log_94 : decode cX8_log 94 = .ok (.bipush 6, 2) := by decide +kernel
theorem dX8_log_96 : decode cX8_log 96 = .ok (.aload_n 0, 1) := by decide +kernel
theorem dX8_log_97 : decode cX8_log 97 = .ok (.getfield 238, 3) := by decide +kernel
theorem dX8_log_100 : decode cX8_log 100 = .ok (.imul, 1) := by decide +kernel
theorem dX8_log_101 : decode cX8_log 101 = .ok (.istore 5, 2) := by decide +kernel
theorem dX8_log_103 : decode cX8_log 103 = .ok (.aload_n 0, 1) := by decide +kernel
theorem dX8_log_104 : decode cX8_log 104 = .ok (.getfield 120, 3) := by decide +kernel
theorem dX8_log_107 : decode cX8_log 107 = .ok (.iload 5, 2) := by decide +kernel
theorem dX8_log_109 : decode cX8_log 109 = .ok (.aload_n 0, 1) := by decide +kernel
theorem dX8_log_110 : decode cX8_log 110 = .ok (.getfield 223, 3) := by decide +kernel
theorem dX8_log_113 : decode cX8_log 113 = .ok (.iastore, 1) := by decide +kernel
theorem dX8_log_114 : decode cX8_log 114 = .ok (.aload_n 0, 1) := by decide +kernel
theorem dX8_log_115 : decode cX8_log 115 = .ok (.getfield 120, 3) := by decide +kernel
theorem dX8_log_118 : decode cX8_log 118 = .ok (.iload 5, 2) := by decide +kernel
theorem dX8_log_120 : decode cX8_log 120 = .ok (.iconst 1, 1) := by decide +kernel
theorem dX8_log_121 : decode cX8_log 121 = .ok (.iadd, 1) := by decide +kernel
theorem dX8_log_122 : decode cX8_log 122 = .ok (.iload_n 1, 1) := by decide +kernel
theorem dX8_log_123 : decode cX8_log 123 = .ok (.iastore, 1) := by decide +kernel
theorem dX8_log_124 : decode cX8_log 124 = .ok (.aload_n 0, 1) := by decide +kernel
theorem dX8_log_125 : decode cX8_log 125 = .ok (.getfield 120, 3) := by decide +kernel
theorem dX8_log_128 : decode cX8_log 128 = .ok (.iload 5, 2) := by decide +kernel
theorem dX8_log_130 : decode cX8_log 130 = .ok (.iconst 2, 1) := by decide +kernel
theorem dX8_log_131 : decode cX8_log 131 = .ok (.iadd, 1) := by decide +kernel
theorem dX8_log_132 : decode cX8_log 132 = .ok (.iload_n 2, 1) := by decide +kernel
theorem dX8_log_133 : decode cX8_log 133 = .ok (.iastore, 1) := by decide +kernel
theorem dX8_log_134 : decode cX8_log 134 = .ok (.aload_n 0, 1) := by decide +kernel
theorem dX8_log_135 : decode cX8_log 135 = .ok (.getfield 120, 3) := by decide +kernel
theorem dX8_log_138 : decode cX8_log 138 = .ok (.iload 5, 2) := by decide +kernel
theorem dX8_log_140 : decode cX8_log 140 = .ok (.iconst 3, 1) := by decide +kernel
theorem dX8_log_141 : decode cX8_log 141 = .ok (.iadd, 1) := by decide +kernel
theorem dX8_log_142 : decode cX8_log 142 = .ok (.iload_n 3, 1) := by decide +kernel
theorem dX8_log_143 : decode cX8_log 143 = .ok (.iastore, 1) := by decide +kernel
theorem dX8_log_144 : decode cX8_log 144 = .ok (.aload_n 0, 1) := by decide +kernel
theorem dX8_log_145 : decode cX8_log 145 = .ok (.getfield 120, 3) := by decide +kernel
theorem dX8_log_148 : decode cX8_log 148 = .ok (.iload 5, 2) := by decide +kernel
theorem dX8_log_150 : decode cX8_log 150 = .ok (.iconst 4, 1) := by decide +kernel
theorem dX8_log_151 : decode cX8_log 151 = .ok (.iadd, 1) := by decide +kernel
theorem dX8_log_152 : decode cX8_log 152 = .ok (.iload 4, 2) := by decide +kernel
theorem dX8_log_154 : decode cX8_log 154 = .ok (.iastore, 1) := by decide +kernel
theorem dX8_log_155 : decode cX8_log 155 = .ok (.aload_n 0, 1) := by decide +kernel
theorem dX8_log_156 : decode cX8_log 156 = .ok (.getfield 120, 3) := by decide +kernel
theorem dX8_log_159 : decode cX8_log 159 = .ok (.iload 5, 2) := by decide +kernel
theorem dX8_log_161 : decode cX8_log 161 = .ok (.iconst 5, 1) := by decide +kernel
theorem dX8_log_162 : decode cX8_log 162 = .ok (.iadd, 1) := by decide +kernel
theorem dX8_log_163 : decode cX8_log 163 = .ok (.aload_n 0, 1) := by decide +kernel
theorem dX8_log_164 : decode cX8_log 164 = .ok (.getfield 120, 3) := by decide +kernel
theorem dX8_log_167 : decode cX8_log 167 = .ok (.iload 5, 2) := by decide +kernel
theorem dX8_log_169 : decode cX8_log 169 = .ok (.aload_n 0, 1) := by decide +kernel
theorem dX8_log_170 : decode cX8_log 170 = .ok (.getfield 238, 3) := by decide +kernel
theorem dX8_log_173 : decode cX8_log 173 = .ok (.ifCond .ne 10, 3) := by decide +kernel
theorem dX8_log_176 : decode cX8_log 176 = .ok (.aload_n 0, 1) := by decide +kernel
theorem dX8_log_177 : decode cX8_log 177 = .ok (.getfield 117, 3) := by decide +kernel
theorem dX8_log_180 : decode cX8_log 180 = .ok (.goto 12, 3) := by decide +kernel
theorem dX8_log_183 : decode cX8_log 183 = .ok (.aload_n 0, 1) := by decide +kernel
theorem dX8_log_184 : decode cX8_log 184 = .ok (.getfield 120, 3) := by decide +kernel
theorem dX8_log_187 : decode cX8_log 187 = .ok (.iload 5, 2) := by decide +kernel
theorem dX8_log_189 : decode cX8_log 189 = .ok (.iconst 1, 1) := by decide +kernel
theorem dX8_log_190 : decode cX8_log 190 = .ok (.isub, 1) := by decide +kernel
theorem dX8_log_191 : decode cX8_log 191 = .ok (.iaload, 1) := by decide +kernel
theorem dX8_log_192 : decode cX8_log 192 = .ok (.invokestatic 244, 3) := by decide +kernel
theorem dX8_log_195 : decode cX8_log 195 = .ok (.iastore, 1) := by decide +kernel
theorem dX8_log_196 : decode cX8_log 196 = .ok (.aload_n 0, 1) := by decide +kernel
theorem dX8_log_197 : decode cX8_log 197 = .ok (.dup, 1) := by decide +kernel
theorem dX8_log_198 : decode cX8_log 198 = .ok (.getfield 238, 3) := by decide +kernel
theorem dX8_log_201 : decode cX8_log 201 = .ok (.iconst 1, 1) := by decide +kernel
theorem dX8_log_202 : decode cX8_log 202 = .ok (.iadd, 1) := by decide +kernel
theorem dX8_log_203 : decode cX8_log 203 = .ok (.putfield 238, 3) := by decide +kernel
theorem dX8_log_206 : decode cX8_log 206 = .ok (.return_, 1) := by decide +kernel
theorem dX8_watch_0 : decode cX8_watch 0 = .ok (.aload_n 0, 1) := by decide +kernel
theorem dX8_watch_1 : decode cX8_watch 1 = .ok (.iload_n 1, 1) := by decide +kernel
theorem dX8_watch_2 : decode cX8_watch 2 = .ok (.iconst 0, 1) := by decide +kernel
theorem dX8_watch_3 : decode cX8_watch 3 = .ok (.bipush 7, 2) := by decide +kernel
theorem dX8_watch_5 : decode cX8_watch 5 = .ok (.invokestatic 129, 3) := by decide +kernel
theorem dX8_watch_8 : decode cX8_watch 8 = .ok (.ifCond .eq 17, 3) := by decide +kernel
theorem dX8_watch_11 : decode cX8_watch 11 = .ok (.iload_n 2, 1) := by decide +kernel
theorem dX8_watch_12 : decode cX8_watch 12 = .ok (.iconst 0, 1) := by decide +kernel
theorem dX8_watch_13 : decode cX8_watch 13 = .ok (.bipush 7, 2) := by decide +kernel
theorem dX8_watch_15 : decode cX8_watch 15 = .ok (.invokestatic 129, 3) := by decide +kernel
theorem dX8_watch_18 : decode cX8_watch 18 = .ok (.ifCond .eq 7, 3) := by decide +kernel
theorem dX8_watch_21 : decode cX8_watch 21 = .ok (.iconst 0, 1) := by decide +kernel
theorem dX8_watch_22 : decode cX8_watch 22 = .ok (.goto 4, 3) := by decide +kernel
theorem dX8_watch_25 : decode cX8_watch 25 = .ok (.iconst 1, 1) := by decide +kernel
theorem dX8_watch_26 : decode cX8_watch 26 = .ok (.invokevirtual 154, 3) := by decide +kernel
theorem dX8_watch_29 : decode cX8_watch 29 = .ok (.ifCond .eq 4, 3) := by decide +kernel
theorem dX8_watch_32 : decode cX8_watch 32 = .ok (.return_, 1) := by decide +kernel
theorem dX8_watch_33 : decode cX8_watch 33 = .ok (.aload_n 0, 1) := by decide +kernel
theorem dX8_watch_34 : decode cX8_watch 34 = .ok (.iload_n 1, 1) := by decide +kernel
theorem dX8_watch_35 : decode cX8_watch 35 = .ok (.putfield 110, 3) := by decide +kernel
theorem dX8_watch_38 : decode cX8_watch 38 = .ok (.aload_n 0, 1) := by decide +kernel
theorem dX8_watch_39 : decode cX8_watch 39 = .ok (.iload_n 2, 1) := by decide +kernel
theorem dX8_watch_40 : decode cX8_watch 40 = .ok (.putfield 114, 3) := by decide +kernel
theorem dX8_watch_43 : decode cX8_watch 43 = .ok (.return_, 1) := by decide +kernel
theorem dX8_entries_0 : decode cX8_entries 0 = .ok (.aload_n 0, 1) := by decide +kernel
theorem dX8_entries_1 : decode cX8_entries 1 = .ok (.iconst 0, 1) := by decide +kernel
theorem dX8_entries_2 : decode cX8_entries 2 = .ok (.putfield 126, 3) := by decide +kernel
theorem dX8_entries_5 : decode cX8_entries 5 = .ok (.aload_n 0, 1) := by decide +kernel
theorem dX8_entries_6 : decode cX8_entries 6 = .ok (.getfield 238, 3) := by decide +kernel
theorem dX8_entries_9 : decode cX8_entries 9 = .ok (.ireturn, 1) := by decide +kernel
theorem dX8_lost_0 : decode cX8_lost 0 = .ok (.aload_n 0, 1) := by decide +kernel
theorem dX8_lost_1 : decode cX8_lost 1 = .ok (.iconst 0, 1) := by decide +kernel
theorem dX8_lost_2 : decode cX8_lost 2 = .ok (.putfield 126, 3) := by decide +kernel
theorem dX8_lost_5 : decode cX8_lost 5 = .ok (.aload_n 0, 1) := by decide +kernel
theorem dX8_lost_6 : decode cX8_lost 6 = .ok (.getfield 241, 3) := by decide +kernel
theorem dX8_lost_9 : decode cX8_lost 9 = .ok (.ireturn, 1) := by decide +kernel
theorem dX8_logged_0 : decode cX8_logged 0 = .ok (.aload_n 0, 1) := by decide +kernel
theorem dX8_logged_1 : decode cX8_logged 1 = .ok (.iload_n 1, 1) := by decide +kernel
theorem dX8_logged_2 : decode cX8_logged 2 = .ok (.iconst 0, 1) := by decide +kernel
theorem dX8_logged_3 : decode cX8_logged 3 = .ok (.aload_n 0, 1) := by decide +kernel
theorem dX8_logged_4 : decode cX8_logged 4 = .ok (.getfield 238, 3) := by decide +kernel
theorem dX8_logged_7 : decode cX8_logged 7 = .ok (.iconst 1, 1) := by decide +kernel
theorem dX8_logged_8 : decode cX8_logged 8 = .ok (.isub, 1) := by decide +kernel
theorem dX8_logged_9 : decode cX8_logged 9 = .ok (.invokestatic 129, 3) := by decide +kernel
theorem dX8_logged_12 : decode cX8_logged 12 = .ok (.ifCond .ne 7, 3) := by decide +kernel
theorem dX8_logged_15 : decode cX8_logged 15 = .ok (.iconst 1, 1) := by decide +kernel
theorem dX8_logged_16 : decode cX8_logged 16 = .ok (.goto 17, 3) := by decide +kernel
theorem dX8_logged_19 : decode cX8_logged 19 = .ok (.iload_n 2, 1) := by decide +kernel
theorem dX8_logged_20 : decode cX8_logged 20 = .ok (.iconst 0, 1) := by decide +kernel
theorem dX8_logged_21 : decode cX8_logged 21 = .ok (.iconst 4, 1) := by decide +kernel
theorem dX8_logged_22 : decode cX8_logged 22 = .ok (.invokestatic 129, 3) := by decide +kernel
theorem dX8_logged_25 : decode cX8_logged 25 = .ok (.ifCond .ne 7, 3) := by decide +kernel
theorem dX8_logged_28 : decode cX8_logged 28 = .ok (.iconst 2, 1) := by decide +kernel
theorem dX8_logged_29 : decode cX8_logged 29 = .ok (.goto 4, 3) := by decide +kernel
theorem dX8_logged_32 : decode cX8_logged 32 = .ok (.iconst 0, 1) := by decide +kernel
theorem dX8_logged_33 : decode cX8_logged 33 = .ok (.invokevirtual 154, 3) := by decide +kernel
theorem dX8_logged_36 : decode cX8_logged 36 = .ok (.ifCond .eq 7, 3) := by decide +kernel
theorem dX8_logged_39 : decode cX8_logged 39 = .ok (.iconst 0, 1) := by decide +kernel
theorem dX8_logged_40 : decode cX8_logged 40 = .ok (.goto 14, 3) := by decide +kernel
theorem dX8_logged_43 : decode cX8_logged 43 = .ok (.aload_n 0, 1) := by decide +kernel
theorem dX8_logged_44 : decode cX8_logged 44 = .ok (.getfield 120, 3) := by decide +kernel
theorem dX8_logged_47 : decode cX8_logged 47 = .ok (.bipush 6, 2) := by decide +kernel
theorem dX8_logged_49 : decode cX8_logged 49 = .ok (.iload_n 1, 1) := by decide +kernel
theorem dX8_logged_50 : decode cX8_logged 50 = .ok (.imul, 1) := by decide +kernel
theorem dX8_logged_51 : decode cX8_logged 51 = .ok (.iload_n 2, 1) := by decide +kernel
theorem dX8_logged_52 : decode cX8_logged 52 = .ok (.iadd, 1) := by decide +kernel
theorem dX8_logged_53 : decode cX8_logged 53 = .ok (.iaload, 1) := by decide +kernel
theorem dX8_logged_54 : decode cX8_logged 54 = .ok (.ireturn, 1) := by decide +kernel
theorem dX8_forge_0 : decode cX8_forge 0 = .ok (.aload_n 0, 1) := by decide +kernel
theorem dX8_forge_1 : decode cX8_forge 1 = .ok (.iload_n 1, 1) := by decide +kernel
theorem dX8_forge_2 : decode cX8_forge 2 = .ok (.iconst 0, 1) := by decide +kernel
theorem dX8_forge_3 : decode cX8_forge 3 = .ok (.aload_n 0, 1) := by decide +kernel
theorem dX8_forge_4 : decode cX8_forge 4 = .ok (.getfield 238, 3) := by decide +kernel
theorem dX8_forge_7 : decode cX8_forge 7 = .ok (.iconst 1, 1) := by decide +kernel
theorem dX8_forge_8 : decode cX8_forge 8 = .ok (.isub, 1) := by decide +kernel
theorem dX8_forge_9 : decode cX8_forge 9 = .ok (.invokestatic 129, 3) := by decide +kernel
theorem dX8_forge_12 : decode cX8_forge 12 = .ok (.ifCond .ne 7, 3) := by decide +kernel
theorem dX8_forge_15 : decode cX8_forge 15 = .ok (.iconst 1, 1) := by decide +kernel
theorem dX8_forge_16 : decode cX8_forge 16 = .ok (.goto 17, 3) := by decide +kernel
theorem dX8_forge_19 : decode cX8_forge 19 = .ok (.iload_n 2, 1) := by decide +kernel
theorem dX8_forge_20 : decode cX8_forge 20 = .ok (.iconst 0, 1) := by decide +kernel
theorem dX8_forge_21 : decode cX8_forge 21 = .ok (.iconst 5, 1) := by decide +kernel
theorem dX8_forge_22 : decode cX8_forge 22 = .ok (.invokestatic 129, 3) := by decide +kernel
theorem dX8_forge_25 : decode cX8_forge 25 = .ok (.ifCond .ne 7, 3) := by decide +kernel
theorem dX8_forge_28 : decode cX8_forge 28 = .ok (.iconst 2, 1) := by decide +kernel
theorem dX8_forge_29 : decode cX8_forge 29 = .ok (.goto 4, 3) := by decide +kernel
theorem dX8_forge_32 : decode cX8_forge 32 = .ok (.iconst 0, 1) := by decide +kernel
theorem dX8_forge_33 : decode cX8_forge 33 = .ok (.invokevirtual 154, 3) := by decide +kernel
theorem dX8_forge_36 : decode cX8_forge 36 = .ok (.ifCond .eq 5, 3) := by decide +kernel
theorem dX8_forge_39 : decode cX8_forge 39 = .ok (.iconst 0, 1) := by decide +kernel
theorem dX8_forge_40 : decode cX8_forge 40 = .ok (.ireturn, 1) := by decide +kernel
theorem dX8_forge_41 : decode cX8_forge 41 = .ok (.aload_n 0, 1) := by decide +kernel
theorem dX8_forge_42 : decode cX8_forge 42 = .ok (.getfield 120, 3) := by decide +kernel
theorem dX8_forge_45 : decode cX8_forge 45 = .ok (.bipush 6, 2) := by decide +kernel
theorem dX8_forge_47 : decode cX8_forge 47 = .ok (.iload_n 1, 1) := by decide +kernel
theorem dX8_forge_48 : decode cX8_forge 48 = .ok (.imul, 1) := by decide +kernel
theorem dX8_forge_49 : decode cX8_forge 49 = .ok (.iconst 4, 1) := by decide +kernel
theorem dX8_forge_50 : decode cX8_forge 50 = .ok (.iadd, 1) := by decide +kernel
theorem dX8_forge_51 : decode cX8_forge 51 = .ok (.iaload, 1) := by decide +kernel
theorem dX8_forge_52 : decode cX8_forge 52 = .ok (.istore_n 3, 1) := by decide +kernel
theorem dX8_forge_53 : decode cX8_forge 53 = .ok (.aload_n 0, 1) := by decide +kernel
theorem dX8_forge_54 : decode cX8_forge 54 = .ok (.getfield 120, 3) := by decide +kernel
theorem dX8_forge_57 : decode cX8_forge 57 = .ok (.bipush 6, 2) := by decide +kernel
theorem dX8_forge_59 : decode cX8_forge 59 = .ok (.iload_n 1, 1) := by decide +kernel
theorem dX8_forge_60 : decode cX8_forge 60 = .ok (.imul, 1) := by decide +kernel
theorem dX8_forge_61 : decode cX8_forge 61 = .ok (.iconst 4, 1) := by decide +kernel
theorem dX8_forge_62 : decode cX8_forge 62 = .ok (.iadd, 1) := by decide +kernel
theorem dX8_forge_63 : decode cX8_forge 63 = .ok (.iload_n 2, 1) := by decide +kernel
theorem dX8_forge_64 : decode cX8_forge 64 = .ok (.iastore, 1) := by decide +kernel
theorem dX8_forge_65 : decode cX8_forge 65 = .ok (.iload_n 3, 1) := by decide +kernel
theorem dX8_forge_66 : decode cX8_forge 66 = .ok (.ireturn, 1) := by decide +kernel
theorem dX8_broken_0 : decode cX8_broken 0 = .ok (.aload_n 0, 1) := by decide +kernel
theorem dX8_broken_1 : decode cX8_broken 1 = .ok (.iconst 0, 1) := by decide +kernel
theorem dX8_broken_2 : decode cX8_broken 2 = .ok (.putfield 126, 3) := by decide +kernel
theorem dX8_broken_5 : decode cX8_broken 5 = .ok (.aload_n 0, 1) := by decide +kernel
theorem dX8_broken_6 : decode cX8_broken 6 = .ok (.getfield 117, 3) := by decide +kernel
theorem dX8_broken_9 : decode cX8_broken 9 = .ok (.istore_n 1, 1) := by decide +kernel
theorem dX8_broken_10 : decode cX8_broken 10 = .ok (.iconst 0, 1) := by decide +kernel
theorem dX8_broken_11 : decode cX8_broken 11 = .ok (.istore_n 2, 1) := by decide +kernel
theorem dX8_broken_12 : decode cX8_broken 12 = .ok (.iload_n 2, 1) := by decide +kernel
theorem dX8_broken_13 : decode cX8_broken 13 = .ok (.aload_n 0, 1) := by decide +kernel
theorem dX8_broken_14 : decode cX8_broken 14 = .ok (.getfield 238, 3) := by decide +kernel
theorem dX8_broken_17 : decode cX8_broken 17 = .ok (.if_icmp .ge 49, 3) := by decide +kernel
theorem dX8_broken_20 : decode cX8_broken 20 = .ok (.aload_n 0, 1) := by decide +kernel
theorem dX8_broken_21 : decode cX8_broken 21 = .ok (.getfield 120, 3) := by decide +kernel
theorem dX8_broken_24 : decode cX8_broken 24 = .ok (.bipush 6, 2) := by decide +kernel
theorem dX8_broken_26 : decode cX8_broken 26 = .ok (.iload_n 2, 1) := by decide +kernel
theorem dX8_broken_27 : decode cX8_broken 27 = .ok (.imul, 1) := by decide +kernel
theorem dX8_broken_28 : decode cX8_broken 28 = .ok (.iload_n 1, 1) := by decide +kernel
theorem dX8_broken_29 : decode cX8_broken 29 = .ok (.invokestatic 244, 3) := by decide +kernel
theorem dX8_broken_32 : decode cX8_broken 32 = .ok (.aload_n 0, 1) := by decide +kernel
theorem dX8_broken_33 : decode cX8_broken 33 = .ok (.getfield 120, 3) := by decide +kernel
theorem dX8_broken_36 : decode cX8_broken 36 = .ok (.bipush 6, 2) := by decide +kernel
theorem dX8_broken_38 : decode cX8_broken 38 = .ok (.iload_n 2, 1) := by decide +kernel
theorem dX8_broken_39 : decode cX8_broken 39 = .ok (.imul, 1) := by decide +kernel
theorem dX8_broken_40 : decode cX8_broken 40 = .ok (.iconst 5, 1) := by decide +kernel
theorem dX8_broken_41 : decode cX8_broken 41 = .ok (.iadd, 1) := by decide +kernel
theorem dX8_broken_42 : decode cX8_broken 42 = .ok (.iaload, 1) := by decide +kernel
theorem dX8_broken_43 : decode cX8_broken 43 = .ok (.if_icmp .eq 5, 3) := by decide +kernel
theorem dX8_broken_46 : decode cX8_broken 46 = .ok (.iload_n 2, 1) := by decide +kernel
theorem dX8_broken_47 : decode cX8_broken 47 = .ok (.ireturn, 1) := by decide +kernel
theorem dX8_broken_48 : decode cX8_broken 48 = .ok (.aload_n 0, 1) := by decide +kernel
theorem dX8_broken_49 : decode cX8_broken 49 = .ok (.getfield 120, 3) := by decide +kernel
theorem dX8_broken_52 : decode cX8_broken 52 = .ok (.bipush 6, 2) := by decide +kernel
theorem dX8_broken_54 : decode cX8_broken 54 = .ok (.iload_n 2, 1) := by decide +kernel
theorem dX8_broken_55 : decode cX8_broken 55 = .ok (.imul, 1) := by decide +kernel
theorem dX8_broken_56 : decode cX8_broken 56 = .ok (.iconst 5, 1) := by decide +kernel
theorem dX8_broken_57 : decode cX8_broken 57 = .ok (.iadd, 1) := by decide +kernel
theorem dX8_broken_58 : decode cX8_broken 58 = .ok (.iaload, 1) := by decide +kernel
theorem dX8_broken_59 : decode cX8_broken 59 = .ok (.istore_n 1, 1) := by decide +kernel
theorem dX8_broken_60 : decode cX8_broken 60 = .ok (.iinc 2 1, 3) := by decide +kernel
theorem dX8_broken_63 : decode cX8_broken 63 = .ok (.goto (-51), 3) := by decide +kernel
theorem dX8_broken_66 : decode cX8_broken 66 = .ok (.iconst (-1), 1) := by decide +kernel
theorem dX8_broken_67 : decode cX8_broken 67 = .ok (.ireturn, 1) := by decide +kernel
theorem dX8_reach_0 : decode cX8_reach 0 = .ok (.aload_n 0, 1) := by decide +kernel
theorem dX8_reach_1 : decode cX8_reach 1 = .ok (.aload_n 0, 1) := by decide +kernel
theorem dX8_reach_2 : decode cX8_reach 2 = .ok (.iload_n 1, 1) := by decide +kernel
theorem dX8_reach_3 : decode cX8_reach 3 = .ok (.iload_n 2, 1) := by decide +kernel
theorem dX8_reach_4 : decode cX8_reach 4 = .ok (.iload_n 3, 1) := by decide +kernel
theorem dX8_reach_5 : decode cX8_reach 5 = .ok (.invokevirtual 197, 3) := by decide +kernel
theorem dX8_reach_8 : decode cX8_reach 8 = .ok (.invokevirtual 154, 3) := by decide +kernel
theorem dX8_reach_11 : decode cX8_reach 11 = .ok (.ifCond .eq 5, 3) := by decide +kernel
theorem dX8_reach_14 : decode cX8_reach 14 = .ok (.iconst 0, 1) := by decide +kernel
theorem dX8_reach_15 : decode cX8_reach 15 = .ok (.ireturn, 1) := by decide +kernel
theorem dX8_reach_16 : decode cX8_reach 16 = .ok (.iconst 0, 1) := by decide +kernel
theorem dX8_reach_17 : decode cX8_reach 17 = .ok (.istore 4, 2) := by decide +kernel
theorem dX8_reach_19 : decode cX8_reach 19 = .ok (.iload 4, 2) := by decide +kernel
theorem dX8_reach_21 : decode cX8_reach 21 = .ok (.sipush 192, 3) := by decide +kernel
theorem dX8_reach_24 : decode cX8_reach 24 = .ok (.if_icmp .ge 17, 3) := by decide +kernel
theorem dX8_reach_27 : decode cX8_reach 27 = .ok (.aload_n 0, 1) := by decide +kernel
theorem dX8_reach_28 : decode cX8_reach 28 = .ok (.getfield 123, 3) := by decide +kernel
theorem dX8_reach_31 : decode cX8_reach 31 = .ok (.iload 4, 2) := by decide +kernel
theorem dX8_reach_33 : decode cX8_reach 33 = .ok (.iconst (-1), 1) := by decide +kernel
theorem dX8_reach_34 : decode cX8_reach 34 = .ok (.iastore, 1) := by decide +kernel
theorem dX8_reach_35 : decode cX8_reach 35 = .ok (.iinc 4 1, 3) := by decide +kernel
theorem dX8_reach_38 : decode cX8_reach 38 = .ok (.goto (-19), 3) := by decide +kernel
theorem dX8_reach_41 : decode cX8_reach 41 = .ok (.aload_n 0, 1) := by decide +kernel
theorem dX8_reach_42 : decode cX8_reach 42 = .ok (.getfield 123, 3) := by decide +kernel
theorem dX8_reach_45 : decode cX8_reach 45 = .ok (.bipush 32, 2) := by decide +kernel
theorem dX8_reach_47 : decode cX8_reach 47 = .ok (.aload_n 0, 1) := by decide +kernel
theorem dX8_reach_48 : decode cX8_reach 48 = .ok (.getfield 59, 3) := by decide +kernel
theorem dX8_reach_51 : decode cX8_reach 51 = .ok (.iload_n 1, 1) := by decide +kernel
theorem dX8_reach_52 : decode cX8_reach 52 = .ok (.iaload, 1) := by decide +kernel
theorem dX8_reach_53 : decode cX8_reach 53 = .ok (.imul, 1) := by decide +kernel
theorem dX8_reach_54 : decode cX8_reach 54 = .ok (.bipush 8, 2) := by decide +kernel
theorem dX8_reach_56 : decode cX8_reach 56 = .ok (.aload_n 0, 1) := by decide +kernel
theorem dX8_reach_57 : decode cX8_reach 57 = .ok (.getfield 62, 3) := by decide +kernel
theorem dX8_reach_60 : decode cX8_reach 60 = .ok (.iload_n 1, 1) := by decide +kernel
theorem dX8_reach_61 : decode cX8_reach 61 = .ok (.iaload, 1) := by decide +kernel
theorem dX8_reach_62 : decode cX8_reach 62 = .ok (.imul, 1) := by decide +kernel
theorem dX8_reach_63 : decode cX8_reach 63 = .ok (.iadd, 1) := by decide +kernel
theorem dX8_reach_64 : decode cX8_reach 64 = .ok (.aload_n 0, 1) := by decide +kernel
theorem dX8_reach_65 : decode cX8_reach 65 = .ok (.getfield 71, 3) := by decide +kernel
theorem dX8_reach_68 : decode cX8_reach 68 = .ok (.iload_n 1, 1) := by decide +kernel
theorem dX8_reach_69 : decode cX8_reach 69 = .ok (.iaload, 1) := by decide +kernel
theorem dX8_reach_70 : decode cX8_reach 70 = .ok (.iadd, 1) := by decide +kernel
theorem dX8_reach_71 : decode cX8_reach 71 = .ok (.iconst 0, 1) := by decide +kernel
theorem dX8_reach_72 : decode cX8_reach 72 = .ok (.iastore, 1) := by decide +kernel
theorem dX8_reach_73 : decode cX8_reach 73 = .ok (.iconst 0, 1) := by decide +kernel
theorem dX8_reach_74 : decode cX8_reach 74 = .ok (.istore 4, 2) := by decide +kernel
theorem dX8_reach_76 : decode cX8_reach 76 = .ok (.iload 4, 2) := by decide +kernel
theorem dX8_reach_78 : decode cX8_reach 78 = .ok (.iconst 3, 1) := by decide +kernel
theorem dX8_reach_79 : decode cX8_reach 79 = .ok (.if_icmp .gt 106, 3) := by decide +kernel
theorem dX8_reach_82 : decode cX8_reach 82 = .ok (.iconst 0, 1) := by decide +kernel
theorem dX8_reach_83 : decode cX8_reach 83 = .ok (.istore 5, 2) := by decide +kernel
theorem dX8_reach_85 : decode cX8_reach 85 = .ok (.iload 5, 2) := by decide +kernel
theorem dX8_reach_87 : decode cX8_reach 87 = .ok (.sipush 192, 3) := by decide +kernel
theorem dX8_reach_90 : decode cX8_reach 90 = .ok (.if_icmp .ge 51, 3) := by decide +kernel
theorem dX8_reach_93 : decode cX8_reach 93 = .ok (.aload_n 0, 1) := by decide +kernel
theorem dX8_reach_94 : decode cX8_reach 94 = .ok (.getfield 123, 3) := by decide +kernel
theorem dX8_reach_97 : decode cX8_reach 97 = .ok (.iload 5, 2) := by decide +kernel
theorem dX8_reach_99 : decode cX8_reach 99 = .ok (.iaload, 1) := by decide +kernel
theorem dX8_reach_100 : decode cX8_reach 100 = .ok (.iload 4, 2) := by decide +kernel
theorem dX8_reach_102 : decode cX8_reach 102 = .ok (.if_icmp .ne 33, 3) := by decide +kernel
theorem dX8_reach_105 : decode cX8_reach 105 = .ok (.aload_n 0, 1) := by decide +kernel
theorem dX8_reach_106 : decode cX8_reach 106 = .ok (.iload 5, 2) := by decide +kernel
theorem dX8_reach_108 : decode cX8_reach 108 = .ok (.bipush 32, 2) := by decide +kernel
theorem dX8_reach_110 : decode cX8_reach 110 = .ok (.idiv, 1) := by decide +kernel
theorem dX8_reach_111 : decode cX8_reach 111 = .ok (.iload 5, 2) := by decide +kernel
theorem dX8_reach_113 : decode cX8_reach 113 = .ok (.bipush 8, 2) := by decide +kernel
theorem dX8_reach_115 : decode cX8_reach 115 = .ok (.idiv, 1) := by decide +kernel
theorem dX8_reach_116 : decode cX8_reach 116 = .ok (.iconst 4, 1) := by decide +kernel
theorem dX8_reach_117 : decode cX8_reach 117 = .ok (.irem, 1) := by decide +kernel
theorem dX8_reach_118 : decode cX8_reach 118 = .ok (.iload_n 1, 1) := by decide +kernel
theorem dX8_reach_119 : decode cX8_reach 119 = .ok (.iload 5, 2) := by decide +kernel
theorem dX8_reach_121 : decode cX8_reach 121 = .ok (.bipush 8, 2) := by decide +kernel
theorem dX8_reach_123 : decode cX8_reach 123 = .ok (.irem, 1) := by decide +kernel
theorem dX8_reach_124 : decode cX8_reach 124 = .ok (.iload_n 2, 1) := by decide +kernel
theorem dX8_reach_125 : decode cX8_reach 125 = .ok (.iload_n 3, 1) := by decide +kernel
theorem dX8_reach_126 : decode cX8_reach 126 = .ok (.invokevirtual 190, 3) := by decide +kernel
theorem dX8_reach_129 : decode cX8_reach 129 = .ok (.ifCond .ne 6, 3) := by decide +kernel
theorem dX8_reach_132 : decode cX8_reach 132 = .ok (.iload 4, 2) := by decide +kernel
theorem dX8_reach_134 : decode cX8_reach 134 = .ok (.ireturn, 1) := by decide +kernel
theorem dX8_reach_135 : decode cX8_reach 135 = .ok (.iinc 5 1, 3) := by decide +kernel
theorem dX8_reach_138 : decode cX8_reach 138 = .ok (.goto (-53), 3) := by decide +kernel
theorem dX8_reach_141 : decode cX8_reach 141 = .ok (.iconst 0, 1) := by decide +kernel
theorem dX8_reach_142 : decode cX8_reach 142 = .ok (.istore 5, 2) := by decide +kernel
theorem dX8_reach_144 : decode cX8_reach 144 = .ok (.iload 5, 2) := by decide +kernel
theorem dX8_reach_146 : decode cX8_reach 146 = .ok (.sipush 192, 3) := by decide +kernel
theorem dX8_reach_149 : decode cX8_reach 149 = .ok (.if_icmp .ge 30, 3) := by decide +kernel
theorem dX8_reach_152 : decode cX8_reach 152 = .ok (.aload_n 0, 1) := by decide +kernel
theorem dX8_reach_153 : decode cX8_reach 153 = .ok (.getfield 123, 3) := by decide +kernel
theorem dX8_reach_156 : decode cX8_reach 156 = .ok (.iload 5, 2) := by decide +kernel
theorem dX8_reach_158 : decode cX8_reach 158 = .ok (.iaload, 1) := by decide +kernel
theorem dX8_reach_159 : decode cX8_reach 159 = .ok (.iload 4, 2) := by decide +kernel
theorem dX8_reach_161 : decode cX8_reach 161 = .ok (.if_icmp .ne 12, 3) := by decide +kernel
theorem dX8_reach_164 : decode cX8_reach 164 = .ok (.aload_n 0, 1) := by decide +kernel
theorem dX8_reach_165 : decode cX8_reach 165 = .ok (.iload_n 1, 1) := by decide +kernel
theorem dX8_reach_166 : decode cX8_reach 166 = .ok (.iload 5, 2) := by decide +kernel
theorem dX8_reach_168 : decode cX8_reach 168 = .ok (.iload 4, 2) := by decide +kernel
theorem dX8_reach_170 : decode cX8_reach 170 = .ok (.invokevirtual 248, 3) := by decide +kernel
theorem dX8_reach_173 : decode cX8_reach 173 = .ok (.iinc 5 1, 3) := by decide +kernel
theorem dX8_reach_176 : decode cX8_reach 176 = .ok (.goto (-32), 3) := by decide +kernel
theorem dX8_reach_179 : decode cX8_reach 179 = .ok (.iinc 4 1, 3) := by decide +kernel
theorem dX8_reach_182 : decode cX8_reach 182 = .ok (.goto (-106), 3) := by decide +kernel
theorem dX8_reach_185 : decode cX8_reach 185 = .ok (.iconst (-1), 1) := by decide +kernel
theorem dX8_reach_186 : decode cX8_reach 186 = .ok (.ireturn, 1) := by decide +kernel
theorem dX8_runAll_0 : decode cX8_runAll 0 = .ok (.iconst 0, 1) := by decide +kernel
theorem dX8_runAll_1 : decode cX8_runAll 1 = .ok (.istore 4, 2) := by decide +kernel
theorem dX8_runAll_3 : decode cX8_runAll 3 = .ok (.iload 4, 2) := by decide +kernel
theorem dX8_runAll_5 : decode cX8_runAll 5 = .ok (.aload_n 0, 1) := by decide +kernel
theorem dX8_runAll_6 : decode cX8_runAll 6 = .ok (.getfield 133, 3) := by decide +kernel
theorem dX8_runAll_9 : decode cX8_runAll 9 = .ok (.if_icmp .ge 108, 3) := by decide +kernel
theorem dX8_runAll_12 : decode cX8_runAll 12 = .ok (.aload_n 0, 1) := by decide +kernel
theorem dX8_runAll_13 : decode cX8_runAll 13 = .ok (.iload_n 2, 1) := by decide +kernel
theorem dX8_runAll_14 : decode cX8_runAll 14 = .ok (.bipush 32, 2) := by decide +kernel
theorem dX8_runAll_16 : decode cX8_runAll 16 = .ok (.idiv, 1) := by decide +kernel
theorem dX8_runAll_17 : decode cX8_runAll 17 = .ok (.iload_n 2, 1) := by decide +kernel
theorem dX8_runAll_18 : decode cX8_runAll 18 = .ok (.bipush 8, 2) := by decide +kernel
theorem dX8_runAll_20 : decode cX8_runAll 20 = .ok (.idiv, 1) := by decide +kernel
theorem dX8_runAll_21 : decode cX8_runAll 21 = .ok (.iconst 4, 1) := by decide +kernel
theorem dX8_runAll_22 : decode cX8_runAll 22 = .ok (.irem, 1) := by decide +kernel
theorem dX8_runAll_23 : decode cX8_runAll 23 = .ok (.iload_n 1, 1) := by decide +kernel
theorem dX8_runAll_24 : decode cX8_runAll 24 = .ok (.iload_n 2, 1) := by decide +kernel
theorem dX8_runAll_25 : decode cX8_runAll 25 = .ok (.bipush 8, 2) := by decide +kernel
theorem dX8_runAll_27 : decode cX8_runAll 27 = .ok (.irem, 1) := by decide +kernel
theorem dX8_runAll_28 : decode cX8_runAll 28 = .ok (.iload 4, 2) := by decide +kernel
theorem dX8_runAll_30 : decode cX8_runAll 30 = .ok (.iconst 4, 1) := by decide +kernel
theorem dX8_runAll_31 : decode cX8_runAll 31 = .ok (.invokevirtual 190, 3) := by decide +kernel
theorem dX8_runAll_34 : decode cX8_runAll 34 = .ok (.ifCond .ne 77, 3) := by decide +kernel
theorem dX8_runAll_37 : decode cX8_runAll 37 = .ok (.aload_n 0, 1) := by decide +kernel
theorem dX8_runAll_38 : decode cX8_runAll 38 = .ok (.iload_n 1, 1) := by decide +kernel
theorem dX8_runAll_39 : decode cX8_runAll 39 = .ok (.iload_n 2, 1) := by decide +kernel
theorem dX8_runAll_40 : decode cX8_runAll 40 = .ok (.bipush 32, 2) := by decide +kernel
theorem dX8_runAll_42 : decode cX8_runAll 42 = .ok (.idiv, 1) := by decide +kernel
theorem dX8_runAll_43 : decode cX8_runAll 43 = .ok (.iload_n 2, 1) := by decide +kernel
theorem dX8_runAll_44 : decode cX8_runAll 44 = .ok (.bipush 8, 2) := by decide +kernel
theorem dX8_runAll_46 : decode cX8_runAll 46 = .ok (.idiv, 1) := by decide +kernel
theorem dX8_runAll_47 : decode cX8_runAll 47 = .ok (.iconst 4, 1) := by decide +kernel
theorem dX8_runAll_48 : decode cX8_runAll 48 = .ok (.irem, 1) := by decide +kernel
theorem dX8_runAll_49 : decode cX8_runAll 49 = .ok (.iload_n 2, 1) := by decide +kernel
theorem dX8_runAll_50 : decode cX8_runAll 50 = .ok (.bipush 8, 2) := by decide +kernel
theorem dX8_runAll_52 : decode cX8_runAll 52 = .ok (.irem, 1) := by decide +kernel
theorem dX8_runAll_53 : decode cX8_runAll 53 = .ok (.iload 4, 2) := by decide +kernel
theorem dX8_runAll_55 : decode cX8_runAll 55 = .ok (.invokevirtual 219, 3) := by decide +kernel
theorem dX8_runAll_58 : decode cX8_runAll 58 = .ok (.bipush 32, 2) := by decide +kernel
theorem dX8_runAll_60 : decode cX8_runAll 60 = .ok (.aload_n 0, 1) := by decide +kernel
theorem dX8_runAll_61 : decode cX8_runAll 61 = .ok (.getfield 209, 3) := by decide +kernel
theorem dX8_runAll_64 : decode cX8_runAll 64 = .ok (.imul, 1) := by decide +kernel
theorem dX8_runAll_65 : decode cX8_runAll 65 = .ok (.bipush 8, 2) := by decide +kernel
theorem dX8_runAll_67 : decode cX8_runAll 67 = .ok (.aload_n 0, 1) := by decide +kernel
theorem dX8_runAll_68 : decode cX8_runAll 68 = .ok (.getfield 206, 3) := by decide +kernel
theorem dX8_runAll_71 : decode cX8_runAll 71 = .ok (.imul, 1) := by decide +kernel
theorem dX8_runAll_72 : decode cX8_runAll 72 = .ok (.iadd, 1) := by decide +kernel
theorem dX8_runAll_73 : decode cX8_runAll 73 = .ok (.aload_n 0, 1) := by decide +kernel
theorem dX8_runAll_74 : decode cX8_runAll 74 = .ok (.getfield 212, 3) := by decide +kernel
theorem dX8_runAll_77 : decode cX8_runAll 77 = .ok (.iadd, 1) := by decide +kernel
theorem dX8_runAll_78 : decode cX8_runAll 78 = .ok (.istore 5, 2) := by decide +kernel
theorem dX8_runAll_80 : decode cX8_runAll 80 = .ok (.aload_n 0, 1) := by decide +kernel
theorem dX8_runAll_81 : decode cX8_runAll 81 = .ok (.getfield 123, 3) := by decide +kernel
theorem dX8_runAll_84 : decode cX8_runAll 84 = .ok (.iload 5, 2) := by decide +kernel
theorem dX8_runAll_86 : decode cX8_runAll 86 = .ok (.aload_n 0, 1) := by decide +kernel
theorem dX8_runAll_87 : decode cX8_runAll 87 = .ok (.getfield 123, 3) := by decide +kernel
theorem dX8_runAll_90 : decode cX8_runAll 90 = .ok (.iload 5, 2) := by decide +kernel
theorem dX8_runAll_92 : decode cX8_runAll 92 = .ok (.iaload, 1) := by decide +kernel
theorem dX8_runAll_93 : decode cX8_runAll 93 = .ok (.iconst (-1), 1) := by decide +kernel
theorem dX8_runAll_94 : decode cX8_runAll 94 = .ok (.if_icmp .ne 9, 3) := by decide +kernel
theorem dX8_runAll_97 : decode cX8_runAll 97 = .ok (.iload_n 3, 1) := by decide +kernel
theorem dX8_runAll_98 : decode cX8_runAll 98 = .ok (.iconst 1, 1) := by decide +kernel
theorem dX8_runAll_99 : decode cX8_runAll 99 = .ok (.iadd, 1) := by decide +kernel
theorem dX8_runAll_100 : decode cX8_runAll 100 = .ok (.goto 10, 3) := by decide +kernel
theorem dX8_runAll_103 : decode cX8_runAll 103 = .ok (.aload_n 0, 1) := by decide +kernel
theorem dX8_runAll_104 : decode cX8_runAll 104 = .ok (.getfield 123, 3) := by decide +kernel
theorem dX8_runAll_107 : decode cX8_runAll 107 = .ok (.iload 5, 2) := by decide +kernel
theorem dX8_runAll_109 : decode cX8_runAll 109 = .ok (.iaload, 1) := by decide +kernel
theorem dX8_runAll_110 : decode cX8_runAll 110 = .ok (.iastore, 1) := by decide +kernel
theorem dX8_runAll_111 : decode cX8_runAll 111 = .ok (.iinc 4 1, 3) := by decide +kernel
theorem dX8_runAll_114 : decode cX8_runAll 114 = .ok (.goto (-111), 3) := by decide +kernel
theorem dX8_runAll_117 : decode cX8_runAll 117 = .ok (.return_, 1) := by decide +kernel
theorem dX8_reachAnew_0 : decode cX8_reachAnew 0 = .ok (.aload_n 0, 1) := by decide +kernel
theorem dX8_reachAnew_1 : decode cX8_reachAnew 1 = .ok (.iload_n 1, 1) := by decide +kernel
theorem dX8_reachAnew_2 : decode cX8_reachAnew 2 = .ok (.iload_n 2, 1) := by decide +kernel
theorem dX8_reachAnew_3 : decode cX8_reachAnew 3 = .ok (.iload_n 3, 1) := by decide +kernel
theorem dX8_reachAnew_4 : decode cX8_reachAnew 4 = .ok (.invokevirtual 252, 3) := by decide +kernel
theorem dX8_reachAnew_7 : decode cX8_reachAnew 7 = .ok (.ireturn, 1) := by decide +kernel
theorem dX8_least_0 : decode cX8_least 0 = .ok (.iload_n 1, 1) := by decide +kernel
theorem dX8_least_1 : decode cX8_least 1 = .ok (.invokestatic 150, 3) := by decide +kernel
theorem dX8_least_4 : decode cX8_least 4 = .ok (.ifCond .eq 15, 3) := by decide +kernel
theorem dX8_least_7 : decode cX8_least 7 = .ok (.aload_n 0, 1) := by decide +kernel
theorem dX8_least_8 : decode cX8_least 8 = .ok (.iload_n 2, 1) := by decide +kernel
theorem dX8_least_9 : decode cX8_least 9 = .ok (.invokevirtual 159, 3) := by decide +kernel
theorem dX8_least_12 : decode cX8_least 12 = .ok (.ifCond .eq 7, 3) := by decide +kernel
theorem dX8_least_15 : decode cX8_least 15 = .ok (.iconst 1, 1) := by decide +kernel
theorem dX8_least_16 : decode cX8_least 16 = .ok (.goto 4, 3) := by decide +kernel
theorem dX8_least_19 : decode cX8_least 19 = .ok (.iconst 0, 1) := by decide +kernel
theorem dX8_least_20 : decode cX8_least 20 = .ok (.istore 4, 2) := by decide +kernel
theorem dX8_least_22 : decode cX8_least 22 = .ok (.aload_n 0, 1) := by decide +kernel
theorem dX8_least_23 : decode cX8_least 23 = .ok (.iload 4, 2) := by decide +kernel
theorem dX8_least_25 : decode cX8_least 25 = .ok (.ifCond .ne 7, 3) := by decide +kernel
theorem dX8_least_28 : decode cX8_least 28 = .ok (.iconst 1, 1) := by decide +kernel
theorem dX8_least_29 : decode cX8_least 29 = .ok (.goto 15, 3) := by decide +kernel
theorem dX8_least_32 : decode cX8_least 32 = .ok (.iload_n 3, 1) := by decide +kernel
theorem dX8_least_33 : decode cX8_least 33 = .ok (.invokestatic 194, 3) := by decide +kernel
theorem dX8_least_36 : decode cX8_least 36 = .ok (.ifCond .ne 7, 3) := by decide +kernel
theorem dX8_least_39 : decode cX8_least 39 = .ok (.iconst 2, 1) := by decide +kernel
theorem dX8_least_40 : decode cX8_least 40 = .ok (.goto 4, 3) := by decide +kernel
theorem dX8_least_43 : decode cX8_least 43 = .ok (.iconst 0, 1) := by decide +kernel
theorem dX8_least_44 : decode cX8_least 44 = .ok (.invokevirtual 154, 3) := by decide +kernel
theorem dX8_least_47 : decode cX8_least 47 = .ok (.ifCond .eq 7, 3) := by decide +kernel
theorem dX8_least_50 : decode cX8_least 50 = .ok (.iconst 0, 1) := by decide +kernel
theorem dX8_least_51 : decode cX8_least 51 = .ok (.goto 10, 3) := by decide +kernel
theorem dX8_least_54 : decode cX8_least 54 = .ok (.aload_n 0, 1) := by decide +kernel
theorem dX8_least_55 : decode cX8_least 55 = .ok (.iload_n 1, 1) := by decide +kernel
theorem dX8_least_56 : decode cX8_least 56 = .ok (.iload_n 2, 1) := by decide +kernel
theorem dX8_least_57 : decode cX8_least 57 = .ok (.iload_n 3, 1) := by decide +kernel
theorem dX8_least_58 : decode cX8_least 58 = .ok (.invokevirtual 187, 3) := by decide +kernel
theorem dX8_least_61 : decode cX8_least 61 = .ok (.ireturn, 1) := by decide +kernel
theorem dX8_leastAnew_0 : decode cX8_leastAnew 0 = .ok (.aload_n 0, 1) := by decide +kernel
theorem dX8_leastAnew_1 : decode cX8_leastAnew 1 = .ok (.iload_n 1, 1) := by decide +kernel
theorem dX8_leastAnew_2 : decode cX8_leastAnew 2 = .ok (.iload_n 2, 1) := by decide +kernel
theorem dX8_leastAnew_3 : decode cX8_leastAnew 3 = .ok (.iload_n 3, 1) := by decide +kernel
theorem dX8_leastAnew_4 : decode cX8_leastAnew 4 = .ok (.invokevirtual 255, 3) := by decide +kernel
theorem dX8_leastAnew_7 : decode cX8_leastAnew 7 = .ok (.ireturn, 1) := by decide +kernel
