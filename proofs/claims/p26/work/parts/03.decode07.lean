theorem dX8_isSame_40 : decode cX8_isSame 40 = .ok (.iload 4, 2) := by decide +kernel
theorem dX8_isSame_42 : decode cX8_isSame 42 = .ok (.aload_n 0, 1) := by decide +kernel
theorem dX8_isSame_43 : decode cX8_isSame 43 = .ok (.getfield 15, 3) := by decide +kernel
theorem dX8_isSame_46 : decode cX8_isSame 46 = .ok (.arraylength, 1) := by decide +kernel
theorem dX8_isSame_47 : decode cX8_isSame 47 = .ok (.if_icmp .ge 278, 3) := by decide +kernel
theorem dX8_isSame_50 : decode cX8_isSame 50 = .ok (.iconst 0, 1) := by decide +kernel
theorem dX8_isSame_51 : decode cX8_isSame 51 = .ok (.istore 5, 2) := by decide +kernel
theorem dX8_isSame_53 : decode cX8_isSame 53 = .ok (.iconst 0, 1) := by decide +kernel
theorem dX8_isSame_54 : decode cX8_isSame 54 = .ok (.istore 6, 2) := by decide +kernel
theorem dX8_isSame_56 : decode cX8_isSame 56 = .ok (.iconst 0, 1) := by decide +kernel
theorem dX8_isSame_57 : decode cX8_isSame 57 = .ok (.istore 7, 2) := by decide +kernel
theorem dX8_isSame_59 : decode cX8_isSame 59 = .ok (.iload 7, 2) := by decide +kernel
theorem dX8_isSame_61 : decode cX8_isSame 61 = .ok (.aload_n 0, 1) := by decide +kernel
theorem dX8_isSame_62 : decode cX8_isSame 62 = .ok (.getfield 19, 3) := by decide +kernel
theorem dX8_isSame_65 : decode cX8_isSame 65 = .ok (.arraylength, 1) := by decide +kernel
theorem dX8_isSame_66 : decode cX8_isSame 66 = .ok (.if_icmp .ge 62, 3) := by decide +kernel
theorem dX8_isSame_69 : decode cX8_isSame 69 = .ok (.aload_n 0, 1) := by decide +kernel
theorem dX8_isSame_70 : decode cX8_isSame 70 = .ok (.getfield 19, 3) := by decide +kernel
theorem dX8_isSame_73 : decode cX8_isSame 73 = .ok (.iload 7, 2) := by decide +kernel
theorem dX8_isSame_75 : decode cX8_isSame 75 = .ok (.aaload, 1) := by decide +kernel
theorem dX8_isSame_76 : decode cX8_isSame 76 = .ok (.iconst 0, 1) := by decide +kernel
theorem dX8_isSame_77 : decode cX8_isSame 77 = .ok (.iaload, 1) := by decide +kernel
theorem dX8_isSame_78 : decode cX8_isSame 78 = .ok (.iload 4, 2) := by decide +kernel
theorem dX8_isSame_80 : decode cX8_isSame 80 = .ok (.if_icmp .eq 20, 3) := by decide +kernel
theorem dX8_isSame_83 : decode cX8_isSame 83 = .ok (.aload_n 0, 1) := by decide +kernel
theorem dX8_isSame_84 : decode cX8_isSame 84 = .ok (.getfield 19, 3) := by decide +kernel
theorem dX8_isSame_87 : decode cX8_isSame 87 = .ok (.iload 7, 2) := by decide +kernel
theorem dX8_isSame_89 : decode cX8_isSame 89 = .ok (.aaload, 1) := by decide +kernel
theorem dX8_isSame_90 : decode cX8_isSame 90 = .ok (.iconst 1, 1) := by decide +kernel
theorem dX8_isSame_91 : decode cX8_isSame 91 = .ok (.iaload, 1) := by decide +kernel
theorem dX8_isSame_92 : decode cX8_isSame 92 = .ok (.iload 4, 2) := by decide +kernel
theorem dX8_isSame_94 : decode cX8_isSame 94 = .ok (.if_icmp .eq 6, 3) := by decide +kernel
theorem dX8_isSame_97 : decode cX8_isSame 97 = .ok (.goto 25, 3) := by decide +kernel
theorem dX8_isSame_100 : decode cX8_isSame 100 = .ok (.iinc 5 1, 3) := by decide +kernel
theorem dX8_isSame_103 : decode cX8_isSame 103 = .ok (.iload 6, 2) := by decide +kernel
theorem dX8_isSame_105 : decode cX8_isSame 105 = .ok (.aload_n 0, 1) := by decide +kernel
theorem dX8_isSame_106 : decode cX8_isSame 106 = .ok (.iload 7, 2) := by decide +kernel
theorem dX8_isSame_108 : decode cX8_isSame 108 = .ok (.invokevirtual 42, 3) := by decide +kernel
theorem dX8_isSame_111 : decode cX8_isSame 111 = .ok (.ifCond .eq 7, 3) := by decide +kernel
theorem dX8_isSame_114 : decode cX8_isSame 114 = .ok (.iconst 1, 1) := by decide +kernel
theorem dX8_isSame_115 : decode cX8_isSame 115 = .ok (.goto 4, 3) := by decide +kernel
theorem dX8_isSame_118 : decode cX8_isSame 118 = .ok (.iconst 0, 1) := by decide +kernel
theorem dX8_isSame_119 : decode cX8_isSame 119 = .ok (.iadd, 1) := by decide +kernel
theorem dX8_isSame_120 : decode cX8_isSame 120 = .ok (.istore 6, 2) := by decide +kernel
theorem dX8_isSame_122 : decode cX8_isSame 122 = .ok (.iinc 7 1, 3) := by decide +kernel
theorem dX8_isSame_125 : decode cX8_isSame 125 = .ok (.goto (-66), 3) := by decide +kernel
theorem dX8_isSame_128 : decode cX8_isSame 128 = .ok (.bipush 7, 2) := by decide +kernel
theorem dX8_isSame_130 : decode cX8_isSame 130 = .ok (.newarray .int, 2) := by decide +kernel
theorem dX8_isSame_132 : decode cX8_isSame 132 = .ok (.dup, 1) := by decide +kernel
theorem dX8_isSame_133 : decode cX8_isSame 133 = .ok (.iconst 0, 1) := by decide +kernel
theorem dX8_isSame_134 : decode cX8_isSame 134 = .ok (.aload_n 0, 1) := by decide +kernel
theorem dX8_isSame_135 : decode cX8_isSame 135 = .ok (.getfield 15, 3) := by decide +kernel
theorem dX8_isSame_138 : decode cX8_isSame 138 = .ok (.iload 4, 2) := by decide +kernel
theorem dX8_isSame_140 : decode cX8_isSame 140 = .ok (.aaload, 1) := by decide +kernel
theorem dX8_isSame_141 : decode cX8_isSame 141 = .ok (.iconst 0, 1) := by decide +kernel
theorem dX8_isSame_142 : decode cX8_isSame 142 = .ok (.iaload, 1) := by decide +kernel
theorem dX8_isSame_143 : decode cX8_isSame 143 = .ok (.iastore, 1) := by decide +kernel
theorem dX8_isSame_144 : decode cX8_isSame 144 = .ok (.dup, 1) := by decide +kernel
theorem dX8_isSame_145 : decode cX8_isSame 145 = .ok (.iconst 1, 1) := by decide +kernel
theorem dX8_isSame_146 : decode cX8_isSame 146 = .ok (.aload_n 0, 1) := by decide +kernel
theorem dX8_isSame_147 : decode cX8_isSame 147 = .ok (.getfield 15, 3) := by decide +kernel
theorem dX8_isSame_150 : decode cX8_isSame 150 = .ok (.iload 4, 2) := by decide +kernel
theorem dX8_isSame_152 : decode cX8_isSame 152 = .ok (.aaload, 1) := by decide +kernel
theorem dX8_isSame_153 : decode cX8_isSame 153 = .ok (.iconst 1, 1) := by decide +kernel
theorem dX8_isSame_154 : decode cX8_isSame 154 = .ok (.iaload, 1) := by decide +kernel
theorem dX8_isSame_155 : decode cX8_isSame 155 = .ok (.iastore, 1) := by decide +kernel
theorem dX8_isSame_156 : decode cX8_isSame 156 = .ok (.dup, 1) := by decide +kernel
theorem dX8_isSame_157 : decode cX8_isSame 157 = .ok (.iconst 2, 1) := by decide +kernel
theorem dX8_isSame_158 : decode cX8_isSame 158 = .ok (.aload_n 0, 1) := by decide +kernel
theorem dX8_isSame_159 : decode cX8_isSame 159 = .ok (.getfield 15, 3) := by decide +kernel
theorem dX8_isSame_162 : decode cX8_isSame 162 = .ok (.iload 4, 2) := by decide +kernel
theorem dX8_isSame_164 : decode cX8_isSame 164 = .ok (.aaload, 1) := by decide +kernel
theorem dX8_isSame_165 : decode cX8_isSame 165 = .ok (.iconst 2, 1) := by decide +kernel
theorem dX8_isSame_166 : decode cX8_isSame 166 = .ok (.iaload, 1) := by decide +kernel
theorem dX8_isSame_167 : decode cX8_isSame 167 = .ok (.iastore, 1) := by decide +kernel
theorem dX8_isSame_168 : decode cX8_isSame 168 = .ok (.dup, 1) := by decide +kernel
theorem dX8_isSame_169 : decode cX8_isSame 169 = .ok (.iconst 3, 1) := by decide +kernel
theorem dX8_isSame_170 : decode cX8_isSame 170 = .ok (.aload_n 0, 1) := by decide +kernel
theorem dX8_isSame_171 : decode cX8_isSame 171 = .ok (.getfield 15, 3) := by decide +kernel
theorem dX8_isSame_174 : decode cX8_isSame 174 = .ok (.iload 4, 2) := by decide +kernel
theorem dX8_isSame_176 : decode cX8_isSame 176 = .ok (.aaload, 1) := by decide +kernel
theorem dX8_isSame_177 : decode cX8_isSame 177 = .ok (.iconst 2, 1) := by decide +kernel
theorem dX8_isSame_178 : decode cX8_isSame 178 = .ok (.iaload, 1) := by decide +kernel
theorem dX8_isSame_179 : decode cX8_isSame 179 = .ok (.aload_n 0, 1) := by decide +kernel
theorem dX8_isSame_180 : decode cX8_isSame 180 = .ok (.iload 4, 2) := by decide +kernel
theorem dX8_isSame_182 : decode cX8_isSame 182 = .ok (.invokevirtual 72, 3) := by decide +kernel
theorem dX8_isSame_185 : decode cX8_isSame 185 = .ok (.isub, 1) := by decide +kernel
theorem dX8_isSame_186 : decode cX8_isSame 186 = .ok (.iastore, 1) := by decide +kernel
theorem dX8_isSame_187 : decode cX8_isSame 187 = .ok (.dup, 1) := by decide +kernel
theorem dX8_isSame_188 : decode cX8_isSame 188 = .ok (.iconst 4, 1) := by decide +kernel
theorem dX8_isSame_189 : decode cX8_isSame 189 = .ok (.aload_n 0, 1) := by decide +kernel
theorem dX8_isSame_190 : decode cX8_isSame 190 = .ok (.iload 4, 2) := by decide +kernel
theorem dX8_isSame_192 : decode cX8_isSame 192 = .ok (.invokevirtual 51, 3) := by decide +kernel
theorem dX8_isSame_195 : decode cX8_isSame 195 = .ok (.iastore, 1) := by decide +kernel
theorem dX8_isSame_196 : decode cX8_isSame 196 = .ok (.dup, 1) := by decide +kernel
theorem dX8_isSame_197 : decode cX8_isSame 197 = .ok (.iconst 5, 1) := by decide +kernel
theorem dX8_isSame_198 : decode cX8_isSame 198 = .ok (.iload 5, 2) := by decide +kernel
theorem dX8_isSame_200 : decode cX8_isSame 200 = .ok (.iastore, 1) := by decide +kernel
theorem dX8_isSame_201 : decode cX8_isSame 201 = .ok (.dup, 1) := by decide +kernel
theorem dX8_isSame_202 : decode cX8_isSame 202 = .ok (.bipush 6, 2) := by decide +kernel
theorem dX8_isSame_204 : decode cX8_isSame 204 = .ok (.iload 6, 2) := by decide +kernel
theorem dX8_isSame_206 : decode cX8_isSame 206 = .ok (.iastore, 1) := by decide +kernel
theorem dX8_isSame_207 : decode cX8_isSame 207 = .ok (.astore 7, 2) := by decide +kernel
theorem dX8_isSame_209 : decode cX8_isSame 209 = .ok (.iconst 0, 1) := by decide +kernel
theorem dX8_isSame_210 : decode cX8_isSame 210 = .ok (.istore 8, 2) := by decide +kernel
theorem dX8_isSame_212 : decode cX8_isSame 212 = .ok (.iload 8, 2) := by decide +kernel
theorem dX8_isSame_214 : decode cX8_isSame 214 = .ok (.bipush 7, 2) := by decide +kernel
theorem dX8_isSame_216 : decode cX8_isSame 216 = .ok (.if_icmp .ge 27, 3) := by decide +kernel
theorem dX8_isSame_219 : decode cX8_isSame 219 = .ok (.aload_n 1, 1) := by decide +kernel
theorem dX8_isSame_220 : decode cX8_isSame 220 = .ok (.iload 4, 2) := by decide +kernel
theorem dX8_isSame_222 : decode cX8_isSame 222 = .ok (.iload 8, 2) := by decide +kernel
theorem dX8_isSame_224 : decode cX8_isSame 224 = .ok (.invokevirtual 106, 3) := by decide +kernel
theorem dX8_isSame_227 : decode cX8_isSame 227 = .ok (.aload 7, 2) := by decide +kernel
theorem dX8_isSame_229 : decode cX8_isSame 229 = .ok (.iload 8, 2) := by decide +kernel
theorem dX8_isSame_231 : decode cX8_isSame 231 = .ok (.iaload, 1) := by decide +kernel
theorem dX8_isSame_232 : decode cX8_isSame 232 = .ok (.if_icmp .eq 5, 3) := by decide +kernel
theorem dX8_isSame_235 : decode cX8_isSame 235 = .ok (.iconst 0, 1) := by decide +kernel
theorem dX8_isSame_236 : decode cX8_isSame 236 = .ok (.ireturn, 1) := by decide +kernel
theorem dX8_isSame_237 : decode cX8_isSame 237 = .ok (.iinc 8 1, 3) := by decide +kernel
theorem dX8_isSame_240 : decode cX8_isSame 240 = .ok (.goto (-28), 3) := by decide +kernel
theorem dX8_isSame_243 : decode cX8_isSame 243 = .ok (.iconst 0, 1) := by decide +kernel
theorem dX8_isSame_244 : decode cX8_isSame 244 = .ok (.istore 8, 2) := by decide +kernel
theorem dX8_isSame_246 : decode cX8_isSame 246 = .ok (.iload 8, 2) := by decide +kernel
theorem dX8_isSame_248 : decode cX8_isSame 248 = .ok (.aload_n 0, 1) := by decide +kernel
theorem dX8_isSame_249 : decode cX8_isSame 249 = .ok (.getfield 15, 3) := by decide +kernel
theorem dX8_isSame_252 : decode cX8_isSame 252 = .ok (.arraylength, 1) := by decide +kernel
theorem dX8_isSame_253 : decode cX8_isSame 253 = .ok (.if_icmp .ge 66, 3) := by decide +kernel
theorem dX8_isSame_256 : decode cX8_isSame 256 = .ok (.aload_n 1, 1) := by decide +kernel
theorem dX8_isSame_257 : decode cX8_isSame 257 = .ok (.iload 4, 2) := by decide +kernel
theorem dX8_isSame_259 : decode cX8_isSame 259 = .ok (.iload 8, 2) := by decide +kernel
theorem dX8_isSame_261 : decode cX8_isSame 261 = .ok (.invokevirtual 109, 3) := by decide +kernel
theorem dX8_isSame_264 : decode cX8_isSame 264 = .ok (.aload_n 3, 1) := by decide +kernel
theorem dX8_isSame_265 : decode cX8_isSame 265 = .ok (.iload 4, 2) := by decide +kernel
theorem dX8_isSame_267 : decode cX8_isSame 267 = .ok (.aaload, 1) := by decide +kernel
theorem dX8_isSame_268 : decode cX8_isSame 268 = .ok (.iload 8, 2) := by decide +kernel
theorem dX8_isSame_270 : decode cX8_isSame 270 = .ok (.iaload, 1) := by decide +kernel
theorem dX8_isSame_271 : decode cX8_isSame 271 = .ok (.sipush 9000, 3) := by decide +kernel
theorem dX8_isSame_274 : decode cX8_isSame 274 = .ok (.if_icmp .le 7, 3) := by decide +kernel
theorem dX8_isSame_277 : decode cX8_isSame 277 = .ok (.iconst (-1), 1) := by decide +kernel
theorem dX8_isSame_278 : decode cX8_isSame 278 = .ok (.goto 10, 3) := by decide +kernel
theorem dX8_isSame_281 : decode cX8_isSame 281 = .ok (.aload_n 3, 1) := by decide +kernel
theorem dX8_isSame_282 : decode cX8_isSame 282 = .ok (.iload 4, 2) := by decide +kernel
theorem dX8_isSame_284 : decode cX8_isSame 284 = .ok (.aaload, 1) := by decide +kernel
theorem dX8_isSame_285 : decode cX8_isSame 285 = .ok (.iload 8, 2) := by decide +kernel
theorem dX8_isSame_287 : decode cX8_isSame 287 = .ok (.iaload, 1) := by decide +kernel
theorem dX8_isSame_288 : decode cX8_isSame 288 = .ok (.if_icmp .ne 23, 3) := by decide +kernel
theorem dX8_isSame_291 : decode cX8_isSame 291 = .ok (.aload_n 1, 1) := by decide +kernel
theorem dX8_isSame_292 : decode cX8_isSame 292 = .ok (.iload 4, 2) := by decide +kernel
theorem dX8_isSame_294 : decode cX8_isSame 294 = .ok (.iload 8, 2) := by decide +kernel
theorem dX8_isSame_296 : decode cX8_isSame 296 = .ok (.invokevirtual 112, 3) := by decide +kernel
theorem dX8_isSame_299 : decode cX8_isSame 299 = .ok (.aload_n 0, 1) := by decide +kernel
theorem dX8_isSame_300 : decode cX8_isSame 300 = .ok (.aload_n 3, 1) := by decide +kernel
theorem dX8_isSame_301 : decode cX8_isSame 301 = .ok (.iload 4, 2) := by decide +kernel
theorem dX8_isSame_303 : decode cX8_isSame 303 = .ok (.iload 8, 2) := by decide +kernel
theorem dX8_isSame_305 : decode cX8_isSame 305 = .ok (.invokevirtual 75, 3) := by decide +kernel
theorem dX8_isSame_308 : decode cX8_isSame 308 = .ok (.if_icmp .eq 5, 3) := by decide +kernel
theorem dX8_isSame_311 : decode cX8_isSame 311 = .ok (.iconst 0, 1) := by decide +kernel
theorem dX8_isSame_312 : decode cX8_isSame 312 = .ok (.ireturn, 1) := by decide +kernel
theorem dX8_isSame_313 : decode cX8_isSame 313 = .ok (.iinc 8 1, 3) := by decide +kernel
theorem dX8_isSame_316 : decode cX8_isSame 316 = .ok (.goto (-70), 3) := by decide +kernel
theorem dX8_isSame_319 : decode cX8_isSame 319 = .ok (.iinc 4 1, 3) := by decide +kernel
theorem dX8_isSame_322 : decode cX8_isSame 322 = .ok (.goto (-282), 3) := by decide +kernel
theorem dX8_isSame_325 : decode cX8_isSame 325 = .ok (.iconst 0, 1) := by decide +kernel
theorem dX8_isSame_326 : decode cX8_isSame 326 = .ok (.istore 4, 2) := by decide +kernel
theorem dX8_isSame_328 : decode cX8_isSame 328 = .ok (.iload 4, 2) := by decide +kernel
theorem dX8_isSame_330 : decode cX8_isSame 330 = .ok (.aload_n 0, 1) := by decide +kernel
theorem dX8_isSame_331 : decode cX8_isSame 331 = .ok (.getfield 19, 3) := by decide +kernel
theorem dX8_isSame_334 : decode cX8_isSame 334 = .ok (.arraylength, 1) := by decide +kernel
theorem dX8_isSame_335 : decode cX8_isSame 335 = .ok (.if_icmp .ge 200, 3) := by decide +kernel
theorem dX8_isSame_338 : decode cX8_isSame 338 = .ok (.iconst 0, 1) := by decide +kernel
theorem dX8_isSame_339 : decode cX8_isSame 339 = .ok (.istore 5, 2) := by decide +kernel
theorem dX8_isSame_341 : decode cX8_isSame 341 = .ok (.aload_n 0, 1) := by decide +kernel
theorem dX8_isSame_342 : decode cX8_isSame 342 = .ok (.getfield 22, 3) := by decide +kernel
theorem dX8_isSame_345 : decode cX8_isSame 345 = .ok (.astore 6, 2) := by decide +kernel
theorem dX8_isSame_347 : decode cX8_isSame 347 = .ok (.aload 6, 2) := by decide +kernel
theorem dX8_isSame_349 : decode cX8_isSame 349 = .ok (.arraylength, 1) := by decide +kernel
theorem dX8_isSame_350 : decode cX8_isSame 350 = .ok (.istore 7, 2) := by decide +kernel
theorem dX8_isSame_352 : decode cX8_isSame 352 = .ok (.iconst 0, 1) := by decide +kernel
theorem dX8_isSame_353 : decode cX8_isSame 353 = .ok (.istore 8, 2) := by decide +kernel
theorem dX8_isSame_355 : decode cX8_isSame 355 = .ok (.iload 8, 2) := by decide +kernel
theorem dX8_isSame_357 : decode cX8_isSame 357 = .ok (.iload 7, 2) := by decide +kernel
theorem dX8_isSame_359 : decode cX8_isSame 359 = .ok (.if_icmp .ge 35, 3) := by decide +kernel
theorem dX8_isSame_362 : decode cX8_isSame 362 = .ok (.aload 6, 2) := by decide +kernel
theorem dX8_isSame_364 : decode cX8_isSame 364 = .ok (.iload 8, 2) := by decide +kernel
theorem dX8_isSame_366 : decode cX8_isSame 366 = .ok (.aaload, 1) := by decide +kernel
theorem dX8_isSame_367 : decode cX8_isSame 367 = .ok (.astore 9, 2) := by decide +kernel
theorem dX8_isSame_369 : decode cX8_isSame 369 = .ok (.iload 5, 2) := by decide +kernel
theorem dX8_isSame_371 : decode cX8_isSame 371 = .ok (.aload 9, 2) := by decide +kernel
theorem dX8_isSame_373 : decode cX8_isSame 373 = .ok (.iconst 0, 1) := by decide +kernel
theorem dX8_isSame_374 : decode cX8_isSame 374 = .ok (.iaload, 1) := by decide +kernel
theorem dX8_isSame_375 : decode cX8_isSame 375 = .ok (.iload 4, 2) := by decide +kernel
theorem dX8_isSame_377 : decode cX8_isSame 377 = .ok (.if_icmp .ne 7, 3) := by decide +kernel
theorem dX8_isSame_380 : decode cX8_isSame 380 = .ok (.iconst 1, 1) := by decide +kernel
theorem dX8_isSame_381 : decode cX8_isSame 381 = .ok (.goto 4, 3) := by decide +kernel
theorem dX8_isSame_384 : decode cX8_isSame 384 = .ok (.iconst 0, 1) := by decide +kernel
theorem dX8_isSame_385 : decode cX8_isSame 385 = .ok (.iadd, 1) := by decide +kernel
theorem dX8_isSame_386 : decode cX8_isSame 386 = .ok (.istore 5, 2) := by decide +kernel
theorem dX8_isSame_388 : decode cX8_isSame 388 = .ok (.iinc 8 1, 3) := by decide +kernel
theorem dX8_isSame_391 : decode cX8_isSame 391 = .ok (.goto (-36), 3) := by decide +kernel
theorem dX8_isSame_394 : decode cX8_isSame 394 = .ok (.bipush 6, 2) := by decide +kernel
theorem dX8_isSame_396 : decode cX8_isSame 396 = .ok (.newarray .int, 2) := by decide +kernel
theorem dX8_isSame_398 : decode cX8_isSame 398 = .ok (.dup, 1) := by decide +kernel
theorem dX8_isSame_399 : decode cX8_isSame 399 = .ok (.iconst 0, 1) := by decide +kernel
theorem dX8_isSame_400 : decode cX8_isSame 400 = .ok (.aload_n 0, 1) := by decide +kernel
theorem dX8_isSame_401 : decode cX8_isSame 401 = .ok (.getfield 19, 3) := by decide +kernel
theorem dX8_isSame_404 : decode cX8_isSame 404 = .ok (.iload 4, 2) := by decide +kernel
theorem dX8_isSame_406 : decode cX8_isSame 406 = .ok (.aaload, 1) := by decide +kernel
theorem dX8_isSame_407 : decode cX8_isSame 407 = .ok (.iconst 0, 1) := by decide +kernel
theorem dX8_isSame_408 : decode cX8_isSame 408 = .ok (.iaload, 1) := by decide +kernel
theorem dX8_isSame_409 : decode cX8_isSame 409 = .ok (.iastore, 1) := by decide +kernel
theorem dX8_isSame_410 : decode cX8_isSame 410 = .ok (.dup, 1) := by decide +kernel
theorem dX8_isSame_411 : decode cX8_isSame 411 = .ok (.iconst 1, 1) := by decide +kernel
theorem dX8_isSame_412 : decode cX8_isSame 412 = .ok (.aload_n 0, 1) := by decide +kernel
theorem dX8_isSame_413 : decode cX8_isSame 413 = .ok (.getfield 19, 3) := by decide +kernel
theorem dX8_isSame_416 : decode cX8_isSame 416 = .ok (.iload 4, 2) := by decide +kernel
theorem dX8_isSame_418 : decode cX8_isSame 418 = .ok (.aaload, 1) := by decide +kernel
theorem dX8_isSame_419 : decode cX8_isSame 419 = .ok (.iconst 1, 1) := by decide +kernel
theorem dX8_isSame_420 : decode cX8_isSame 420 = .ok (.iaload, 1) := by decide +kernel
theorem dX8_isSame_421 : decode cX8_isSame 421 = .ok (.iastore, 1) := by decide +kernel
theorem dX8_isSame_422 : decode cX8_isSame 422 = .ok (.dup, 1) := by decide +kernel
theorem dX8_isSame_423 : decode cX8_isSame 423 = .ok (.iconst 2, 1) := by decide +kernel
theorem dX8_isSame_424 : decode cX8_isSame 424 = .ok (.aload_n 0, 1) := by decide +kernel
theorem dX8_isSame_425 : decode cX8_isSame 425 = .ok (.getfield 19, 3) := by decide +kernel
theorem dX8_isSame_428 : decode cX8_isSame 428 = .ok (.iload 4, 2) := by decide +kernel
theorem dX8_isSame_430 : decode cX8_isSame 430 = .ok (.aaload, 1) := by decide +kernel
theorem dX8_isSame_431 : decode cX8_isSame 431 = .ok (.iconst 2, 1) := by decide +kernel
theorem dX8_isSame_432 : decode cX8_isSame 432 = .ok (.iaload, 1) := by decide +kernel
theorem dX8_isSame_433 : decode cX8_isSame 433 = .ok (.iastore, 1) := by decide +kernel
theorem dX8_isSame_434 : decode cX8_isSame 434 = .ok (.dup, 1) := by decide +kernel
theorem dX8_isSame_435 : decode cX8_isSame 435 = .ok (.iconst 3, 1) := by decide +kernel
theorem dX8_isSame_436 : decode cX8_isSame 436 = .ok (.iload 5, 2) := by decide +kernel
theorem dX8_isSame_438 : decode cX8_isSame 438 = .ok (.iastore, 1) := by decide +kernel
theorem dX8_isSame_439 : decode cX8_isSame 439 = .ok (.dup, 1) := by decide +kernel
theorem dX8_isSame_440 : decode cX8_isSame 440 = .ok (.iconst 4, 1) := by decide +kernel
theorem dX8_isSame_441 : decode cX8_isSame 441 = .ok (.aload_n 0, 1) := by decide +kernel
theorem dX8_isSame_442 : decode cX8_isSame 442 = .ok (.iload 4, 2) := by decide +kernel
theorem dX8_isSame_444 : decode cX8_isSame 444 = .ok (.invokevirtual 79, 3) := by decide +kernel
theorem dX8_isSame_447 : decode cX8_isSame 447 = .ok (.iastore, 1) := by decide +kernel
theorem dX8_isSame_448 : decode cX8_isSame 448 = .ok (.dup, 1) := by decide +kernel
theorem dX8_isSame_449 : decode cX8_isSame 449 = .ok (.iconst 5, 1) := by decide +kernel
theorem dX8_isSame_450 : decode cX8_isSame 450 = .ok (.aload_n 0, 1) := by decide +kernel
theorem dX8_isSame_451 : decode cX8_isSame 451 = .ok (.getfield 19, 3) := by decide +kernel
theorem dX8_isSame_454 : decode cX8_isSame 454 = .ok (.iload 4, 2) := by decide +kernel
theorem dX8_isSame_456 : decode cX8_isSame 456 = .ok (.aaload, 1) := by decide +kernel
theorem dX8_isSame_457 : decode cX8_isSame 457 = .ok (.iconst 3, 1) := by decide +kernel
theorem dX8_isSame_458 : decode cX8_isSame 458 = .ok (.iaload, 1) := by decide +kernel
theorem dX8_isSame_459 : decode cX8_isSame 459 = .ok (.iastore, 1) := by decide +kernel
theorem dX8_isSame_460 : decode cX8_isSame 460 = .ok (.astore 6, 2) := by decide +kernel
theorem dX8_isSame_462 : decode cX8_isSame 462 = .ok (.iconst 0, 1) := by decide +kernel
theorem dX8_isSame_463 : decode cX8_isSame 463 = .ok (.istore 7, 2) := by decide +kernel
theorem dX8_isSame_465 : decode cX8_isSame 465 = .ok (.iload 7, 2) := by decide +kernel
theorem dX8_isSame_467 : decode cX8_isSame 467 = .ok (.bipush 6, 2) := by decide +kernel
theorem dX8_isSame_469 : decode cX8_isSame 469 = .ok (.if_icmp .ge 27, 3) := by decide +kernel
theorem dX8_isSame_472 : decode cX8_isSame 472 = .ok (.aload_n 1, 1) := by decide +kernel
theorem dX8_isSame_473 : decode cX8_isSame 473 = .ok (.iload 4, 2) := by decide +kernel
theorem dX8_isSame_475 : decode cX8_isSame 475 = .ok (.iload 7, 2) := by decide +kernel
theorem dX8_isSame_477 : decode cX8_isSame 477 = .ok (.invokevirtual 114, 3) := by decide +kernel
theorem dX8_isSame_480 : decode cX8_isSame 480 = .ok (.aload 6, 2) := by decide +kernel
theorem dX8_isSame_482 : decode cX8_isSame 482 = .ok (.iload 7, 2) := by decide +kernel
theorem dX8_isSame_484 : decode cX8_isSame 484 = .ok (.iaload, 1) := by decide +kernel
theorem dX8_isSame_485 : decode cX8_isSame 485 = .ok (.if_icmp .eq 5, 3) := by decide +kernel
theorem dX8_isSame_488 : decode cX8_isSame 488 = .ok (.iconst 0, 1) := by decide +kernel
theorem dX8_isSame_489 : decode cX8_isSame 489 = .ok (.ireturn, 1) := by decide +kernel
theorem dX8_isSame_490 : decode cX8_isSame 490 = .ok (.iinc 7 1, 3) := by decide +kernel
theorem dX8_isSame_493 : decode cX8_isSame 493 = .ok (.goto (-28), 3) := by decide +kernel
theorem dX8_isSame_496 : decode cX8_isSame 496 = .ok (.aload_n 1, 1) := by decide +kernel
theorem dX8_isSame_497 : decode cX8_isSame 497 = .ok (.iload 4, 2) := by decide +kernel
theorem dX8_isSame_499 : decode cX8_isSame 499 = .ok (.aload_n 0, 1) := by decide +kernel
theorem dX8_isSame_500 : decode cX8_isSame 500 = .ok (.getfield 35, 3) := by decide +kernel
theorem dX8_isSame_503 : decode cX8_isSame 503 = .ok (.sipush 9999, 3) := by decide +kernel
theorem dX8_isSame_506 : decode cX8_isSame 506 = .ok (.irem, 1) := by decide +kernel
theorem dX8_isSame_507 : decode cX8_isSame 507 = .ok (.invokevirtual 116, 3) := by decide +kernel
theorem dX8_isSame_510 : decode cX8_isSame 510 = .ok (.aload_n 0, 1) := by decide +kernel
theorem dX8_isSame_511 : decode cX8_isSame 511 = .ok (.iload 4, 2) := by decide +kernel
theorem dX8_isSame_513 : decode cX8_isSame 513 = .ok (.aload_n 0, 1) := by decide +kernel
theorem dX8_isSame_514 : decode cX8_isSame 514 = .ok (.getfield 35, 3) := by decide +kernel
theorem dX8_isSame_517 : decode cX8_isSame 517 = .ok (.sipush 9999, 3) := by decide +kernel
theorem dX8_isSame_520 : decode cX8_isSame 520 = .ok (.irem, 1) := by decide +kernel
theorem dX8_isSame_521 : decode cX8_isSame 521 = .ok (.invokevirtual 38, 3) := by decide +kernel
theorem dX8_isSame_524 : decode cX8_isSame 524 = .ok (.if_icmp .eq 5, 3) := by decide +kernel
theorem dX8_isSame_527 : decode cX8_isSame 527 = .ok (.iconst 0, 1) := by decide +kernel
theorem dX8_isSame_528 : decode cX8_isSame 528 = .ok (.ireturn, 1) := by decide +kernel
theorem dX8_isSame_529 : decode cX8_isSame 529 = .ok (.iinc 4 1, 3) := by decide +kernel
theorem dX8_isSame_532 : decode cX8_isSame 532 = .ok (.goto (-204), 3) := by decide +kernel
theorem dX8_isSame_535 : decode cX8_isSame 535 = .ok (.iconst 0, 1) := by decide +kernel
theorem dX8_isSame_536 : decode cX8_isSame 536 = .ok (.istore 4, 2) := by decide +kernel
theorem dX8_isSame_538 : decode cX8_isSame 538 = .ok (.iconst 0, 1) := by decide +kernel
theorem dX8_isSame_539 : decode cX8_isSame 539 = .ok (.istore 5, 2) := by decide +kernel
theorem dX8_isSame_541 : decode cX8_isSame 541 = .ok (.iload 5, 2) := by decide +kernel
theorem dX8_isSame_543 : decode cX8_isSame 543 = .ok (.aload_n 0, 1) := by decide +kernel
theorem dX8_isSame_544 : decode cX8_isSame 544 = .ok (.getfield 25, 3) := by decide +kernel
theorem dX8_isSame_547 : decode cX8_isSame 547 = .ok (.arraylength, 1) := by decide +kernel
theorem dX8_isSame_548 : decode cX8_isSame 548 = .ok (.if_icmp .ge 138, 3) := by decide +kernel
theorem dX8_isSame_551 : decode cX8_isSame 551 = .ok (.aload_n 0, 1) := by decide +kernel
theorem dX8_isSame_552 : decode cX8_isSame 552 = .ok (.getfield 25, 3) := by decide +kernel
theorem dX8_isSame_555 : decode cX8_isSame 555 = .ok (.iload 5, 2) := by decide +kernel
theorem dX8_isSame_557 : decode cX8_isSame 557 = .ok (.aaload, 1) := by decide +kernel
theorem dX8_isSame_558 : decode cX8_isSame 558 = .ok (.astore 6, 2) := by decide +kernel
theorem dX8_isSame_560 : decode cX8_isSame 560 = .ok (.bipush 9, 2) := by decide +kernel
theorem dX8_isSame_562 : decode cX8_isSame 562 = .ok (.newarray .int, 2) := by decide +kernel
theorem dX8_isSame_564 : decode cX8_isSame 564 = .ok (.dup, 1) := by decide +kernel
theorem dX8_isSame_565 : decode cX8_isSame 565 = .ok (.iconst 0, 1) := by decide +kernel
theorem dX8_isSame_566 : decode cX8_isSame 566 = .ok (.aload 6, 2) := by decide +kernel
theorem dX8_isSame_568 : decode cX8_isSame 568 = .ok (.iconst 0, 1) := by decide +kernel
theorem dX8_isSame_569 : decode cX8_isSame 569 = .ok (.iaload, 1) := by decide +kernel
theorem dX8_isSame_570 : decode cX8_isSame 570 = .ok (.iastore, 1) := by decide +kernel
theorem dX8_isSame_571 : decode cX8_isSame 571 = .ok (.dup, 1) := by decide +kernel
theorem dX8_isSame_572 : decode cX8_isSame 572 = .ok (.iconst 1, 1) := by decide +kernel
theorem dX8_isSame_573 : decode cX8_isSame 573 = .ok (.aload 6, 2) := by decide +kernel
theorem dX8_isSame_575 : decode cX8_isSame 575 = .ok (.iconst 1, 1) := by decide +kernel
theorem dX8_isSame_576 : decode cX8_isSame 576 = .ok (.iaload, 1) := by decide +kernel
theorem dX8_isSame_577 : decode cX8_isSame 577 = .ok (.iastore, 1) := by decide +kernel
theorem dX8_isSame_578 : decode cX8_isSame 578 = .ok (.dup, 1) := by decide +kernel
theorem dX8_isSame_579 : decode cX8_isSame 579 = .ok (.iconst 2, 1) := by decide +kernel
theorem dX8_isSame_580 : decode cX8_isSame 580 = .ok (.aload 6, 2) := by decide +kernel
theorem dX8_isSame_582 : decode cX8_isSame 582 = .ok (.iconst 2, 1) := by decide +kernel
theorem dX8_isSame_583 : decode cX8_isSame 583 = .ok (.iaload, 1) := by decide +kernel
theorem dX8_isSame_584 : decode cX8_isSame 584 = .ok (.iastore, 1) := by decide +kernel
theorem dX8_isSame_585 : decode cX8_isSame 585 = .ok (.dup, 1) := by decide +kernel
theorem dX8_isSame_586 : decode cX8_isSame 586 = .ok (.iconst 3, 1) := by decide +kernel
theorem dX8_isSame_587 : decode cX8_isSame 587 = .ok (.aload 6, 2) := by decide +kernel
theorem dX8_isSame_589 : decode cX8_isSame 589 = .ok (.iconst 4, 1) := by decide +kernel
theorem dX8_isSame_590 : decode cX8_isSame 590 = .ok (.iaload, 1) := by decide +kernel
theorem dX8_isSame_591 : decode cX8_isSame 591 = .ok (.iastore, 1) := by decide +kernel
theorem dX8_isSame_592 : decode cX8_isSame 592 = .ok (.dup, 1) := by decide +kernel
theorem dX8_isSame_593 : decode cX8_isSame 593 = .ok (.iconst 4, 1) := by decide +kernel
theorem dX8_isSame_594 : decode cX8_isSame 594 = .ok (.aload 6, 2) := by decide +kernel
theorem dX8_isSame_596 : decode cX8_isSame 596 = .ok (.iconst 5, 1) := by decide +kernel
theorem dX8_isSame_597 : decode cX8_isSame 597 = .ok (.iaload, 1) := by decide +kernel
theorem dX8_isSame_598 : decode cX8_isSame 598 = .ok (.iastore, 1) := by decide +kernel
theorem dX8_isSame_599 : decode cX8_isSame 599 = .ok (.dup, 1) := by decide +kernel
theorem dX8_isSame_600 : decode cX8_isSame 600 = .ok (.iconst 5, 1) := by decide +kernel
theorem dX8_isSame_601 : decode cX8_isSame 601 = .ok (.aload 6, 2) := by decide +kernel
theorem dX8_isSame_603 : decode cX8_isSame 603 = .ok (.bipush 6, 2) := by decide +kernel
theorem dX8_isSame_605 : decode cX8_isSame 605 = .ok (.iaload, 1) := by decide +kernel
theorem dX8_isSame_606 : decode cX8_isSame 606 = .ok (.iastore, 1) := by decide +kernel
theorem dX8_isSame_607 : decode cX8_isSame 607 = .ok (.dup, 1) := by decide +kernel
theorem dX8_isSame_608 : decode cX8_isSame 608 = .ok (.bipush 6, 2) := by decide +kernel
theorem dX8_isSame_610 : decode cX8_isSame 610 = .ok (.aload 6, 2) := by decide +kernel
theorem dX8_isSame_612 : decode cX8_isSame 612 = .ok (.bipush 7, 2) := by decide +kernel
theorem dX8_isSame_614 : decode cX8_isSame 614 = .ok (.iaload, 1) := by decide +kernel
theorem dX8_isSame_615 : decode cX8_isSame 615 = .ok (.iastore, 1) := by decide +kernel
theorem dX8_isSame_616 : decode cX8_isSame 616 = .ok (.dup, 1) := by decide +kernel
theorem dX8_isSame_617 : decode cX8_isSame 617 = .ok (.bipush 7, 2) := by decide +kernel
theorem dX8_isSame_619 : decode cX8_isSame 619 = .ok (.aload 6, 2) := by decide +kernel
theorem dX8_isSame_621 : decode cX8_isSame 621 = .ok (.bipush 8, 2) := by decide +kernel
theorem dX8_isSame_623 : decode cX8_isSame 623 = .ok (.iaload, 1) := by decide +kernel
theorem dX8_isSame_624 : decode cX8_isSame 624 = .ok (.iastore, 1) := by decide +kernel
theorem dX8_isSame_625 : decode cX8_isSame 625 = .ok (.dup, 1) := by decide +kernel
theorem dX8_isSame_626 : decode cX8_isSame 626 = .ok (.bipush 8, 2) := by decide +kernel
theorem dX8_isSame_628 : decode cX8_isSame 628 = .ok (.aload 6, 2) := by decide +kernel
theorem dX8_isSame_630 : decode cX8_isSame 630 = .ok (.bipush 9, 2) := by decide +kernel
theorem dX8_isSame_632 : decode cX8_isSame 632 = .ok (.iaload, 1) := by decide +kernel
theorem dX8_isSame_633 : decode cX8_isSame 633 = .ok (.iastore, 1) := by decide +kernel
theorem dX8_isSame_634 : decode cX8_isSame 634 = .ok (.astore 7, 2) := by decide +kernel
theorem dX8_isSame_636 : decode cX8_isSame 636 = .ok (.iconst 0, 1) := by decide +kernel
theorem dX8_isSame_637 : decode cX8_isSame 637 = .ok (.istore 8, 2) := by decide +kernel
theorem dX8_isSame_639 : decode cX8_isSame 639 = .ok (.iload 8, 2) := by decide +kernel
theorem dX8_isSame_641 : decode cX8_isSame 641 = .ok (.bipush 9, 2) := by decide +kernel
theorem dX8_isSame_643 : decode cX8_isSame 643 = .ok (.if_icmp .ge 27, 3) := by decide +kernel
theorem dX8_isSame_646 : decode cX8_isSame 646 = .ok (.aload_n 1, 1) := by decide +kernel
theorem dX8_isSame_647 : decode cX8_isSame 647 = .ok (.iload 5, 2) := by decide +kernel
theorem dX8_isSame_649 : decode cX8_isSame 649 = .ok (.iload 8, 2) := by decide +kernel
theorem dX8_isSame_651 : decode cX8_isSame 651 = .ok (.invokevirtual 117, 3) := by decide +kernel
theorem dX8_isSame_654 : decode cX8_isSame 654 = .ok (.aload 7, 2) := by decide +kernel
theorem dX8_isSame_656 : decode cX8_isSame 656 = .ok (.iload 8, 2) := by decide +kernel
theorem dX8_isSame_658 : decode cX8_isSame 658 = .ok (.iaload, 1) := by decide +kernel
theorem dX8_isSame_659 : decode cX8_isSame 659 = .ok (.if_icmp .eq 5, 3) := by decide +kernel
theorem dX8_isSame_662 : decode cX8_isSame 662 = .ok (.iconst 0, 1) := by decide +kernel
theorem dX8_isSame_663 : decode cX8_isSame 663 = .ok (.ireturn, 1) := by decide +kernel
theorem dX8_isSame_664 : decode cX8_isSame 664 = .ok (.iinc 8 1, 3) := by decide +kernel
theorem dX8_isSame_667 : decode cX8_isSame 667 = .ok (.goto (-28), 3) := by decide +kernel
theorem dX8_isSame_670 : decode cX8_isSame 670 = .ok (.iload 4, 2) := by decide +kernel
theorem dX8_isSame_672 : decode cX8_isSame 672 = .ok (.aload 6, 2) := by decide +kernel
theorem dX8_isSame_674 : decode cX8_isSame 674 = .ok (.bipush 6, 2) := by decide +kernel
theorem dX8_isSame_676 : decode cX8_isSame 676 = .ok (.iaload, 1) := by decide +kernel
theorem dX8_isSame_677 : decode cX8_isSame 677 = .ok (.iadd, 1) := by decide +kernel
theorem dX8_isSame_678 : decode cX8_isSame 678 = .ok (.istore 4, 2) := by decide +kernel
theorem dX8_isSame_680 : decode cX8_isSame 680 = .ok (.iinc 5 1, 3) := by decide +kernel
theorem dX8_isSame_683 : decode cX8_isSame 683 = .ok (.goto (-142), 3) := by decide +kernel
theorem dX8_isSame_686 : decode cX8_isSame 686 = .ok (.aload_n 1, 1) := by decide +kernel
theorem dX8_isSame_687 : decode cX8_isSame 687 = .ok (.invokevirtual 120, 3) := by decide +kernel
theorem dX8_isSame_690 : decode cX8_isSame 690 = .ok (.aload_n 0, 1) := by decide +kernel
theorem dX8_isSame_691 : decode cX8_isSame 691 = .ok (.getfield 25, 3) := by decide +kernel
theorem dX8_isSame_694 : decode cX8_isSame 694 = .ok (.arraylength, 1) := by decide +kernel
theorem dX8_isSame_695 : decode cX8_isSame 695 = .ok (.ifCond .ne 7, 3) := by decide +kernel
theorem dX8_isSame_698 : decode cX8_isSame 698 = .ok (.dconst 0, 1) := by decide +kernel
theorem dX8_isSame_699 : decode cX8_isSame 699 = .ok (.goto 13, 3) := by decide +kernel
theorem dX8_isSame_702 : decode cX8_isSame 702 = .ok (.iload 4, 2) := by decide +kernel
theorem dX8_isSame_704 : decode cX8_isSame 704 = .ok (.i2d, 1) := by decide +kernel
theorem dX8_isSame_705 : decode cX8_isSame 705 = .ok (.aload_n 0, 1) := by decide +kernel
theorem dX8_isSame_706 : decode cX8_isSame 706 = .ok (.getfield 25, 3) := by decide +kernel
theorem dX8_isSame_709 : decode cX8_isSame 709 = .ok (.arraylength, 1) := by decide +kernel
theorem dX8_isSame_710 : decode cX8_isSame 710 = .ok (.i2d, 1) := by decide +kernel
theorem dX8_isSame_711 : decode cX8_isSame 711 = .ok (.ddiv, 1) := by decide +kernel
theorem dX8_isSame_712 : decode cX8_isSame 712 = .ok (.dcmp .l, 1) := by decide +kernel
theorem dX8_isSame_713 : decode cX8_isSame 713 = .ok (.ifCond .ne 7, 3) := by decide +kernel
theorem dX8_isSame_716 : decode cX8_isSame 716 = .ok (.iconst 1, 1) := by decide +kernel
theorem dX8_isSame_717 : decode cX8_isSame 717 = .ok (.goto 4, 3) := by decide +kernel
theorem dX8_isSame_720 : decode cX8_isSame 720 = .ok (.iconst 0, 1) := by decide +kernel
theorem dX8_isSame_721 : decode cX8_isSame 721 = .ok (.ireturn, 1) := by decide +kernel
theorem dJ5_init_d00df_0 : decode cJ5_init_d00df 0 = .ok (.aload_n 0, 1) := by decide +kernel
theorem dJ5_init_d00df_1 : decode cJ5_init_d00df 1 = .ok (.invokespecial 3, 3) := by decide +kernel
theorem dJ5_init_d00df_4 : decode cJ5_init_d00df 4 = .ok (.getstatic 18, 3) := by decide +kernel
theorem dJ5_init_d00df_7 : decode cJ5_init_d00df 7 = .ok (.ifCond .eq 18, 3) := by decide +kernel
theorem dJ5_init_d00df_10 : decode cJ5_init_d00df 10 = .ok (.aload_n 0, 1) := by decide +kernel
theorem dJ5_init_d00df_11 : decode cJ5_init_d00df 11 = .ok (.iload_n 1, 1) := by decide +kernel
theorem dJ5_init_d00df_12 : decode cJ5_init_d00df 12 = .ok (.newarray .byte, 2) := by decide +kernel
theorem dJ5_init_d00df_14 : decode cJ5_init_d00df 14 = .ok (.putfield 15, 3) := by decide +kernel
theorem dJ5_init_d00df_17 : decode cJ5_init_d00df 17 = .ok (.aload_n 0, 1) := by decide +kernel
theorem dJ5_init_d00df_18 : decode cJ5_init_d00df 18 = .ok (.iconst 0, 1) := by decide +kernel
theorem dJ5_init_d00df_19 : decode cJ5_init_d00df 19 = .ok (.putfield 22, 3) := by decide +kernel
theorem dJ5_init_d00df_22 : decode cJ5_init_d00df 22 = .ok (.goto 16, 3) := by decide +kernel
theorem dJ5_init_d00df_25 : decode cJ5_init_d00df 25 = .ok (.aload_n 0, 1) := by decide +kernel
theorem dJ5_init_d00df_26 : decode cJ5_init_d00df 26 = .ok (.iload_n 1, 1) := by decide +kernel
theorem dJ5_init_d00df_27 : decode cJ5_init_d00df 27 = .ok (.invokestatic 26, 3) := by decide +kernel
theorem dJ5_init_d00df_30 : decode cJ5_init_d00df 30 = .ok (.putfield 15, 3) := by decide +kernel
theorem dJ5_init_d00df_33 : decode cJ5_init_d00df 33 = .ok (.aload_n 0, 1) := by decide +kernel
theorem dJ5_init_d00df_34 : decode cJ5_init_d00df 34 = .ok (.iconst 1, 1) := by decide +kernel
theorem dJ5_init_d00df_35 : decode cJ5_init_d00df 35 = .ok (.putfield 22, 3) := by decide +kernel
theorem dJ5_init_d00df_38 : decode cJ5_init_d00df 38 = .ok (.return_, 1) := by decide +kernel
theorem dJ5_length_8abf5_0 : decode cJ5_length_8abf5 0 = .ok (.aload_n 0, 1) := by decide +kernel
theorem dJ5_length_8abf5_1 : decode cJ5_length_8abf5 1 = .ok (.getfield 79, 3) := by decide +kernel
theorem dJ5_length_8abf5_4 : decode cJ5_length_8abf5 4 = .ok (.ireturn, 1) := by decide +kernel
theorem dJ5_ensureCapacityInternal_d00df_0 : decode cJ5_ensureCapacityInternal_d00df 0 = .ok (.aload_n 0, 1) := by decide +kernel
theorem dJ5_ensureCapacityInternal_d00df_1 : decode cJ5_ensureCapacityInternal_d00df 1 = .ok (.getfield 15, 3) := by decide +kernel
theorem dJ5_ensureCapacityInternal_d00df_4 : decode cJ5_ensureCapacityInternal_d00df 4 = .ok (.arraylength, 1) := by decide +kernel
theorem dJ5_ensureCapacityInternal_d00df_5 : decode cJ5_ensureCapacityInternal_d00df 5 = .ok (.aload_n 0, 1) := by decide +kernel
theorem dJ5_ensureCapacityInternal_d00df_6 : decode cJ5_ensureCapacityInternal_d00df 6 = .ok (.getfield 22, 3) := by decide +kernel
theorem dJ5_ensureCapacityInternal_d00df_9 : decode cJ5_ensureCapacityInternal_d00df 9 = .ok (.ishr, 1) := by decide +kernel
theorem dJ5_ensureCapacityInternal_d00df_10 : decode cJ5_ensureCapacityInternal_d00df 10 = .ok (.istore_n 2, 1) := by decide +kernel
theorem dJ5_ensureCapacityInternal_d00df_11 : decode cJ5_ensureCapacityInternal_d00df 11 = .ok (.iload_n 1, 1) := by decide +kernel
theorem dJ5_ensureCapacityInternal_d00df_12 : decode cJ5_ensureCapacityInternal_d00df 12 = .ok (.iload_n 2, 1) := by decide +kernel
theorem dJ5_ensureCapacityInternal_d00df_13 : decode cJ5_ensureCapacityInternal_d00df 13 = .ok (.isub, 1) := by decide +kernel
theorem dJ5_ensureCapacityInternal_d00df_14 : decode cJ5_ensureCapacityInternal_d00df 14 = .ok (.ifCond .le 24, 3) := by decide +kernel
theorem dJ5_ensureCapacityInternal_d00df_17 : decode cJ5_ensureCapacityInternal_d00df 17 = .ok (.aload_n 0, 1) := by decide +kernel
theorem dJ5_ensureCapacityInternal_d00df_18 : decode cJ5_ensureCapacityInternal_d00df 18 = .ok (.aload_n 0, 1) := by decide +kernel
theorem dJ5_ensureCapacityInternal_d00df_19 : decode cJ5_ensureCapacityInternal_d00df 19 = .ok (.getfield 15, 3) := by decide +kernel
theorem dJ5_ensureCapacityInternal_d00df_22 : decode cJ5_ensureCapacityInternal_d00df 22 = .ok (.aload_n 0, 1) := by decide +kernel
theorem dJ5_ensureCapacityInternal_d00df_23 : decode cJ5_ensureCapacityInternal_d00df 23 = .ok (.iload_n 1, 1) := by decide +kernel
theorem dJ5_ensureCapacityInternal_d00df_24 : decode cJ5_ensureCapacityInternal_d00df 24 = .ok (.invokevirtual 104, 3) := by decide +kernel
theorem dJ5_ensureCapacityInternal_d00df_27 : decode cJ5_ensureCapacityInternal_d00df 27 = .ok (.aload_n 0, 1) := by decide +kernel
theorem dJ5_ensureCapacityInternal_d00df_28 : decode cJ5_ensureCapacityInternal_d00df 28 = .ok (.getfield 22, 3) := by decide +kernel
theorem dJ5_ensureCapacityInternal_d00df_31 : decode cJ5_ensureCapacityInternal_d00df 31 = .ok (.ishl, 1) := by decide +kernel
theorem dJ5_ensureCapacityInternal_d00df_32 : decode cJ5_ensureCapacityInternal_d00df 32 = .ok (.invokestatic 108, 3) := by decide +kernel
theorem dJ5_ensureCapacityInternal_d00df_35 : decode cJ5_ensureCapacityInternal_d00df 35 = .ok (.putfield 15, 3) := by decide +kernel
theorem dJ5_ensureCapacityInternal_d00df_38 : decode cJ5_ensureCapacityInternal_d00df 38 = .ok (.return_, 1) := by decide +kernel
theorem dJ5_newCapacity_0f7a4_0 : decode cJ5_newCapacity_0f7a4 0 = .ok (.aload_n 0, 1) := by decide +kernel
theorem dJ5_newCapacity_0f7a4_1 : decode cJ5_newCapacity_0f7a4 1 = .ok (.getfield 15, 3) := by decide +kernel
theorem dJ5_newCapacity_0f7a4_4 : decode cJ5_newCapacity_0f7a4 4 = .ok (.arraylength, 1) := by decide +kernel
theorem dJ5_newCapacity_0f7a4_5 : decode cJ5_newCapacity_0f7a4 5 = .ok (.istore_n 2, 1) := by decide +kernel
theorem dJ5_newCapacity_0f7a4_6 : decode cJ5_newCapacity_0f7a4 6 = .ok (.iload_n 1, 1) := by decide +kernel
theorem dJ5_newCapacity_0f7a4_7 : decode cJ5_newCapacity_0f7a4 7 = .ok (.aload_n 0, 1) := by decide +kernel
theorem dJ5_newCapacity_0f7a4_8 : decode cJ5_newCapacity_0f7a4 8 = .ok (.getfield 22, 3) := by decide +kernel
theorem dJ5_newCapacity_0f7a4_11 : decode cJ5_newCapacity_0f7a4 11 = .ok (.ishl, 1) := by decide +kernel
theorem dJ5_newCapacity_0f7a4_12 : decode cJ5_newCapacity_0f7a4 12 = .ok (.istore_n 3, 1) := by decide +kernel
theorem dJ5_newCapacity_0f7a4_13 : decode cJ5_newCapacity_0f7a4 13 = .ok (.iload_n 3, 1) := by decide +kernel
theorem dJ5_newCapacity_0f7a4_14 : decode cJ5_newCapacity_0f7a4 14 = .ok (.iload_n 2, 1) := by decide +kernel
theorem dJ5_newCapacity_0f7a4_15 : decode cJ5_newCapacity_0f7a4 15 = .ok (.isub, 1) := by decide +kernel
theorem dJ5_newCapacity_0f7a4_16 : decode cJ5_newCapacity_0f7a4 16 = .ok (.istore 4, 2) := by decide +kernel
theorem dJ5_newCapacity_0f7a4_18 : decode cJ5_newCapacity_0f7a4 18 = .ok (.iload_n 2, 1) := by decide +kernel
theorem dJ5_newCapacity_0f7a4_19 : decode cJ5_newCapacity_0f7a4 19 = .ok (.iload 4, 2) := by decide +kernel
theorem dJ5_newCapacity_0f7a4_21 : decode cJ5_newCapacity_0f7a4 21 = .ok (.iload_n 2, 1) := by decide +kernel
theorem dJ5_newCapacity_0f7a4_22 : decode cJ5_newCapacity_0f7a4 22 = .ok (.iconst 2, 1) := by decide +kernel
theorem dJ5_newCapacity_0f7a4_23 : decode cJ5_newCapacity_0f7a4 23 = .ok (.aload_n 0, 1) := by decide +kernel
theorem dJ5_newCapacity_0f7a4_24 : decode cJ5_newCapacity_0f7a4 24 = .ok (.getfield 22, 3) := by decide +kernel
theorem dJ5_newCapacity_0f7a4_27 : decode cJ5_newCapacity_0f7a4 27 = .ok (.ishl, 1) := by decide +kernel
theorem dJ5_newCapacity_0f7a4_28 : decode cJ5_newCapacity_0f7a4 28 = .ok (.iadd, 1) := by decide +kernel
theorem dJ5_newCapacity_0f7a4_29 : decode cJ5_newCapacity_0f7a4 29 = .ok (.invokestatic 114, 3) := by decide +kernel
theorem dJ5_newCapacity_0f7a4_32 : decode cJ5_newCapacity_0f7a4 32 = .ok (.istore 5, 2) := by decide +kernel
theorem dJ5_newCapacity_0f7a4_34 : decode cJ5_newCapacity_0f7a4 34 = .ok (.iload 5, 2) := by decide +kernel
theorem dJ5_newCapacity_0f7a4_36 : decode cJ5_newCapacity_0f7a4 36 = .ok (.ldc 39, 2) := by decide +kernel
theorem dJ5_newCapacity_0f7a4_38 : decode cJ5_newCapacity_0f7a4 38 = .ok (.if_icmp .ne 13, 3) := by decide +kernel
theorem dJ5_newCapacity_0f7a4_41 : decode cJ5_newCapacity_0f7a4 41 = .ok (.new 120, 3) := by decide +kernel
theorem dJ5_newCapacity_0f7a4_44 : decode cJ5_newCapacity_0f7a4 44 = .ok (.dup, 1) := by decide +kernel
theorem dJ5_newCapacity_0f7a4_45 : decode cJ5_newCapacity_0f7a4 45 = .ok (.ldc 122, 2) := by decide +kernel
theorem dJ5_newCapacity_0f7a4_47 : decode cJ5_newCapacity_0f7a4 47 = .ok (.invokespecial 124, 3) := by decide +kernel
theorem dJ5_newCapacity_0f7a4_50 : decode cJ5_newCapacity_0f7a4 50 = .ok (.athrow, 1) := by decide +kernel
theorem dJ5_newCapacity_0f7a4_51 : decode cJ5_newCapacity_0f7a4 51 = .ok (.iload 5, 2) := by decide +kernel
theorem dJ5_newCapacity_0f7a4_53 : decode cJ5_newCapacity_0f7a4 53 = .ok (.aload_n 0, 1) := by decide +kernel
theorem dJ5_newCapacity_0f7a4_54 : decode cJ5_newCapacity_0f7a4 54 = .ok (.getfield 22, 3) := by decide +kernel
theorem dJ5_newCapacity_0f7a4_57 : decode cJ5_newCapacity_0f7a4 57 = .ok (.ishr, 1) := by decide +kernel
theorem dJ5_newCapacity_0f7a4_58 : decode cJ5_newCapacity_0f7a4 58 = .ok (.ireturn, 1) := by decide +kernel
theorem dJ5_inflate_da8c8_0 : decode cJ5_inflate_da8c8 0 = .ok (.aload_n 0, 1) := by decide +kernel
theorem dJ5_inflate_da8c8_1 : decode cJ5_inflate_da8c8 1 = .ok (.invokevirtual 83, 3) := by decide +kernel
theorem dJ5_inflate_da8c8_4 : decode cJ5_inflate_da8c8 4 = .ok (.ifCond .ne 4, 3) := by decide +kernel
theorem dJ5_inflate_da8c8_7 : decode cJ5_inflate_da8c8 7 = .ok (.return_, 1) := by decide +kernel
theorem dJ5_inflate_da8c8_8 : decode cJ5_inflate_da8c8 8 = .ok (.aload_n 0, 1) := by decide +kernel
theorem dJ5_inflate_da8c8_9 : decode cJ5_inflate_da8c8 9 = .ok (.getfield 15, 3) := by decide +kernel
theorem dJ5_inflate_da8c8_12 : decode cJ5_inflate_da8c8 12 = .ok (.arraylength, 1) := by decide +kernel
theorem dJ5_inflate_da8c8_13 : decode cJ5_inflate_da8c8 13 = .ok (.invokestatic 26, 3) := by decide +kernel
theorem dJ5_inflate_da8c8_16 : decode cJ5_inflate_da8c8 16 = .ok (.astore_n 1, 1) := by decide +kernel
theorem dJ5_inflate_da8c8_17 : decode cJ5_inflate_da8c8 17 = .ok (.aload_n 0, 1) := by decide +kernel
theorem dJ5_inflate_da8c8_18 : decode cJ5_inflate_da8c8 18 = .ok (.getfield 15, 3) := by decide +kernel
theorem dJ5_inflate_da8c8_21 : decode cJ5_inflate_da8c8 21 = .ok (.iconst 0, 1) := by decide +kernel
theorem dJ5_inflate_da8c8_22 : decode cJ5_inflate_da8c8 22 = .ok (.aload_n 1, 1) := by decide +kernel
theorem dJ5_inflate_da8c8_23 : decode cJ5_inflate_da8c8 23 = .ok (.iconst 0, 1) := by decide +kernel
theorem dJ5_inflate_da8c8_24 : decode cJ5_inflate_da8c8 24 = .ok (.aload_n 0, 1) := by decide +kernel
theorem dJ5_inflate_da8c8_25 : decode cJ5_inflate_da8c8 25 = .ok (.getfield 79, 3) := by decide +kernel
theorem dJ5_inflate_da8c8_28 : decode cJ5_inflate_da8c8 28 = .ok (.invokestatic 125, 3) := by decide +kernel
theorem dJ5_inflate_da8c8_31 : decode cJ5_inflate_da8c8 31 = .ok (.aload_n 0, 1) := by decide +kernel
theorem dJ5_inflate_da8c8_32 : decode cJ5_inflate_da8c8 32 = .ok (.aload_n 1, 1) := by decide +kernel
theorem dJ5_inflate_da8c8_33 : decode cJ5_inflate_da8c8 33 = .ok (.putfield 15, 3) := by decide +kernel
theorem dJ5_inflate_da8c8_36 : decode cJ5_inflate_da8c8 36 = .ok (.aload_n 0, 1) := by decide +kernel
theorem dJ5_inflate_da8c8_37 : decode cJ5_inflate_da8c8 37 = .ok (.iconst 1, 1) := by decide +kernel
theorem dJ5_inflate_da8c8_38 : decode cJ5_inflate_da8c8 38 = .ok (.putfield 22, 3) := by decide +kernel
theorem dJ5_inflate_da8c8_41 : decode cJ5_inflate_da8c8 41 = .ok (.return_, 1) := by decide +kernel
theorem dJ5_append_cf1ce_0 : decode cJ5_append_cf1ce 0 = .ok (.aload_n 1, 1) := by decide +kernel
theorem dJ5_append_cf1ce_1 : decode cJ5_append_cf1ce 1 = .ok (.ifnonnull 8, 3) := by decide +kernel
theorem dJ5_append_cf1ce_4 : decode cJ5_append_cf1ce 4 = .ok (.aload_n 0, 1) := by decide +kernel
theorem dJ5_append_cf1ce_5 : decode cJ5_append_cf1ce 5 = .ok (.invokevirtual 204, 3) := by decide +kernel
theorem dJ5_append_cf1ce_8 : decode cJ5_append_cf1ce 8 = .ok (.areturn, 1) := by decide +kernel
theorem dJ5_append_cf1ce_9 : decode cJ5_append_cf1ce 9 = .ok (.aload_n 1, 1) := by decide +kernel
theorem dJ5_append_cf1ce_10 : decode cJ5_append_cf1ce 10 = .ok (.invokevirtual 32, 3) := by decide +kernel
theorem dJ5_append_cf1ce_13 : decode cJ5_append_cf1ce 13 = .ok (.istore_n 2, 1) := by decide +kernel
theorem dJ5_append_cf1ce_14 : decode cJ5_append_cf1ce 14 = .ok (.aload_n 0, 1) := by decide +kernel
theorem dJ5_append_cf1ce_15 : decode cJ5_append_cf1ce 15 = .ok (.aload_n 0, 1) := by decide +kernel
theorem dJ5_append_cf1ce_16 : decode cJ5_append_cf1ce 16 = .ok (.getfield 79, 3) := by decide +kernel
theorem dJ5_append_cf1ce_19 : decode cJ5_append_cf1ce 19 = .ok (.iload_n 2, 1) := by decide +kernel
theorem dJ5_append_cf1ce_20 : decode cJ5_append_cf1ce 20 = .ok (.iadd, 1) := by decide +kernel
theorem dJ5_append_cf1ce_21 : decode cJ5_append_cf1ce 21 = .ok (.invokevirtual 100, 3) := by decide +kernel
theorem dJ5_append_cf1ce_24 : decode cJ5_append_cf1ce 24 = .ok (.aload_n 0, 1) := by decide +kernel
theorem dJ5_append_cf1ce_25 : decode cJ5_append_cf1ce 25 = .ok (.aload_n 0, 1) := by decide +kernel
theorem dJ5_append_cf1ce_26 : decode cJ5_append_cf1ce 26 = .ok (.getfield 79, 3) := by decide +kernel
theorem dJ5_append_cf1ce_29 : decode cJ5_append_cf1ce 29 = .ok (.aload_n 1, 1) := by decide +kernel
theorem dJ5_append_cf1ce_30 : decode cJ5_append_cf1ce 30 = .ok (.invokevirtual 208, 3) := by decide +kernel
theorem dJ5_append_cf1ce_33 : decode cJ5_append_cf1ce 33 = .ok (.aload_n 0, 1) := by decide +kernel
theorem dJ5_append_cf1ce_34 : decode cJ5_append_cf1ce 34 = .ok (.dup, 1) := by decide +kernel
theorem dJ5_append_cf1ce_35 : decode cJ5_append_cf1ce 35 = .ok (.getfield 79, 3) := by decide +kernel
theorem dJ5_append_cf1ce_38 : decode cJ5_append_cf1ce 38 = .ok (.iload_n 2, 1) := by decide +kernel
theorem dJ5_append_cf1ce_39 : decode cJ5_append_cf1ce 39 = .ok (.iadd, 1) := by decide +kernel
theorem dJ5_append_cf1ce_40 : decode cJ5_append_cf1ce 40 = .ok (.putfield 79, 3) := by decide +kernel
theorem dJ5_append_cf1ce_43 : decode cJ5_append_cf1ce 43 = .ok (.aload_n 0, 1) := by decide +kernel
theorem dJ5_append_cf1ce_44 : decode cJ5_append_cf1ce 44 = .ok (.areturn, 1) := by decide +kernel
theorem dJ5_appendNull_278bc_0 : decode cJ5_appendNull_278bc 0 = .ok (.aload_n 0, 1) := by decide +kernel
theorem dJ5_appendNull_278bc_1 : decode cJ5_appendNull_278bc 1 = .ok (.aload_n 0, 1) := by decide +kernel
theorem dJ5_appendNull_278bc_2 : decode cJ5_appendNull_278bc 2 = .ok (.getfield 79, 3) := by decide +kernel
theorem dJ5_appendNull_278bc_5 : decode cJ5_appendNull_278bc 5 = .ok (.iconst 4, 1) := by decide +kernel
theorem dJ5_appendNull_278bc_6 : decode cJ5_appendNull_278bc 6 = .ok (.iadd, 1) := by decide +kernel
theorem dJ5_appendNull_278bc_7 : decode cJ5_appendNull_278bc 7 = .ok (.invokevirtual 100, 3) := by decide +kernel
theorem dJ5_appendNull_278bc_10 : decode cJ5_appendNull_278bc 10 = .ok (.aload_n 0, 1) := by decide +kernel
theorem dJ5_appendNull_278bc_11 : decode cJ5_appendNull_278bc 11 = .ok (.getfield 79, 3) := by decide +kernel
theorem dJ5_appendNull_278bc_14 : decode cJ5_appendNull_278bc 14 = .ok (.istore_n 1, 1) := by decide +kernel
theorem dJ5_appendNull_278bc_15 : decode cJ5_appendNull_278bc 15 = .ok (.aload_n 0, 1) := by decide +kernel
theorem dJ5_appendNull_278bc_16 : decode cJ5_appendNull_278bc 16 = .ok (.getfield 15, 3) := by decide +kernel
theorem dJ5_appendNull_278bc_19 : decode cJ5_appendNull_278bc 19 = .ok (.astore_n 2, 1) := by decide +kernel
theorem dJ5_appendNull_278bc_20 : decode cJ5_appendNull_278bc 20 = .ok (.aload_n 0, 1) := by decide +kernel
theorem dJ5_appendNull_278bc_21 : decode cJ5_appendNull_278bc 21 = .ok (.invokevirtual 83, 3) := by decide +kernel
theorem dJ5_appendNull_278bc_24 : decode cJ5_appendNull_278bc 24 = .ok (.ifCond .eq 38, 3) := by decide +kernel
theorem dJ5_appendNull_278bc_27 : decode cJ5_appendNull_278bc 27 = .ok (.aload_n 2, 1) := by decide +kernel
theorem dJ5_appendNull_278bc_28 : decode cJ5_appendNull_278bc 28 = .ok (.iload_n 1, 1) := by decide +kernel
theorem dJ5_appendNull_278bc_29 : decode cJ5_appendNull_278bc 29 = .ok (.iinc 1 1, 3) := by decide +kernel
theorem dJ5_appendNull_278bc_32 : decode cJ5_appendNull_278bc 32 = .ok (.bipush 110, 2) := by decide +kernel
theorem dJ5_appendNull_278bc_34 : decode cJ5_appendNull_278bc 34 = .ok (.bastore, 1) := by decide +kernel
theorem dJ5_appendNull_278bc_35 : decode cJ5_appendNull_278bc 35 = .ok (.aload_n 2, 1) := by decide +kernel
theorem dJ5_appendNull_278bc_36 : decode cJ5_appendNull_278bc 36 = .ok (.iload_n 1, 1) := by decide +kernel
theorem dJ5_appendNull_278bc_37 : decode cJ5_appendNull_278bc 37 = .ok (.iinc 1 1, 3) := by decide +kernel
theorem dJ5_appendNull_278bc_40 : decode cJ5_appendNull_278bc 40 = .ok (.bipush 117, 2) := by decide +kernel
theorem dJ5_appendNull_278bc_42 : decode cJ5_appendNull_278bc 42 = .ok (.bastore, 1) := by decide +kernel
theorem dJ5_appendNull_278bc_43 : decode cJ5_appendNull_278bc 43 = .ok (.aload_n 2, 1) := by decide +kernel
theorem dJ5_appendNull_278bc_44 : decode cJ5_appendNull_278bc 44 = .ok (.iload_n 1, 1) := by decide +kernel
theorem dJ5_appendNull_278bc_45 : decode cJ5_appendNull_278bc 45 = .ok (.iinc 1 1, 3) := by decide +kernel
theorem dJ5_appendNull_278bc_48 : decode cJ5_appendNull_278bc 48 = .ok (.bipush 108, 2) := by decide +kernel
theorem dJ5_appendNull_278bc_50 : decode cJ5_appendNull_278bc 50 = .ok (.bastore, 1) := by decide +kernel
theorem dJ5_appendNull_278bc_51 : decode cJ5_appendNull_278bc 51 = .ok (.aload_n 2, 1) := by decide +kernel
theorem dJ5_appendNull_278bc_52 : decode cJ5_appendNull_278bc 52 = .ok (.iload_n 1, 1) := by decide +kernel
theorem dJ5_appendNull_278bc_53 : decode cJ5_appendNull_278bc 53 = .ok (.iinc 1 1, 3) := by decide +kernel
theorem dJ5_appendNull_278bc_56 : decode cJ5_appendNull_278bc 56 = .ok (.bipush 108, 2) := by decide +kernel
theorem dJ5_appendNull_278bc_58 : decode cJ5_appendNull_278bc 58 = .ok (.bastore, 1) := by decide +kernel
theorem dJ5_appendNull_278bc_59 : decode cJ5_appendNull_278bc 59 = .ok (.goto 17, 3) := by decide +kernel
theorem dJ5_appendNull_278bc_62 : decode cJ5_appendNull_278bc 62 = .ok (.aload_n 2, 1) := by decide +kernel
theorem dJ5_appendNull_278bc_63 : decode cJ5_appendNull_278bc 63 = .ok (.iload_n 1, 1) := by decide +kernel
theorem dJ5_appendNull_278bc_64 : decode cJ5_appendNull_278bc 64 = .ok (.bipush 110, 2) := by decide +kernel
theorem dJ5_appendNull_278bc_66 : decode cJ5_appendNull_278bc 66 = .ok (.bipush 117, 2) := by decide +kernel
theorem dJ5_appendNull_278bc_68 : decode cJ5_appendNull_278bc 68 = .ok (.bipush 108, 2) := by decide +kernel
theorem dJ5_appendNull_278bc_70 : decode cJ5_appendNull_278bc 70 = .ok (.bipush 108, 2) := by decide +kernel
theorem dJ5_appendNull_278bc_72 : decode cJ5_appendNull_278bc 72 = .ok (.invokestatic 226, 3) := by decide +kernel
theorem dJ5_appendNull_278bc_75 : decode cJ5_appendNull_278bc 75 = .ok (.istore_n 1, 1) := by decide +kernel
theorem dJ5_appendNull_278bc_76 : decode cJ5_appendNull_278bc 76 = .ok (.aload_n 0, 1) := by decide +kernel
theorem dJ5_appendNull_278bc_77 : decode cJ5_appendNull_278bc 77 = .ok (.iload_n 1, 1) := by decide +kernel
theorem dJ5_appendNull_278bc_78 : decode cJ5_appendNull_278bc 78 = .ok (.putfield 79, 3) := by decide +kernel
theorem dJ5_appendNull_278bc_81 : decode cJ5_appendNull_278bc 81 = .ok (.aload_n 0, 1) := by decide +kernel
theorem dJ5_appendNull_278bc_82 : decode cJ5_appendNull_278bc 82 = .ok (.areturn, 1) := by decide +kernel
theorem dJ5_append_c97b9_0 : decode cJ5_append_c97b9 0 = .ok (.aload_n 0, 1) := by decide +kernel
theorem dJ5_append_c97b9_1 : decode cJ5_append_c97b9 1 = .ok (.getfield 79, 3) := by decide +kernel
theorem dJ5_append_c97b9_4 : decode cJ5_append_c97b9 4 = .ok (.istore_n 2, 1) := by decide +kernel
theorem dJ5_append_c97b9_5 : decode cJ5_append_c97b9 5 = .ok (.iload_n 2, 1) := by decide +kernel
theorem dJ5_append_c97b9_6 : decode cJ5_append_c97b9 6 = .ok (.iload_n 1, 1) := by decide +kernel
theorem dJ5_append_c97b9_7 : decode cJ5_append_c97b9 7 = .ok (.invokestatic 245, 3) := by decide +kernel
theorem dJ5_append_c97b9_10 : decode cJ5_append_c97b9 10 = .ok (.iadd, 1) := by decide +kernel
theorem dJ5_append_c97b9_11 : decode cJ5_append_c97b9 11 = .ok (.istore_n 3, 1) := by decide +kernel
theorem dJ5_append_c97b9_12 : decode cJ5_append_c97b9 12 = .ok (.aload_n 0, 1) := by decide +kernel
theorem dJ5_append_c97b9_13 : decode cJ5_append_c97b9 13 = .ok (.iload_n 3, 1) := by decide +kernel
theorem dJ5_append_c97b9_14 : decode cJ5_append_c97b9 14 = .ok (.invokevirtual 100, 3) := by decide +kernel
theorem dJ5_append_c97b9_17 : decode cJ5_append_c97b9 17 = .ok (.aload_n 0, 1) := by decide +kernel
theorem dJ5_append_c97b9_18 : decode cJ5_append_c97b9 18 = .ok (.invokevirtual 83, 3) := by decide +kernel
theorem dJ5_append_c97b9_21 : decode cJ5_append_c97b9 21 = .ok (.ifCond .eq 16, 3) := by decide +kernel
theorem dJ5_append_c97b9_24 : decode cJ5_append_c97b9 24 = .ok (.iload_n 1, 1) := by decide +kernel
theorem dJ5_append_c97b9_25 : decode cJ5_append_c97b9 25 = .ok (.iload_n 3, 1) := by decide +kernel
theorem dJ5_append_c97b9_26 : decode cJ5_append_c97b9 26 = .ok (.aload_n 0, 1) := by decide +kernel
theorem dJ5_append_c97b9_27 : decode cJ5_append_c97b9 27 = .ok (.getfield 15, 3) := by decide +kernel
theorem dJ5_append_c97b9_30 : decode cJ5_append_c97b9 30 = .ok (.invokestatic 248, 3) := by decide +kernel
theorem dJ5_append_c97b9_33 : decode cJ5_append_c97b9 33 = .ok (.pop, 1) := by decide +kernel
theorem dJ5_append_c97b9_34 : decode cJ5_append_c97b9 34 = .ok (.goto 14, 3) := by decide +kernel
theorem dJ5_append_c97b9_37 : decode cJ5_append_c97b9 37 = .ok (.iload_n 1, 1) := by decide +kernel
theorem dJ5_append_c97b9_38 : decode cJ5_append_c97b9 38 = .ok (.iload_n 2, 1) := by decide +kernel
theorem dJ5_append_c97b9_39 : decode cJ5_append_c97b9 39 = .ok (.iload_n 3, 1) := by decide +kernel
theorem dJ5_append_c97b9_40 : decode cJ5_append_c97b9 40 = .ok (.aload_n 0, 1) := by decide +kernel
theorem dJ5_append_c97b9_41 : decode cJ5_append_c97b9 41 = .ok (.getfield 15, 3) := by decide +kernel
theorem dJ5_append_c97b9_44 : decode cJ5_append_c97b9 44 = .ok (.invokestatic 251, 3) := by decide +kernel
theorem dJ5_append_c97b9_47 : decode cJ5_append_c97b9 47 = .ok (.pop, 1) := by decide +kernel
theorem dJ5_append_c97b9_48 : decode cJ5_append_c97b9 48 = .ok (.aload_n 0, 1) := by decide +kernel
theorem dJ5_append_c97b9_49 : decode cJ5_append_c97b9 49 = .ok (.iload_n 3, 1) := by decide +kernel
theorem dJ5_append_c97b9_50 : decode cJ5_append_c97b9 50 = .ok (.putfield 79, 3) := by decide +kernel
theorem dJ5_append_c97b9_53 : decode cJ5_append_c97b9 53 = .ok (.aload_n 0, 1) := by decide +kernel
theorem dJ5_append_c97b9_54 : decode cJ5_append_c97b9 54 = .ok (.areturn, 1) := by decide +kernel
theorem dJ5_getValue_6d5f1_0 : decode cJ5_getValue_6d5f1 0 = .ok (.aload_n 0, 1) := by decide +kernel
theorem dJ5_getValue_6d5f1_1 : decode cJ5_getValue_6d5f1 1 = .ok (.getfield 15, 3) := by decide +kernel
theorem dJ5_getValue_6d5f1_4 : decode cJ5_getValue_6d5f1 4 = .ok (.areturn, 1) := by decide +kernel
theorem dJ5_isLatin1_aae02_0 : decode cJ5_isLatin1_aae02 0 = .ok (.getstatic 18, 3) := by decide +kernel
theorem dJ5_isLatin1_aae02_3 : decode cJ5_isLatin1_aae02 3 = .ok (.ifCond .eq 14, 3) := by decide +kernel
theorem dJ5_isLatin1_aae02_6 : decode cJ5_isLatin1_aae02 6 = .ok (.aload_n 0, 1) := by decide +kernel
theorem dJ5_isLatin1_aae02_7 : decode cJ5_isLatin1_aae02 7 = .ok (.getfield 22, 3) := by decide +kernel
theorem dJ5_isLatin1_aae02_10 : decode cJ5_isLatin1_aae02 10 = .ok (.ifCond .ne 7, 3) := by decide +kernel
theorem dJ5_isLatin1_aae02_13 : decode cJ5_isLatin1_aae02 13 = .ok (.iconst 1, 1) := by decide +kernel
theorem dJ5_isLatin1_aae02_14 : decode cJ5_isLatin1_aae02 14 = .ok (.goto 4, 3) := by decide +kernel
theorem dJ5_isLatin1_aae02_17 : decode cJ5_isLatin1_aae02 17 = .ok (.iconst 0, 1) := by decide +kernel
theorem dJ5_isLatin1_aae02_18 : decode cJ5_isLatin1_aae02 18 = .ok (.ireturn, 1) := by decide +kernel
theorem dJ5_inflateIfNeededFor_a7421_0 : decode cJ5_inflateIfNeededFor_a7421 0 = .ok (.getstatic 18, 3) := by decide +kernel
theorem dJ5_inflateIfNeededFor_a7421_3 : decode cJ5_inflateIfNeededFor_a7421 3 = .ok (.ifCond .eq 18, 3) := by decide +kernel
theorem dJ5_inflateIfNeededFor_a7421_6 : decode cJ5_inflateIfNeededFor_a7421 6 = .ok (.aload_n 0, 1) := by decide +kernel
theorem dJ5_inflateIfNeededFor_a7421_7 : decode cJ5_inflateIfNeededFor_a7421 7 = .ok (.getfield 22, 3) := by decide +kernel
theorem dJ5_inflateIfNeededFor_a7421_10 : decode cJ5_inflateIfNeededFor_a7421 10 = .ok (.aload_n 1, 1) := by decide +kernel
theorem dJ5_inflateIfNeededFor_a7421_11 : decode cJ5_inflateIfNeededFor_a7421 11 = .ok (.invokevirtual 40, 3) := by decide +kernel
theorem dJ5_inflateIfNeededFor_a7421_14 : decode cJ5_inflateIfNeededFor_a7421 14 = .ok (.if_icmp .eq 7, 3) := by decide +kernel
theorem dJ5_inflateIfNeededFor_a7421_17 : decode cJ5_inflateIfNeededFor_a7421 17 = .ok (.aload_n 0, 1) := by decide +kernel
theorem dJ5_inflateIfNeededFor_a7421_18 : decode cJ5_inflateIfNeededFor_a7421 18 = .ok (.invokevirtual 195, 3) := by decide +kernel
theorem dJ5_inflateIfNeededFor_a7421_21 : decode cJ5_inflateIfNeededFor_a7421 21 = .ok (.return_, 1) := by decide +kernel
theorem dJ5_putStringAt_47b60_0 : decode cJ5_putStringAt_47b60 0 = .ok (.aload_n 0, 1) := by decide +kernel
theorem dJ5_putStringAt_47b60_1 : decode cJ5_putStringAt_47b60 1 = .ok (.aload_n 2, 1) := by decide +kernel
theorem dJ5_putStringAt_47b60_2 : decode cJ5_putStringAt_47b60 2 = .ok (.invokevirtual 397, 3) := by decide +kernel
theorem dJ5_putStringAt_47b60_5 : decode cJ5_putStringAt_47b60 5 = .ok (.aload_n 2, 1) := by decide +kernel
theorem dJ5_putStringAt_47b60_6 : decode cJ5_putStringAt_47b60 6 = .ok (.aload_n 0, 1) := by decide +kernel
theorem dJ5_putStringAt_47b60_7 : decode cJ5_putStringAt_47b60 7 = .ok (.getfield 15, 3) := by decide +kernel
theorem dJ5_putStringAt_47b60_10 : decode cJ5_putStringAt_47b60 10 = .ok (.iload_n 1, 1) := by decide +kernel
theorem dJ5_putStringAt_47b60_11 : decode cJ5_putStringAt_47b60 11 = .ok (.aload_n 0, 1) := by decide +kernel
theorem dJ5_putStringAt_47b60_12 : decode cJ5_putStringAt_47b60 12 = .ok (.getfield 22, 3) := by decide +kernel
theorem dJ5_putStringAt_47b60_15 : decode cJ5_putStringAt_47b60 15 = .ok (.invokevirtual 399, 3) := by decide +kernel
theorem dJ5_putStringAt_47b60_18 : decode cJ5_putStringAt_47b60 18 = .ok (.return_, 1) := by decide +kernel
theorem dJ6_getChars_ba4f3_0 : decode cJ6_getChars_ba4f3 0 = .ok (.iload_n 1, 1) := by decide +kernel
theorem dJ6_getChars_ba4f3_1 : decode cJ6_getChars_ba4f3 1 = .ok (.istore 5, 2) := by decide +kernel
theorem dJ6_getChars_ba4f3_3 : decode cJ6_getChars_ba4f3 3 = .ok (.iload_n 0, 1) := by decide +kernel
theorem dJ6_getChars_ba4f3_4 : decode cJ6_getChars_ba4f3 4 = .ok (.ifCond .ge 7, 3) := by decide +kernel
theorem dJ6_getChars_ba4f3_7 : decode cJ6_getChars_ba4f3 7 = .ok (.iconst 1, 1) := by decide +kernel
theorem dJ6_getChars_ba4f3_8 : decode cJ6_getChars_ba4f3 8 = .ok (.goto 4, 3) := by decide +kernel
theorem dJ6_getChars_ba4f3_11 : decode cJ6_getChars_ba4f3 11 = .ok (.iconst 0, 1) := by decide +kernel
theorem dJ6_getChars_ba4f3_12 : decode cJ6_getChars_ba4f3 12 = .ok (.istore 6, 2) := by decide +kernel
theorem dJ6_getChars_ba4f3_14 : decode cJ6_getChars_ba4f3 14 = .ok (.iload 6, 2) := by decide +kernel
theorem dJ6_getChars_ba4f3_16 : decode cJ6_getChars_ba4f3 16 = .ok (.ifCond .ne 6, 3) := by decide +kernel
theorem dJ6_getChars_ba4f3_19 : decode cJ6_getChars_ba4f3 19 = .ok (.iload_n 0, 1) := by decide +kernel
theorem dJ6_getChars_ba4f3_20 : decode cJ6_getChars_ba4f3 20 = .ok (.ineg, 1) := by decide +kernel
theorem dJ6_getChars_ba4f3_21 : decode cJ6_getChars_ba4f3 21 = .ok (.istore_n 0, 1) := by decide +kernel
theorem dJ6_getChars_ba4f3_22 : decode cJ6_getChars_ba4f3 22 = .ok (.iload_n 0, 1) := by decide +kernel
theorem dJ6_getChars_ba4f3_23 : decode cJ6_getChars_ba4f3 23 = .ok (.bipush (-100), 2) := by decide +kernel
theorem dJ6_getChars_ba4f3_25 : decode cJ6_getChars_ba4f3 25 = .ok (.if_icmp .gt 47, 3) := by decide +kernel
theorem dJ6_getChars_ba4f3_28 : decode cJ6_getChars_ba4f3 28 = .ok (.iload_n 0, 1) := by decide +kernel
theorem dJ6_getChars_ba4f3_29 : decode cJ6_getChars_ba4f3 29 = .ok (.bipush 100, 2) := by decide +kernel
theorem dJ6_getChars_ba4f3_31 : decode cJ6_getChars_ba4f3 31 = .ok (.idiv, 1) := by decide +kernel
theorem dJ6_getChars_ba4f3_32 : decode cJ6_getChars_ba4f3 32 = .ok (.istore_n 3, 1) := by decide +kernel
theorem dJ6_getChars_ba4f3_33 : decode cJ6_getChars_ba4f3 33 = .ok (.iload_n 3, 1) := by decide +kernel
theorem dJ6_getChars_ba4f3_34 : decode cJ6_getChars_ba4f3 34 = .ok (.bipush 100, 2) := by decide +kernel
theorem dJ6_getChars_ba4f3_36 : decode cJ6_getChars_ba4f3 36 = .ok (.imul, 1) := by decide +kernel
theorem dJ6_getChars_ba4f3_37 : decode cJ6_getChars_ba4f3 37 = .ok (.iload_n 0, 1) := by decide +kernel
theorem dJ6_getChars_ba4f3_38 : decode cJ6_getChars_ba4f3 38 = .ok (.isub, 1) := by decide +kernel
theorem dJ6_getChars_ba4f3_39 : decode cJ6_getChars_ba4f3 39 = .ok (.istore 4, 2) := by decide +kernel
theorem dJ6_getChars_ba4f3_41 : decode cJ6_getChars_ba4f3 41 = .ok (.iload_n 3, 1) := by decide +kernel
theorem dJ6_getChars_ba4f3_42 : decode cJ6_getChars_ba4f3 42 = .ok (.istore_n 0, 1) := by decide +kernel
theorem dJ6_getChars_ba4f3_43 : decode cJ6_getChars_ba4f3 43 = .ok (.aload_n 2, 1) := by decide +kernel
theorem dJ6_getChars_ba4f3_44 : decode cJ6_getChars_ba4f3 44 = .ok (.iinc 5 (-1), 3) := by decide +kernel
theorem dJ6_getChars_ba4f3_47 : decode cJ6_getChars_ba4f3 47 = .ok (.iload 5, 2) := by decide +kernel
theorem dJ6_getChars_ba4f3_49 : decode cJ6_getChars_ba4f3 49 = .ok (.getstatic 83, 3) := by decide +kernel
theorem dJ6_getChars_ba4f3_52 : decode cJ6_getChars_ba4f3 52 = .ok (.iload 4, 2) := by decide +kernel
theorem dJ6_getChars_ba4f3_54 : decode cJ6_getChars_ba4f3 54 = .ok (.baload, 1) := by decide +kernel
theorem dJ6_getChars_ba4f3_55 : decode cJ6_getChars_ba4f3 55 = .ok (.bastore, 1) := by decide +kernel
theorem dJ6_getChars_ba4f3_56 : decode cJ6_getChars_ba4f3 56 = .ok (.aload_n 2, 1) := by decide +kernel
theorem dJ6_getChars_ba4f3_57 : decode cJ6_getChars_ba4f3 57 = .ok (.iinc 5 (-1), 3) := by decide +kernel
theorem dJ6_getChars_ba4f3_60 : decode cJ6_getChars_ba4f3 60 = .ok (.iload 5, 2) := by decide +kernel
theorem dJ6_getChars_ba4f3_62 : decode cJ6_getChars_ba4f3 62 = .ok (.getstatic 87, 3) := by decide +kernel
theorem dJ6_getChars_ba4f3_65 : decode cJ6_getChars_ba4f3 65 = .ok (.iload 4, 2) := by decide +kernel
theorem dJ6_getChars_ba4f3_67 : decode cJ6_getChars_ba4f3 67 = .ok (.baload, 1) := by decide +kernel
theorem dJ6_getChars_ba4f3_68 : decode cJ6_getChars_ba4f3 68 = .ok (.bastore, 1) := by decide +kernel
theorem dJ6_getChars_ba4f3_69 : decode cJ6_getChars_ba4f3 69 = .ok (.goto (-47), 3) := by decide +kernel
theorem dJ6_getChars_ba4f3_72 : decode cJ6_getChars_ba4f3 72 = .ok (.aload_n 2, 1) := by decide +kernel
theorem dJ6_getChars_ba4f3_73 : decode cJ6_getChars_ba4f3 73 = .ok (.iinc 5 (-1), 3) := by decide +kernel
theorem dJ6_getChars_ba4f3_76 : decode cJ6_getChars_ba4f3 76 = .ok (.iload 5, 2) := by decide +kernel
theorem dJ6_getChars_ba4f3_78 : decode cJ6_getChars_ba4f3 78 = .ok (.getstatic 83, 3) := by decide +kernel
theorem dJ6_getChars_ba4f3_81 : decode cJ6_getChars_ba4f3 81 = .ok (.iload_n 0, 1) := by decide +kernel
theorem dJ6_getChars_ba4f3_82 : decode cJ6_getChars_ba4f3 82 = .ok (.ineg, 1) := by decide +kernel
theorem dJ6_getChars_ba4f3_83 : decode cJ6_getChars_ba4f3 83 = .ok (.baload, 1) := by decide +kernel
theorem dJ6_getChars_ba4f3_84 : decode cJ6_getChars_ba4f3 84 = .ok (.bastore, 1) := by decide +kernel
theorem dJ6_getChars_ba4f3_85 : decode cJ6_getChars_ba4f3 85 = .ok (.iload_n 0, 1) := by decide +kernel
theorem dJ6_getChars_ba4f3_86 : decode cJ6_getChars_ba4f3 86 = .ok (.bipush (-9), 2) := by decide +kernel
theorem dJ6_getChars_ba4f3_88 : decode cJ6_getChars_ba4f3 88 = .ok (.if_icmp .ge 16, 3) := by decide +kernel
theorem dJ6_getChars_ba4f3_91 : decode cJ6_getChars_ba4f3 91 = .ok (.aload_n 2, 1) := by decide +kernel
theorem dJ6_getChars_ba4f3_92 : decode cJ6_getChars_ba4f3 92 = .ok (.iinc 5 (-1), 3) := by decide +kernel
theorem dJ6_getChars_ba4f3_95 : decode cJ6_getChars_ba4f3 95 = .ok (.iload 5, 2) := by decide +kernel
theorem dJ6_getChars_ba4f3_97 : decode cJ6_getChars_ba4f3 97 = .ok (.getstatic 87, 3) := by decide +kernel
theorem dJ6_getChars_ba4f3_100 : decode cJ6_getChars_ba4f3 100 = .ok (.iload_n 0, 1) := by decide +kernel
theorem dJ6_getChars_ba4f3_101 : decode cJ6_getChars_ba4f3 101 = .ok (.ineg, 1) := by decide +kernel
theorem dJ6_getChars_ba4f3_102 : decode cJ6_getChars_ba4f3 102 = .ok (.baload, 1) := by decide +kernel
theorem dJ6_getChars_ba4f3_103 : decode cJ6_getChars_ba4f3 103 = .ok (.bastore, 1) := by decide +kernel
theorem dJ6_getChars_ba4f3_104 : decode cJ6_getChars_ba4f3 104 = .ok (.iload 6, 2) := by decide +kernel
theorem dJ6_getChars_ba4f3_106 : decode cJ6_getChars_ba4f3 106 = .ok (.ifCond .eq 12, 3) := by decide +kernel
theorem dJ6_getChars_ba4f3_109 : decode cJ6_getChars_ba4f3 109 = .ok (.aload_n 2, 1) := by decide +kernel
theorem dJ6_getChars_ba4f3_110 : decode cJ6_getChars_ba4f3 110 = .ok (.iinc 5 (-1), 3) := by decide +kernel
theorem dJ6_getChars_ba4f3_113 : decode cJ6_getChars_ba4f3 113 = .ok (.iload 5, 2) := by decide +kernel
theorem dJ6_getChars_ba4f3_115 : decode cJ6_getChars_ba4f3 115 = .ok (.bipush 45, 2) := by decide +kernel
theorem dJ6_getChars_ba4f3_117 : decode cJ6_getChars_ba4f3 117 = .ok (.bastore, 1) := by decide +kernel
theorem dJ6_getChars_ba4f3_118 : decode cJ6_getChars_ba4f3 118 = .ok (.iload 5, 2) := by decide +kernel
theorem dJ6_getChars_ba4f3_120 : decode cJ6_getChars_ba4f3 120 = .ok (.ireturn, 1) := by decide +kernel
theorem dJ6_stringSize_0f7a4_0 : decode cJ6_stringSize_0f7a4 0 = .ok (.iconst 1, 1) := by decide +kernel
theorem dJ6_stringSize_0f7a4_1 : decode cJ6_stringSize_0f7a4 1 = .ok (.istore_n 1, 1) := by decide +kernel
theorem dJ6_stringSize_0f7a4_2 : decode cJ6_stringSize_0f7a4 2 = .ok (.iload_n 0, 1) := by decide +kernel
theorem dJ6_stringSize_0f7a4_3 : decode cJ6_stringSize_0f7a4 3 = .ok (.ifCond .lt 8, 3) := by decide +kernel
theorem dJ6_stringSize_0f7a4_6 : decode cJ6_stringSize_0f7a4 6 = .ok (.iconst 0, 1) := by decide +kernel
theorem dJ6_stringSize_0f7a4_7 : decode cJ6_stringSize_0f7a4 7 = .ok (.istore_n 1, 1) := by decide +kernel
theorem dJ6_stringSize_0f7a4_8 : decode cJ6_stringSize_0f7a4 8 = .ok (.iload_n 0, 1) := by decide +kernel
theorem dJ6_stringSize_0f7a4_9 : decode cJ6_stringSize_0f7a4 9 = .ok (.ineg, 1) := by decide +kernel
theorem dJ6_stringSize_0f7a4_10 : decode cJ6_stringSize_0f7a4 10 = .ok (.istore_n 0, 1) := by decide +kernel
theorem dJ6_stringSize_0f7a4_11 : decode cJ6_stringSize_0f7a4 11 = .ok (.bipush (-10), 2) := by decide +kernel
theorem dJ6_stringSize_0f7a4_13 : decode cJ6_stringSize_0f7a4 13 = .ok (.istore_n 2, 1) := by decide +kernel
theorem dJ6_stringSize_0f7a4_14 : decode cJ6_stringSize_0f7a4 14 = .ok (.iconst 1, 1) := by decide +kernel
theorem dJ6_stringSize_0f7a4_15 : decode cJ6_stringSize_0f7a4 15 = .ok (.istore_n 3, 1) := by decide +kernel
theorem dJ6_stringSize_0f7a4_16 : decode cJ6_stringSize_0f7a4 16 = .ok (.iload_n 3, 1) := by decide +kernel
theorem dJ6_stringSize_0f7a4_17 : decode cJ6_stringSize_0f7a4 17 = .ok (.bipush 10, 2) := by decide +kernel
theorem dJ6_stringSize_0f7a4_19 : decode cJ6_stringSize_0f7a4 19 = .ok (.if_icmp .ge 23, 3) := by decide +kernel
theorem dJ6_stringSize_0f7a4_22 : decode cJ6_stringSize_0f7a4 22 = .ok (.iload_n 0, 1) := by decide +kernel
theorem dJ6_stringSize_0f7a4_23 : decode cJ6_stringSize_0f7a4 23 = .ok (.iload_n 2, 1) := by decide +kernel
theorem dJ6_stringSize_0f7a4_24 : decode cJ6_stringSize_0f7a4 24 = .ok (.if_icmp .le 7, 3) := by decide +kernel
theorem dJ6_stringSize_0f7a4_27 : decode cJ6_stringSize_0f7a4 27 = .ok (.iload_n 3, 1) := by decide +kernel
theorem dJ6_stringSize_0f7a4_28 : decode cJ6_stringSize_0f7a4 28 = .ok (.iload_n 1, 1) := by decide +kernel
theorem dJ6_stringSize_0f7a4_29 : decode cJ6_stringSize_0f7a4 29 = .ok (.iadd, 1) := by decide +kernel
theorem dJ6_stringSize_0f7a4_30 : decode cJ6_stringSize_0f7a4 30 = .ok (.ireturn, 1) := by decide +kernel
theorem dJ6_stringSize_0f7a4_31 : decode cJ6_stringSize_0f7a4 31 = .ok (.bipush 10, 2) := by decide +kernel
theorem dJ6_stringSize_0f7a4_33 : decode cJ6_stringSize_0f7a4 33 = .ok (.iload_n 2, 1) := by decide +kernel
theorem dJ6_stringSize_0f7a4_34 : decode cJ6_stringSize_0f7a4 34 = .ok (.imul, 1) := by decide +kernel
theorem dJ6_stringSize_0f7a4_35 : decode cJ6_stringSize_0f7a4 35 = .ok (.istore_n 2, 1) := by decide +kernel
theorem dJ6_stringSize_0f7a4_36 : decode cJ6_stringSize_0f7a4 36 = .ok (.iinc 3 1, 3) := by decide +kernel
theorem dJ6_stringSize_0f7a4_39 : decode cJ6_stringSize_0f7a4 39 = .ok (.goto (-23), 3) := by decide +kernel
theorem dJ6_stringSize_0f7a4_42 : decode cJ6_stringSize_0f7a4 42 = .ok (.bipush 10, 2) := by decide +kernel
theorem dJ6_stringSize_0f7a4_44 : decode cJ6_stringSize_0f7a4 44 = .ok (.iload_n 1, 1) := by decide +kernel
theorem dJ6_stringSize_0f7a4_45 : decode cJ6_stringSize_0f7a4 45 = .ok (.iadd, 1) := by decide +kernel
theorem dJ6_stringSize_0f7a4_46 : decode cJ6_stringSize_0f7a4 46 = .ok (.ireturn, 1) := by decide +kernel
theorem dJ9_max_7cf53_0 : decode cJ9_max_7cf53 0 = .ok (.iload_n 0, 1) := by decide +kernel
theorem dJ9_max_7cf53_1 : decode cJ9_max_7cf53 1 = .ok (.iload_n 1, 1) := by decide +kernel
theorem dJ9_max_7cf53_2 : decode cJ9_max_7cf53 2 = .ok (.if_icmp .lt 7, 3) := by decide +kernel
theorem dJ9_max_7cf53_5 : decode cJ9_max_7cf53 5 = .ok (.iload_n 0, 1) := by decide +kernel
theorem dJ9_max_7cf53_6 : decode cJ9_max_7cf53 6 = .ok (.goto 4, 3) := by decide +kernel
theorem dJ9_max_7cf53_9 : decode cJ9_max_7cf53 9 = .ok (.iload_n 1, 1) := by decide +kernel
theorem dJ9_max_7cf53_10 : decode cJ9_max_7cf53 10 = .ok (.ireturn, 1) := by decide +kernel
theorem dJ9_min_7cf53_0 : decode cJ9_min_7cf53 0 = .ok (.iload_n 0, 1) := by decide +kernel
theorem dJ9_min_7cf53_1 : decode cJ9_min_7cf53 1 = .ok (.iload_n 1, 1) := by decide +kernel
theorem dJ9_min_7cf53_2 : decode cJ9_min_7cf53 2 = .ok (.if_icmp .gt 7, 3) := by decide +kernel
theorem dJ9_min_7cf53_5 : decode cJ9_min_7cf53 5 = .ok (.iload_n 0, 1) := by decide +kernel
theorem dJ9_min_7cf53_6 : decode cJ9_min_7cf53 6 = .ok (.goto 4, 3) := by decide +kernel
theorem dJ9_min_7cf53_9 : decode cJ9_min_7cf53 9 = .ok (.iload_n 1, 1) := by decide +kernel
theorem dJ9_min_7cf53_10 : decode cJ9_min_7cf53 10 = .ok (.ireturn, 1) := by decide +kernel
theorem dJ0_init_81219_0 : decode cJ0_init_81219 0 = .ok (.aload_n 0, 1) := by decide +kernel
theorem dJ0_init_81219_1 : decode cJ0_init_81219 1 = .ok (.aload_n 1, 1) := by decide +kernel
theorem dJ0_init_81219_2 : decode cJ0_init_81219 2 = .ok (.aconst_null, 1) := by decide +kernel
theorem dJ0_init_81219_3 : decode cJ0_init_81219 3 = .ok (.invokespecial 489, 3) := by decide +kernel
theorem dJ0_init_81219_6 : decode cJ0_init_81219 6 = .ok (.return_, 1) := by decide +kernel
theorem dJ0_length_8abf5_0 : decode cJ0_length_8abf5 0 = .ok (.aload_n 0, 1) := by decide +kernel
theorem dJ0_length_8abf5_1 : decode cJ0_length_8abf5 1 = .ok (.getfield 9, 3) := by decide +kernel
theorem dJ0_length_8abf5_4 : decode cJ0_length_8abf5 4 = .ok (.arraylength, 1) := by decide +kernel
theorem dJ0_length_8abf5_5 : decode cJ0_length_8abf5 5 = .ok (.aload_n 0, 1) := by decide +kernel
theorem dJ0_length_8abf5_6 : decode cJ0_length_8abf5 6 = .ok (.invokevirtual 335, 3) := by decide +kernel
theorem dJ0_length_8abf5_9 : decode cJ0_length_8abf5 9 = .ok (.ishr, 1) := by decide +kernel
theorem dJ0_length_8abf5_10 : decode cJ0_length_8abf5 10 = .ok (.ireturn, 1) := by decide +kernel
theorem dJ0_charAt_5068e_0 : decode cJ0_charAt_5068e 0 = .ok (.aload_n 0, 1) := by decide +kernel
theorem dJ0_charAt_5068e_1 : decode cJ0_charAt_5068e 1 = .ok (.invokevirtual 492, 3) := by decide +kernel
theorem dJ0_charAt_5068e_4 : decode cJ0_charAt_5068e 4 = .ok (.ifCond .eq 12, 3) := by decide +kernel
theorem dJ0_charAt_5068e_7 : decode cJ0_charAt_5068e 7 = .ok (.aload_n 0, 1) := by decide +kernel
theorem dJ0_charAt_5068e_8 : decode cJ0_charAt_5068e 8 = .ok (.getfield 9, 3) := by decide +kernel
theorem dJ0_charAt_5068e_11 : decode cJ0_charAt_5068e 11 = .ok (.iload_n 1, 1) := by decide +kernel
theorem dJ0_charAt_5068e_12 : decode cJ0_charAt_5068e 12 = .ok (.invokestatic 495, 3) := by decide +kernel
theorem dJ0_charAt_5068e_15 : decode cJ0_charAt_5068e 15 = .ok (.ireturn, 1) := by decide +kernel
theorem dJ0_charAt_5068e_16 : decode cJ0_charAt_5068e 16 = .ok (.aload_n 0, 1) := by decide +kernel
theorem dJ0_charAt_5068e_17 : decode cJ0_charAt_5068e 17 = .ok (.getfield 9, 3) := by decide +kernel
theorem dJ0_charAt_5068e_20 : decode cJ0_charAt_5068e 20 = .ok (.iload_n 1, 1) := by decide +kernel
theorem dJ0_charAt_5068e_21 : decode cJ0_charAt_5068e 21 = .ok (.invokestatic 498, 3) := by decide +kernel
theorem dJ0_charAt_5068e_24 : decode cJ0_charAt_5068e 24 = .ok (.ireturn, 1) := by decide +kernel
theorem dJ0_getBytes_840e7_0 : decode cJ0_getBytes_840e7 0 = .ok (.aload_n 0, 1) := by decide +kernel
theorem dJ0_getBytes_840e7_1 : decode cJ0_getBytes_840e7 1 = .ok (.invokevirtual 335, 3) := by decide +kernel
theorem dJ0_getBytes_840e7_4 : decode cJ0_getBytes_840e7 4 = .ok (.iload_n 3, 1) := by decide +kernel
theorem dJ0_getBytes_840e7_5 : decode cJ0_getBytes_840e7 5 = .ok (.if_icmp .ne 23, 3) := by decide +kernel
theorem dJ0_getBytes_840e7_8 : decode cJ0_getBytes_840e7 8 = .ok (.aload_n 0, 1) := by decide +kernel
theorem dJ0_getBytes_840e7_9 : decode cJ0_getBytes_840e7 9 = .ok (.getfield 9, 3) := by decide +kernel
theorem dJ0_getBytes_840e7_12 : decode cJ0_getBytes_840e7 12 = .ok (.iconst 0, 1) := by decide +kernel
theorem dJ0_getBytes_840e7_13 : decode cJ0_getBytes_840e7 13 = .ok (.aload_n 1, 1) := by decide +kernel
theorem dJ0_getBytes_840e7_14 : decode cJ0_getBytes_840e7 14 = .ok (.iload_n 2, 1) := by decide +kernel
theorem dJ0_getBytes_840e7_15 : decode cJ0_getBytes_840e7 15 = .ok (.iload_n 3, 1) := by decide +kernel
theorem dJ0_getBytes_840e7_16 : decode cJ0_getBytes_840e7 16 = .ok (.ishl, 1) := by decide +kernel
theorem dJ0_getBytes_840e7_17 : decode cJ0_getBytes_840e7 17 = .ok (.aload_n 0, 1) := by decide +kernel
theorem dJ0_getBytes_840e7_18 : decode cJ0_getBytes_840e7 18 = .ok (.getfield 9, 3) := by decide +kernel
theorem dJ0_getBytes_840e7_21 : decode cJ0_getBytes_840e7 21 = .ok (.arraylength, 1) := by decide +kernel
theorem dJ0_getBytes_840e7_22 : decode cJ0_getBytes_840e7 22 = .ok (.invokestatic 212, 3) := by decide +kernel
theorem dJ0_getBytes_840e7_25 : decode cJ0_getBytes_840e7 25 = .ok (.goto 18, 3) := by decide +kernel
theorem dJ0_getBytes_840e7_28 : decode cJ0_getBytes_840e7 28 = .ok (.aload_n 0, 1) := by decide +kernel
theorem dJ0_getBytes_840e7_29 : decode cJ0_getBytes_840e7 29 = .ok (.getfield 9, 3) := by decide +kernel
theorem dJ0_getBytes_840e7_32 : decode cJ0_getBytes_840e7 32 = .ok (.iconst 0, 1) := by decide +kernel
theorem dJ0_getBytes_840e7_33 : decode cJ0_getBytes_840e7 33 = .ok (.aload_n 1, 1) := by decide +kernel
theorem dJ0_getBytes_840e7_34 : decode cJ0_getBytes_840e7 34 = .ok (.iload_n 2, 1) := by decide +kernel
theorem dJ0_getBytes_840e7_35 : decode cJ0_getBytes_840e7 35 = .ok (.aload_n 0, 1) := by decide +kernel
theorem dJ0_getBytes_840e7_36 : decode cJ0_getBytes_840e7 36 = .ok (.getfield 9, 3) := by decide +kernel
theorem dJ0_getBytes_840e7_39 : decode cJ0_getBytes_840e7 39 = .ok (.arraylength, 1) := by decide +kernel
theorem dJ0_getBytes_840e7_40 : decode cJ0_getBytes_840e7 40 = .ok (.invokestatic 106, 3) := by decide +kernel
theorem dJ0_getBytes_840e7_43 : decode cJ0_getBytes_840e7 43 = .ok (.return_, 1) := by decide +kernel
theorem dJ0_init_db425_0 : decode cJ0_init_db425 0 = .ok (.aload_n 0, 1) := by decide +kernel
theorem dJ0_init_db425_1 : decode cJ0_init_db425 1 = .ok (.invokespecial 1, 3) := by decide +kernel
theorem dJ0_init_db425_4 : decode cJ0_init_db425 4 = .ok (.aload_n 1, 1) := by decide +kernel
theorem dJ0_init_db425_5 : decode cJ0_init_db425 5 = .ok (.invokevirtual 552, 3) := by decide +kernel
theorem dJ0_init_db425_8 : decode cJ0_init_db425 8 = .ok (.astore_n 3, 1) := by decide +kernel
theorem dJ0_init_db425_9 : decode cJ0_init_db425 9 = .ok (.aload_n 1, 1) := by decide +kernel
theorem dJ0_init_db425_10 : decode cJ0_init_db425 10 = .ok (.invokevirtual 549, 3) := by decide +kernel
theorem dJ0_init_db425_13 : decode cJ0_init_db425 13 = .ok (.istore 4, 2) := by decide +kernel
theorem dJ0_init_db425_15 : decode cJ0_init_db425 15 = .ok (.aload_n 1, 1) := by decide +kernel
theorem dJ0_init_db425_16 : decode cJ0_init_db425 16 = .ok (.invokevirtual 1047, 3) := by decide +kernel
theorem dJ0_init_db425_19 : decode cJ0_init_db425 19 = .ok (.ifCond .eq 22, 3) := by decide +kernel
theorem dJ0_init_db425_22 : decode cJ0_init_db425 22 = .ok (.aload_n 0, 1) := by decide +kernel
theorem dJ0_init_db425_23 : decode cJ0_init_db425 23 = .ok (.iconst 0, 1) := by decide +kernel
theorem dJ0_init_db425_24 : decode cJ0_init_db425 24 = .ok (.putfield 15, 3) := by decide +kernel
theorem dJ0_init_db425_27 : decode cJ0_init_db425 27 = .ok (.aload_n 0, 1) := by decide +kernel
theorem dJ0_init_db425_28 : decode cJ0_init_db425 28 = .ok (.aload_n 3, 1) := by decide +kernel
theorem dJ0_init_db425_29 : decode cJ0_init_db425 29 = .ok (.iconst 0, 1) := by decide +kernel
theorem dJ0_init_db425_30 : decode cJ0_init_db425 30 = .ok (.iload 4, 2) := by decide +kernel
theorem dJ0_init_db425_32 : decode cJ0_init_db425 32 = .ok (.invokestatic 54, 3) := by decide +kernel
theorem dJ0_init_db425_35 : decode cJ0_init_db425 35 = .ok (.putfield 9, 3) := by decide +kernel
theorem dJ0_init_db425_38 : decode cJ0_init_db425 38 = .ok (.goto 59, 3) := by decide +kernel
theorem dJ0_init_db425_41 : decode cJ0_init_db425 41 = .ok (.getstatic 38, 3) := by decide +kernel
theorem dJ0_init_db425_44 : decode cJ0_init_db425 44 = .ok (.ifCond .eq 35, 3) := by decide +kernel
theorem dJ0_init_db425_47 : decode cJ0_init_db425 47 = .ok (.aload_n 1, 1) := by decide +kernel
theorem dJ0_init_db425_48 : decode cJ0_init_db425 48 = .ok (.getfield 1048, 3) := by decide +kernel
theorem dJ0_init_db425_51 : decode cJ0_init_db425 51 = .ok (.ifCond .eq 28, 3) := by decide +kernel
theorem dJ0_init_db425_54 : decode cJ0_init_db425 54 = .ok (.aload_n 0, 1) := by decide +kernel
theorem dJ0_init_db425_55 : decode cJ0_init_db425 55 = .ok (.aload_n 3, 1) := by decide +kernel
theorem dJ0_init_db425_56 : decode cJ0_init_db425 56 = .ok (.iconst 0, 1) := by decide +kernel
theorem dJ0_init_db425_57 : decode cJ0_init_db425 57 = .ok (.iload 4, 2) := by decide +kernel
theorem dJ0_init_db425_59 : decode cJ0_init_db425 59 = .ok (.invokestatic 1051, 3) := by decide +kernel
theorem dJ0_init_db425_62 : decode cJ0_init_db425 62 = .ok (.putfield 9, 3) := by decide +kernel
theorem dJ0_init_db425_65 : decode cJ0_init_db425 65 = .ok (.aload_n 0, 1) := by decide +kernel
theorem dJ0_init_db425_66 : decode cJ0_init_db425 66 = .ok (.aload_n 0, 1) := by decide +kernel
theorem dJ0_init_db425_67 : decode cJ0_init_db425 67 = .ok (.getfield 9, 3) := by decide +kernel
theorem dJ0_init_db425_70 : decode cJ0_init_db425 70 = .ok (.iload 4, 2) := by decide +kernel
theorem dJ0_init_db425_72 : decode cJ0_init_db425 72 = .ok (.invokestatic 47, 3) := by decide +kernel
theorem dJ0_init_db425_75 : decode cJ0_init_db425 75 = .ok (.putfield 15, 3) := by decide +kernel
theorem dJ0_init_db425_78 : decode cJ0_init_db425 78 = .ok (.return_, 1) := by decide +kernel
theorem dJ0_init_db425_79 : decode cJ0_init_db425 79 = .ok (.aload_n 0, 1) := by decide +kernel
theorem dJ0_init_db425_80 : decode cJ0_init_db425 80 = .ok (.iconst 1, 1) := by decide +kernel
theorem dJ0_init_db425_81 : decode cJ0_init_db425 81 = .ok (.putfield 15, 3) := by decide +kernel
theorem dJ0_init_db425_84 : decode cJ0_init_db425 84 = .ok (.aload_n 0, 1) := by decide +kernel
theorem dJ0_init_db425_85 : decode cJ0_init_db425 85 = .ok (.aload_n 3, 1) := by decide +kernel
theorem dJ0_init_db425_86 : decode cJ0_init_db425 86 = .ok (.iconst 0, 1) := by decide +kernel
theorem dJ0_init_db425_87 : decode cJ0_init_db425 87 = .ok (.iload 4, 2) := by decide +kernel
theorem dJ0_init_db425_89 : decode cJ0_init_db425 89 = .ok (.iconst 1, 1) := by decide +kernel
theorem dJ0_init_db425_90 : decode cJ0_init_db425 90 = .ok (.ishl, 1) := by decide +kernel
theorem dJ0_init_db425_91 : decode cJ0_init_db425 91 = .ok (.invokestatic 54, 3) := by decide +kernel
theorem dJ0_init_db425_94 : decode cJ0_init_db425 94 = .ok (.putfield 9, 3) := by decide +kernel
theorem dJ0_init_db425_97 : decode cJ0_init_db425 97 = .ok (.return_, 1) := by decide +kernel
theorem dJ0_coder_7d493_0 : decode cJ0_coder_7d493 0 = .ok (.getstatic 38, 3) := by decide +kernel
theorem dJ0_coder_7d493_3 : decode cJ0_coder_7d493 3 = .ok (.ifCond .eq 10, 3) := by decide +kernel
theorem dJ0_coder_7d493_6 : decode cJ0_coder_7d493 6 = .ok (.aload_n 0, 1) := by decide +kernel
theorem dJ0_coder_7d493_7 : decode cJ0_coder_7d493 7 = .ok (.getfield 15, 3) := by decide +kernel
theorem dJ0_coder_7d493_10 : decode cJ0_coder_7d493 10 = .ok (.goto 4, 3) := by decide +kernel
theorem dJ0_coder_7d493_13 : decode cJ0_coder_7d493 13 = .ok (.iconst 1, 1) := by decide +kernel
theorem dJ0_coder_7d493_14 : decode cJ0_coder_7d493 14 = .ok (.ireturn, 1) := by decide +kernel
theorem dJ0_isLatin1_aae02_0 : decode cJ0_isLatin1_aae02 0 = .ok (.getstatic 38, 3) := by decide +kernel
theorem dJ0_isLatin1_aae02_3 : decode cJ0_isLatin1_aae02 3 = .ok (.ifCond .eq 14, 3) := by decide +kernel
theorem dJ0_isLatin1_aae02_6 : decode cJ0_isLatin1_aae02 6 = .ok (.aload_n 0, 1) := by decide +kernel
theorem dJ0_isLatin1_aae02_7 : decode cJ0_isLatin1_aae02 7 = .ok (.getfield 15, 3) := by decide +kernel
theorem dJ0_isLatin1_aae02_10 : decode cJ0_isLatin1_aae02 10 = .ok (.ifCond .ne 7, 3) := by decide +kernel
theorem dJ0_isLatin1_aae02_13 : decode cJ0_isLatin1_aae02 13 = .ok (.iconst 1, 1) := by decide +kernel
theorem dJ0_isLatin1_aae02_14 : decode cJ0_isLatin1_aae02 14 = .ok (.goto 4, 3) := by decide +kernel
theorem dJ0_isLatin1_aae02_17 : decode cJ0_isLatin1_aae02 17 = .ok (.iconst 0, 1) := by decide +kernel
theorem dJ0_isLatin1_aae02_18 : decode cJ0_isLatin1_aae02 18 = .ok (.ireturn, 1) := by decide +kernel
theorem dJ0_checkIndex_df160_0 : decode cJ0_checkIndex_df160 0 = .ok (.iload_n 0, 1) := by decide +kernel
theorem dJ0_checkIndex_df160_1 : decode cJ0_checkIndex_df160 1 = .ok (.iload_n 1, 1) := by decide +kernel
theorem dJ0_checkIndex_df160_2 : decode cJ0_checkIndex_df160 2 = .ok (.getstatic 1053, 3) := by decide +kernel
theorem dJ0_checkIndex_df160_5 : decode cJ0_checkIndex_df160 5 = .ok (.invokestatic 1059, 3) := by decide +kernel
theorem dJ0_checkIndex_df160_8 : decode cJ0_checkIndex_df160 8 = .ok (.pop, 1) := by decide +kernel
theorem dJ0_checkIndex_df160_9 : decode cJ0_checkIndex_df160 9 = .ok (.return_, 1) := by decide +kernel
theorem dJ0_checkBoundsOffCount_cabcc_0 : decode cJ0_checkBoundsOffCount_cabcc 0 = .ok (.iload_n 0, 1) := by decide +kernel
theorem dJ0_checkBoundsOffCount_cabcc_1 : decode cJ0_checkBoundsOffCount_cabcc 1 = .ok (.iload_n 1, 1) := by decide +kernel
theorem dJ0_checkBoundsOffCount_cabcc_2 : decode cJ0_checkBoundsOffCount_cabcc 2 = .ok (.iload_n 2, 1) := by decide +kernel
theorem dJ0_checkBoundsOffCount_cabcc_3 : decode cJ0_checkBoundsOffCount_cabcc 3 = .ok (.getstatic 1053, 3) := by decide +kernel
theorem dJ0_checkBoundsOffCount_cabcc_6 : decode cJ0_checkBoundsOffCount_cabcc 6 = .ok (.invokestatic 1065, 3) := by decide +kernel
theorem dJ0_checkBoundsOffCount_cabcc_9 : decode cJ0_checkBoundsOffCount_cabcc 9 = .ok (.ireturn, 1) := by decide +kernel
theorem dJ0_checkBoundsBeginEnd_23922_0 : decode cJ0_checkBoundsBeginEnd_23922 0 = .ok (.iload_n 0, 1) := by decide +kernel
theorem dJ0_checkBoundsBeginEnd_23922_1 : decode cJ0_checkBoundsBeginEnd_23922 1 = .ok (.iload_n 1, 1) := by decide +kernel
theorem dJ0_checkBoundsBeginEnd_23922_2 : decode cJ0_checkBoundsBeginEnd_23922 2 = .ok (.iload_n 2, 1) := by decide +kernel
