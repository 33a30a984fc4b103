theorem dX10_init_0 : decode cX10_init 0 = .ok (.aload_n 0, 1) := by decide +kernel
theorem dX10_init_1 : decode cX10_init 1 = .ok (.invokespecial 1, 3) := by decide +kernel
theorem dX10_init_4 : decode cX10_init 4 = .ok (.aload_n 0, 1) := by decide +kernel
theorem dX10_init_5 : decode cX10_init 5 = .ok (.bipush 17, 2) := by decide +kernel
theorem dX10_init_7 : decode cX10_init 7 = .ok (.newarray .int, 2) := by decide +kernel
theorem dX10_init_9 : decode cX10_init 9 = .ok (.dup, 1) := by decide +kernel
theorem dX10_init_10 : decode cX10_init 10 = .ok (.iconst 0, 1) := by decide +kernel
theorem dX10_init_11 : decode cX10_init 11 = .ok (.iconst 0, 1) := by decide +kernel
theorem dX10_init_12 : decode cX10_init 12 = .ok (.iastore, 1) := by decide +kernel
theorem dX10_init_13 : decode cX10_init 13 = .ok (.dup, 1) := by decide +kernel
theorem dX10_init_14 : decode cX10_init 14 = .ok (.iconst 1, 1) := by decide +kernel
theorem dX10_init_15 : decode cX10_init 15 = .ok (.iconst 0, 1) := by decide +kernel
theorem dX10_init_16 : decode cX10_init 16 = .ok (.iastore, 1) := by decide +kernel
theorem dX10_init_17 : decode cX10_init 17 = .ok (.dup, 1) := by decide +kernel
theorem dX10_init_18 : decode cX10_init 18 = .ok (.iconst 2, 1) := by decide +kernel
theorem dX10_init_19 : decode cX10_init 19 = .ok (.iconst 0, 1) := by decide +kernel
theorem dX10_init_20 : decode cX10_init 20 = .ok (.iastore, 1) := by decide +kernel
theorem dX10_init_21 : decode cX10_init 21 = .ok (.dup, 1) := by decide +kernel
theorem dX10_init_22 : decode cX10_init 22 = .ok (.iconst 3, 1) := by decide +kernel
theorem dX10_init_23 : decode cX10_init 23 = .ok (.iconst 0, 1) := by decide +kernel
theorem dX10_init_24 : decode cX10_init 24 = .ok (.iastore, 1) := by decide +kernel
theorem dX10_init_25 : decode cX10_init 25 = .ok (.dup, 1) := by decide +kernel
theorem dX10_init_26 : decode cX10_init 26 = .ok (.iconst 4, 1) := by decide +kernel
theorem dX10_init_27 : decode cX10_init 27 = .ok (.iconst 0, 1) := by decide +kernel
theorem dX10_init_28 : decode cX10_init 28 = .ok (.iastore, 1) := by decide +kernel
theorem dX10_init_29 : decode cX10_init 29 = .ok (.dup, 1) := by decide +kernel
theorem dX10_init_30 : decode cX10_init 30 = .ok (.iconst 5, 1) := by decide +kernel
theorem dX10_init_31 : decode cX10_init 31 = .ok (.iconst 0, 1) := by decide +kernel
theorem dX10_init_32 : decode cX10_init 32 = .ok (.iastore, 1) := by decide +kernel
theorem dX10_init_33 : decode cX10_init 33 = .ok (.dup, 1) := by decide +kernel
theorem dX10_init_34 : decode cX10_init 34 = .ok (.bipush 6, 2) := by decide +kernel
theorem dX10_init_36 : decode cX10_init 36 = .ok (.iconst (-1), 1) := by decide +kernel
theorem dX10_init_37 : decode cX10_init 37 = .ok (.iastore, 1) := by decide +kernel
theorem dX10_init_38 : decode cX10_init 38 = .ok (.dup, 1) := by decide +kernel
theorem dX10_init_39 : decode cX10_init 39 = .ok (.bipush 7, 2) := by decide +kernel
theorem dX10_init_41 : decode cX10_init 41 = .ok (.iconst 0, 1) := by decide +kernel
theorem dX10_init_42 : decode cX10_init 42 = .ok (.iastore, 1) := by decide +kernel
theorem dX10_init_43 : decode cX10_init 43 = .ok (.dup, 1) := by decide +kernel
theorem dX10_init_44 : decode cX10_init 44 = .ok (.bipush 8, 2) := by decide +kernel
theorem dX10_init_46 : decode cX10_init 46 = .ok (.iconst 0, 1) := by decide +kernel
theorem dX10_init_47 : decode cX10_init 47 = .ok (.iastore, 1) := by decide +kernel
theorem dX10_init_48 : decode cX10_init 48 = .ok (.dup, 1) := by decide +kernel
theorem dX10_init_49 : decode cX10_init 49 = .ok (.bipush 9, 2) := by decide +kernel
theorem dX10_init_51 : decode cX10_init 51 = .ok (.iconst 0, 1) := by decide +kernel
theorem dX10_init_52 : decode cX10_init 52 = .ok (.iastore, 1) := by decide +kernel
theorem dX10_init_53 : decode cX10_init 53 = .ok (.dup, 1) := by decide +kernel
theorem dX10_init_54 : decode cX10_init 54 = .ok (.bipush 10, 2) := by decide +kernel
theorem dX10_init_56 : decode cX10_init 56 = .ok (.iconst 0, 1) := by decide +kernel
theorem dX10_init_57 : decode cX10_init 57 = .ok (.iastore, 1) := by decide +kernel
theorem dX10_init_58 : decode cX10_init 58 = .ok (.dup, 1) := by decide +kernel
theorem dX10_init_59 : decode cX10_init 59 = .ok (.bipush 11, 2) := by decide +kernel
theorem dX10_init_61 : decode cX10_init 61 = .ok (.iconst 0, 1) := by decide +kernel
theorem dX10_init_62 : decode cX10_init 62 = .ok (.iastore, 1) := by decide +kernel
theorem dX10_init_63 : decode cX10_init 63 = .ok (.dup, 1) := by decide +kernel
theorem dX10_init_64 : decode cX10_init 64 = .ok (.bipush 12, 2) := by decide +kernel
theorem dX10_init_66 : decode cX10_init 66 = .ok (.iconst 0, 1) := by decide +kernel
theorem dX10_init_67 : decode cX10_init 67 = .ok (.iastore, 1) := by decide +kernel
theorem dX10_init_68 : decode cX10_init 68 = .ok (.dup, 1) := by decide +kernel
theorem dX10_init_69 : decode cX10_init 69 = .ok (.bipush 13, 2) := by decide +kernel
theorem dX10_init_71 : decode cX10_init 71 = .ok (.iconst 0, 1) := by decide +kernel
theorem dX10_init_72 : decode cX10_init 72 = .ok (.iastore, 1) := by decide +kernel
theorem dX10_init_73 : decode cX10_init 73 = .ok (.dup, 1) := by decide +kernel
theorem dX10_init_74 : decode cX10_init 74 = .ok (.bipush 14, 2) := by decide +kernel
theorem dX10_init_76 : decode cX10_init 76 = .ok (.iconst 0, 1) := by decide +kernel
theorem dX10_init_77 : decode cX10_init 77 = .ok (.iastore, 1) := by decide +kernel
theorem dX10_init_78 : decode cX10_init 78 = .ok (.dup, 1) := by decide +kernel
theorem dX10_init_79 : decode cX10_init 79 = .ok (.bipush 15, 2) := by decide +kernel
theorem dX10_init_81 : decode cX10_init 81 = .ok (.iconst (-1), 1) := by decide +kernel
theorem dX10_init_82 : decode cX10_init 82 = .ok (.iastore, 1) := by decide +kernel
theorem dX10_init_83 : decode cX10_init 83 = .ok (.dup, 1) := by decide +kernel
theorem dX10_init_84 : decode cX10_init 84 = .ok (.bipush 16, 2) := by decide +kernel
theorem dX10_init_86 : decode cX10_init 86 = .ok (.iconst 0, 1) := by decide +kernel
theorem dX10_init_87 : decode cX10_init 87 = .ok (.iastore, 1) := by decide +kernel
theorem dX10_init_88 : decode cX10_init 88 = .ok (.putfield 9, 3) := by decide +kernel
theorem dX10_init_91 : decode cX10_init 91 = .ok (.aload_n 0, 1) := by decide +kernel
theorem dX10_init_92 : decode cX10_init 92 = .ok (.bipush 9, 2) := by decide +kernel
theorem dX10_init_94 : decode cX10_init 94 = .ok (.newarray .int, 2) := by decide +kernel
theorem dX10_init_96 : decode cX10_init 96 = .ok (.putfield 13, 3) := by decide +kernel
theorem dX10_init_99 : decode cX10_init 99 = .ok (.aload_n 0, 1) := by decide +kernel
theorem dX10_init_100 : decode cX10_init 100 = .ok (.bipush 9, 2) := by decide +kernel
theorem dX10_init_102 : decode cX10_init 102 = .ok (.newarray .int, 2) := by decide +kernel
theorem dX10_init_104 : decode cX10_init 104 = .ok (.putfield 16, 3) := by decide +kernel
theorem dX10_init_107 : decode cX10_init 107 = .ok (.aload_n 0, 1) := by decide +kernel
theorem dX10_init_108 : decode cX10_init 108 = .ok (.iconst 4, 1) := by decide +kernel
theorem dX10_init_109 : decode cX10_init 109 = .ok (.newarray .int, 2) := by decide +kernel
theorem dX10_init_111 : decode cX10_init 111 = .ok (.putfield 19, 3) := by decide +kernel
theorem dX10_init_114 : decode cX10_init 114 = .ok (.aload_n 0, 1) := by decide +kernel
theorem dX10_init_115 : decode cX10_init 115 = .ok (.bipush 6, 2) := by decide +kernel
theorem dX10_init_117 : decode cX10_init 117 = .ok (.newarray .int, 2) := by decide +kernel
theorem dX10_init_119 : decode cX10_init 119 = .ok (.putfield 22, 3) := by decide +kernel
theorem dX10_init_122 : decode cX10_init 122 = .ok (.aload_n 0, 1) := by decide +kernel
theorem dX10_init_123 : decode cX10_init 123 = .ok (.bipush 6, 2) := by decide +kernel
theorem dX10_init_125 : decode cX10_init 125 = .ok (.newarray .int, 2) := by decide +kernel
theorem dX10_init_127 : decode cX10_init 127 = .ok (.putfield 25, 3) := by decide +kernel
theorem dX10_init_130 : decode cX10_init 130 = .ok (.aload_n 0, 1) := by decide +kernel
theorem dX10_init_131 : decode cX10_init 131 = .ok (.bipush 6, 2) := by decide +kernel
theorem dX10_init_133 : decode cX10_init 133 = .ok (.newarray .int, 2) := by decide +kernel
theorem dX10_init_135 : decode cX10_init 135 = .ok (.putfield 28, 3) := by decide +kernel
theorem dX10_init_138 : decode cX10_init 138 = .ok (.aload_n 0, 1) := by decide +kernel
theorem dX10_init_139 : decode cX10_init 139 = .ok (.bipush 36, 2) := by decide +kernel
theorem dX10_init_141 : decode cX10_init 141 = .ok (.newarray .int, 2) := by decide +kernel
theorem dX10_init_143 : decode cX10_init 143 = .ok (.putfield 31, 3) := by decide +kernel
theorem dX10_init_146 : decode cX10_init 146 = .ok (.aload_n 0, 1) := by decide +kernel
theorem dX10_init_147 : decode cX10_init 147 = .ok (.bipush 12, 2) := by decide +kernel
theorem dX10_init_149 : decode cX10_init 149 = .ok (.newarray .int, 2) := by decide +kernel
theorem dX10_init_151 : decode cX10_init 151 = .ok (.putfield 34, 3) := by decide +kernel
theorem dX10_init_154 : decode cX10_init 154 = .ok (.aload_n 0, 1) := by decide +kernel
theorem dX10_init_155 : decode cX10_init 155 = .ok (.bipush 12, 2) := by decide +kernel
theorem dX10_init_157 : decode cX10_init 157 = .ok (.newarray .int, 2) := by decide +kernel
theorem dX10_init_159 : decode cX10_init 159 = .ok (.putfield 37, 3) := by decide +kernel
theorem dX10_init_162 : decode cX10_init 162 = .ok (.aload_n 0, 1) := by decide +kernel
theorem dX10_init_163 : decode cX10_init 163 = .ok (.bipush 12, 2) := by decide +kernel
theorem dX10_init_165 : decode cX10_init 165 = .ok (.newarray .int, 2) := by decide +kernel
theorem dX10_init_167 : decode cX10_init 167 = .ok (.putfield 40, 3) := by decide +kernel
theorem dX10_init_170 : decode cX10_init 170 = .ok (.aload_n 0, 1) := by decide +kernel
theorem dX10_init_171 : decode cX10_init 171 = .ok (.bipush 12, 2) := by decide +kernel
theorem dX10_init_173 : decode cX10_init 173 = .ok (.newarray .int, 2) := by decide +kernel
theorem dX10_init_175 : decode cX10_init 175 = .ok (.putfield 43, 3) := by decide +kernel
theorem dX10_init_178 : decode cX10_init 178 = .ok (.aload_n 0, 1) := by decide +kernel
theorem dX10_init_179 : decode cX10_init 179 = .ok (.bipush 12, 2) := by decide +kernel
theorem dX10_init_181 : decode cX10_init 181 = .ok (.newarray .int, 2) := by decide +kernel
theorem dX10_init_183 : decode cX10_init 183 = .ok (.putfield 46, 3) := by decide +kernel
theorem dX10_init_186 : decode cX10_init 186 = .ok (.aload_n 0, 1) := by decide +kernel
theorem dX10_init_187 : decode cX10_init 187 = .ok (.bipush 12, 2) := by decide +kernel
theorem dX10_init_189 : decode cX10_init 189 = .ok (.newarray .int, 2) := by decide +kernel
theorem dX10_init_191 : decode cX10_init 191 = .ok (.putfield 49, 3) := by decide +kernel
theorem dX10_init_194 : decode cX10_init 194 = .ok (.aload_n 0, 1) := by decide +kernel
theorem dX10_init_195 : decode cX10_init 195 = .ok (.bipush 12, 2) := by decide +kernel
theorem dX10_init_197 : decode cX10_init 197 = .ok (.newarray .int, 2) := by decide +kernel
theorem dX10_init_199 : decode cX10_init 199 = .ok (.putfield 52, 3) := by decide +kernel
theorem dX10_init_202 : decode cX10_init 202 = .ok (.aload_n 0, 1) := by decide +kernel
theorem dX10_init_203 : decode cX10_init 203 = .ok (.bipush 12, 2) := by decide +kernel
theorem dX10_init_205 : decode cX10_init 205 = .ok (.newarray .int, 2) := by decide +kernel
theorem dX10_init_207 : decode cX10_init 207 = .ok (.putfield 55, 3) := by decide +kernel
theorem dX10_init_210 : decode cX10_init 210 = .ok (.aload_n 0, 1) := by decide +kernel
theorem dX10_init_211 : decode cX10_init 211 = .ok (.bipush 12, 2) := by decide +kernel
theorem dX10_init_213 : decode cX10_init 213 = .ok (.newarray .int, 2) := by decide +kernel
theorem dX10_init_215 : decode cX10_init 215 = .ok (.putfield 58, 3) := by decide +kernel
theorem dX10_init_218 : decode cX10_init 218 = .ok (.aload_n 0, 1) := by decide +kernel
theorem dX10_init_219 : decode cX10_init 219 = .ok (.bipush 72, 2) := by decide +kernel
theorem dX10_init_221 : decode cX10_init 221 = .ok (.newarray .int, 2) := by decide +kernel
theorem dX10_init_223 : decode cX10_init 223 = .ok (.putfield 61, 3) := by decide +kernel
theorem dX10_init_226 : decode cX10_init 226 = .ok (.aload_n 0, 1) := by decide +kernel
theorem dX10_init_227 : decode cX10_init 227 = .ok (.bipush 20, 2) := by decide +kernel
theorem dX10_init_229 : decode cX10_init 229 = .ok (.newarray .int, 2) := by decide +kernel
theorem dX10_init_231 : decode cX10_init 231 = .ok (.putfield 64, 3) := by decide +kernel
theorem dX10_init_234 : decode cX10_init 234 = .ok (.aload_n 0, 1) := by decide +kernel
theorem dX10_init_235 : decode cX10_init 235 = .ok (.bipush 20, 2) := by decide +kernel
theorem dX10_init_237 : decode cX10_init 237 = .ok (.newarray .int, 2) := by decide +kernel
theorem dX10_init_239 : decode cX10_init 239 = .ok (.putfield 67, 3) := by decide +kernel
theorem dX10_init_242 : decode cX10_init 242 = .ok (.aload_n 0, 1) := by decide +kernel
theorem dX10_init_243 : decode cX10_init 243 = .ok (.bipush 20, 2) := by decide +kernel
theorem dX10_init_245 : decode cX10_init 245 = .ok (.newarray .int, 2) := by decide +kernel
theorem dX10_init_247 : decode cX10_init 247 = .ok (.putfield 70, 3) := by decide +kernel
theorem dX10_init_250 : decode cX10_init 250 = .ok (.aload_n 0, 1) := by decide +kernel
theorem dX10_init_251 : decode cX10_init 251 = .ok (.bipush 20, 2) := by decide +kernel
theorem dX10_init_253 : decode cX10_init 253 = .ok (.newarray .int, 2) := by decide +kernel
theorem dX10_init_255 : decode cX10_init 255 = .ok (.putfield 73, 3) := by decide +kernel
theorem dX10_init_258 : decode cX10_init 258 = .ok (.aload_n 0, 1) := by decide +kernel
theorem dX10_init_259 : decode cX10_init 259 = .ok (.bipush 20, 2) := by decide +kernel
theorem dX10_init_261 : decode cX10_init 261 = .ok (.newarray .int, 2) := by decide +kernel
theorem dX10_init_263 : decode cX10_init 263 = .ok (.putfield 76, 3) := by decide +kernel
theorem dX10_init_266 : decode cX10_init 266 = .ok (.aload_n 0, 1) := by decide +kernel
theorem dX10_init_267 : decode cX10_init 267 = .ok (.bipush 12, 2) := by decide +kernel
theorem dX10_init_269 : decode cX10_init 269 = .ok (.newarray .int, 2) := by decide +kernel
theorem dX10_init_271 : decode cX10_init 271 = .ok (.putfield 79, 3) := by decide +kernel
theorem dX10_init_274 : decode cX10_init 274 = .ok (.aload_n 0, 1) := by decide +kernel
theorem dX10_init_275 : decode cX10_init 275 = .ok (.bipush 12, 2) := by decide +kernel
theorem dX10_init_277 : decode cX10_init 277 = .ok (.newarray .int, 2) := by decide +kernel
theorem dX10_init_279 : decode cX10_init 279 = .ok (.putfield 82, 3) := by decide +kernel
theorem dX10_init_282 : decode cX10_init 282 = .ok (.aload_n 0, 1) := by decide +kernel
theorem dX10_init_283 : decode cX10_init 283 = .ok (.bipush 12, 2) := by decide +kernel
theorem dX10_init_285 : decode cX10_init 285 = .ok (.newarray .int, 2) := by decide +kernel
theorem dX10_init_287 : decode cX10_init 287 = .ok (.putfield 85, 3) := by decide +kernel
theorem dX10_init_290 : decode cX10_init 290 = .ok (.aload_n 0, 1) := by decide +kernel
theorem dX10_init_291 : decode cX10_init 291 = .ok (.bipush 12, 2) := by decide +kernel
theorem dX10_init_293 : decode cX10_init 293 = .ok (.newarray .int, 2) := by decide +kernel
theorem dX10_init_295 : decode cX10_init 295 = .ok (.putfield 88, 3) := by decide +kernel
theorem dX10_init_298 : decode cX10_init 298 = .ok (.aload_n 0, 1) := by decide +kernel
theorem dX10_init_299 : decode cX10_init 299 = .ok (.sipush 360, 3) := by decide +kernel
theorem dX10_init_302 : decode cX10_init 302 = .ok (.newarray .int, 2) := by decide +kernel
theorem dX10_init_304 : decode cX10_init 304 = .ok (.putfield 91, 3) := by decide +kernel
theorem dX10_init_307 : decode cX10_init 307 = .ok (.aload_n 0, 1) := by decide +kernel
theorem dX10_init_308 : decode cX10_init 308 = .ok (.iconst 5, 1) := by decide +kernel
theorem dX10_init_309 : decode cX10_init 309 = .ok (.newarray .int, 2) := by decide +kernel
theorem dX10_init_311 : decode cX10_init 311 = .ok (.putfield 94, 3) := by decide +kernel
theorem dX10_init_314 : decode cX10_init 314 = .ok (.aload_n 0, 1) := by decide +kernel
theorem dX10_init_315 : decode cX10_init 315 = .ok (.bipush 9, 2) := by decide +kernel
theorem dX10_init_317 : decode cX10_init 317 = .ok (.newarray .int, 2) := by decide +kernel
theorem dX10_init_319 : decode cX10_init 319 = .ok (.putfield 97, 3) := by decide +kernel
theorem dX10_init_322 : decode cX10_init 322 = .ok (.aload_n 0, 1) := by decide +kernel
theorem dX10_init_323 : decode cX10_init 323 = .ok (.iconst 4, 1) := by decide +kernel
theorem dX10_init_324 : decode cX10_init 324 = .ok (.newarray .int, 2) := by decide +kernel
theorem dX10_init_326 : decode cX10_init 326 = .ok (.putfield 100, 3) := by decide +kernel
theorem dX10_init_329 : decode cX10_init 329 = .ok (.aload_n 0, 1) := by decide +kernel
theorem dX10_init_330 : decode cX10_init 330 = .ok (.bipush 6, 2) := by decide +kernel
theorem dX10_init_332 : decode cX10_init 332 = .ok (.newarray .int, 2) := by decide +kernel
theorem dX10_init_334 : decode cX10_init 334 = .ok (.putfield 103, 3) := by decide +kernel
theorem dX10_init_337 : decode cX10_init 337 = .ok (.aload_n 0, 1) := by decide +kernel
theorem dX10_init_338 : decode cX10_init 338 = .ok (.bipush 12, 2) := by decide +kernel
theorem dX10_init_340 : decode cX10_init 340 = .ok (.newarray .int, 2) := by decide +kernel
theorem dX10_init_342 : decode cX10_init 342 = .ok (.putfield 106, 3) := by decide +kernel
theorem dX10_init_345 : decode cX10_init 345 = .ok (.aload_n 0, 1) := by decide +kernel
theorem dX10_init_346 : decode cX10_init 346 = .ok (.bipush 12, 2) := by decide +kernel
theorem dX10_init_348 : decode cX10_init 348 = .ok (.newarray .int, 2) := by decide +kernel
theorem dX10_init_350 : decode cX10_init 350 = .ok (.putfield 109, 3) := by decide +kernel
theorem dX10_init_353 : decode cX10_init 353 = .ok (.aload_n 0, 1) := by decide +kernel
theorem dX10_init_354 : decode cX10_init 354 = .ok (.bipush 12, 2) := by decide +kernel
theorem dX10_init_356 : decode cX10_init 356 = .ok (.newarray .int, 2) := by decide +kernel
theorem dX10_init_358 : decode cX10_init 358 = .ok (.putfield 112, 3) := by decide +kernel
theorem dX10_init_361 : decode cX10_init 361 = .ok (.aload_n 0, 1) := by decide +kernel
theorem dX10_init_362 : decode cX10_init 362 = .ok (.bipush 12, 2) := by decide +kernel
theorem dX10_init_364 : decode cX10_init 364 = .ok (.newarray .int, 2) := by decide +kernel
theorem dX10_init_366 : decode cX10_init 366 = .ok (.putfield 115, 3) := by decide +kernel
theorem dX10_init_369 : decode cX10_init 369 = .ok (.aload_n 0, 1) := by decide +kernel
theorem dX10_init_370 : decode cX10_init 370 = .ok (.bipush 13, 2) := by decide +kernel
theorem dX10_init_372 : decode cX10_init 372 = .ok (.putfield 118, 3) := by decide +kernel
theorem dX10_init_375 : decode cX10_init 375 = .ok (.aload_n 0, 1) := by decide +kernel
theorem dX10_init_376 : decode cX10_init 376 = .ok (.sipush 400, 3) := by decide +kernel
theorem dX10_init_379 : decode cX10_init 379 = .ok (.newarray .byte, 2) := by decide +kernel
theorem dX10_init_381 : decode cX10_init 381 = .ok (.putfield 122, 3) := by decide +kernel
theorem dX10_init_384 : decode cX10_init 384 = .ok (.aload_n 0, 1) := by decide +kernel
theorem dX10_init_385 : decode cX10_init 385 = .ok (.sipush 1800, 3) := by decide +kernel
theorem dX10_init_388 : decode cX10_init 388 = .ok (.newarray .int, 2) := by decide +kernel
theorem dX10_init_390 : decode cX10_init 390 = .ok (.putfield 126, 3) := by decide +kernel
theorem dX10_init_393 : decode cX10_init 393 = .ok (.aload_n 0, 1) := by decide +kernel
theorem dX10_init_394 : decode cX10_init 394 = .ok (.sipush 1800, 3) := by decide +kernel
theorem dX10_init_397 : decode cX10_init 397 = .ok (.newarray .int, 2) := by decide +kernel
theorem dX10_init_399 : decode cX10_init 399 = .ok (.putfield 129, 3) := by decide +kernel
theorem dX10_init_402 : decode cX10_init 402 = .ok (.aload_n 0, 1) := by decide +kernel
theorem dX10_init_403 : decode cX10_init 403 = .ok (.bipush 6, 2) := by decide +kernel
theorem dX10_init_405 : decode cX10_init 405 = .ok (.newarray .int, 2) := by decide +kernel
theorem dX10_init_407 : decode cX10_init 407 = .ok (.putfield 132, 3) := by decide +kernel
theorem dX10_init_410 : decode cX10_init 410 = .ok (.aload_n 0, 1) := by decide +kernel
theorem dX10_init_411 : decode cX10_init 411 = .ok (.bipush 72, 2) := by decide +kernel
theorem dX10_init_413 : decode cX10_init 413 = .ok (.newarray .int, 2) := by decide +kernel
theorem dX10_init_415 : decode cX10_init 415 = .ok (.putfield 135, 3) := by decide +kernel
theorem dX10_init_418 : decode cX10_init 418 = .ok (.aload_n 0, 1) := by decide +kernel
theorem dX10_init_419 : decode cX10_init 419 = .ok (.bipush 72, 2) := by decide +kernel
theorem dX10_init_421 : decode cX10_init 421 = .ok (.newarray .int, 2) := by decide +kernel
theorem dX10_init_423 : decode cX10_init 423 = .ok (.putfield 138, 3) := by decide +kernel
theorem dX10_init_426 : decode cX10_init 426 = .ok (.aload_n 0, 1) := by decide +kernel
theorem dX10_init_427 : decode cX10_init 427 = .ok (.bipush 72, 2) := by decide +kernel
theorem dX10_init_429 : decode cX10_init 429 = .ok (.newarray .int, 2) := by decide +kernel
theorem dX10_init_431 : decode cX10_init 431 = .ok (.putfield 141, 3) := by decide +kernel
theorem dX10_init_434 : decode cX10_init 434 = .ok (.aload_n 0, 1) := by decide +kernel
theorem dX10_init_435 : decode cX10_init 435 = .ok (.bipush 72, 2) := by decide +kernel
theorem dX10_init_437 : decode cX10_init 437 = .ok (.newarray .int, 2) := by decide +kernel
theorem dX10_init_439 : decode cX10_init 439 = .ok (.putfield 144, 3) := by decide +kernel
theorem dX10_init_442 : decode cX10_init 442 = .ok (.aload_n 0, 1) := by decide +kernel
theorem dX10_init_443 : decode cX10_init 443 = .ok (.sipush 402, 3) := by decide +kernel
theorem dX10_init_446 : decode cX10_init 446 = .ok (.newarray .int, 2) := by decide +kernel
theorem dX10_init_448 : decode cX10_init 448 = .ok (.putfield 147, 3) := by decide +kernel
theorem dX10_init_451 : decode cX10_init 451 = .ok (.aload_n 0, 1) := by decide +kernel
theorem dX10_init_452 : decode cX10_init 452 = .ok (.bipush 13, 2) := by decide +kernel
theorem dX10_init_454 : decode cX10_init 454 = .ok (.newarray .long, 2) := by decide +kernel
theorem dX10_init_456 : decode cX10_init 456 = .ok (.putfield 150, 3) := by decide +kernel
theorem dX10_init_459 : decode cX10_init 459 = .ok (.aload_n 0, 1) := by decide +kernel
theorem dX10_init_460 : decode cX10_init 460 = .ok (.sipush 300, 3) := by decide +kernel
theorem dX10_init_463 : decode cX10_init 463 = .ok (.newarray .long, 2) := by decide +kernel
theorem dX10_init_465 : decode cX10_init 465 = .ok (.putfield 154, 3) := by decide +kernel
theorem dX10_init_468 : decode cX10_init 468 = .ok (.aload_n 0, 1) := by decide +kernel
theorem dX10_init_469 : decode cX10_init 469 = .ok (.bipush 12, 2) := by decide +kernel
theorem dX10_init_471 : decode cX10_init 471 = .ok (.newarray .int, 2) := by decide +kernel
theorem dX10_init_473 : decode cX10_init 473 = .ok (.putfield 157, 3) := by decide +kernel
theorem dX10_init_476 : decode cX10_init 476 = .ok (.aload_n 0, 1) := by decide +kernel
theorem dX10_init_477 : decode cX10_init 477 = .ok (.bipush 12, 2) := by decide +kernel
theorem dX10_init_479 : decode cX10_init 479 = .ok (.newarray .long, 2) := by decide +kernel
theorem dX10_init_481 : decode cX10_init 481 = .ok (.putfield 160, 3) := by decide +kernel
theorem dX10_init_484 : decode cX10_init 484 = .ok (.aload_n 0, 1) := by decide +kernel
theorem dX10_init_485 : decode cX10_init 485 = .ok (.bipush 12, 2) := by decide +kernel
theorem dX10_init_487 : decode cX10_init 487 = .ok (.newarray .int, 2) := by decide +kernel
theorem dX10_init_489 : decode cX10_init 489 = .ok (.putfield 163, 3) := by decide +kernel
theorem dX10_init_492 : decode cX10_init 492 = .ok (.aload_n 0, 1) := by decide +kernel
theorem dX10_init_493 : decode cX10_init 493 = .ok (.bipush 12, 2) := by decide +kernel
theorem dX10_init_495 : decode cX10_init 495 = .ok (.newarray .int, 2) := by decide +kernel
theorem dX10_init_497 : decode cX10_init 497 = .ok (.putfield 166, 3) := by decide +kernel
theorem dX10_init_500 : decode cX10_init 500 = .ok (.aload_n 0, 1) := by decide +kernel
theorem dX10_init_501 : decode cX10_init 501 = .ok (.bipush 12, 2) := by decide +kernel
theorem dX10_init_503 : decode cX10_init 503 = .ok (.newarray .int, 2) := by decide +kernel
theorem dX10_init_505 : decode cX10_init 505 = .ok (.putfield 169, 3) := by decide +kernel
theorem dX10_init_508 : decode cX10_init 508 = .ok (.aload_n 0, 1) := by decide +kernel
theorem dX10_init_509 : decode cX10_init 509 = .ok (.bipush 6, 2) := by decide +kernel
theorem dX10_init_511 : decode cX10_init 511 = .ok (.newarray .int, 2) := by decide +kernel
theorem dX10_init_513 : decode cX10_init 513 = .ok (.putfield 172, 3) := by decide +kernel
theorem dX10_init_516 : decode cX10_init 516 = .ok (.aload_n 0, 1) := by decide +kernel
theorem dX10_init_517 : decode cX10_init 517 = .ok (.bipush 6, 2) := by decide +kernel
theorem dX10_init_519 : decode cX10_init 519 = .ok (.newarray .int, 2) := by decide +kernel
theorem dX10_init_521 : decode cX10_init 521 = .ok (.putfield 175, 3) := by decide +kernel
theorem dX10_init_524 : decode cX10_init 524 = .ok (.aload_n 0, 1) := by decide +kernel
theorem dX10_init_525 : decode cX10_init 525 = .ok (.bipush 64, 2) := by decide +kernel
theorem dX10_init_527 : decode cX10_init 527 = .ok (.newarray .int, 2) := by decide +kernel
theorem dX10_init_529 : decode cX10_init 529 = .ok (.putfield 178, 3) := by decide +kernel
theorem dX10_init_532 : decode cX10_init 532 = .ok (.aload_n 0, 1) := by decide +kernel
theorem dX10_init_533 : decode cX10_init 533 = .ok (.sipush 4500, 3) := by decide +kernel
theorem dX10_init_536 : decode cX10_init 536 = .ok (.newarray .int, 2) := by decide +kernel
theorem dX10_init_538 : decode cX10_init 538 = .ok (.putfield 181, 3) := by decide +kernel
theorem dX10_init_541 : decode cX10_init 541 = .ok (.aload_n 0, 1) := by decide +kernel
theorem dX10_init_542 : decode cX10_init 542 = .ok (.iconst 4, 1) := by decide +kernel
theorem dX10_init_543 : decode cX10_init 543 = .ok (.newarray .boolean, 2) := by decide +kernel
theorem dX10_init_545 : decode cX10_init 545 = .ok (.putfield 184, 3) := by decide +kernel
theorem dX10_init_548 : decode cX10_init 548 = .ok (.return_, 1) := by decide +kernel
theorem dX10_in_0 : decode cX10_in 0 = .ok (.lload_n 0, 1) := by decide +kernel
theorem dX10_in_1 : decode cX10_in 1 = .ok (.lload_n 2, 1) := by decide +kernel
theorem dX10_in_2 : decode cX10_in 2 = .ok (.lcmp, 1) := by decide +kernel
theorem dX10_in_3 : decode cX10_in 3 = .ok (.ifCond .lt 14, 3) := by decide +kernel
theorem dX10_in_6 : decode cX10_in 6 = .ok (.lload_n 0, 1) := by decide +kernel
theorem dX10_in_7 : decode cX10_in 7 = .ok (.lload 4, 2) := by decide +kernel
theorem dX10_in_9 : decode cX10_in 9 = .ok (.lcmp, 1) := by decide +kernel
theorem dX10_in_10 : decode cX10_in 10 = .ok (.ifCond .gt 7, 3) := by decide +kernel
theorem dX10_in_13 : decode cX10_in 13 = .ok (.iconst 1, 1) := by decide +kernel
theorem dX10_in_14 : decode cX10_in 14 = .ok (.goto 4, 3) := by decide +kernel
theorem dX10_in_17 : decode cX10_in 17 = .ok (.iconst 0, 1) := by decide +kernel
theorem dX10_in_18 : decode cX10_in 18 = .ok (.ireturn, 1) := by decide +kernel
theorem dX10_isRiver_0 : decode cX10_isRiver 0 = .ok (.aload_n 0, 1) := by decide +kernel
theorem dX10_isRiver_1 : decode cX10_isRiver 1 = .ok (.getfield 9, 3) := by decide +kernel
theorem dX10_isRiver_4 : decode cX10_isRiver 4 = .ok (.iconst 0, 1) := by decide +kernel
theorem dX10_isRiver_5 : decode cX10_isRiver 5 = .ok (.iaload, 1) := by decide +kernel
theorem dX10_isRiver_6 : decode cX10_isRiver 6 = .ok (.ifCond .le 7, 3) := by decide +kernel
theorem dX10_isRiver_13 : decode cX10_isRiver 13 = .ok (.iconst 0, 1) := by decide +kernel
theorem dX10_isRiver_14 : decode cX10_isRiver 14 = .ok (.ireturn, 1) := by decide +kernel
theorem dX10_isBend_0 : decode cX10_isBend 0 = .ok (.iload_n 1, 1) := by decide +kernel
theorem dX10_isBend_1 : decode cX10_isBend 1 = .ok (.i2l, 1) := by decide +kernel
theorem dX10_isBend_2 : decode cX10_isBend 2 = .ok (.lconst 0, 1) := by decide +kernel
theorem dX10_isBend_3 : decode cX10_isBend 3 = .ok (.aload_n 0, 1) := by decide +kernel
theorem dX10_isBend_4 : decode cX10_isBend 4 = .ok (.getfield 9, 3) := by decide +kernel
theorem dX10_isBend_7 : decode cX10_isBend 7 = .ok (.iconst 0, 1) := by decide +kernel
theorem dX10_isBend_8 : decode cX10_isBend 8 = .ok (.iaload, 1) := by decide +kernel
theorem dX10_isBend_9 : decode cX10_isBend 9 = .ok (.iconst 1, 1) := by decide +kernel
theorem dX10_isBend_10 : decode cX10_isBend 10 = .ok (.isub, 1) := by decide +kernel
theorem dX10_isBend_11 : decode cX10_isBend 11 = .ok (.i2l, 1) := by decide +kernel
theorem dX10_isBend_12 : decode cX10_isBend 12 = .ok (.invokestatic 191, 3) := by decide +kernel
theorem dX10_isBend_15 : decode cX10_isBend 15 = .ok (.ireturn, 1) := by decide +kernel
theorem dX10_isVillage_0 : decode cX10_isVillage 0 = .ok (.iload_n 1, 1) := by decide +kernel
theorem dX10_isVillage_1 : decode cX10_isVillage 1 = .ok (.i2l, 1) := by decide +kernel
theorem dX10_isVillage_2 : decode cX10_isVillage 2 = .ok (.lconst 0, 1) := by decide +kernel
theorem dX10_isVillage_3 : decode cX10_isVillage 3 = .ok (.aload_n 0, 1) := by decide +kernel
theorem dX10_isVillage_4 : decode cX10_isVillage 4 = .ok (.getfield 9, 3) := by decide +kernel
theorem dX10_isVillage_7 : decode cX10_isVillage 7 = .ok (.iconst 1, 1) := by decide +kernel
theorem dX10_isVillage_8 : decode cX10_isVillage 8 = .ok (.iaload, 1) := by decide +kernel
theorem dX10_isVillage_9 : decode cX10_isVillage 9 = .ok (.iconst 1, 1) := by decide +kernel
theorem dX10_isVillage_10 : decode cX10_isVillage 10 = .ok (.isub, 1) := by decide +kernel
theorem dX10_isVillage_11 : decode cX10_isVillage 11 = .ok (.i2l, 1) := by decide +kernel
theorem dX10_isVillage_12 : decode cX10_isVillage 12 = .ok (.invokestatic 191, 3) := by decide +kernel
theorem dX10_isVillage_15 : decode cX10_isVillage 15 = .ok (.ireturn, 1) := by decide +kernel
theorem dX10_isLog_0 : decode cX10_isLog 0 = .ok (.iload_n 1, 1) := by decide +kernel
theorem dX10_isLog_1 : decode cX10_isLog 1 = .ok (.i2l, 1) := by decide +kernel
theorem dX10_isLog_2 : decode cX10_isLog 2 = .ok (.lconst 0, 1) := by decide +kernel
theorem dX10_isLog_3 : decode cX10_isLog 3 = .ok (.aload_n 0, 1) := by decide +kernel
theorem dX10_isLog_4 : decode cX10_isLog 4 = .ok (.getfield 9, 3) := by decide +kernel
theorem dX10_isLog_7 : decode cX10_isLog 7 = .ok (.iconst 3, 1) := by decide +kernel
theorem dX10_isLog_8 : decode cX10_isLog 8 = .ok (.iaload, 1) := by decide +kernel
theorem dX10_isLog_9 : decode cX10_isLog 9 = .ok (.iconst 1, 1) := by decide +kernel
theorem dX10_isLog_10 : decode cX10_isLog 10 = .ok (.isub, 1) := by decide +kernel
theorem dX10_isLog_11 : decode cX10_isLog 11 = .ok (.i2l, 1) := by decide +kernel
theorem dX10_isLog_12 : decode cX10_isLog 12 = .ok (.invokestatic 191, 3) := by decide +kernel
theorem dX10_isLog_15 : decode cX10_isLog 15 = .ok (.ireturn, 1) := by decide +kernel
theorem dX10_feed_0 : decode cX10_feed 0 = .ok (.aload_n 0, 1) := by decide +kernel
theorem dX10_feed_1 : decode cX10_feed 1 = .ok (.getfield 216, 3) := by decide +kernel
theorem dX10_feed_4 : decode cX10_feed 4 = .ok (.bipush 20, 2) := by decide +kernel
theorem dX10_feed_6 : decode cX10_feed 6 = .ok (.iadd, 1) := by decide +kernel
theorem dX10_feed_7 : decode cX10_feed 7 = .ok (.sipush 400, 3) := by decide +kernel
theorem dX10_feed_10 : decode cX10_feed 10 = .ok (.if_icmp .le 5, 3) := by decide +kernel
theorem dX10_feed_15 : decode cX10_feed 15 = .ok (.aload_n 0, 1) := by decide +kernel
theorem dX10_feed_16 : decode cX10_feed 16 = .ok (.iload_n 1, 1) := by decide +kernel
theorem dX10_feed_17 : decode cX10_feed 17 = .ok (.invokevirtual 219, 3) := by decide +kernel
theorem dX10_feed_20 : decode cX10_feed 20 = .ok (.aload_n 0, 1) := by decide +kernel
theorem dX10_feed_21 : decode cX10_feed 21 = .ok (.iload_n 2, 1) := by decide +kernel
theorem dX10_feed_22 : decode cX10_feed 22 = .ok (.invokevirtual 219, 3) := by decide +kernel
theorem dX10_feed_25 : decode cX10_feed 25 = .ok (.aload_n 0, 1) := by decide +kernel
theorem dX10_feed_26 : decode cX10_feed 26 = .ok (.iload_n 3, 1) := by decide +kernel
theorem dX10_feed_27 : decode cX10_feed 27 = .ok (.invokevirtual 219, 3) := by decide +kernel
theorem dX10_feed_30 : decode cX10_feed 30 = .ok (.aload_n 0, 1) := by decide +kernel
theorem dX10_feed_31 : decode cX10_feed 31 = .ok (.iload 4, 2) := by decide +kernel
theorem dX10_feed_33 : decode cX10_feed 33 = .ok (.invokevirtual 219, 3) := by decide +kernel
theorem dX10_feed_36 : decode cX10_feed 36 = .ok (.aload_n 0, 1) := by decide +kernel
theorem dX10_feed_37 : decode cX10_feed 37 = .ok (.iload 5, 2) := by decide +kernel
theorem dX10_feed_39 : decode cX10_feed 39 = .ok (.invokevirtual 219, 3) := by decide +kernel
theorem dX10_feed_42 : decode cX10_feed 42 = .ok (.aload_n 0, 1) := by decide +kernel
theorem dX10_feed_43 : decode cX10_feed 43 = .ok (.getfield 216, 3) := by decide +kernel
theorem dX10_feed_46 : decode cX10_feed 46 = .ok (.ireturn, 1) := by decide +kernel
theorem dX10_put_0 : decode cX10_put 0 = .ok (.bipush 24, 2) := by decide +kernel
theorem dX10_put_2 : decode cX10_put 2 = .ok (.istore_n 2, 1) := by decide +kernel
theorem dX10_put_3 : decode cX10_put 3 = .ok (.iload_n 2, 1) := by decide +kernel
theorem dX10_put_4 : decode cX10_put 4 = .ok (.ifCond .lt 32, 3) := by decide +kernel
theorem dX10_put_7 : decode cX10_put 7 = .ok (.aload_n 0, 1) := by decide +kernel
theorem dX10_put_8 : decode cX10_put 8 = .ok (.getfield 122, 3) := by decide +kernel
theorem dX10_put_11 : decode cX10_put 11 = .ok (.aload_n 0, 1) := by decide +kernel
theorem dX10_put_12 : decode cX10_put 12 = .ok (.getfield 216, 3) := by decide +kernel
theorem dX10_put_15 : decode cX10_put 15 = .ok (.iload_n 1, 1) := by decide +kernel
theorem dX10_put_16 : decode cX10_put 16 = .ok (.iload_n 2, 1) := by decide +kernel
theorem dX10_put_17 : decode cX10_put 17 = .ok (.ishr, 1) := by decide +kernel
theorem dX10_put_18 : decode cX10_put 18 = .ok (.i2b, 1) := by decide +kernel
theorem dX10_put_19 : decode cX10_put 19 = .ok (.bastore, 1) := by decide +kernel
theorem dX10_put_20 : decode cX10_put 20 = .ok (.aload_n 0, 1) := by decide +kernel
theorem dX10_put_21 : decode cX10_put 21 = .ok (.dup, 1) := by decide +kernel
theorem dX10_put_22 : decode cX10_put 22 = .ok (.getfield 216, 3) := by decide +kernel
theorem dX10_put_25 : decode cX10_put 25 = .ok (.iconst 1, 1) := by decide +kernel
theorem dX10_put_26 : decode cX10_put 26 = .ok (.iadd, 1) := by decide +kernel
theorem dX10_put_27 : decode cX10_put 27 = .ok (.putfield 216, 3) := by decide +kernel
theorem dX10_put_30 : decode cX10_put 30 = .ok (.iinc 2 (-8), 3) := by decide +kernel
theorem dX10_put_33 : decode cX10_put 33 = .ok (.goto (-30), 3) := by decide +kernel
theorem dX10_put_36 : decode cX10_put 36 = .ok (.return_, 1) := by decide +kernel
theorem dX10_end_0 : decode cX10_end 0 = .ok (.iload_n 1, 1) := by decide +kernel
theorem dX10_end_1 : decode cX10_end 1 = .ok (.ifCond .lt 11, 3) := by decide +kernel
theorem dX10_end_4 : decode cX10_end 4 = .ok (.iload_n 1, 1) := by decide +kernel
theorem dX10_end_5 : decode cX10_end 5 = .ok (.aload_n 0, 1) := by decide +kernel
theorem dX10_end_6 : decode cX10_end 6 = .ok (.getfield 216, 3) := by decide +kernel
theorem dX10_end_9 : decode cX10_end 9 = .ok (.if_icmp .le 5, 3) := by decide +kernel
theorem dX10_end_12 : decode cX10_end 12 = .ok (.iconst (-1), 1) := by decide +kernel
theorem dX10_end_13 : decode cX10_end 13 = .ok (.ireturn, 1) := by decide +kernel
theorem dX10_end_14 : decode cX10_end 14 = .ok (.aload_n 0, 1) := by decide +kernel
theorem dX10_end_15 : decode cX10_end 15 = .ok (.iload_n 1, 1) := by decide +kernel
theorem dX10_end_16 : decode cX10_end 16 = .ok (.putfield 216, 3) := by decide +kernel
theorem dX10_end_19 : decode cX10_end 19 = .ok (.iload_n 1, 1) := by decide +kernel
theorem dX10_end_20 : decode cX10_end 20 = .ok (.ireturn, 1) := by decide +kernel
theorem dX10_fails_0 : decode cX10_fails 0 = .ok (.aload_n 0, 1) := by decide +kernel
theorem dX10_fails_1 : decode cX10_fails 1 = .ok (.aload_n 0, 1) := by decide +kernel
theorem dX10_fails_2 : decode cX10_fails 2 = .ok (.getfield 246, 3) := by decide +kernel
theorem dX10_fails_5 : decode cX10_fails 5 = .ok (.ifCond .ne 14, 3) := by decide +kernel
theorem dX10_fails_8 : decode cX10_fails 8 = .ok (.iconst 1, 1) := by decide +kernel
theorem dX10_fails_9 : decode cX10_fails 9 = .ok (.bipush 8, 2) := by decide +kernel
theorem dX10_fails_11 : decode cX10_fails 11 = .ok (.iload_n 2, 1) := by decide +kernel
theorem dX10_fails_12 : decode cX10_fails 12 = .ok (.imul, 1) := by decide +kernel
theorem dX10_fails_13 : decode cX10_fails 13 = .ok (.iadd, 1) := by decide +kernel
theorem dX10_fails_14 : decode cX10_fails 14 = .ok (.iload_n 1, 1) := by decide +kernel
theorem dX10_fails_15 : decode cX10_fails 15 = .ok (.iadd, 1) := by decide +kernel
theorem dX10_fails_16 : decode cX10_fails 16 = .ok (.goto 7, 3) := by decide +kernel
theorem dX10_fails_23 : decode cX10_fails 23 = .ok (.putfield 246, 3) := by decide +kernel
theorem dX10_fails_26 : decode cX10_fails 26 = .ok (.return_, 1) := by decide +kernel
theorem dX10_sign_0 : decode cX10_sign 0 = .ok (.aload_n 0, 1) := by decide +kernel
theorem dX10_sign_1 : decode cX10_sign 1 = .ok (.getfield 249, 3) := by decide +kernel
theorem dX10_sign_4 : decode cX10_sign 4 = .ok (.aload_n 0, 1) := by decide +kernel
theorem dX10_sign_5 : decode cX10_sign 5 = .ok (.getfield 216, 3) := by decide +kernel
theorem dX10_sign_8 : decode cX10_sign 8 = .ok (.if_icmp .ge 19, 3) := by decide +kernel
theorem dX10_sign_27 : decode cX10_sign 27 = .ok (.iconst (-1), 1) := by decide +kernel
theorem dX10_sign_28 : decode cX10_sign 28 = .ok (.ireturn, 1) := by decide +kernel
theorem dX10_blanks_0 : decode cX10_blanks 0 = .ok (.aload_n 0, 1) := by decide +kernel
theorem dX10_blanks_1 : decode cX10_blanks 1 = .ok (.invokevirtual 252, 3) := by decide +kernel
theorem dX10_blanks_4 : decode cX10_blanks 4 = .ok (.bipush 32, 2) := by decide +kernel
theorem dX10_blanks_6 : decode cX10_blanks 6 = .ok (.if_icmp .ne 16, 3) := by decide +kernel
theorem dX10_blanks_22 : decode cX10_blanks 22 = .ok (.return_, 1) := by decide +kernel
theorem dX10_stood_0 : decode cX10_stood 0 = .ok (.aload_n 0, 1) := by decide +kernel
theorem dX10_stood_1 : decode cX10_stood 1 = .ok (.getfield 249, 3) := by decide +kernel
theorem dX10_stood_4 : decode cX10_stood 4 = .ok (.istore_n 2, 1) := by decide +kernel
theorem dX10_stood_5 : decode cX10_stood 5 = .ok (.iload_n 2, 1) := by decide +kernel
theorem dX10_stood_6 : decode cX10_stood 6 = .ok (.aload_n 0, 1) := by decide +kernel
theorem dX10_stood_7 : decode cX10_stood 7 = .ok (.getfield 216, 3) := by decide +kernel
theorem dX10_stood_10 : decode cX10_stood 10 = .ok (.if_icmp .ge 31, 3) := by decide +kernel
theorem dX10_stood_41 : decode cX10_stood 41 = .ok (.iload_n 2, 1) := by decide +kernel
theorem dX10_stood_42 : decode cX10_stood 42 = .ok (.aload_n 0, 1) := by decide +kernel
theorem dX10_stood_43 : decode cX10_stood 43 = .ok (.getfield 249, 3) := by decide +kernel
theorem dX10_stood_46 : decode cX10_stood 46 = .ok (.isub, 1) := by decide +kernel
theorem dX10_stood_47 : decode cX10_stood 47 = .ok (.aload_n 1, 1) := by decide +kernel
theorem dX10_stood_48 : decode cX10_stood 48 = .ok (.invokevirtual 260, 3) := by decide +kernel
theorem dX10_stood_51 : decode cX10_stood 51 = .ok (.if_icmp .ne 7, 3) := by decide +kernel
theorem dX10_stood_58 : decode cX10_stood 58 = .ok (.iconst 0, 1) := by decide +kernel
theorem dX10_stood_59 : decode cX10_stood 59 = .ok (.istore_n 3, 1) := by decide +kernel
theorem dX10_stood_60 : decode cX10_stood 60 = .ok (.iconst 0, 1) := by decide +kernel
theorem dX10_stood_61 : decode cX10_stood 61 = .ok (.istore 4, 2) := by decide +kernel
theorem dX10_stood_63 : decode cX10_stood 63 = .ok (.iload 4, 2) := by decide +kernel
theorem dX10_stood_65 : decode cX10_stood 65 = .ok (.aload_n 1, 1) := by decide +kernel
theorem dX10_stood_66 : decode cX10_stood 66 = .ok (.invokevirtual 260, 3) := by decide +kernel
theorem dX10_stood_69 : decode cX10_stood 69 = .ok (.if_icmp .ge 40, 3) := by decide +kernel
theorem dX10_stood_72 : decode cX10_stood 72 = .ok (.iload_n 3, 1) := by decide +kernel
theorem dX10_stood_73 : decode cX10_stood 73 = .ok (.ifCond .eq 36, 3) := by decide +kernel
theorem dX10_stood_109 : decode cX10_stood 109 = .ok (.iload_n 3, 1) := by decide +kernel
theorem dX10_stood_110 : decode cX10_stood 110 = .ok (.ireturn, 1) := by decide +kernel
theorem dX10_riverWord_0 : decode cX10_riverWord 0 = .ok (.iload_n 0, 1) := by decide +kernel
theorem dX10_riverWord_1 : decode cX10_riverWord 1 = .ok (.tableswitch 52 0 4 #[35, 39, 42, 46, 49], 35) := by decide +kernel
theorem dX10_riverWord_36 : decode cX10_riverWord 36 = .ok (.ldc_w 342, 3) := by decide +kernel
theorem dX10_riverWord_39 : decode cX10_riverWord 39 = .ok (.areturn, 1) := by decide +kernel
theorem dX10_riverWord_40 : decode cX10_riverWord 40 = .ok (.ldc 231, 2) := by decide +kernel
theorem dX10_riverWord_42 : decode cX10_riverWord 42 = .ok (.areturn, 1) := by decide +kernel
theorem dX10_riverWord_43 : decode cX10_riverWord 43 = .ok (.ldc_w 344, 3) := by decide +kernel
theorem dX10_riverWord_46 : decode cX10_riverWord 46 = .ok (.areturn, 1) := by decide +kernel
theorem dX10_riverWord_47 : decode cX10_riverWord 47 = .ok (.ldc 225, 2) := by decide +kernel
theorem dX10_riverWord_49 : decode cX10_riverWord 49 = .ok (.areturn, 1) := by decide +kernel
theorem dX10_riverWord_50 : decode cX10_riverWord 50 = .ok (.ldc 223, 2) := by decide +kernel
theorem dX10_riverWord_52 : decode cX10_riverWord 52 = .ok (.areturn, 1) := by decide +kernel
theorem dX10_riverWord_53 : decode cX10_riverWord 53 = .ok (.ldc_w 345, 3) := by decide +kernel
theorem dX10_riverWord_56 : decode cX10_riverWord 56 = .ok (.areturn, 1) := by decide +kernel
theorem dX10_riverClause_0 : decode cX10_riverClause 0 = .ok (.aload_n 0, 1) := by decide +kernel
theorem dX10_riverClause_1 : decode cX10_riverClause 1 = .ok (.invokevirtual 268, 3) := by decide +kernel
theorem dX10_riverClause_4 : decode cX10_riverClause 4 = .ok (.aload_n 0, 1) := by decide +kernel
theorem dX10_riverClause_5 : decode cX10_riverClause 5 = .ok (.getfield 249, 3) := by decide +kernel
theorem dX10_riverClause_8 : decode cX10_riverClause 8 = .ok (.istore_n 2, 1) := by decide +kernel
theorem dX10_riverClause_9 : decode cX10_riverClause 9 = .ok (.iconst 0, 1) := by decide +kernel
theorem dX10_riverClause_10 : decode cX10_riverClause 10 = .ok (.istore_n 3, 1) := by decide +kernel
theorem dX10_riverClause_11 : decode cX10_riverClause 11 = .ok (.iload_n 3, 1) := by decide +kernel
theorem dX10_riverClause_12 : decode cX10_riverClause 12 = .ok (.bipush 6, 2) := by decide +kernel
theorem dX10_riverClause_14 : decode cX10_riverClause 14 = .ok (.if_icmp .ge 20, 3) := by decide +kernel
theorem dX10_riverClause_17 : decode cX10_riverClause 17 = .ok (.aload_n 0, 1) := by decide +kernel
theorem dX10_riverClause_18 : decode cX10_riverClause 18 = .ok (.iload_n 3, 1) := by decide +kernel
theorem dX10_riverClause_19 : decode cX10_riverClause 19 = .ok (.invokestatic 358, 3) := by decide +kernel
theorem dX10_riverClause_22 : decode cX10_riverClause 22 = .ok (.invokevirtual 271, 3) := by decide +kernel
theorem dX10_riverClause_25 : decode cX10_riverClause 25 = .ok (.ifCond .ne 9, 3) := by decide +kernel
theorem dX10_riverClause_28 : decode cX10_riverClause 28 = .ok (.iinc 3 1, 3) := by decide +kernel
theorem dX10_riverClause_31 : decode cX10_riverClause 31 = .ok (.goto (-20), 3) := by decide +kernel
theorem dX10_riverClause_34 : decode cX10_riverClause 34 = .ok (.iload_n 3, 1) := by decide +kernel
theorem dX10_riverClause_35 : decode cX10_riverClause 35 = .ok (.bipush 6, 2) := by decide +kernel
theorem dX10_riverClause_37 : decode cX10_riverClause 37 = .ok (.if_icmp .ne 10, 3) := by decide +kernel
theorem dX10_riverClause_40 : decode cX10_riverClause 40 = .ok (.aload_n 0, 1) := by decide +kernel
theorem dX10_riverClause_41 : decode cX10_riverClause 41 = .ok (.iconst 0, 1) := by decide +kernel
theorem dX10_riverClause_42 : decode cX10_riverClause 42 = .ok (.iload_n 2, 1) := by decide +kernel
theorem dX10_riverClause_43 : decode cX10_riverClause 43 = .ok (.invokevirtual 284, 3) := by decide +kernel
theorem dX10_riverClause_46 : decode cX10_riverClause 46 = .ok (.return_, 1) := by decide +kernel
theorem dX10_goesOn_0 : decode cX10_goesOn 0 = .ok (.aload_n 0, 1) := by decide +kernel
theorem dX10_goesOn_1 : decode cX10_goesOn 1 = .ok (.invokevirtual 268, 3) := by decide +kernel
theorem dX10_goesOn_4 : decode cX10_goesOn 4 = .ok (.aload_n 0, 1) := by decide +kernel
theorem dX10_goesOn_5 : decode cX10_goesOn 5 = .ok (.getfield 246, 3) := by decide +kernel
theorem dX10_goesOn_8 : decode cX10_goesOn 8 = .ok (.ifCond .ne 32, 3) := by decide +kernel
theorem dX10_goesOn_40 : decode cX10_goesOn 40 = .ok (.aload_n 0, 1) := by decide +kernel
theorem dX10_goesOn_41 : decode cX10_goesOn 41 = .ok (.getfield 246, 3) := by decide +kernel
theorem dX10_goesOn_44 : decode cX10_goesOn 44 = .ok (.ifCond .ne 18, 3) := by decide +kernel
theorem dX10_goesOn_62 : decode cX10_goesOn 62 = .ok (.iconst 0, 1) := by decide +kernel
theorem dX10_goesOn_63 : decode cX10_goesOn 63 = .ok (.istore_n 1, 1) := by decide +kernel
theorem dX10_goesOn_64 : decode cX10_goesOn 64 = .ok (.aload_n 0, 1) := by decide +kernel
theorem dX10_goesOn_65 : decode cX10_goesOn 65 = .ok (.dup, 1) := by decide +kernel
theorem dX10_goesOn_66 : decode cX10_goesOn 66 = .ok (.getfield 249, 3) := by decide +kernel
theorem dX10_goesOn_69 : decode cX10_goesOn 69 = .ok (.iconst 1, 1) := by decide +kernel
theorem dX10_goesOn_70 : decode cX10_goesOn 70 = .ok (.iadd, 1) := by decide +kernel
theorem dX10_goesOn_71 : decode cX10_goesOn 71 = .ok (.putfield 249, 3) := by decide +kernel
theorem dX10_goesOn_74 : decode cX10_goesOn 74 = .ok (.iload_n 1, 1) := by decide +kernel
theorem dX10_goesOn_75 : decode cX10_goesOn 75 = .ok (.ireturn, 1) := by decide +kernel
theorem dX10_starts_0 : decode cX10_starts 0 = .ok (.aload_n 0, 1) := by decide +kernel
theorem dX10_starts_1 : decode cX10_starts 1 = .ok (.iconst 0, 1) := by decide +kernel
theorem dX10_starts_2 : decode cX10_starts 2 = .ok (.putfield 249, 3) := by decide +kernel
theorem dX10_starts_5 : decode cX10_starts 5 = .ok (.aload_n 0, 1) := by decide +kernel
theorem dX10_starts_6 : decode cX10_starts 6 = .ok (.iconst 0, 1) := by decide +kernel
theorem dX10_starts_7 : decode cX10_starts 7 = .ok (.putfield 246, 3) := by decide +kernel
theorem dX10_starts_10 : decode cX10_starts 10 = .ok (.aload_n 0, 1) := by decide +kernel
theorem dX10_starts_11 : decode cX10_starts 11 = .ok (.iconst 0, 1) := by decide +kernel
theorem dX10_starts_12 : decode cX10_starts 12 = .ok (.putfield 278, 3) := by decide +kernel
theorem dX10_starts_15 : decode cX10_starts 15 = .ok (.aload_n 0, 1) := by decide +kernel
theorem dX10_starts_16 : decode cX10_starts 16 = .ok (.iconst 0, 1) := by decide +kernel
theorem dX10_starts_17 : decode cX10_starts 17 = .ok (.putfield 318, 3) := by decide +kernel
theorem dX10_starts_20 : decode cX10_starts 20 = .ok (.aload_n 0, 1) := by decide +kernel
theorem dX10_starts_21 : decode cX10_starts 21 = .ok (.iconst 0, 1) := by decide +kernel
theorem dX10_starts_22 : decode cX10_starts 22 = .ok (.putfield 281, 3) := by decide +kernel
theorem dX10_starts_25 : decode cX10_starts 25 = .ok (.return_, 1) := by decide +kernel
theorem dX10_river_0 : decode cX10_river 0 = .ok (.aload_n 0, 1) := by decide +kernel
theorem dX10_river_1 : decode cX10_river 1 = .ok (.invokevirtual 372, 3) := by decide +kernel
theorem dX10_river_4 : decode cX10_river 4 = .ok (.aload_n 0, 1) := by decide +kernel
theorem dX10_river_5 : decode cX10_river 5 = .ok (.iconst 0, 1) := by decide +kernel
theorem dX10_river_6 : decode cX10_river 6 = .ok (.putfield 354, 3) := by decide +kernel
theorem dX10_river_9 : decode cX10_river 9 = .ok (.iconst 0, 1) := by decide +kernel
theorem dX10_river_10 : decode cX10_river 10 = .ok (.istore_n 1, 1) := by decide +kernel
theorem dX10_river_11 : decode cX10_river 11 = .ok (.iload_n 1, 1) := by decide +kernel
theorem dX10_river_12 : decode cX10_river 12 = .ok (.iconst 5, 1) := by decide +kernel
theorem dX10_river_13 : decode cX10_river 13 = .ok (.if_icmp .ge 16, 3) := by decide +kernel
theorem dX10_river_16 : decode cX10_river 16 = .ok (.aload_n 0, 1) := by decide +kernel
theorem dX10_river_17 : decode cX10_river 17 = .ok (.getfield 94, 3) := by decide +kernel
theorem dX10_river_20 : decode cX10_river 20 = .ok (.iload_n 1, 1) := by decide +kernel
theorem dX10_river_21 : decode cX10_river 21 = .ok (.iconst 0, 1) := by decide +kernel
theorem dX10_river_22 : decode cX10_river 22 = .ok (.iastore, 1) := by decide +kernel
theorem dX10_river_23 : decode cX10_river 23 = .ok (.iinc 1 1, 3) := by decide +kernel
theorem dX10_river_26 : decode cX10_river 26 = .ok (.goto (-15), 3) := by decide +kernel
theorem dX10_river_29 : decode cX10_river 29 = .ok (.iconst 0, 1) := by decide +kernel
theorem dX10_river_30 : decode cX10_river 30 = .ok (.istore_n 1, 1) := by decide +kernel
theorem dX10_river_31 : decode cX10_river 31 = .ok (.iload_n 1, 1) := by decide +kernel
theorem dX10_river_32 : decode cX10_river 32 = .ok (.bipush 9, 2) := by decide +kernel
theorem dX10_river_34 : decode cX10_river 34 = .ok (.if_icmp .ge 17, 3) := by decide +kernel
theorem dX10_river_37 : decode cX10_river 37 = .ok (.aload_n 0, 1) := by decide +kernel
theorem dX10_river_38 : decode cX10_river 38 = .ok (.getfield 97, 3) := by decide +kernel
theorem dX10_river_41 : decode cX10_river 41 = .ok (.iload_n 1, 1) := by decide +kernel
theorem dX10_river_42 : decode cX10_river 42 = .ok (.bipush 9, 2) := by decide +kernel
theorem dX10_river_44 : decode cX10_river 44 = .ok (.iastore, 1) := by decide +kernel
theorem dX10_river_45 : decode cX10_river 45 = .ok (.iinc 1 1, 3) := by decide +kernel
theorem dX10_river_48 : decode cX10_river 48 = .ok (.goto (-17), 3) := by decide +kernel
theorem dX10_river_51 : decode cX10_river 51 = .ok (.iconst 0, 1) := by decide +kernel
theorem dX10_river_52 : decode cX10_river 52 = .ok (.istore_n 1, 1) := by decide +kernel
theorem dX10_river_53 : decode cX10_river 53 = .ok (.iconst 1, 1) := by decide +kernel
theorem dX10_river_54 : decode cX10_river 54 = .ok (.istore_n 2, 1) := by decide +kernel
theorem dX10_river_55 : decode cX10_river 55 = .ok (.iload_n 2, 1) := by decide +kernel
theorem dX10_river_56 : decode cX10_river 56 = .ok (.ifCond .eq 19, 3) := by decide +kernel
theorem dX10_river_59 : decode cX10_river 59 = .ok (.aload_n 0, 1) := by decide +kernel
theorem dX10_river_60 : decode cX10_river 60 = .ok (.iload_n 1, 1) := by decide +kernel
theorem dX10_river_61 : decode cX10_river 61 = .ok (.invokevirtual 375, 3) := by decide +kernel
theorem dX10_river_64 : decode cX10_river 64 = .ok (.iinc 1 1, 3) := by decide +kernel
theorem dX10_river_67 : decode cX10_river 67 = .ok (.aload_n 0, 1) := by decide +kernel
theorem dX10_river_68 : decode cX10_river 68 = .ok (.invokevirtual 378, 3) := by decide +kernel
theorem dX10_river_71 : decode cX10_river 71 = .ok (.istore_n 2, 1) := by decide +kernel
theorem dX10_river_72 : decode cX10_river 72 = .ok (.goto (-17), 3) := by decide +kernel
theorem dX10_river_75 : decode cX10_river 75 = .ok (.aload_n 0, 1) := by decide +kernel
theorem dX10_river_76 : decode cX10_river 76 = .ok (.iconst 0, 1) := by decide +kernel
theorem dX10_river_77 : decode cX10_river 77 = .ok (.putfield 216, 3) := by decide +kernel
theorem dX10_river_80 : decode cX10_river 80 = .ok (.aload_n 0, 1) := by decide +kernel
theorem dX10_river_81 : decode cX10_river 81 = .ok (.getfield 246, 3) := by decide +kernel
theorem dX10_river_84 : decode cX10_river 84 = .ok (.ifCond .le 11, 3) := by decide +kernel
theorem dX10_river_87 : decode cX10_river 87 = .ok (.bipush (-2), 2) := by decide +kernel
theorem dX10_river_89 : decode cX10_river 89 = .ok (.aload_n 0, 1) := by decide +kernel
theorem dX10_river_90 : decode cX10_river 90 = .ok (.getfield 246, 3) := by decide +kernel
theorem dX10_river_93 : decode cX10_river 93 = .ok (.isub, 1) := by decide +kernel
theorem dX10_river_94 : decode cX10_river 94 = .ok (.ireturn, 1) := by decide +kernel
theorem dX10_actWord_0 : decode cX10_actWord 0 = .ok (.iload_n 0, 1) := by decide +kernel
theorem dX10_actWord_1 : decode cX10_actWord 1 = .ok (.tableswitch 47 0 3 #[31, 35, 39, 43], 31) := by decide +kernel
theorem dX10_actWord_32 : decode cX10_actWord 32 = .ok (.ldc_w 384, 3) := by decide +kernel
theorem dX10_actWord_35 : decode cX10_actWord 35 = .ok (.areturn, 1) := by decide +kernel
theorem dX10_actWord_36 : decode cX10_actWord 36 = .ok (.ldc_w 386, 3) := by decide +kernel
theorem dX10_actWord_39 : decode cX10_actWord 39 = .ok (.areturn, 1) := by decide +kernel
theorem dX10_actWord_40 : decode cX10_actWord 40 = .ok (.ldc_w 388, 3) := by decide +kernel
theorem dX10_actWord_43 : decode cX10_actWord 43 = .ok (.areturn, 1) := by decide +kernel
theorem dX10_actWord_44 : decode cX10_actWord 44 = .ok (.ldc_w 390, 3) := by decide +kernel
theorem dX10_actWord_47 : decode cX10_actWord 47 = .ok (.areturn, 1) := by decide +kernel
theorem dX10_actWord_48 : decode cX10_actWord 48 = .ok (.ldc_w 392, 3) := by decide +kernel
theorem dX10_actWord_51 : decode cX10_actWord 51 = .ok (.areturn, 1) := by decide +kernel
theorem dX10_ruleClause_0 : decode cX10_ruleClause 0 = .ok (.aload_n 0, 1) := by decide +kernel
theorem dX10_ruleClause_1 : decode cX10_ruleClause 1 = .ok (.invokevirtual 268, 3) := by decide +kernel
theorem dX10_ruleClause_4 : decode cX10_ruleClause 4 = .ok (.aload_n 0, 1) := by decide +kernel
theorem dX10_ruleClause_5 : decode cX10_ruleClause 5 = .ok (.getfield 249, 3) := by decide +kernel
theorem dX10_ruleClause_8 : decode cX10_ruleClause 8 = .ok (.istore_n 2, 1) := by decide +kernel
theorem dX10_ruleClause_9 : decode cX10_ruleClause 9 = .ok (.iconst 0, 1) := by decide +kernel
theorem dX10_ruleClause_10 : decode cX10_ruleClause 10 = .ok (.istore_n 3, 1) := by decide +kernel
theorem dX10_ruleClause_11 : decode cX10_ruleClause 11 = .ok (.iload_n 3, 1) := by decide +kernel
theorem dX10_ruleClause_12 : decode cX10_ruleClause 12 = .ok (.iconst 5, 1) := by decide +kernel
theorem dX10_ruleClause_13 : decode cX10_ruleClause 13 = .ok (.if_icmp .ge 20, 3) := by decide +kernel
theorem dX10_ruleClause_16 : decode cX10_ruleClause 16 = .ok (.aload_n 0, 1) := by decide +kernel
theorem dX10_ruleClause_17 : decode cX10_ruleClause 17 = .ok (.iload_n 3, 1) := by decide +kernel
theorem dX10_ruleClause_18 : decode cX10_ruleClause 18 = .ok (.invokestatic 394, 3) := by decide +kernel
theorem dX10_ruleClause_21 : decode cX10_ruleClause 21 = .ok (.invokevirtual 271, 3) := by decide +kernel
theorem dX10_ruleClause_24 : decode cX10_ruleClause 24 = .ok (.ifCond .ne 9, 3) := by decide +kernel
theorem dX10_ruleClause_27 : decode cX10_ruleClause 27 = .ok (.iinc 3 1, 3) := by decide +kernel
theorem dX10_ruleClause_30 : decode cX10_ruleClause 30 = .ok (.goto (-19), 3) := by decide +kernel
theorem dX10_ruleClause_33 : decode cX10_ruleClause 33 = .ok (.iload_n 3, 1) := by decide +kernel
theorem dX10_ruleClause_34 : decode cX10_ruleClause 34 = .ok (.iconst 5, 1) := by decide +kernel
theorem dX10_ruleClause_35 : decode cX10_ruleClause 35 = .ok (.if_icmp .ne 10, 3) := by decide +kernel
theorem dX10_ruleClause_38 : decode cX10_ruleClause 38 = .ok (.aload_n 0, 1) := by decide +kernel
theorem dX10_ruleClause_39 : decode cX10_ruleClause 39 = .ok (.iconst 0, 1) := by decide +kernel
theorem dX10_ruleClause_40 : decode cX10_ruleClause 40 = .ok (.iload_n 2, 1) := by decide +kernel
theorem dX10_ruleClause_41 : decode cX10_ruleClause 41 = .ok (.invokevirtual 284, 3) := by decide +kernel
theorem dX10_ruleClause_44 : decode cX10_ruleClause 44 = .ok (.return_, 1) := by decide +kernel
theorem dX10_rule_0 : decode cX10_rule 0 = .ok (.aload_n 0, 1) := by decide +kernel
theorem dX10_rule_1 : decode cX10_rule 1 = .ok (.getfield 405, 3) := by decide +kernel
theorem dX10_rule_4 : decode cX10_rule 4 = .ok (.bipush 6, 2) := by decide +kernel
theorem dX10_rule_6 : decode cX10_rule 6 = .ok (.if_icmp .ne 5, 3) := by decide +kernel
theorem dX10_rule_11 : decode cX10_rule 11 = .ok (.aload_n 0, 1) := by decide +kernel
theorem dX10_rule_12 : decode cX10_rule 12 = .ok (.aload_n 0, 1) := by decide +kernel
theorem dX10_rule_13 : decode cX10_rule 13 = .ok (.getfield 405, 3) := by decide +kernel
theorem dX10_rule_16 : decode cX10_rule 16 = .ok (.putfield 275, 3) := by decide +kernel
theorem dX10_rule_19 : decode cX10_rule 19 = .ok (.aload_n 0, 1) := by decide +kernel
theorem dX10_rule_20 : decode cX10_rule 20 = .ok (.invokevirtual 372, 3) := by decide +kernel
theorem dX10_rule_23 : decode cX10_rule 23 = .ok (.iconst 0, 1) := by decide +kernel
theorem dX10_rule_24 : decode cX10_rule 24 = .ok (.istore_n 1, 1) := by decide +kernel
theorem dX10_rule_25 : decode cX10_rule 25 = .ok (.iconst 1, 1) := by decide +kernel
theorem dX10_rule_26 : decode cX10_rule 26 = .ok (.istore_n 2, 1) := by decide +kernel
theorem dX10_rule_27 : decode cX10_rule 27 = .ok (.iload_n 2, 1) := by decide +kernel
theorem dX10_rule_28 : decode cX10_rule 28 = .ok (.ifCond .eq 19, 3) := by decide +kernel
theorem dX10_rule_31 : decode cX10_rule 31 = .ok (.aload_n 0, 1) := by decide +kernel
theorem dX10_rule_32 : decode cX10_rule 32 = .ok (.iload_n 1, 1) := by decide +kernel
theorem dX10_rule_33 : decode cX10_rule 33 = .ok (.invokevirtual 408, 3) := by decide +kernel
theorem dX10_rule_36 : decode cX10_rule 36 = .ok (.iinc 1 1, 3) := by decide +kernel
theorem dX10_rule_39 : decode cX10_rule 39 = .ok (.aload_n 0, 1) := by decide +kernel
theorem dX10_rule_40 : decode cX10_rule 40 = .ok (.invokevirtual 378, 3) := by decide +kernel
theorem dX10_rule_43 : decode cX10_rule 43 = .ok (.istore_n 2, 1) := by decide +kernel
theorem dX10_rule_44 : decode cX10_rule 44 = .ok (.goto (-17), 3) := by decide +kernel
theorem dX10_rule_47 : decode cX10_rule 47 = .ok (.aload_n 0, 1) := by decide +kernel
theorem dX10_rule_48 : decode cX10_rule 48 = .ok (.iconst 0, 1) := by decide +kernel
theorem dX10_rule_49 : decode cX10_rule 49 = .ok (.putfield 216, 3) := by decide +kernel
theorem dX10_rule_52 : decode cX10_rule 52 = .ok (.aload_n 0, 1) := by decide +kernel
theorem dX10_rule_53 : decode cX10_rule 53 = .ok (.getfield 132, 3) := by decide +kernel
theorem dX10_rule_56 : decode cX10_rule 56 = .ok (.aload_n 0, 1) := by decide +kernel
theorem dX10_rule_57 : decode cX10_rule 57 = .ok (.getfield 275, 3) := by decide +kernel
theorem dX10_rule_60 : decode cX10_rule 60 = .ok (.iload_n 1, 1) := by decide +kernel
theorem dX10_rule_61 : decode cX10_rule 61 = .ok (.iastore, 1) := by decide +kernel
theorem dX10_rule_62 : decode cX10_rule 62 = .ok (.aload_n 0, 1) := by decide +kernel
theorem dX10_rule_63 : decode cX10_rule 63 = .ok (.dup, 1) := by decide +kernel
theorem dX10_rule_64 : decode cX10_rule 64 = .ok (.getfield 405, 3) := by decide +kernel
theorem dX10_rule_67 : decode cX10_rule 67 = .ok (.aload_n 0, 1) := by decide +kernel
theorem dX10_rule_68 : decode cX10_rule 68 = .ok (.getfield 246, 3) := by decide +kernel
theorem dX10_rule_71 : decode cX10_rule 71 = .ok (.ifCond .ne 7, 3) := by decide +kernel
theorem dX10_rule_78 : decode cX10_rule 78 = .ok (.iconst 0, 1) := by decide +kernel
theorem dX10_rule_79 : decode cX10_rule 79 = .ok (.iadd, 1) := by decide +kernel
theorem dX10_rule_80 : decode cX10_rule 80 = .ok (.putfield 405, 3) := by decide +kernel
theorem dX10_rule_83 : decode cX10_rule 83 = .ok (.aload_n 0, 1) := by decide +kernel
theorem dX10_rule_84 : decode cX10_rule 84 = .ok (.getfield 246, 3) := by decide +kernel
theorem dX10_rule_87 : decode cX10_rule 87 = .ok (.ifCond .le 13, 3) := by decide +kernel
theorem dX10_rule_90 : decode cX10_rule 90 = .ok (.bipush (-2), 2) := by decide +kernel
theorem dX10_rule_92 : decode cX10_rule 92 = .ok (.aload_n 0, 1) := by decide +kernel
theorem dX10_rule_93 : decode cX10_rule 93 = .ok (.getfield 246, 3) := by decide +kernel
theorem dX10_rule_96 : decode cX10_rule 96 = .ok (.isub, 1) := by decide +kernel
theorem dX10_rule_97 : decode cX10_rule 97 = .ok (.goto 9, 3) := by decide +kernel
theorem dX10_rule_106 : decode cX10_rule 106 = .ok (.ireturn, 1) := by decide +kernel
theorem dX10_force_0 : decode cX10_force 0 = .ok (.aload_n 0, 1) := by decide +kernel
theorem dX10_force_1 : decode cX10_force 1 = .ok (.invokevirtual 413, 3) := by decide +kernel
theorem dX10_force_4 : decode cX10_force 4 = .ok (.ifCond .eq 11, 3) := by decide +kernel
theorem dX10_force_15 : decode cX10_force 15 = .ok (.bipush (-2), 2) := by decide +kernel
theorem dX10_force_17 : decode cX10_force 17 = .ok (.ireturn, 1) := by decide +kernel
theorem dX10_bind_0 : decode cX10_bind 0 = .ok (.aload_n 0, 1) := by decide +kernel
theorem dX10_bind_1 : decode cX10_bind 1 = .ok (.iload_n 1, 1) := by decide +kernel
theorem dX10_bind_2 : decode cX10_bind 2 = .ok (.invokevirtual 419, 3) := by decide +kernel
theorem dX10_bind_5 : decode cX10_bind 5 = .ok (.ifCond .eq 11, 3) := by decide +kernel
theorem dX10_bind_16 : decode cX10_bind 16 = .ok (.bipush (-2), 2) := by decide +kernel
theorem dX10_bind_18 : decode cX10_bind 18 = .ok (.ireturn, 1) := by decide +kernel
theorem dX10_law_0 : decode cX10_law 0 = .ok (.aload_n 0, 1) := by decide +kernel
theorem dX10_law_1 : decode cX10_law 1 = .ok (.invokevirtual 413, 3) := by decide +kernel
theorem dX10_law_4 : decode cX10_law 4 = .ok (.ifCond .eq 36, 3) := by decide +kernel
theorem dX10_law_40 : decode cX10_law 40 = .ok (.bipush (-2), 2) := by decide +kernel
theorem dX10_law_42 : decode cX10_law 42 = .ok (.ireturn, 1) := by decide +kernel
theorem dX10_bend_0 : decode cX10_bend 0 = .ok (.aload_n 0, 1) := by decide +kernel
theorem dX10_bend_1 : decode cX10_bend 1 = .ok (.iload_n 1, 1) := by decide +kernel
theorem dX10_bend_2 : decode cX10_bend 2 = .ok (.invokevirtual 467, 3) := by decide +kernel
theorem dX10_bend_5 : decode cX10_bend 5 = .ok (.ifCond .ne 5, 3) := by decide +kernel
theorem dX10_bend_8 : decode cX10_bend 8 = .ok (.iconst (-1), 1) := by decide +kernel
theorem dX10_bend_9 : decode cX10_bend 9 = .ok (.ireturn, 1) := by decide +kernel
theorem dX10_village_0 : decode cX10_village 0 = .ok (.aload_n 0, 1) := by decide +kernel
theorem dX10_village_1 : decode cX10_village 1 = .ok (.iload_n 1, 1) := by decide +kernel
theorem dX10_village_2 : decode cX10_village 2 = .ok (.invokevirtual 419, 3) := by decide +kernel
theorem dX10_village_5 : decode cX10_village 5 = .ok (.ifCond .ne 7, 3) := by decide +kernel
theorem dX10_village_8 : decode cX10_village 8 = .ok (.ldc_w 476, 3) := by decide +kernel
theorem dX10_village_11 : decode cX10_village 11 = .ok (.ireturn, 1) := by decide +kernel
theorem dX10_log_0 : decode cX10_log 0 = .ok (.aload_n 0, 1) := by decide +kernel
theorem dX10_log_1 : decode cX10_log 1 = .ok (.iload_n 1, 1) := by decide +kernel
theorem dX10_log_2 : decode cX10_log 2 = .ok (.invokevirtual 483, 3) := by decide +kernel
theorem dX10_log_5 : decode cX10_log 5 = .ok (.ifCond .ne 6, 3) := by decide +kernel
theorem dX10_log_8 : decode cX10_log 8 = .ok (.bipush (-2), 2) := by decide +kernel
theorem dX10_log_10 : decode cX10_log 10 = .ok (.ireturn, 1) := by decide +kernel
theorem dX10_notch_0 : decode cX10_notch 0 = .ok (.aload_n 0, 1) := by decide +kernel
theorem dX10_notch_1 : decode cX10_notch 1 = .ok (.iload_n 1, 1) := by decide +kernel
theorem dX10_notch_2 : decode cX10_notch 2 = .ok (.invokevirtual 483, 3) := by decide +kernel
theorem dX10_notch_5 : decode cX10_notch 5 = .ok (.ifCond .ne 6, 3) := by decide +kernel
theorem dX10_notch_8 : decode cX10_notch 8 = .ok (.bipush (-2), 2) := by decide +kernel
theorem dX10_notch_10 : decode cX10_notch 10 = .ok (.ireturn, 1) := by decide +kernel
theorem dX10_mayCut_0 : decode cX10_mayCut 0 = .ok (.aload_n 0, 1) := by decide +kernel
theorem dX10_mayCut_1 : decode cX10_mayCut 1 = .ok (.iload_n 1, 1) := by decide +kernel
theorem dX10_mayCut_2 : decode cX10_mayCut 2 = .ok (.invokevirtual 483, 3) := by decide +kernel
theorem dX10_mayCut_5 : decode cX10_mayCut 5 = .ok (.ifCond .eq 43, 3) := by decide +kernel
theorem dX10_mayCut_48 : decode cX10_mayCut 48 = .ok (.iconst 0, 1) := by decide +kernel
theorem dX10_mayCut_49 : decode cX10_mayCut 49 = .ok (.ireturn, 1) := by decide +kernel
theorem dX10_cut_0 : decode cX10_cut 0 = .ok (.aload_n 0, 1) := by decide +kernel
theorem dX10_cut_1 : decode cX10_cut 1 = .ok (.iload_n 1, 1) := by decide +kernel
theorem dX10_cut_2 : decode cX10_cut 2 = .ok (.iload_n 2, 1) := by decide +kernel
theorem dX10_cut_3 : decode cX10_cut 3 = .ok (.invokevirtual 492, 3) := by decide +kernel
theorem dX10_cut_6 : decode cX10_cut 6 = .ok (.ifCond .eq 14, 3) := by decide +kernel
theorem dX10_cut_20 : decode cX10_cut 20 = .ok (.bipush (-2), 2) := by decide +kernel
theorem dX10_cut_22 : decode cX10_cut 22 = .ok (.ireturn, 1) := by decide +kernel
theorem dX10_cutOver_0 : decode cX10_cutOver 0 = .ok (.aload_n 0, 1) := by decide +kernel
theorem dX10_cutOver_1 : decode cX10_cutOver 1 = .ok (.iload_n 1, 1) := by decide +kernel
theorem dX10_cutOver_2 : decode cX10_cutOver 2 = .ok (.iload_n 3, 1) := by decide +kernel
theorem dX10_cutOver_3 : decode cX10_cutOver 3 = .ok (.invokevirtual 492, 3) := by decide +kernel
theorem dX10_cutOver_6 : decode cX10_cutOver 6 = .ok (.ifCond .eq 36, 3) := by decide +kernel
theorem dX10_cutOver_42 : decode cX10_cutOver 42 = .ok (.bipush (-2), 2) := by decide +kernel
theorem dX10_cutOver_44 : decode cX10_cutOver 44 = .ok (.ireturn, 1) := by decide +kernel
theorem dX10_undo_0 : decode cX10_undo 0 = .ok (.aload_n 0, 1) := by decide +kernel
theorem dX10_undo_1 : decode cX10_undo 1 = .ok (.getfield 9, 3) := by decide +kernel
theorem dX10_undo_4 : decode cX10_undo 4 = .ok (.bipush 12, 2) := by decide +kernel
theorem dX10_undo_6 : decode cX10_undo 6 = .ok (.iaload, 1) := by decide +kernel
theorem dX10_undo_7 : decode cX10_undo 7 = .ok (.iconst 1, 1) := by decide +kernel
theorem dX10_undo_8 : decode cX10_undo 8 = .ok (.isub, 1) := by decide +kernel
theorem dX10_undo_9 : decode cX10_undo 9 = .ok (.istore_n 1, 1) := by decide +kernel
theorem dX10_undo_10 : decode cX10_undo 10 = .ok (.iload_n 1, 1) := by decide +kernel
theorem dX10_undo_11 : decode cX10_undo 11 = .ok (.ifCond .ge 6, 3) := by decide +kernel
theorem dX10_undo_14 : decode cX10_undo 14 = .ok (.bipush (-2), 2) := by decide +kernel
theorem dX10_undo_16 : decode cX10_undo 16 = .ok (.ireturn, 1) := by decide +kernel
theorem dX10_launch_0 : decode cX10_launch 0 = .ok (.aload_n 0, 1) := by decide +kernel
theorem dX10_launch_1 : decode cX10_launch 1 = .ok (.iload_n 1, 1) := by decide +kernel
theorem dX10_launch_2 : decode cX10_launch 2 = .ok (.invokevirtual 483, 3) := by decide +kernel
theorem dX10_launch_5 : decode cX10_launch 5 = .ok (.ifCond .eq 23, 3) := by decide +kernel
theorem dX10_launch_28 : decode cX10_launch 28 = .ok (.bipush (-2), 2) := by decide +kernel
theorem dX10_launch_30 : decode cX10_launch 30 = .ok (.ireturn, 1) := by decide +kernel
theorem dX10_land_0 : decode cX10_land 0 = .ok (.aload_n 0, 1) := by decide +kernel
theorem dX10_land_1 : decode cX10_land 1 = .ok (.iload_n 1, 1) := by decide +kernel
theorem dX10_land_2 : decode cX10_land 2 = .ok (.invokevirtual 483, 3) := by decide +kernel
theorem dX10_land_5 : decode cX10_land 5 = .ok (.ifCond .eq 30, 3) := by decide +kernel
theorem dX10_land_35 : decode cX10_land 35 = .ok (.iconst 0, 1) := by decide +kernel
theorem dX10_land_36 : decode cX10_land 36 = .ok (.istore_n 3, 1) := by decide +kernel
theorem dX10_land_37 : decode cX10_land 37 = .ok (.iload_n 3, 1) := by decide +kernel
theorem dX10_land_38 : decode cX10_land 38 = .ok (.ifCond .eq 20, 3) := by decide +kernel
theorem dX10_land_58 : decode cX10_land 58 = .ok (.iload_n 3, 1) := by decide +kernel
theorem dX10_land_59 : decode cX10_land 59 = .ok (.ireturn, 1) := by decide +kernel
theorem dX10_burn_0 : decode cX10_burn 0 = .ok (.aload_n 0, 1) := by decide +kernel
theorem dX10_burn_1 : decode cX10_burn 1 = .ok (.iload_n 1, 1) := by decide +kernel
theorem dX10_burn_2 : decode cX10_burn 2 = .ok (.invokevirtual 483, 3) := by decide +kernel
theorem dX10_burn_5 : decode cX10_burn 5 = .ok (.ifCond .eq 11, 3) := by decide +kernel
theorem dX10_burn_16 : decode cX10_burn 16 = .ok (.bipush (-2), 2) := by decide +kernel
theorem dX10_burn_18 : decode cX10_burn 18 = .ok (.ireturn, 1) := by decide +kernel
theorem dX10_saw_0 : decode cX10_saw 0 = .ok (.aload_n 0, 1) := by decide +kernel
theorem dX10_saw_1 : decode cX10_saw 1 = .ok (.iload_n 1, 1) := by decide +kernel
theorem dX10_saw_2 : decode cX10_saw 2 = .ok (.invokevirtual 483, 3) := by decide +kernel
theorem dX10_saw_5 : decode cX10_saw 5 = .ok (.ifCond .eq 38, 3) := by decide +kernel
theorem dX10_saw_43 : decode cX10_saw 43 = .ok (.bipush (-2), 2) := by decide +kernel
theorem dX10_saw_45 : decode cX10_saw 45 = .ok (.ireturn, 1) := by decide +kernel
theorem dX10_ahead_0 : decode cX10_ahead 0 = .ok (.aload_n 0, 1) := by decide +kernel
theorem dX10_ahead_1 : decode cX10_ahead 1 = .ok (.iload_n 1, 1) := by decide +kernel
theorem dX10_ahead_2 : decode cX10_ahead 2 = .ok (.invokevirtual 483, 3) := by decide +kernel
theorem dX10_ahead_5 : decode cX10_ahead 5 = .ok (.ifCond .eq 11, 3) := by decide +kernel
theorem dX10_ahead_16 : decode cX10_ahead 16 = .ok (.bipush (-2), 2) := by decide +kernel
theorem dX10_ahead_18 : decode cX10_ahead 18 = .ok (.ireturn, 1) := by decide +kernel
theorem dX10_dam_0 : decode cX10_dam 0 = .ok (.aload_n 0, 1) := by decide +kernel
theorem dX10_dam_1 : decode cX10_dam 1 = .ok (.iload_n 1, 1) := by decide +kernel
theorem dX10_dam_2 : decode cX10_dam 2 = .ok (.invokevirtual 467, 3) := by decide +kernel
theorem dX10_dam_5 : decode cX10_dam 5 = .ok (.ifCond .eq 13, 3) := by decide +kernel
theorem dX10_dam_18 : decode cX10_dam 18 = .ok (.bipush (-2), 2) := by decide +kernel
theorem dX10_dam_20 : decode cX10_dam 20 = .ok (.ireturn, 1) := by decide +kernel
theorem dX10_votes_0 : decode cX10_votes 0 = .ok (.aload_n 0, 1) := by decide +kernel
theorem dX10_votes_1 : decode cX10_votes 1 = .ok (.iload_n 1, 1) := by decide +kernel
theorem dX10_votes_2 : decode cX10_votes 2 = .ok (.invokevirtual 467, 3) := by decide +kernel
theorem dX10_votes_5 : decode cX10_votes 5 = .ok (.ifCond .eq 30, 3) := by decide +kernel
theorem dX10_votes_35 : decode cX10_votes 35 = .ok (.iconst (-1), 1) := by decide +kernel
theorem dX10_votes_36 : decode cX10_votes 36 = .ok (.ireturn, 1) := by decide +kernel
theorem dX10_appeal_0 : decode cX10_appeal 0 = .ok (.aload_n 0, 1) := by decide +kernel
theorem dX10_appeal_1 : decode cX10_appeal 1 = .ok (.iload_n 1, 1) := by decide +kernel
theorem dX10_appeal_2 : decode cX10_appeal 2 = .ok (.invokevirtual 467, 3) := by decide +kernel
theorem dX10_appeal_5 : decode cX10_appeal 5 = .ok (.ifCond .eq 12, 3) := by decide +kernel
theorem dX10_appeal_17 : decode cX10_appeal 17 = .ok (.bipush (-2), 2) := by decide +kernel
theorem dX10_appeal_19 : decode cX10_appeal 19 = .ok (.ireturn, 1) := by decide +kernel
theorem dX10_flood_0 : decode cX10_flood 0 = .ok (.aload_n 0, 1) := by decide +kernel
theorem dX10_flood_1 : decode cX10_flood 1 = .ok (.invokevirtual 413, 3) := by decide +kernel
theorem dX10_flood_4 : decode cX10_flood 4 = .ok (.ifCond .eq 15, 3) := by decide +kernel
theorem dX10_flood_19 : decode cX10_flood 19 = .ok (.bipush (-2), 2) := by decide +kernel
theorem dX10_flood_21 : decode cX10_flood 21 = .ok (.ireturn, 1) := by decide +kernel
theorem dX10_elected_0 : decode cX10_elected 0 = .ok (.aload_n 0, 1) := by decide +kernel
theorem dX10_elected_1 : decode cX10_elected 1 = .ok (.iload_n 1, 1) := by decide +kernel
theorem dX10_elected_2 : decode cX10_elected 2 = .ok (.invokevirtual 483, 3) := by decide +kernel
theorem dX10_elected_5 : decode cX10_elected 5 = .ok (.ifCond .ne 5, 3) := by decide +kernel
theorem dX10_elected_8 : decode cX10_elected 8 = .ok (.iconst (-1), 1) := by decide +kernel
theorem dX10_elected_9 : decode cX10_elected 9 = .ok (.ireturn, 1) := by decide +kernel
theorem dX10_wedding_0 : decode cX10_wedding 0 = .ok (.aload_n 0, 1) := by decide +kernel
theorem dX10_wedding_1 : decode cX10_wedding 1 = .ok (.iload_n 1, 1) := by decide +kernel
theorem dX10_wedding_2 : decode cX10_wedding 2 = .ok (.invokevirtual 419, 3) := by decide +kernel
theorem dX10_wedding_5 : decode cX10_wedding 5 = .ok (.ifCond .eq 15, 3) := by decide +kernel
theorem dX10_wedding_20 : decode cX10_wedding 20 = .ok (.bipush (-2), 2) := by decide +kernel
theorem dX10_wedding_22 : decode cX10_wedding 22 = .ok (.ireturn, 1) := by decide +kernel
theorem dX10_winter_0 : decode cX10_winter 0 = .ok (.aload_n 0, 1) := by decide +kernel
theorem dX10_winter_1 : decode cX10_winter 1 = .ok (.invokevirtual 413, 3) := by decide +kernel
theorem dX10_winter_4 : decode cX10_winter 4 = .ok (.ifCond .eq 15, 3) := by decide +kernel
theorem dX10_winter_19 : decode cX10_winter 19 = .ok (.bipush (-2), 2) := by decide +kernel
theorem dX10_winter_21 : decode cX10_winter 21 = .ok (.ireturn, 1) := by decide +kernel
theorem dX10_days_0 : decode cX10_days 0 = .ok (.aload_n 0, 1) := by decide +kernel
theorem dX10_days_1 : decode cX10_days 1 = .ok (.invokevirtual 413, 3) := by decide +kernel
theorem dX10_days_4 : decode cX10_days 4 = .ok (.ifCond .eq 30, 3) := by decide +kernel
theorem dX10_days_34 : decode cX10_days 34 = .ok (.bipush (-2), 2) := by decide +kernel
theorem dX10_days_36 : decode cX10_days 36 = .ok (.ireturn, 1) := by decide +kernel
theorem dX10_floats_0 : decode cX10_floats 0 = .ok (.aload_n 0, 1) := by decide +kernel
theorem dX10_floats_1 : decode cX10_floats 1 = .ok (.invokevirtual 413, 3) := by decide +kernel
theorem dX10_floats_4 : decode cX10_floats 4 = .ok (.ifCond .eq 27, 3) := by decide +kernel
theorem dX10_floats_31 : decode cX10_floats 31 = .ok (.iconst (-1), 1) := by decide +kernel
theorem dX10_floats_32 : decode cX10_floats 32 = .ok (.ireturn, 1) := by decide +kernel
theorem dX10_letAhead_0 : decode cX10_letAhead 0 = .ok (.aload_n 0, 1) := by decide +kernel
theorem dX10_letAhead_1 : decode cX10_letAhead 1 = .ok (.invokevirtual 413, 3) := by decide +kernel
theorem dX10_letAhead_4 : decode cX10_letAhead 4 = .ok (.ifCond .eq 27, 3) := by decide +kernel
theorem dX10_letAhead_31 : decode cX10_letAhead 31 = .ok (.iconst (-1), 1) := by decide +kernel
theorem dX10_letAhead_32 : decode cX10_letAhead 32 = .ok (.ireturn, 1) := by decide +kernel
theorem dX10_kin_0 : decode cX10_kin 0 = .ok (.aload_n 0, 1) := by decide +kernel
theorem dX10_kin_1 : decode cX10_kin 1 = .ok (.iload_n 1, 1) := by decide +kernel
theorem dX10_kin_2 : decode cX10_kin 2 = .ok (.invokevirtual 483, 3) := by decide +kernel
theorem dX10_kin_5 : decode cX10_kin 5 = .ok (.ifCond .eq 11, 3) := by decide +kernel
theorem dX10_kin_16 : decode cX10_kin 16 = .ok (.iconst (-1), 1) := by decide +kernel
theorem dX10_kin_17 : decode cX10_kin 17 = .ok (.ireturn, 1) := by decide +kernel
theorem dX10_kinOf_0 : decode cX10_kinOf 0 = .ok (.aload_n 0, 1) := by decide +kernel
theorem dX10_kinOf_1 : decode cX10_kinOf 1 = .ok (.iload_n 1, 1) := by decide +kernel
theorem dX10_kinOf_2 : decode cX10_kinOf 2 = .ok (.invokevirtual 483, 3) := by decide +kernel
theorem dX10_kinOf_5 : decode cX10_kinOf 5 = .ok (.ifCond .ne 5, 3) := by decide +kernel
theorem dX10_kinOf_8 : decode cX10_kinOf 8 = .ok (.iconst (-1), 1) := by decide +kernel
theorem dX10_kinOf_9 : decode cX10_kinOf 9 = .ok (.ireturn, 1) := by decide +kernel
theorem dX10_was_0 : decode cX10_was 0 = .ok (.aload_n 0, 1) := by decide +kernel
theorem dX10_was_1 : decode cX10_was 1 = .ok (.iload_n 1, 1) := by decide +kernel
theorem dX10_was_2 : decode cX10_was 2 = .ok (.invokevirtual 483, 3) := by decide +kernel
theorem dX10_was_5 : decode cX10_was 5 = .ok (.ifCond .eq 36, 3) := by decide +kernel
theorem dX10_was_41 : decode cX10_was 41 = .ok (.bipush (-2), 2) := by decide +kernel
theorem dX10_was_43 : decode cX10_was 43 = .ok (.ireturn, 1) := by decide +kernel
theorem dX10_wereAt_0 : decode cX10_wereAt 0 = .ok (.aload_n 0, 1) := by decide +kernel
theorem dX10_wereAt_1 : decode cX10_wereAt 1 = .ok (.iload_n 1, 1) := by decide +kernel
theorem dX10_wereAt_2 : decode cX10_wereAt 2 = .ok (.invokevirtual 483, 3) := by decide +kernel
theorem dX10_wereAt_5 : decode cX10_wereAt 5 = .ok (.ifCond .eq 36, 3) := by decide +kernel
theorem dX10_wereAt_41 : decode cX10_wereAt 41 = .ok (.iconst (-1), 1) := by decide +kernel
theorem dX10_wereAt_42 : decode cX10_wereAt 42 = .ok (.ireturn, 1) := by decide +kernel
theorem dX10_likely_0 : decode cX10_likely 0 = .ok (.aload_n 0, 1) := by decide +kernel
theorem dX10_likely_1 : decode cX10_likely 1 = .ok (.iload_n 1, 1) := by decide +kernel
theorem dX10_likely_2 : decode cX10_likely 2 = .ok (.invokevirtual 483, 3) := by decide +kernel
theorem dX10_likely_5 : decode cX10_likely 5 = .ok (.ifCond .eq 46, 3) := by decide +kernel
theorem dX10_likely_51 : decode cX10_likely 51 = .ok (.iconst (-1), 1) := by decide +kernel
theorem dX10_likely_52 : decode cX10_likely 52 = .ok (.ireturn, 1) := by decide +kernel
theorem dX10_sight_0 : decode cX10_sight 0 = .ok (.iload_n 1, 1) := by decide +kernel
theorem dX10_sight_1 : decode cX10_sight 1 = .ok (.iconst (-1), 1) := by decide +kernel
theorem dX10_sight_2 : decode cX10_sight 2 = .ok (.if_icmp .ne 13, 3) := by decide +kernel
theorem dX10_sight_5 : decode cX10_sight 5 = .ok (.aload_n 0, 1) := by decide +kernel
theorem dX10_sight_6 : decode cX10_sight 6 = .ok (.getfield 9, 3) := by decide +kernel
theorem dX10_sight_9 : decode cX10_sight 9 = .ok (.bipush 11, 2) := by decide +kernel
theorem dX10_sight_11 : decode cX10_sight 11 = .ok (.iconst 0, 1) := by decide +kernel
theorem dX10_sight_12 : decode cX10_sight 12 = .ok (.iastore, 1) := by decide +kernel
theorem dX10_sight_13 : decode cX10_sight 13 = .ok (.iconst 0, 1) := by decide +kernel
theorem dX10_sight_14 : decode cX10_sight 14 = .ok (.ireturn, 1) := by decide +kernel
theorem dX10_sight_15 : decode cX10_sight 15 = .ok (.aload_n 0, 1) := by decide +kernel
theorem dX10_sight_16 : decode cX10_sight 16 = .ok (.getfield 9, 3) := by decide +kernel
theorem dX10_sight_19 : decode cX10_sight 19 = .ok (.bipush 11, 2) := by decide +kernel
theorem dX10_sight_21 : decode cX10_sight 21 = .ok (.iaload, 1) := by decide +kernel
theorem dX10_sight_22 : decode cX10_sight 22 = .ok (.istore 4, 2) := by decide +kernel
theorem dX10_sight_24 : decode cX10_sight 24 = .ok (.aload_n 0, 1) := by decide +kernel
theorem dX10_sight_25 : decode cX10_sight 25 = .ok (.iload_n 1, 1) := by decide +kernel
theorem dX10_sight_26 : decode cX10_sight 26 = .ok (.invokevirtual 483, 3) := by decide +kernel
theorem dX10_sight_29 : decode cX10_sight 29 = .ok (.ifCond .eq 35, 3) := by decide +kernel
theorem dX10_sight_64 : decode cX10_sight 64 = .ok (.bipush (-2), 2) := by decide +kernel
theorem dX10_sight_66 : decode cX10_sight 66 = .ok (.ireturn, 1) := by decide +kernel
theorem dX10_parted_0 : decode cX10_parted 0 = .ok (.aload_n 0, 1) := by decide +kernel
theorem dX10_parted_1 : decode cX10_parted 1 = .ok (.iload_n 1, 1) := by decide +kernel
theorem dX10_parted_2 : decode cX10_parted 2 = .ok (.invokevirtual 483, 3) := by decide +kernel
theorem dX10_parted_5 : decode cX10_parted 5 = .ok (.ifCond .eq 27, 3) := by decide +kernel
theorem dX10_parted_32 : decode cX10_parted 32 = .ok (.iconst (-1), 1) := by decide +kernel
theorem dX10_parted_33 : decode cX10_parted 33 = .ok (.ireturn, 1) := by decide +kernel
theorem dX10_owes_0 : decode cX10_owes 0 = .ok (.aload_n 0, 1) := by decide +kernel
theorem dX10_owes_1 : decode cX10_owes 1 = .ok (.iload_n 1, 1) := by decide +kernel
theorem dX10_owes_2 : decode cX10_owes 2 = .ok (.invokevirtual 419, 3) := by decide +kernel
theorem dX10_owes_5 : decode cX10_owes 5 = .ok (.ifCond .eq 30, 3) := by decide +kernel
theorem dX10_owes_35 : decode cX10_owes 35 = .ok (.iconst (-1), 1) := by decide +kernel
theorem dX10_owes_36 : decode cX10_owes 36 = .ok (.ireturn, 1) := by decide +kernel
theorem dX10_payments_0 : decode cX10_payments 0 = .ok (.aload_n 0, 1) := by decide +kernel
theorem dX10_payments_1 : decode cX10_payments 1 = .ok (.invokevirtual 413, 3) := by decide +kernel
theorem dX10_payments_4 : decode cX10_payments 4 = .ok (.ifCond .ne 5, 3) := by decide +kernel
theorem dX10_payments_7 : decode cX10_payments 7 = .ok (.iconst (-1), 1) := by decide +kernel
theorem dX10_payments_8 : decode cX10_payments 8 = .ok (.ireturn, 1) := by decide +kernel
theorem dX10_repaid_0 : decode cX10_repaid 0 = .ok (.aload_n 0, 1) := by decide +kernel
theorem dX10_repaid_1 : decode cX10_repaid 1 = .ok (.iload_n 1, 1) := by decide +kernel
theorem dX10_repaid_2 : decode cX10_repaid 2 = .ok (.invokevirtual 419, 3) := by decide +kernel
theorem dX10_repaid_5 : decode cX10_repaid 5 = .ok (.ifCond .eq 26, 3) := by decide +kernel
theorem dX10_repaid_31 : decode cX10_repaid 31 = .ok (.iconst (-1), 1) := by decide +kernel
theorem dX10_repaid_32 : decode cX10_repaid 32 = .ok (.ireturn, 1) := by decide +kernel
theorem dX10_seed_0 : decode cX10_seed 0 = .ok (.iload_n 1, 1) := by decide +kernel
theorem dX10_seed_1 : decode cX10_seed 1 = .ok (.ifCond .ge 5, 3) := by decide +kernel
theorem dX10_seed_4 : decode cX10_seed 4 = .ok (.iconst (-1), 1) := by decide +kernel
theorem dX10_seed_5 : decode cX10_seed 5 = .ok (.ireturn, 1) := by decide +kernel
theorem dX10_seed_6 : decode cX10_seed 6 = .ok (.aload_n 0, 1) := by decide +kernel
theorem dX10_seed_7 : decode cX10_seed 7 = .ok (.getfield 9, 3) := by decide +kernel
theorem dX10_seed_10 : decode cX10_seed 10 = .ok (.bipush 16, 2) := by decide +kernel
theorem dX10_seed_12 : decode cX10_seed 12 = .ok (.iaload, 1) := by decide +kernel
theorem dX10_seed_13 : decode cX10_seed 13 = .ok (.istore_n 2, 1) := by decide +kernel
theorem dX10_seed_14 : decode cX10_seed 14 = .ok (.aload_n 0, 1) := by decide +kernel
theorem dX10_seed_15 : decode cX10_seed 15 = .ok (.getfield 9, 3) := by decide +kernel
theorem dX10_seed_18 : decode cX10_seed 18 = .ok (.bipush 16, 2) := by decide +kernel
theorem dX10_seed_20 : decode cX10_seed 20 = .ok (.iload_n 1, 1) := by decide +kernel
theorem dX10_seed_21 : decode cX10_seed 21 = .ok (.iastore, 1) := by decide +kernel
theorem dX10_seed_22 : decode cX10_seed 22 = .ok (.iload_n 2, 1) := by decide +kernel
theorem dX10_seed_23 : decode cX10_seed 23 = .ok (.ireturn, 1) := by decide +kernel
theorem dX10_drawn_0 : decode cX10_drawn 0 = .ok (.aload_n 0, 1) := by decide +kernel
theorem dX10_drawn_1 : decode cX10_drawn 1 = .ok (.invokevirtual 413, 3) := by decide +kernel
theorem dX10_drawn_4 : decode cX10_drawn 4 = .ok (.ifCond .eq 52, 3) := by decide +kernel
theorem dX10_drawn_56 : decode cX10_drawn 56 = .ok (.iconst (-1), 1) := by decide +kernel
theorem dX10_drawn_57 : decode cX10_drawn 57 = .ok (.ireturn, 1) := by decide +kernel
theorem dX10_countOf_0 : decode cX10_countOf 0 = .ok (.iconst 0, 1) := by decide +kernel
theorem dX10_countOf_1 : decode cX10_countOf 1 = .ok (.istore_n 3, 1) := by decide +kernel
theorem dX10_countOf_2 : decode cX10_countOf 2 = .ok (.iconst 0, 1) := by decide +kernel
theorem dX10_countOf_3 : decode cX10_countOf 3 = .ok (.istore 4, 2) := by decide +kernel
theorem dX10_countOf_5 : decode cX10_countOf 5 = .ok (.iload 4, 2) := by decide +kernel
theorem dX10_countOf_7 : decode cX10_countOf 7 = .ok (.aload_n 0, 1) := by decide +kernel
theorem dX10_countOf_8 : decode cX10_countOf 8 = .ok (.getfield 9, 3) := by decide +kernel
theorem dX10_countOf_11 : decode cX10_countOf 11 = .ok (.iconst 3, 1) := by decide +kernel
theorem dX10_countOf_12 : decode cX10_countOf 12 = .ok (.iaload, 1) := by decide +kernel
theorem dX10_countOf_13 : decode cX10_countOf 13 = .ok (.if_icmp .ge 35, 3) := by decide +kernel
theorem dX10_countOf_48 : decode cX10_countOf 48 = .ok (.iload_n 3, 1) := by decide +kernel
theorem dX10_countOf_49 : decode cX10_countOf 49 = .ok (.ireturn, 1) := by decide +kernel
theorem dX10_count_0 : decode cX10_count 0 = .ok (.iload_n 1, 1) := by decide +kernel
theorem dX10_count_1 : decode cX10_count 1 = .ok (.tableswitch 245 0 19 #[95, 102, 109, 116, 123, 128, 136, 143, 151, 159, 167, 176, 185, 193, 201, 209, 217, 225, 233, 238], 95) := by decide +kernel
theorem dX10_count_96 : decode cX10_count 96 = .ok (.aload_n 0, 1) := by decide +kernel
theorem dX10_count_97 : decode cX10_count 97 = .ok (.getfield 9, 3) := by decide +kernel
theorem dX10_count_100 : decode cX10_count 100 = .ok (.iconst 0, 1) := by decide +kernel
theorem dX10_count_101 : decode cX10_count 101 = .ok (.iaload, 1) := by decide +kernel
theorem dX10_count_102 : decode cX10_count 102 = .ok (.ireturn, 1) := by decide +kernel
theorem dX10_count_103 : decode cX10_count 103 = .ok (.aload_n 0, 1) := by decide +kernel
theorem dX10_count_104 : decode cX10_count 104 = .ok (.getfield 9, 3) := by decide +kernel
theorem dX10_count_107 : decode cX10_count 107 = .ok (.iconst 1, 1) := by decide +kernel
theorem dX10_count_108 : decode cX10_count 108 = .ok (.iaload, 1) := by decide +kernel
theorem dX10_count_109 : decode cX10_count 109 = .ok (.ireturn, 1) := by decide +kernel
theorem dX10_count_110 : decode cX10_count 110 = .ok (.aload_n 0, 1) := by decide +kernel
theorem dX10_count_111 : decode cX10_count 111 = .ok (.getfield 9, 3) := by decide +kernel
theorem dX10_count_114 : decode cX10_count 114 = .ok (.iconst 2, 1) := by decide +kernel
theorem dX10_count_115 : decode cX10_count 115 = .ok (.iaload, 1) := by decide +kernel
theorem dX10_count_116 : decode cX10_count 116 = .ok (.ireturn, 1) := by decide +kernel
theorem dX10_count_117 : decode cX10_count 117 = .ok (.aload_n 0, 1) := by decide +kernel
theorem dX10_count_118 : decode cX10_count 118 = .ok (.getfield 9, 3) := by decide +kernel
theorem dX10_count_121 : decode cX10_count 121 = .ok (.iconst 3, 1) := by decide +kernel
theorem dX10_count_122 : decode cX10_count 122 = .ok (.iaload, 1) := by decide +kernel
theorem dX10_count_123 : decode cX10_count 123 = .ok (.ireturn, 1) := by decide +kernel
theorem dX10_count_124 : decode cX10_count 124 = .ok (.aload_n 0, 1) := by decide +kernel
theorem dX10_count_125 : decode cX10_count 125 = .ok (.getfield 405, 3) := by decide +kernel
theorem dX10_count_128 : decode cX10_count 128 = .ok (.ireturn, 1) := by decide +kernel
theorem dX10_count_129 : decode cX10_count 129 = .ok (.aload_n 0, 1) := by decide +kernel
theorem dX10_count_130 : decode cX10_count 130 = .ok (.getfield 9, 3) := by decide +kernel
theorem dX10_count_133 : decode cX10_count 133 = .ok (.bipush 15, 2) := by decide +kernel
theorem dX10_count_135 : decode cX10_count 135 = .ok (.iaload, 1) := by decide +kernel
theorem dX10_count_136 : decode cX10_count 136 = .ok (.ireturn, 1) := by decide +kernel
theorem dX10_count_137 : decode cX10_count 137 = .ok (.aload_n 0, 1) := by decide +kernel
theorem dX10_count_138 : decode cX10_count 138 = .ok (.getfield 9, 3) := by decide +kernel
theorem dX10_count_141 : decode cX10_count 141 = .ok (.iconst 5, 1) := by decide +kernel
theorem dX10_count_142 : decode cX10_count 142 = .ok (.iaload, 1) := by decide +kernel
theorem dX10_count_143 : decode cX10_count 143 = .ok (.ireturn, 1) := by decide +kernel
theorem dX10_count_144 : decode cX10_count 144 = .ok (.aload_n 0, 1) := by decide +kernel
theorem dX10_count_145 : decode cX10_count 145 = .ok (.getfield 9, 3) := by decide +kernel
theorem dX10_count_148 : decode cX10_count 148 = .ok (.bipush 7, 2) := by decide +kernel
theorem dX10_count_150 : decode cX10_count 150 = .ok (.iaload, 1) := by decide +kernel
theorem dX10_count_151 : decode cX10_count 151 = .ok (.ireturn, 1) := by decide +kernel
theorem dX10_count_152 : decode cX10_count 152 = .ok (.aload_n 0, 1) := by decide +kernel
theorem dX10_count_153 : decode cX10_count 153 = .ok (.getfield 9, 3) := by decide +kernel
theorem dX10_count_156 : decode cX10_count 156 = .ok (.bipush 8, 2) := by decide +kernel
theorem dX10_count_158 : decode cX10_count 158 = .ok (.iaload, 1) := by decide +kernel
theorem dX10_count_159 : decode cX10_count 159 = .ok (.ireturn, 1) := by decide +kernel
theorem dX10_count_160 : decode cX10_count 160 = .ok (.aload_n 0, 1) := by decide +kernel
theorem dX10_count_161 : decode cX10_count 161 = .ok (.iconst 0, 1) := by decide +kernel
theorem dX10_count_162 : decode cX10_count 162 = .ok (.bipush 8, 2) := by decide +kernel
theorem dX10_count_164 : decode cX10_count 164 = .ok (.invokevirtual 638, 3) := by decide +kernel
theorem dX10_count_167 : decode cX10_count 167 = .ok (.ireturn, 1) := by decide +kernel
theorem dX10_count_168 : decode cX10_count 168 = .ok (.aload_n 0, 1) := by decide +kernel
theorem dX10_count_169 : decode cX10_count 169 = .ok (.bipush 40, 2) := by decide +kernel
theorem dX10_count_171 : decode cX10_count 171 = .ok (.bipush 40, 2) := by decide +kernel
theorem dX10_count_173 : decode cX10_count 173 = .ok (.invokevirtual 638, 3) := by decide +kernel
theorem dX10_count_176 : decode cX10_count 176 = .ok (.ireturn, 1) := by decide +kernel
theorem dX10_count_177 : decode cX10_count 177 = .ok (.aload_n 0, 1) := by decide +kernel
theorem dX10_count_178 : decode cX10_count 178 = .ok (.bipush 41, 2) := by decide +kernel
theorem dX10_count_180 : decode cX10_count 180 = .ok (.bipush 41, 2) := by decide +kernel
theorem dX10_count_182 : decode cX10_count 182 = .ok (.invokevirtual 638, 3) := by decide +kernel
theorem dX10_count_185 : decode cX10_count 185 = .ok (.ireturn, 1) := by decide +kernel
theorem dX10_count_186 : decode cX10_count 186 = .ok (.aload_n 0, 1) := by decide +kernel
theorem dX10_count_187 : decode cX10_count 187 = .ok (.getfield 9, 3) := by decide +kernel
theorem dX10_count_190 : decode cX10_count 190 = .ok (.bipush 9, 2) := by decide +kernel
theorem dX10_count_192 : decode cX10_count 192 = .ok (.iaload, 1) := by decide +kernel
theorem dX10_count_193 : decode cX10_count 193 = .ok (.ireturn, 1) := by decide +kernel
theorem dX10_count_194 : decode cX10_count 194 = .ok (.aload_n 0, 1) := by decide +kernel
theorem dX10_count_195 : decode cX10_count 195 = .ok (.getfield 9, 3) := by decide +kernel
theorem dX10_count_198 : decode cX10_count 198 = .ok (.bipush 10, 2) := by decide +kernel
theorem dX10_count_200 : decode cX10_count 200 = .ok (.iaload, 1) := by decide +kernel
theorem dX10_count_201 : decode cX10_count 201 = .ok (.ireturn, 1) := by decide +kernel
theorem dX10_count_202 : decode cX10_count 202 = .ok (.aload_n 0, 1) := by decide +kernel
theorem dX10_count_203 : decode cX10_count 203 = .ok (.getfield 9, 3) := by decide +kernel
theorem dX10_count_206 : decode cX10_count 206 = .ok (.bipush 11, 2) := by decide +kernel
theorem dX10_count_208 : decode cX10_count 208 = .ok (.iaload, 1) := by decide +kernel
theorem dX10_count_209 : decode cX10_count 209 = .ok (.ireturn, 1) := by decide +kernel
theorem dX10_count_210 : decode cX10_count 210 = .ok (.aload_n 0, 1) := by decide +kernel
theorem dX10_count_211 : decode cX10_count 211 = .ok (.getfield 9, 3) := by decide +kernel
theorem dX10_count_214 : decode cX10_count 214 = .ok (.bipush 12, 2) := by decide +kernel
theorem dX10_count_216 : decode cX10_count 216 = .ok (.iaload, 1) := by decide +kernel
theorem dX10_count_217 : decode cX10_count 217 = .ok (.ireturn, 1) := by decide +kernel
theorem dX10_count_218 : decode cX10_count 218 = .ok (.aload_n 0, 1) := by decide +kernel
theorem dX10_count_219 : decode cX10_count 219 = .ok (.getfield 9, 3) := by decide +kernel
theorem dX10_count_222 : decode cX10_count 222 = .ok (.bipush 13, 2) := by decide +kernel
theorem dX10_count_224 : decode cX10_count 224 = .ok (.iaload, 1) := by decide +kernel
theorem dX10_count_225 : decode cX10_count 225 = .ok (.ireturn, 1) := by decide +kernel
theorem dX10_count_226 : decode cX10_count 226 = .ok (.aload_n 0, 1) := by decide +kernel
theorem dX10_count_227 : decode cX10_count 227 = .ok (.getfield 9, 3) := by decide +kernel
theorem dX10_count_230 : decode cX10_count 230 = .ok (.bipush 16, 2) := by decide +kernel
theorem dX10_count_232 : decode cX10_count 232 = .ok (.iaload, 1) := by decide +kernel
theorem dX10_count_233 : decode cX10_count 233 = .ok (.ireturn, 1) := by decide +kernel
theorem dX10_count_234 : decode cX10_count 234 = .ok (.aload_n 0, 1) := by decide +kernel
theorem dX10_count_235 : decode cX10_count 235 = .ok (.getfield 216, 3) := by decide +kernel
theorem dX10_count_238 : decode cX10_count 238 = .ok (.ireturn, 1) := by decide +kernel
theorem dX10_count_239 : decode cX10_count 239 = .ok (.aload_n 0, 1) := by decide +kernel
theorem dX10_count_240 : decode cX10_count 240 = .ok (.getfield 9, 3) := by decide +kernel
theorem dX10_count_243 : decode cX10_count 243 = .ok (.iconst 4, 1) := by decide +kernel
theorem dX10_count_244 : decode cX10_count 244 = .ok (.iaload, 1) := by decide +kernel
theorem dX10_count_245 : decode cX10_count 245 = .ok (.ireturn, 1) := by decide +kernel
theorem dX10_count_246 : decode cX10_count 246 = .ok (.iconst (-1), 1) := by decide +kernel
theorem dX10_count_247 : decode cX10_count 247 = .ok (.ireturn, 1) := by decide +kernel
theorem dX10_carry_0 : decode cX10_carry 0 = .ok (.iconst 0, 1) := by decide +kernel
theorem dX10_carry_1 : decode cX10_carry 1 = .ok (.istore_n 2, 1) := by decide +kernel
theorem dX10_carry_2 : decode cX10_carry 2 = .ok (.iload_n 2, 1) := by decide +kernel
theorem dX10_carry_3 : decode cX10_carry 3 = .ok (.aload_n 1, 1) := by decide +kernel
theorem dX10_carry_4 : decode cX10_carry 4 = .ok (.arraylength, 1) := by decide +kernel
theorem dX10_carry_5 : decode cX10_carry 5 = .ok (.if_icmp .ge 53, 3) := by decide +kernel
theorem dX10_carry_8 : decode cX10_carry 8 = .ok (.aload_n 0, 1) := by decide +kernel
theorem dX10_carry_9 : decode cX10_carry 9 = .ok (.getfield 641, 3) := by decide +kernel
theorem dX10_carry_12 : decode cX10_carry 12 = .ok (.ifCond .eq 18, 3) := by decide +kernel
theorem dX10_carry_30 : decode cX10_carry 30 = .ok (.aload_n 0, 1) := by decide +kernel
theorem dX10_carry_31 : decode cX10_carry 31 = .ok (.getfield 181, 3) := by decide +kernel
theorem dX10_carry_34 : decode cX10_carry 34 = .ok (.aload_n 0, 1) := by decide +kernel
theorem dX10_carry_35 : decode cX10_carry 35 = .ok (.getfield 644, 3) := by decide +kernel
theorem dX10_carry_38 : decode cX10_carry 38 = .ok (.aload_n 1, 1) := by decide +kernel
theorem dX10_carry_39 : decode cX10_carry 39 = .ok (.iload_n 2, 1) := by decide +kernel
theorem dX10_carry_40 : decode cX10_carry 40 = .ok (.iaload, 1) := by decide +kernel
theorem dX10_carry_41 : decode cX10_carry 41 = .ok (.iastore, 1) := by decide +kernel
theorem dX10_carry_42 : decode cX10_carry 42 = .ok (.aload_n 0, 1) := by decide +kernel
theorem dX10_carry_43 : decode cX10_carry 43 = .ok (.dup, 1) := by decide +kernel
theorem dX10_carry_44 : decode cX10_carry 44 = .ok (.getfield 644, 3) := by decide +kernel
theorem dX10_carry_47 : decode cX10_carry 47 = .ok (.iconst 1, 1) := by decide +kernel
theorem dX10_carry_48 : decode cX10_carry 48 = .ok (.iadd, 1) := by decide +kernel
theorem dX10_carry_49 : decode cX10_carry 49 = .ok (.putfield 644, 3) := by decide +kernel
theorem dX10_carry_52 : decode cX10_carry 52 = .ok (.iinc 2 1, 3) := by decide +kernel
theorem dX10_carry_55 : decode cX10_carry 55 = .ok (.goto (-53), 3) := by decide +kernel
theorem dX10_carry_58 : decode cX10_carry 58 = .ok (.return_, 1) := by decide +kernel
theorem dX10_carriesAll_0 : decode cX10_carriesAll 0 = .ok (.aload_n 0, 1) := by decide +kernel
theorem dX10_carriesAll_1 : decode cX10_carriesAll 1 = .ok (.sipush 900, 3) := by decide +kernel
theorem dX10_carriesAll_4 : decode cX10_carriesAll 4 = .ok (.iload_n 1, 1) := by decide +kernel
theorem dX10_carriesAll_5 : decode cX10_carriesAll 5 = .ok (.imul, 1) := by decide +kernel
theorem dX10_carriesAll_6 : decode cX10_carriesAll 6 = .ok (.putfield 644, 3) := by decide +kernel
theorem dX10_carriesAll_9 : decode cX10_carriesAll 9 = .ok (.aload_n 0, 1) := by decide +kernel
theorem dX10_carriesAll_10 : decode cX10_carriesAll 10 = .ok (.iload_n 2, 1) := by decide +kernel
theorem dX10_carriesAll_11 : decode cX10_carriesAll 11 = .ok (.putfield 641, 3) := by decide +kernel
theorem dX10_carriesAll_14 : decode cX10_carriesAll 14 = .ok (.aload_n 0, 1) := by decide +kernel
theorem dX10_carriesAll_15 : decode cX10_carriesAll 15 = .ok (.aload_n 0, 1) := by decide +kernel
theorem dX10_carriesAll_16 : decode cX10_carriesAll 16 = .ok (.getfield 9, 3) := by decide +kernel
theorem dX10_carriesAll_19 : decode cX10_carriesAll 19 = .ok (.invokevirtual 647, 3) := by decide +kernel
theorem dX10_carriesAll_22 : decode cX10_carriesAll 22 = .ok (.aload_n 0, 1) := by decide +kernel
theorem dX10_carriesAll_23 : decode cX10_carriesAll 23 = .ok (.aload_n 0, 1) := by decide +kernel
theorem dX10_carriesAll_24 : decode cX10_carriesAll 24 = .ok (.getfield 13, 3) := by decide +kernel
theorem dX10_carriesAll_27 : decode cX10_carriesAll 27 = .ok (.invokevirtual 647, 3) := by decide +kernel
theorem dX10_carriesAll_30 : decode cX10_carriesAll 30 = .ok (.aload_n 0, 1) := by decide +kernel
theorem dX10_carriesAll_31 : decode cX10_carriesAll 31 = .ok (.aload_n 0, 1) := by decide +kernel
theorem dX10_carriesAll_32 : decode cX10_carriesAll 32 = .ok (.getfield 16, 3) := by decide +kernel
theorem dX10_carriesAll_35 : decode cX10_carriesAll 35 = .ok (.invokevirtual 647, 3) := by decide +kernel
theorem dX10_carriesAll_38 : decode cX10_carriesAll 38 = .ok (.aload_n 0, 1) := by decide +kernel
theorem dX10_carriesAll_39 : decode cX10_carriesAll 39 = .ok (.aload_n 0, 1) := by decide +kernel
theorem dX10_carriesAll_40 : decode cX10_carriesAll 40 = .ok (.getfield 19, 3) := by decide +kernel
theorem dX10_carriesAll_43 : decode cX10_carriesAll 43 = .ok (.invokevirtual 647, 3) := by decide +kernel
theorem dX10_carriesAll_46 : decode cX10_carriesAll 46 = .ok (.aload_n 0, 1) := by decide +kernel
theorem dX10_carriesAll_47 : decode cX10_carriesAll 47 = .ok (.aload_n 0, 1) := by decide +kernel
theorem dX10_carriesAll_48 : decode cX10_carriesAll 48 = .ok (.getfield 22, 3) := by decide +kernel
theorem dX10_carriesAll_51 : decode cX10_carriesAll 51 = .ok (.invokevirtual 647, 3) := by decide +kernel
theorem dX10_carriesAll_54 : decode cX10_carriesAll 54 = .ok (.aload_n 0, 1) := by decide +kernel
theorem dX10_carriesAll_55 : decode cX10_carriesAll 55 = .ok (.aload_n 0, 1) := by decide +kernel
theorem dX10_carriesAll_56 : decode cX10_carriesAll 56 = .ok (.getfield 25, 3) := by decide +kernel
theorem dX10_carriesAll_59 : decode cX10_carriesAll 59 = .ok (.invokevirtual 647, 3) := by decide +kernel
theorem dX10_carriesAll_62 : decode cX10_carriesAll 62 = .ok (.aload_n 0, 1) := by decide +kernel
theorem dX10_carriesAll_63 : decode cX10_carriesAll 63 = .ok (.aload_n 0, 1) := by decide +kernel
theorem dX10_carriesAll_64 : decode cX10_carriesAll 64 = .ok (.getfield 28, 3) := by decide +kernel
theorem dX10_carriesAll_67 : decode cX10_carriesAll 67 = .ok (.invokevirtual 647, 3) := by decide +kernel
theorem dX10_carriesAll_70 : decode cX10_carriesAll 70 = .ok (.aload_n 0, 1) := by decide +kernel
theorem dX10_carriesAll_71 : decode cX10_carriesAll 71 = .ok (.aload_n 0, 1) := by decide +kernel
theorem dX10_carriesAll_72 : decode cX10_carriesAll 72 = .ok (.getfield 31, 3) := by decide +kernel
theorem dX10_carriesAll_75 : decode cX10_carriesAll 75 = .ok (.invokevirtual 647, 3) := by decide +kernel
theorem dX10_carriesAll_78 : decode cX10_carriesAll 78 = .ok (.aload_n 0, 1) := by decide +kernel
theorem dX10_carriesAll_79 : decode cX10_carriesAll 79 = .ok (.aload_n 0, 1) := by decide +kernel
theorem dX10_carriesAll_80 : decode cX10_carriesAll 80 = .ok (.getfield 34, 3) := by decide +kernel
theorem dX10_carriesAll_83 : decode cX10_carriesAll 83 = .ok (.invokevirtual 647, 3) := by decide +kernel
theorem dX10_carriesAll_86 : decode cX10_carriesAll 86 = .ok (.aload_n 0, 1) := by decide +kernel
theorem dX10_carriesAll_87 : decode cX10_carriesAll 87 = .ok (.aload_n 0, 1) := by decide +kernel
theorem dX10_carriesAll_88 : decode cX10_carriesAll 88 = .ok (.getfield 37, 3) := by decide +kernel
theorem dX10_carriesAll_91 : decode cX10_carriesAll 91 = .ok (.invokevirtual 647, 3) := by decide +kernel
theorem dX10_carriesAll_94 : decode cX10_carriesAll 94 = .ok (.aload_n 0, 1) := by decide +kernel
theorem dX10_carriesAll_95 : decode cX10_carriesAll 95 = .ok (.aload_n 0, 1) := by decide +kernel
theorem dX10_carriesAll_96 : decode cX10_carriesAll 96 = .ok (.getfield 40, 3) := by decide +kernel
theorem dX10_carriesAll_99 : decode cX10_carriesAll 99 = .ok (.invokevirtual 647, 3) := by decide +kernel
theorem dX10_carriesAll_102 : decode cX10_carriesAll 102 = .ok (.aload_n 0, 1) := by decide +kernel
theorem dX10_carriesAll_103 : decode cX10_carriesAll 103 = .ok (.aload_n 0, 1) := by decide +kernel
theorem dX10_carriesAll_104 : decode cX10_carriesAll 104 = .ok (.getfield 43, 3) := by decide +kernel
theorem dX10_carriesAll_107 : decode cX10_carriesAll 107 = .ok (.invokevirtual 647, 3) := by decide +kernel
theorem dX10_carriesAll_110 : decode cX10_carriesAll 110 = .ok (.aload_n 0, 1) := by decide +kernel
theorem dX10_carriesAll_111 : decode cX10_carriesAll 111 = .ok (.aload_n 0, 1) := by decide +kernel
theorem dX10_carriesAll_112 : decode cX10_carriesAll 112 = .ok (.getfield 46, 3) := by decide +kernel
theorem dX10_carriesAll_115 : decode cX10_carriesAll 115 = .ok (.invokevirtual 647, 3) := by decide +kernel
theorem dX10_carriesAll_118 : decode cX10_carriesAll 118 = .ok (.aload_n 0, 1) := by decide +kernel
theorem dX10_carriesAll_119 : decode cX10_carriesAll 119 = .ok (.aload_n 0, 1) := by decide +kernel
theorem dX10_carriesAll_120 : decode cX10_carriesAll 120 = .ok (.getfield 49, 3) := by decide +kernel
theorem dX10_carriesAll_123 : decode cX10_carriesAll 123 = .ok (.invokevirtual 647, 3) := by decide +kernel
theorem dX10_carriesAll_126 : decode cX10_carriesAll 126 = .ok (.aload_n 0, 1) := by decide +kernel
theorem dX10_carriesAll_127 : decode cX10_carriesAll 127 = .ok (.aload_n 0, 1) := by decide +kernel
theorem dX10_carriesAll_128 : decode cX10_carriesAll 128 = .ok (.getfield 52, 3) := by decide +kernel
theorem dX10_carriesAll_131 : decode cX10_carriesAll 131 = .ok (.invokevirtual 647, 3) := by decide +kernel
theorem dX10_carriesAll_134 : decode cX10_carriesAll 134 = .ok (.aload_n 0, 1) := by decide +kernel
theorem dX10_carriesAll_135 : decode cX10_carriesAll 135 = .ok (.aload_n 0, 1) := by decide +kernel
theorem dX10_carriesAll_136 : decode cX10_carriesAll 136 = .ok (.getfield 55, 3) := by decide +kernel
theorem dX10_carriesAll_139 : decode cX10_carriesAll 139 = .ok (.invokevirtual 647, 3) := by decide +kernel
theorem dX10_carriesAll_142 : decode cX10_carriesAll 142 = .ok (.aload_n 0, 1) := by decide +kernel
theorem dX10_carriesAll_143 : decode cX10_carriesAll 143 = .ok (.aload_n 0, 1) := by decide +kernel
theorem dX10_carriesAll_144 : decode cX10_carriesAll 144 = .ok (.getfield 58, 3) := by decide +kernel
theorem dX10_carriesAll_147 : decode cX10_carriesAll 147 = .ok (.invokevirtual 647, 3) := by decide +kernel
theorem dX10_carriesAll_150 : decode cX10_carriesAll 150 = .ok (.aload_n 0, 1) := by decide +kernel
theorem dX10_carriesAll_151 : decode cX10_carriesAll 151 = .ok (.aload_n 0, 1) := by decide +kernel
theorem dX10_carriesAll_152 : decode cX10_carriesAll 152 = .ok (.getfield 61, 3) := by decide +kernel
theorem dX10_carriesAll_155 : decode cX10_carriesAll 155 = .ok (.invokevirtual 647, 3) := by decide +kernel
theorem dX10_carriesAll_158 : decode cX10_carriesAll 158 = .ok (.aload_n 0, 1) := by decide +kernel
theorem dX10_carriesAll_159 : decode cX10_carriesAll 159 = .ok (.aload_n 0, 1) := by decide +kernel
theorem dX10_carriesAll_160 : decode cX10_carriesAll 160 = .ok (.getfield 64, 3) := by decide +kernel
theorem dX10_carriesAll_163 : decode cX10_carriesAll 163 = .ok (.invokevirtual 647, 3) := by decide +kernel
theorem dX10_carriesAll_166 : decode cX10_carriesAll 166 = .ok (.aload_n 0, 1) := by decide +kernel
theorem dX10_carriesAll_167 : decode cX10_carriesAll 167 = .ok (.aload_n 0, 1) := by decide +kernel
theorem dX10_carriesAll_168 : decode cX10_carriesAll 168 = .ok (.getfield 67, 3) := by decide +kernel
theorem dX10_carriesAll_171 : decode cX10_carriesAll 171 = .ok (.invokevirtual 647, 3) := by decide +kernel
theorem dX10_carriesAll_174 : decode cX10_carriesAll 174 = .ok (.aload_n 0, 1) := by decide +kernel
theorem dX10_carriesAll_175 : decode cX10_carriesAll 175 = .ok (.aload_n 0, 1) := by decide +kernel
theorem dX10_carriesAll_176 : decode cX10_carriesAll 176 = .ok (.getfield 70, 3) := by decide +kernel
theorem dX10_carriesAll_179 : decode cX10_carriesAll 179 = .ok (.invokevirtual 647, 3) := by decide +kernel
theorem dX10_carriesAll_182 : decode cX10_carriesAll 182 = .ok (.aload_n 0, 1) := by decide +kernel
theorem dX10_carriesAll_183 : decode cX10_carriesAll 183 = .ok (.aload_n 0, 1) := by decide +kernel
theorem dX10_carriesAll_184 : decode cX10_carriesAll 184 = .ok (.getfield 73, 3) := by decide +kernel
theorem dX10_carriesAll_187 : decode cX10_carriesAll 187 = .ok (.invokevirtual 647, 3) := by decide +kernel
theorem dX10_carriesAll_190 : decode cX10_carriesAll 190 = .ok (.aload_n 0, 1) := by decide +kernel
theorem dX10_carriesAll_191 : decode cX10_carriesAll 191 = .ok (.aload_n 0, 1) := by decide +kernel
theorem dX10_carriesAll_192 : decode cX10_carriesAll 192 = .ok (.getfield 76, 3) := by decide +kernel
theorem dX10_carriesAll_195 : decode cX10_carriesAll 195 = .ok (.invokevirtual 647, 3) := by decide +kernel
theorem dX10_carriesAll_198 : decode cX10_carriesAll 198 = .ok (.aload_n 0, 1) := by decide +kernel
theorem dX10_carriesAll_199 : decode cX10_carriesAll 199 = .ok (.aload_n 0, 1) := by decide +kernel
theorem dX10_carriesAll_200 : decode cX10_carriesAll 200 = .ok (.getfield 79, 3) := by decide +kernel
theorem dX10_carriesAll_203 : decode cX10_carriesAll 203 = .ok (.invokevirtual 647, 3) := by decide +kernel
theorem dX10_carriesAll_206 : decode cX10_carriesAll 206 = .ok (.aload_n 0, 1) := by decide +kernel
theorem dX10_carriesAll_207 : decode cX10_carriesAll 207 = .ok (.aload_n 0, 1) := by decide +kernel
theorem dX10_carriesAll_208 : decode cX10_carriesAll 208 = .ok (.getfield 82, 3) := by decide +kernel
theorem dX10_carriesAll_211 : decode cX10_carriesAll 211 = .ok (.invokevirtual 647, 3) := by decide +kernel
theorem dX10_carriesAll_214 : decode cX10_carriesAll 214 = .ok (.aload_n 0, 1) := by decide +kernel
theorem dX10_carriesAll_215 : decode cX10_carriesAll 215 = .ok (.aload_n 0, 1) := by decide +kernel
theorem dX10_carriesAll_216 : decode cX10_carriesAll 216 = .ok (.getfield 85, 3) := by decide +kernel
theorem dX10_carriesAll_219 : decode cX10_carriesAll 219 = .ok (.invokevirtual 647, 3) := by decide +kernel
theorem dX10_carriesAll_222 : decode cX10_carriesAll 222 = .ok (.aload_n 0, 1) := by decide +kernel
theorem dX10_carriesAll_223 : decode cX10_carriesAll 223 = .ok (.aload_n 0, 1) := by decide +kernel
theorem dX10_carriesAll_224 : decode cX10_carriesAll 224 = .ok (.getfield 88, 3) := by decide +kernel
theorem dX10_carriesAll_227 : decode cX10_carriesAll 227 = .ok (.invokevirtual 647, 3) := by decide +kernel
theorem dX10_carriesAll_230 : decode cX10_carriesAll 230 = .ok (.aload_n 0, 1) := by decide +kernel
theorem dX10_carriesAll_231 : decode cX10_carriesAll 231 = .ok (.aload_n 0, 1) := by decide +kernel
theorem dX10_carriesAll_232 : decode cX10_carriesAll 232 = .ok (.getfield 91, 3) := by decide +kernel
theorem dX10_carriesAll_235 : decode cX10_carriesAll 235 = .ok (.invokevirtual 647, 3) := by decide +kernel
theorem dX10_carriesAll_238 : decode cX10_carriesAll 238 = .ok (.return_, 1) := by decide +kernel
theorem dX10_image_0 : decode cX10_image 0 = .ok (.iload_n 1, 1) := by decide +kernel
theorem dX10_image_1 : decode cX10_image 1 = .ok (.i2l, 1) := by decide +kernel
theorem dX10_image_2 : decode cX10_image 2 = .ok (.lconst 0, 1) := by decide +kernel
theorem dX10_image_3 : decode cX10_image 3 = .ok (.ldc2_w 422, 3) := by decide +kernel
theorem dX10_image_6 : decode cX10_image 6 = .ok (.invokestatic 191, 3) := by decide +kernel
theorem dX10_image_9 : decode cX10_image 9 = .ok (.ifCond .ne 5, 3) := by decide +kernel
theorem dX10_image_12 : decode cX10_image 12 = .ok (.iconst (-1), 1) := by decide +kernel
theorem dX10_image_13 : decode cX10_image 13 = .ok (.ireturn, 1) := by decide +kernel
theorem dX10_image_14 : decode cX10_image 14 = .ok (.aload_n 0, 1) := by decide +kernel
theorem dX10_image_15 : decode cX10_image 15 = .ok (.getfield 184, 3) := by decide +kernel
theorem dX10_image_18 : decode cX10_image 18 = .ok (.iload_n 1, 1) := by decide +kernel
theorem dX10_image_19 : decode cX10_image 19 = .ok (.iconst 1, 1) := by decide +kernel
theorem dX10_image_20 : decode cX10_image 20 = .ok (.bastore, 1) := by decide +kernel
theorem dX10_image_21 : decode cX10_image 21 = .ok (.aload_n 0, 1) := by decide +kernel
theorem dX10_image_22 : decode cX10_image 22 = .ok (.iload_n 1, 1) := by decide +kernel
theorem dX10_image_23 : decode cX10_image 23 = .ok (.iconst 0, 1) := by decide +kernel
theorem dX10_image_24 : decode cX10_image 24 = .ok (.invokevirtual 651, 3) := by decide +kernel
theorem dX10_image_27 : decode cX10_image 27 = .ok (.aload_n 0, 1) := by decide +kernel
theorem dX10_image_28 : decode cX10_image 28 = .ok (.getfield 9, 3) := by decide +kernel
theorem dX10_image_31 : decode cX10_image 31 = .ok (.bipush 7, 2) := by decide +kernel
theorem dX10_image_33 : decode cX10_image 33 = .ok (.iaload, 1) := by decide +kernel
theorem dX10_image_34 : decode cX10_image 34 = .ok (.ireturn, 1) := by decide +kernel
theorem dX10_back_0 : decode cX10_back 0 = .ok (.iload_n 1, 1) := by decide +kernel
theorem dX10_back_1 : decode cX10_back 1 = .ok (.i2l, 1) := by decide +kernel
theorem dX10_back_2 : decode cX10_back 2 = .ok (.lconst 0, 1) := by decide +kernel
theorem dX10_back_3 : decode cX10_back 3 = .ok (.ldc2_w 422, 3) := by decide +kernel
theorem dX10_back_6 : decode cX10_back 6 = .ok (.invokestatic 191, 3) := by decide +kernel
theorem dX10_back_9 : decode cX10_back 9 = .ok (.ifCond .eq 12, 3) := by decide +kernel
theorem dX10_back_12 : decode cX10_back 12 = .ok (.aload_n 0, 1) := by decide +kernel
theorem dX10_back_13 : decode cX10_back 13 = .ok (.getfield 184, 3) := by decide +kernel
theorem dX10_back_16 : decode cX10_back 16 = .ok (.iload_n 1, 1) := by decide +kernel
theorem dX10_back_17 : decode cX10_back 17 = .ok (.baload, 1) := by decide +kernel
theorem dX10_back_18 : decode cX10_back 18 = .ok (.ifCond .ne 5, 3) := by decide +kernel
theorem dX10_back_21 : decode cX10_back 21 = .ok (.iconst (-1), 1) := by decide +kernel
theorem dX10_back_22 : decode cX10_back 22 = .ok (.ireturn, 1) := by decide +kernel
