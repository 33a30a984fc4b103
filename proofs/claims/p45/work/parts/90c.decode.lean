theorem dX10_init_0 : decode cX10_init 0 = .ok (.aload_n 0, 1) := by decide +kernel
theorem dX10_init_1 : decode cX10_init 1 = .ok (.invokespecial 1, 3) := by decide +kernel
theorem dX10_init_4 : decode cX10_init 4 = .ok (.aload_n 0, 1) := by decide +kernel
theorem dX10_init_5 : decode cX10_init 5 = .ok (.bipush 17, 2) := by decide +kernel
theorem dX10_init_7 : decode cX10_init 7 = .ok (.newarray .int, 2) := by decide +kernel
theorem dX10_init_9 : decode cX10_init 9 = .ok (.dup, 1) := by decide +kernel
theorem dX10_init_10 : decode cX10_init 10 = .ok (.iconst 0, 1) := by decide +kernel
theorem dX10_init_11 : decode cX10_init 11 = .ok (.iconst 0, 1) := by decide +kernel
theorem dX10_init_12 : decode cX10_init 12 = .ok (.iastore, 1) := by decide +kernel
theorem dX10_init_13 : decode cX10_init 13 = .ok (.dup, 1) := by decide +kernel
theorem dX10_init_14 : decode cX10_init 14 = .ok (.iconst 1, 1) := by decide +kernel
theorem dX10_init_15 : decode cX10_init 15 = .ok (.iconst 0, 1) := by decide +kernel
theorem dX10_init_16 : decode cX10_init 16 = .ok (.iastore, 1) := by decide +kernel
theorem dX10_init_17 : decode cX10_init 17 = .ok (.dup, 1) := by decide +kernel
theorem dX10_init_18 : decode cX10_init 18 = .ok (.iconst 2, 1) := by decide +kernel
theorem dX10_init_19 : decode cX10_init 19 = .ok (.iconst 0, 1) := by decide +kernel
theorem dX10_init_20 : decode cX10_init 20 = .ok (.iastore, 1) := by decide +kernel
theorem dX10_init_21 : decode cX10_init 21 = .ok (.dup, 1) := by decide +kernel
theorem dX10_init_22 : decode cX10_init 22 = .ok (.iconst 3, 1) := by decide +kernel
theorem dX10_init_23 : decode cX10_init 23 = .ok (.iconst 0, 1) := by decide +kernel
theorem dX10_init_24 : decode cX10_init 24 = .ok (.iastore, 1) := by decide +kernel
theorem dX10_init_25 : decode cX10_init 25 = .ok (.dup, 1) := by decide +kernel
theorem dX10_init_26 : decode cX10_init 26 = .ok (.iconst 4, 1) := by decide +kernel
theorem dX10_init_27 : decode cX10_init 27 = .ok (.iconst 0, 1) := by decide +kernel
theorem dX10_init_28 : decode cX10_init 28 = .ok (.iastore, 1) := by decide +kernel
theorem dX10_init_29 : decode cX10_init 29 = .ok (.dup, 1) := by decide +kernel
theorem dX10_init_30 : decode cX10_init 30 = .ok (.iconst 5, 1) := by decide +kernel
theorem dX10_init_31 : decode cX10_init 31 = .ok (.iconst 0, 1) := by decide +kernel
theorem dX10_init_32 : decode cX10_init 32 = .ok (.iastore, 1) := by decide +kernel
theorem dX10_init_33 : decode cX10_init 33 = .ok (.dup, 1) := by decide +kernel
theorem dX10_init_34 : decode cX10_init 34 = .ok (.bipush 6, 2) := by decide +kernel
theorem dX10_init_36 : decode cX10_init 36 = .ok (.iconst (-1), 1) := by decide +kernel
theorem dX10_init_37 : decode cX10_init 37 = .ok (.iastore, 1) := by decide +kernel
theorem dX10_init_38 : decode cX10_init 38 = .ok (.dup, 1) := by decide +kernel
theorem dX10_init_39 : decode cX10_init 39 = .ok (.bipush 7, 2) := by decide +kernel
theorem dX10_init_41 : decode cX10_init 41 = .ok (.iconst 0, 1) := by decide +kernel
theorem dX10_init_42 : decode cX10_init 42 = .ok (.iastore, 1) := by decide +kernel
theorem dX10_init_43 : decode cX10_init 43 = .ok (.dup, 1) := by decide +kernel
theorem dX10_init_44 : decode cX10_init 44 = .ok (.bipush 8, 2) := by decide +kernel
theorem dX10_init_46 : decode cX10_init 46 = .ok (.iconst 0, 1) := by decide +kernel
theorem dX10_init_47 : decode cX10_init 47 = .ok (.iastore, 1) := by decide +kernel
theorem dX10_init_48 : decode cX10_init 48 = .ok (.dup, 1) := by decide +kernel
theorem dX10_init_49 : decode cX10_init 49 = .ok (.bipush 9, 2) := by decide +kernel
theorem dX10_init_51 : decode cX10_init 51 = .ok (.iconst 0, 1) := by decide +kernel
theorem dX10_init_52 : decode cX10_init 52 = .ok (.iastore, 1) := by decide +kernel
theorem dX10_init_53 : decode cX10_init 53 = .ok (.dup, 1) := by decide +kernel
theorem dX10_init_54 : decode cX10_init 54 = .ok (.bipush 10, 2) := by decide +kernel
theorem dX10_init_56 : decode cX10_init 56 = .ok (.iconst 0, 1) := by decide +kernel
theorem dX10_init_57 : decode cX10_init 57 = .ok (.iastore, 1) := by decide +kernel
theorem dX10_init_58 : decode cX10_init 58 = .ok (.dup, 1) := by decide +kernel
theorem dX10_init_59 : decode cX10_init 59 = .ok (.bipush 11, 2) := by decide +kernel
theorem dX10_init_61 : decode cX10_init 61 = .ok (.iconst 0, 1) := by decide +kernel
theorem dX10_init_62 : decode cX10_init 62 = .ok (.iastore, 1) := by decide +kernel
theorem dX10_init_63 : decode cX10_init 63 = .ok (.dup, 1) := by decide +kernel
theorem dX10_init_64 : decode cX10_init 64 = .ok (.bipush 12, 2) := by decide +kernel
theorem dX10_init_66 : decode cX10_init 66 = .ok (.iconst 0, 1) := by decide +kernel
theorem dX10_init_67 : decode cX10_init 67 = .ok (.iastore, 1) := by decide +kernel
theorem dX10_init_68 : decode cX10_init 68 = .ok (.dup, 1) := by decide +kernel
theorem dX10_init_69 : decode cX10_init 69 = .ok (.bipush 13, 2) := by decide +kernel
theorem dX10_init_71 : decode cX10_init 71 = .ok (.iconst 0, 1) := by decide +kernel
theorem dX10_init_72 : decode cX10_init 72 = .ok (.iastore, 1) := by decide +kernel
theorem dX10_init_73 : decode cX10_init 73 = .ok (.dup, 1) := by decide +kernel
theorem dX10_init_74 : decode cX10_init 74 = .ok (.bipush 14, 2) := by decide +kernel
theorem dX10_init_76 : decode cX10_init 76 = .ok (.iconst 0, 1) := by decide +kernel
theorem dX10_init_77 : decode cX10_init 77 = .ok (.iastore, 1) := by decide +kernel
theorem dX10_init_78 : decode cX10_init 78 = .ok (.dup, 1) := by decide +kernel
theorem dX10_init_79 : decode cX10_init 79 = .ok (.bipush 15, 2) := by decide +kernel
theorem dX10_init_81 : decode cX10_init 81 = .ok (.iconst (-1), 1) := by decide +kernel
theorem dX10_init_82 : decode cX10_init 82 = .ok (.iastore, 1) := by decide +kernel
theorem dX10_init_83 : decode cX10_init 83 = .ok (.dup, 1) := by decide +kernel
theorem dX10_init_84 : decode cX10_init 84 = .ok (.bipush 16, 2) := by decide +kernel
theorem dX10_init_86 : decode cX10_init 86 = .ok (.iconst 0, 1) := by decide +kernel
theorem dX10_init_87 : decode cX10_init 87 = .ok (.iastore, 1) := by decide +kernel
theorem dX10_init_88 : decode cX10_init 88 = .ok (.putfield 9, 3) := by decide +kernel
theorem dX10_init_91 : decode cX10_init 91 = .ok (.aload_n 0, 1) := by decide +kernel
theorem dX10_init_92 : decode cX10_init 92 = .ok (.bipush 9, 2) := by decide +kernel
theorem dX10_init_94 : decode cX10_init 94 = .ok (.newarray .int, 2) := by decide +kernel
theorem dX10_init_96 : decode cX10_init 96 = .ok (.putfield 13, 3) := by decide +kernel
theorem dX10_init_99 : decode cX10_init 99 = .ok (.aload_n 0, 1) := by decide +kernel
theorem dX10_init_100 : decode cX10_init 100 = .ok (.bipush 9, 2) := by decide +kernel
theorem dX10_init_102 : decode cX10_init 102 = .ok (.newarray .int, 2) := by decide +kernel
theorem dX10_init_104 : decode cX10_init 104 = .ok (.putfield 16, 3) := by decide +kernel
theorem dX10_init_107 : decode cX10_init 107 = .ok (.aload_n 0, 1) := by decide +kernel
theorem dX10_init_108 : decode cX10_init 108 = .ok (.iconst 4, 1) := by decide +kernel
theorem dX10_init_109 : decode cX10_init 109 = .ok (.newarray .int, 2) := by decide +kernel
theorem dX10_init_111 : decode cX10_init 111 = .ok (.putfield 19, 3) := by decide +kernel
theorem dX10_init_114 : decode cX10_init 114 = .ok (.aload_n 0, 1) := by decide +kernel
theorem dX10_init_115 : decode cX10_init 115 = .ok (.bipush 6, 2) := by decide +kernel
theorem dX10_init_117 : decode cX10_init 117 = .ok (.newarray .int, 2) := by decide +kernel
theorem dX10_init_119 : decode cX10_init 119 = .ok (.putfield 22, 3) := by decide +kernel
theorem dX10_init_122 : decode cX10_init 122 = .ok (.aload_n 0, 1) := by decide +kernel
theorem dX10_init_123 : decode cX10_init 123 = .ok (.bipush 6, 2) := by decide +kernel
theorem dX10_init_125 : decode cX10_init 125 = .ok (.newarray .int, 2) := by decide +kernel
theorem dX10_init_127 : decode cX10_init 127 = .ok (.putfield 25, 3) := by decide +kernel
theorem dX10_init_130 : decode cX10_init 130 = .ok (.aload_n 0, 1) := by decide +kernel
theorem dX10_init_131 : decode cX10_init 131 = .ok (.bipush 6, 2) := by decide +kernel
theorem dX10_init_133 : decode cX10_init 133 = .ok (.newarray .int, 2) := by decide +kernel
theorem dX10_init_135 : decode cX10_init 135 = .ok (.putfield 28, 3) := by decide +kernel
theorem dX10_init_138 : decode cX10_init 138 = .ok (.aload_n 0, 1) := by decide +kernel
theorem dX10_init_139 : decode cX10_init 139 = .ok (.bipush 36, 2) := by decide +kernel
theorem dX10_init_141 : decode cX10_init 141 = .ok (.newarray .int, 2) := by decide +kernel
theorem dX10_init_143 : decode cX10_init 143 = .ok (.putfield 31, 3) := by decide +kernel
theorem dX10_init_146 : decode cX10_init 146 = .ok (.aload_n 0, 1) := by decide +kernel
theorem dX10_init_147 : decode cX10_init 147 = .ok (.bipush 12, 2) := by decide +kernel
theorem dX10_init_149 : decode cX10_init 149 = .ok (.newarray .int, 2) := by decide +kernel
theorem dX10_init_151 : decode cX10_init 151 = .ok (.putfield 34, 3) := by decide +kernel
theorem dX10_init_154 : decode cX10_init 154 = .ok (.aload_n 0, 1) := by decide +kernel
theorem dX10_init_155 : decode cX10_init 155 = .ok (.bipush 12, 2) := by decide +kernel
theorem dX10_init_157 : decode cX10_init 157 = .ok (.newarray .int, 2) := by decide +kernel
theorem dX10_init_159 : decode cX10_init 159 = .ok (.putfield 37, 3) := by decide +kernel
theorem dX10_init_162 : decode cX10_init 162 = .ok (.aload_n 0, 1) := by decide +kernel
theorem dX10_init_163 : decode cX10_init 163 = .ok (.bipush 12, 2) := by decide +kernel
theorem dX10_init_165 : decode cX10_init 165 = .ok (.newarray .int, 2) := by decide +kernel
theorem dX10_init_167 : decode cX10_init 167 = .ok (.putfield 40, 3) := by decide +kernel
theorem dX10_init_170 : decode cX10_init 170 = .ok (.aload_n 0, 1) := by decide +kernel
theorem dX10_init_171 : decode cX10_init 171 = .ok (.bipush 12, 2) := by decide +kernel
theorem dX10_init_173 : decode cX10_init 173 = .ok (.newarray .int, 2) := by decide +kernel
theorem dX10_init_175 : decode cX10_init 175 = .ok (.putfield 43, 3) := by decide +kernel
theorem dX10_init_178 : decode cX10_init 178 = .ok (.aload_n 0, 1) := by decide +kernel
theorem dX10_init_179 : decode cX10_init 179 = .ok (.bipush 12, 2) := by decide +kernel
theorem dX10_init_181 : decode cX10_init 181 = .ok (.newarray .int, 2) := by decide +kernel
theorem dX10_init_183 : decode cX10_init 183 = .ok (.putfield 46, 3) := by decide +kernel
theorem dX10_init_186 : decode cX10_init 186 = .ok (.aload_n 0, 1) := by decide +kernel
theorem dX10_init_187 : decode cX10_init 187 = .ok (.bipush 12, 2) := by decide +kernel
theorem dX10_init_189 : decode cX10_init 189 = .ok (.newarray .int, 2) := by decide +kernel
theorem dX10_init_191 : decode cX10_init 191 = .ok (.putfield 49, 3) := by decide +kernel
theorem dX10_init_194 : decode cX10_init 194 = .ok (.aload_n 0, 1) := by decide +kernel
theorem dX10_init_195 : decode cX10_init 195 = .ok (.bipush 12, 2) := by decide +kernel
theorem dX10_init_197 : decode cX10_init 197 = .ok (.newarray .int, 2) := by decide +kernel
theorem dX10_init_199 : decode cX10_init 199 = .ok (.putfield 52, 3) := by decide +kernel
theorem dX10_init_202 : decode cX10_init 202 = .ok (.aload_n 0, 1) := by decide +kernel
theorem dX10_init_203 : decode cX10_init 203 = .ok (.bipush 12, 2) := by decide +kernel
theorem dX10_init_205 : decode cX10_init 205 = .ok (.newarray .int, 2) := by decide +kernel
theorem dX10_init_207 : decode cX10_init 207 = .ok (.putfield 55, 3) := by decide +kernel
theorem dX10_init_210 : decode cX10_init 210 = .ok (.aload_n 0, 1) := by decide +kernel
theorem dX10_init_211 : decode cX10_init 211 = .ok (.bipush 12, 2) := by decide +kernel
theorem dX10_init_213 : decode cX10_init 213 = .ok (.newarray .int, 2) := by decide +kernel
theorem dX10_init_215 : decode cX10_init 215 = .ok (.putfield 58, 3) := by decide +kernel
theorem dX10_init_218 : decode cX10_init 218 = .ok (.aload_n 0, 1) := by decide +kernel
theorem dX10_init_219 : decode cX10_init 219 = .ok (.bipush 72, 2) := by decide +kernel
theorem dX10_init_221 : decode cX10_init 221 = .ok (.newarray .int, 2) := by decide +kernel
theorem dX10_init_223 : decode cX10_init 223 = .ok (.putfield 61, 3) := by decide +kernel
theorem dX10_init_226 : decode cX10_init 226 = .ok (.aload_n 0, 1) := by decide +kernel
theorem dX10_init_227 : decode cX10_init 227 = .ok (.bipush 20, 2) := by decide +kernel
theorem dX10_init_229 : decode cX10_init 229 = .ok (.newarray .int, 2) := by decide +kernel
theorem dX10_init_231 : decode cX10_init 231 = .ok (.putfield 64, 3) := by decide +kernel
theorem dX10_init_234 : decode cX10_init 234 = .ok (.aload_n 0, 1) := by decide +kernel
theorem dX10_init_235 : decode cX10_init 235 = .ok (.bipush 20, 2) := by decide +kernel
theorem dX10_init_237 : decode cX10_init 237 = .ok (.newarray .int, 2) := by decide +kernel
theorem dX10_init_239 : decode cX10_init 239 = .ok (.putfield 67, 3) := by decide +kernel
theorem dX10_init_242 : decode cX10_init 242 = .ok (.aload_n 0, 1) := by decide +kernel
theorem dX10_init_243 : decode cX10_init 243 = .ok (.bipush 20, 2) := by decide +kernel
theorem dX10_init_245 : decode cX10_init 245 = .ok (.newarray .int, 2) := by decide +kernel
theorem dX10_init_247 : decode cX10_init 247 = .ok (.putfield 70, 3) := by decide +kernel
theorem dX10_init_250 : decode cX10_init 250 = .ok (.aload_n 0, 1) := by decide +kernel
theorem dX10_init_251 : decode cX10_init 251 = .ok (.bipush 20, 2) := by decide +kernel
theorem dX10_init_253 : decode cX10_init 253 = .ok (.newarray .int, 2) := by decide +kernel
theorem dX10_init_255 : decode cX10_init 255 = .ok (.putfield 73, 3) := by decide +kernel
theorem dX10_init_258 : decode cX10_init 258 = .ok (.aload_n 0, 1) := by decide +kernel
theorem dX10_init_259 : decode cX10_init 259 = .ok (.bipush 20, 2) := by decide +kernel
theorem dX10_init_261 : decode cX10_init 261 = .ok (.newarray .int, 2) := by decide +kernel
theorem dX10_init_263 : decode cX10_init 263 = .ok (.putfield 76, 3) := by decide +kernel
theorem dX10_init_266 : decode cX10_init 266 = .ok (.aload_n 0, 1) := by decide +kernel
theorem dX10_init_267 : decode cX10_init 267 = .ok (.bipush 12, 2) := by decide +kernel
theorem dX10_init_269 : decode cX10_init 269 = .ok (.newarray .int, 2) := by decide +kernel
theorem dX10_init_271 : decode cX10_init 271 = .ok (.putfield 79, 3) := by decide +kernel
theorem dX10_init_274 : decode cX10_init 274 = .ok (.aload_n 0, 1) := by decide +kernel
theorem dX10_init_275 : decode cX10_init 275 = .ok (.bipush 12, 2) := by decide +kernel
theorem dX10_init_277 : decode cX10_init 277 = .ok (.newarray .int, 2) := by decide +kernel
theorem dX10_init_279 : decode cX10_init 279 = .ok (.putfield 82, 3) := by decide +kernel
theorem dX10_init_282 : decode cX10_init 282 = .ok (.aload_n 0, 1) := by decide +kernel
theorem dX10_init_283 : decode cX10_init 283 = .ok (.bipush 12, 2) := by decide +kernel
theorem dX10_init_285 : decode cX10_init 285 = .ok (.newarray .int, 2) := by decide +kernel
theorem dX10_init_287 : decode cX10_init 287 = .ok (.putfield 85, 3) := by decide +kernel
theorem dX10_init_290 : decode cX10_init 290 = .ok (.aload_n 0, 1) := by decide +kernel
theorem dX10_init_291 : decode cX10_init 291 = .ok (.bipush 12, 2) := by decide +kernel
theorem dX10_init_293 : decode cX10_init 293 = .ok (.newarray .int, 2) := by decide +kernel
theorem dX10_init_295 : decode cX10_init 295 = .ok (.putfield 88, 3) := by decide +kernel
theorem dX10_init_298 : decode cX10_init 298 = .ok (.aload_n 0, 1) := by decide +kernel
theorem dX10_init_299 : decode cX10_init 299 = .ok (.sipush 360, 3) := by decide +kernel
theorem dX10_init_302 : decode cX10_init 302 = .ok (.newarray .int, 2) := by decide +kernel
theorem dX10_init_304 : decode cX10_init 304 = .ok (.putfield 91, 3) := by decide +kernel
theorem dX10_init_307 : decode cX10_init 307 = .ok (.aload_n 0, 1) := by decide +kernel
theorem dX10_init_308 : decode cX10_init 308 = .ok (.iconst 5, 1) := by decide +kernel
theorem dX10_init_309 : decode cX10_init 309 = .ok (.newarray .int, 2) := by decide +kernel
theorem dX10_init_311 : decode cX10_init 311 = .ok (.putfield 94, 3) := by decide +kernel
theorem dX10_init_314 : decode cX10_init 314 = .ok (.aload_n 0, 1) := by decide +kernel
theorem dX10_init_315 : decode cX10_init 315 = .ok (.bipush 9, 2) := by decide +kernel
theorem dX10_init_317 : decode cX10_init 317 = .ok (.newarray .int, 2) := by decide +kernel
theorem dX10_init_319 : decode cX10_init 319 = .ok (.putfield 97, 3) := by decide +kernel
theorem dX10_init_322 : decode cX10_init 322 = .ok (.aload_n 0, 1) := by decide +kernel
theorem dX10_init_323 : decode cX10_init 323 = .ok (.iconst 4, 1) := by decide +kernel
theorem dX10_init_324 : decode cX10_init 324 = .ok (.newarray .int, 2) := by decide +kernel
theorem dX10_init_326 : decode cX10_init 326 = .ok (.putfield 100, 3) := by decide +kernel
theorem dX10_init_329 : decode cX10_init 329 = .ok (.aload_n 0, 1) := by decide +kernel
theorem dX10_init_330 : decode cX10_init 330 = .ok (.bipush 6, 2) := by decide +kernel
theorem dX10_init_332 : decode cX10_init 332 = .ok (.newarray .int, 2) := by decide +kernel
theorem dX10_init_334 : decode cX10_init 334 = .ok (.putfield 103, 3) := by decide +kernel
theorem dX10_init_337 : decode cX10_init 337 = .ok (.aload_n 0, 1) := by decide +kernel
theorem dX10_init_338 : decode cX10_init 338 = .ok (.bipush 12, 2) := by decide +kernel
theorem dX10_init_340 : decode cX10_init 340 = .ok (.newarray .int, 2) := by decide +kernel
theorem dX10_init_342 : decode cX10_init 342 = .ok (.putfield 106, 3) := by decide +kernel
theorem dX10_init_345 : decode cX10_init 345 = .ok (.aload_n 0, 1) := by decide +kernel
theorem dX10_init_346 : decode cX10_init 346 = .ok (.bipush 12, 2) := by decide +kernel
theorem dX10_init_348 : decode cX10_init 348 = .ok (.newarray .int, 2) := by decide +kernel
theorem dX10_init_350 : decode cX10_init 350 = .ok (.putfield 109, 3) := by decide +kernel
theorem dX10_init_353 : decode cX10_init 353 = .ok (.aload_n 0, 1) := by decide +kernel
theorem dX10_init_354 : decode cX10_init 354 = .ok (.bipush 12, 2) := by decide +kernel
theorem dX10_init_356 : decode cX10_init 356 = .ok (.newarray .int, 2) := by decide +kernel
theorem dX10_init_358 : decode cX10_init 358 = .ok (.putfield 112, 3) := by decide +kernel
theorem dX10_init_361 : decode cX10_init 361 = .ok (.aload_n 0, 1) := by decide +kernel
theorem dX10_init_362 : decode cX10_init 362 = .ok (.bipush 12, 2) := by decide +kernel
theorem dX10_init_364 : decode cX10_init 364 = .ok (.newarray .int, 2) := by decide +kernel
theorem dX10_init_366 : decode cX10_init 366 = .ok (.putfield 115, 3) := by decide +kernel
theorem dX10_init_369 : decode cX10_init 369 = .ok (.aload_n 0, 1) := by decide +kernel
theorem dX10_init_370 : decode cX10_init 370 = .ok (.bipush 13, 2) := by decide +kernel
theorem dX10_init_372 : decode cX10_init 372 = .ok (.putfield 118, 3) := by decide +kernel
theorem dX10_init_375 : decode cX10_init 375 = .ok (.aload_n 0, 1) := by decide +kernel
theorem dX10_init_376 : decode cX10_init 376 = .ok (.sipush 400, 3) := by decide +kernel
theorem dX10_init_379 : decode cX10_init 379 = .ok (.newarray .byte, 2) := by decide +kernel
theorem dX10_init_381 : decode cX10_init 381 = .ok (.putfield 122, 3) := by decide +kernel
theorem dX10_init_384 : decode cX10_init 384 = .ok (.aload_n 0, 1) := by decide +kernel
theorem dX10_init_385 : decode cX10_init 385 = .ok (.sipush 1800, 3) := by decide +kernel
theorem dX10_init_388 : decode cX10_init 388 = .ok (.newarray .int, 2) := by decide +kernel
theorem dX10_init_390 : decode cX10_init 390 = .ok (.putfield 126, 3) := by decide +kernel
theorem dX10_init_393 : decode cX10_init 393 = .ok (.aload_n 0, 1) := by decide +kernel
theorem dX10_init_394 : decode cX10_init 394 = .ok (.sipush 1800, 3) := by decide +kernel
theorem dX10_init_397 : decode cX10_init 397 = .ok (.newarray .int, 2) := by decide +kernel
theorem dX10_init_399 : decode cX10_init 399 = .ok (.putfield 129, 3) := by decide +kernel
theorem dX10_init_402 : decode cX10_init 402 = .ok (.aload_n 0, 1) := by decide +kernel
theorem dX10_init_403 : decode cX10_init 403 = .ok (.bipush 6, 2) := by decide +kernel
theorem dX10_init_405 : decode cX10_init 405 = .ok (.newarray .int, 2) := by decide +kernel
theorem dX10_init_407 : decode cX10_init 407 = .ok (.putfield 132, 3) := by decide +kernel
theorem dX10_init_410 : decode cX10_init 410 = .ok (.aload_n 0, 1) := by decide +kernel
theorem dX10_init_411 : decode cX10_init 411 = .ok (.bipush 72, 2) := by decide +kernel
theorem dX10_init_413 : decode cX10_init 413 = .ok (.newarray .int, 2) := by decide +kernel
theorem dX10_init_415 : decode cX10_init 415 = .ok (.putfield 135, 3) := by decide +kernel
theorem dX10_init_418 : decode cX10_init 418 = .ok (.aload_n 0, 1) := by decide +kernel
theorem dX10_init_419 : decode cX10_init 419 = .ok (.bipush 72, 2) := by decide +kernel
theorem dX10_init_421 : decode cX10_init 421 = .ok (.newarray .int, 2) := by decide +kernel
theorem dX10_init_423 : decode cX10_init 423 = .ok (.putfield 138, 3) := by decide +kernel
theorem dX10_init_426 : decode cX10_init 426 = .ok (.aload_n 0, 1) := by decide +kernel
theorem dX10_init_427 : decode cX10_init 427 = .ok (.bipush 72, 2) := by decide +kernel
theorem dX10_init_429 : decode cX10_init 429 = .ok (.newarray .int, 2) := by decide +kernel
theorem dX10_init_431 : decode cX10_init 431 = .ok (.putfield 141, 3) := by decide +kernel
theorem dX10_init_434 : decode cX10_init 434 = .ok (.aload_n 0, 1) := by decide +kernel
theorem dX10_init_435 : decode cX10_init 435 = .ok (.bipush 72, 2) := by decide +kernel
theorem dX10_init_437 : decode cX10_init 437 = .ok (.newarray .int, 2) := by decide +kernel
theorem dX10_init_439 : decode cX10_init 439 = .ok (.putfield 144, 3) := by decide +kernel
theorem dX10_init_442 : decode cX10_init 442 = .ok (.aload_n 0, 1) := by decide +kernel
theorem dX10_init_443 : decode cX10_init 443 = .ok (.sipush 402, 3) := by decide +kernel
theorem dX10_init_446 : decode cX10_init 446 = .ok (.newarray .int, 2) := by decide +kernel
theorem dX10_init_448 : decode cX10_init 448 = .ok (.putfield 147, 3) := by decide +kernel
theorem dX10_init_451 : decode cX10_init 451 = .ok (.aload_n 0, 1) := by decide +kernel
theorem dX10_init_452 : decode cX10_init 452 = .ok (.bipush 13, 2) := by decide +kernel
theorem dX10_init_454 : decode cX10_init 454 = .ok (.newarray .long, 2) := by decide +kernel
theorem dX10_init_456 : decode cX10_init 456 = .ok (.putfield 150, 3) := by decide +kernel
theorem dX10_init_459 : decode cX10_init 459 = .ok (.aload_n 0, 1) := by decide +kernel
theorem dX10_init_460 : decode cX10_init 460 = .ok (.sipush 300, 3) := by decide +kernel
theorem dX10_init_463 : decode cX10_init 463 = .ok (.newarray .long, 2) := by decide +kernel
theorem dX10_init_465 : decode cX10_init 465 = .ok (.putfield 154, 3) := by decide +kernel
theorem dX10_init_468 : decode cX10_init 468 = .ok (.aload_n 0, 1) := by decide +kernel
theorem dX10_init_469 : decode cX10_init 469 = .ok (.bipush 12, 2) := by decide +kernel
theorem dX10_init_471 : decode cX10_init 471 = .ok (.newarray .int, 2) := by decide +kernel
theorem dX10_init_473 : decode cX10_init 473 = .ok (.putfield 157, 3) := by decide +kernel
theorem dX10_init_476 : decode cX10_init 476 = .ok (.aload_n 0, 1) := by decide +kernel
theorem dX10_init_477 : decode cX10_init 477 = .ok (.bipush 12, 2) := by decide +kernel
theorem dX10_init_479 : decode cX10_init 479 = .ok (.newarray .long, 2) := by decide +kernel
theorem dX10_init_481 : decode cX10_init 481 = .ok (.putfield 160, 3) := by decide +kernel
theorem dX10_init_484 : decode cX10_init 484 = .ok (.aload_n 0, 1) := by decide +kernel
theorem dX10_init_485 : decode cX10_init 485 = .ok (.bipush 12, 2) := by decide +kernel
theorem dX10_init_487 : decode cX10_init 487 = .ok (.newarray .int, 2) := by decide +kernel
theorem dX10_init_489 : decode cX10_init 489 = .ok (.putfield 163, 3) := by decide +kernel
theorem dX10_init_492 : decode cX10_init 492 = .ok (.aload_n 0, 1) := by decide +kernel
theorem dX10_init_493 : decode cX10_init 493 = .ok (.bipush 12, 2) := by decide +kernel
theorem dX10_init_495 : decode cX10_init 495 = .ok (.newarray .int, 2) := by decide +kernel
theorem dX10_init_497 : decode cX10_init 497 = .ok (.putfield 166, 3) := by decide +kernel
theorem dX10_init_500 : decode cX10_init 500 = .ok (.aload_n 0, 1) := by decide +kernel
theorem dX10_init_501 : decode cX10_init 501 = .ok (.bipush 12, 2) := by decide +kernel
theorem dX10_init_503 : decode cX10_init 503 = .ok (.newarray .int, 2) := by decide +kernel
theorem dX10_init_505 : decode cX10_init 505 = .ok (.putfield 169, 3) := by decide +kernel
theorem dX10_init_508 : decode cX10_init 508 = .ok (.aload_n 0, 1) := by decide +kernel
theorem dX10_init_509 : decode cX10_init 509 = .ok (.bipush 6, 2) := by decide +kernel
theorem dX10_init_511 : decode cX10_init 511 = .ok (.newarray .int, 2) := by decide +kernel
theorem dX10_init_513 : decode cX10_init 513 = .ok (.putfield 172, 3) := by decide +kernel
theorem dX10_init_516 : decode cX10_init 516 = .ok (.aload_n 0, 1) := by decide +kernel
theorem dX10_init_517 : decode cX10_init 517 = .ok (.bipush 6, 2) := by decide +kernel
theorem dX10_init_519 : decode cX10_init 519 = .ok (.newarray .int, 2) := by decide +kernel
theorem dX10_init_521 : decode cX10_init 521 = .ok (.putfield 175, 3) := by decide +kernel
theorem dX10_init_524 : decode cX10_init 524 = .ok (.aload_n 0, 1) := by decide +kernel
theorem dX10_init_525 : decode cX10_init 525 = .ok (.bipush 64, 2) := by decide +kernel
theorem dX10_init_527 : decode cX10_init 527 = .ok (.newarray .int, 2) := by decide +kernel
theorem dX10_init_529 : decode cX10_init 529 = .ok (.putfield 178, 3) := by decide +kernel
theorem dX10_init_532 : decode cX10_init 532 = .ok (.aload_n 0, 1) := by decide +kernel
theorem dX10_init_533 : decode cX10_init 533 = .ok (.sipush 4500, 3) := by decide +kernel
theorem dX10_init_536 : decode cX10_init 536 = .ok (.newarray .int, 2) := by decide +kernel
theorem dX10_init_538 : decode cX10_init 538 = .ok (.putfield 181, 3) := by decide +kernel
theorem dX10_init_541 : decode cX10_init 541 = .ok (.aload_n 0, 1) := by decide +kernel
theorem dX10_init_542 : decode cX10_init 542 = .ok (.iconst 4, 1) := by decide +kernel
theorem dX10_init_543 : decode cX10_init 543 = .ok (.newarray .boolean, 2) := by decide +kernel
theorem dX10_init_545 : decode cX10_init 545 = .ok (.putfield 184, 3) := by decide +kernel
theorem dX10_init_548 : decode cX10_init 548 = .ok (.return_, 1) := by decide +kernel
