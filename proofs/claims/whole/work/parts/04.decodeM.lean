theorem dX7_init_0 : decode cX7_init 0 = .ok (.aload_n 0, 1) := by decide +kernel
theorem dX7_init_1 : decode cX7_init 1 = .ok (.invokespecial 1, 3) := by decide +kernel
theorem dX7_init_4 : decode cX7_init 4 = .ok (.aload_n 0, 1) := by decide +kernel
theorem dX7_init_5 : decode cX7_init 5 = .ok (.bipush 60, 2) := by decide +kernel
theorem dX7_init_7 : decode cX7_init 7 = .ok (.putfield 7, 3) := by decide +kernel
theorem dX7_init_10 : decode cX7_init 10 = .ok (.aload_n 0, 1) := by decide +kernel
theorem dX7_init_11 : decode cX7_init 11 = .ok (.bipush 20, 2) := by decide +kernel
theorem dX7_init_13 : decode cX7_init 13 = .ok (.putfield 13, 3) := by decide +kernel
theorem dX7_init_16 : decode cX7_init 16 = .ok (.aload_n 0, 1) := by decide +kernel
theorem dX7_init_17 : decode cX7_init 17 = .ok (.sipush 1000, 3) := by decide +kernel
theorem dX7_init_20 : decode cX7_init 20 = .ok (.putfield 16, 3) := by decide +kernel
theorem dX7_init_23 : decode cX7_init 23 = .ok (.aload_n 0, 1) := by decide +kernel
theorem dX7_init_24 : decode cX7_init 24 = .ok (.iconst 1, 1) := by decide +kernel
theorem dX7_init_25 : decode cX7_init 25 = .ok (.putfield 19, 3) := by decide +kernel
theorem dX7_init_28 : decode cX7_init 28 = .ok (.aload_n 0, 1) := by decide +kernel
theorem dX7_init_29 : decode cX7_init 29 = .ok (.iconst (-1), 1) := by decide +kernel
theorem dX7_init_30 : decode cX7_init 30 = .ok (.putfield 22, 3) := by decide +kernel
theorem dX7_init_33 : decode cX7_init 33 = .ok (.aload_n 0, 1) := by decide +kernel
theorem dX7_init_34 : decode cX7_init 34 = .ok (.bipush 8, 2) := by decide +kernel
theorem dX7_init_36 : decode cX7_init 36 = .ok (.newarray .int, 2) := by decide +kernel
theorem dX7_init_38 : decode cX7_init 38 = .ok (.putfield 25, 3) := by decide +kernel
theorem dX7_init_41 : decode cX7_init 41 = .ok (.aload_n 0, 1) := by decide +kernel
theorem dX7_init_42 : decode cX7_init 42 = .ok (.bipush 6, 2) := by decide +kernel
theorem dX7_init_44 : decode cX7_init 44 = .ok (.newarray .int, 2) := by decide +kernel
theorem dX7_init_46 : decode cX7_init 46 = .ok (.putfield 29, 3) := by decide +kernel
theorem dX7_init_49 : decode cX7_init 49 = .ok (.aload_n 0, 1) := by decide +kernel
theorem dX7_init_50 : decode cX7_init 50 = .ok (.bipush 6, 2) := by decide +kernel
theorem dX7_init_52 : decode cX7_init 52 = .ok (.newarray .int, 2) := by decide +kernel
theorem dX7_init_54 : decode cX7_init 54 = .ok (.putfield 32, 3) := by decide +kernel
theorem dX7_init_57 : decode cX7_init 57 = .ok (.aload_n 0, 1) := by decide +kernel
theorem dX7_init_58 : decode cX7_init 58 = .ok (.bipush 6, 2) := by decide +kernel
theorem dX7_init_60 : decode cX7_init 60 = .ok (.newarray .int, 2) := by decide +kernel
theorem dX7_init_62 : decode cX7_init 62 = .ok (.putfield 35, 3) := by decide +kernel
theorem dX7_init_65 : decode cX7_init 65 = .ok (.aload_n 0, 1) := by decide +kernel
theorem dX7_init_66 : decode cX7_init 66 = .ok (.bipush 72, 2) := by decide +kernel
theorem dX7_init_68 : decode cX7_init 68 = .ok (.newarray .int, 2) := by decide +kernel
theorem dX7_init_70 : decode cX7_init 70 = .ok (.putfield 38, 3) := by decide +kernel
theorem dX7_init_73 : decode cX7_init 73 = .ok (.aload_n 0, 1) := by decide +kernel
theorem dX7_init_74 : decode cX7_init 74 = .ok (.bipush 10, 2) := by decide +kernel
theorem dX7_init_76 : decode cX7_init 76 = .ok (.newarray .int, 2) := by decide +kernel
theorem dX7_init_78 : decode cX7_init 78 = .ok (.putfield 41, 3) := by decide +kernel
theorem dX7_init_81 : decode cX7_init 81 = .ok (.aload_n 0, 1) := by decide +kernel
theorem dX7_init_82 : decode cX7_init 82 = .ok (.bipush 8, 2) := by decide +kernel
theorem dX7_init_84 : decode cX7_init 84 = .ok (.newarray .int, 2) := by decide +kernel
theorem dX7_init_86 : decode cX7_init 86 = .ok (.putfield 44, 3) := by decide +kernel
theorem dX7_init_89 : decode cX7_init 89 = .ok (.aload_n 0, 1) := by decide +kernel
theorem dX7_init_90 : decode cX7_init 90 = .ok (.bipush 8, 2) := by decide +kernel
theorem dX7_init_92 : decode cX7_init 92 = .ok (.newarray .int, 2) := by decide +kernel
theorem dX7_init_94 : decode cX7_init 94 = .ok (.putfield 47, 3) := by decide +kernel
theorem dX7_init_97 : decode cX7_init 97 = .ok (.aload_n 0, 1) := by decide +kernel
theorem dX7_init_98 : decode cX7_init 98 = .ok (.bipush 8, 2) := by decide +kernel
theorem dX7_init_100 : decode cX7_init 100 = .ok (.newarray .int, 2) := by decide +kernel
theorem dX7_init_102 : decode cX7_init 102 = .ok (.putfield 50, 3) := by decide +kernel
theorem dX7_init_105 : decode cX7_init 105 = .ok (.aload_n 0, 1) := by decide +kernel
theorem dX7_init_106 : decode cX7_init 106 = .ok (.bipush 8, 2) := by decide +kernel
theorem dX7_init_108 : decode cX7_init 108 = .ok (.newarray .int, 2) := by decide +kernel
theorem dX7_init_110 : decode cX7_init 110 = .ok (.putfield 53, 3) := by decide +kernel
theorem dX7_init_113 : decode cX7_init 113 = .ok (.aload_n 0, 1) := by decide +kernel
theorem dX7_init_114 : decode cX7_init 114 = .ok (.sipush 1280, 3) := by decide +kernel
theorem dX7_init_117 : decode cX7_init 117 = .ok (.newarray .long, 2) := by decide +kernel
theorem dX7_init_119 : decode cX7_init 119 = .ok (.putfield 56, 3) := by decide +kernel
theorem dX7_init_122 : decode cX7_init 122 = .ok (.aload_n 0, 1) := by decide +kernel
theorem dX7_init_123 : decode cX7_init 123 = .ok (.sipush 160, 3) := by decide +kernel
theorem dX7_init_126 : decode cX7_init 126 = .ok (.newarray .long, 2) := by decide +kernel
theorem dX7_init_128 : decode cX7_init 128 = .ok (.putfield 60, 3) := by decide +kernel
theorem dX7_init_131 : decode cX7_init 131 = .ok (.aload_n 0, 1) := by decide +kernel
theorem dX7_init_132 : decode cX7_init 132 = .ok (.bipush 43, 2) := by decide +kernel
theorem dX7_init_134 : decode cX7_init 134 = .ok (.newarray .int, 2) := by decide +kernel
theorem dX7_init_136 : decode cX7_init 136 = .ok (.dup, 1) := by decide +kernel
theorem dX7_init_137 : decode cX7_init 137 = .ok (.iconst 0, 1) := by decide +kernel
theorem dX7_init_138 : decode cX7_init 138 = .ok (.bipush 98, 2) := by decide +kernel
theorem dX7_init_140 : decode cX7_init 140 = .ok (.iastore, 1) := by decide +kernel
theorem dX7_init_141 : decode cX7_init 141 = .ok (.dup, 1) := by decide +kernel
theorem dX7_init_142 : decode cX7_init 142 = .ok (.iconst 1, 1) := by decide +kernel
theorem dX7_init_143 : decode cX7_init 143 = .ok (.bipush 105, 2) := by decide +kernel
theorem dX7_init_145 : decode cX7_init 145 = .ok (.iastore, 1) := by decide +kernel
theorem dX7_init_146 : decode cX7_init 146 = .ok (.dup, 1) := by decide +kernel
theorem dX7_init_147 : decode cX7_init 147 = .ok (.iconst 2, 1) := by decide +kernel
theorem dX7_init_148 : decode cX7_init 148 = .ok (.bipush 115, 2) := by decide +kernel
theorem dX7_init_150 : decode cX7_init 150 = .ok (.iastore, 1) := by decide +kernel
theorem dX7_init_151 : decode cX7_init 151 = .ok (.dup, 1) := by decide +kernel
theorem dX7_init_152 : decode cX7_init 152 = .ok (.iconst 3, 1) := by decide +kernel
theorem dX7_init_153 : decode cX7_init 153 = .ok (.bipush 99, 2) := by decide +kernel
theorem dX7_init_155 : decode cX7_init 155 = .ok (.iastore, 1) := by decide +kernel
theorem dX7_init_156 : decode cX7_init 156 = .ok (.dup, 1) := by decide +kernel
theorem dX7_init_157 : decode cX7_init 157 = .ok (.iconst 4, 1) := by decide +kernel
theorem dX7_init_158 : decode cX7_init 158 = .ok (.bipush 117, 2) := by decide +kernel
theorem dX7_init_160 : decode cX7_init 160 = .ok (.iastore, 1) := by decide +kernel
theorem dX7_init_161 : decode cX7_init 161 = .ok (.dup, 1) := by decide +kernel
theorem dX7_init_162 : decode cX7_init 162 = .ok (.iconst 5, 1) := by decide +kernel
theorem dX7_init_163 : decode cX7_init 163 = .ok (.bipush 105, 2) := by decide +kernel
theorem dX7_init_165 : decode cX7_init 165 = .ok (.iastore, 1) := by decide +kernel
theorem dX7_init_166 : decode cX7_init 166 = .ok (.dup, 1) := by decide +kernel
theorem dX7_init_167 : decode cX7_init 167 = .ok (.bipush 6, 2) := by decide +kernel
theorem dX7_init_169 : decode cX7_init 169 = .ok (.bipush 116, 2) := by decide +kernel
theorem dX7_init_171 : decode cX7_init 171 = .ok (.iastore, 1) := by decide +kernel
theorem dX7_init_172 : decode cX7_init 172 = .ok (.dup, 1) := by decide +kernel
theorem dX7_init_173 : decode cX7_init 173 = .ok (.bipush 7, 2) := by decide +kernel
theorem dX7_init_175 : decode cX7_init 175 = .ok (.bipush 32, 2) := by decide +kernel
theorem dX7_init_177 : decode cX7_init 177 = .ok (.iastore, 1) := by decide +kernel
theorem dX7_init_178 : decode cX7_init 178 = .ok (.dup, 1) := by decide +kernel
theorem dX7_init_179 : decode cX7_init 179 = .ok (.bipush 8, 2) := by decide +kernel
theorem dX7_init_181 : decode cX7_init 181 = .ok (.iconst 0, 1) := by decide +kernel
theorem dX7_init_182 : decode cX7_init 182 = .ok (.iastore, 1) := by decide +kernel
theorem dX7_init_183 : decode cX7_init 183 = .ok (.dup, 1) := by decide +kernel
theorem dX7_init_184 : decode cX7_init 184 = .ok (.bipush 9, 2) := by decide +kernel
theorem dX7_init_186 : decode cX7_init 186 = .ok (.bipush 119, 2) := by decide +kernel
theorem dX7_init_188 : decode cX7_init 188 = .ok (.iastore, 1) := by decide +kernel
theorem dX7_init_189 : decode cX7_init 189 = .ok (.dup, 1) := by decide +kernel
theorem dX7_init_190 : decode cX7_init 190 = .ok (.bipush 10, 2) := by decide +kernel
theorem dX7_init_192 : decode cX7_init 192 = .ok (.bipush 101, 2) := by decide +kernel
theorem dX7_init_194 : decode cX7_init 194 = .ok (.iastore, 1) := by decide +kernel
theorem dX7_init_195 : decode cX7_init 195 = .ok (.dup, 1) := by decide +kernel
theorem dX7_init_196 : decode cX7_init 196 = .ok (.bipush 11, 2) := by decide +kernel
theorem dX7_init_198 : decode cX7_init 198 = .ok (.bipush 116, 2) := by decide +kernel
theorem dX7_init_200 : decode cX7_init 200 = .ok (.iastore, 1) := by decide +kernel
theorem dX7_init_201 : decode cX7_init 201 = .ok (.dup, 1) := by decide +kernel
theorem dX7_init_202 : decode cX7_init 202 = .ok (.bipush 12, 2) := by decide +kernel
theorem dX7_init_204 : decode cX7_init 204 = .ok (.bipush 32, 2) := by decide +kernel
theorem dX7_init_206 : decode cX7_init 206 = .ok (.iastore, 1) := by decide +kernel
theorem dX7_init_207 : decode cX7_init 207 = .ok (.dup, 1) := by decide +kernel
theorem dX7_init_208 : decode cX7_init 208 = .ok (.bipush 13, 2) := by decide +kernel
theorem dX7_init_210 : decode cX7_init 210 = .ok (.iconst 0, 1) := by decide +kernel
theorem dX7_init_211 : decode cX7_init 211 = .ok (.iastore, 1) := by decide +kernel
theorem dX7_init_212 : decode cX7_init 212 = .ok (.dup, 1) := by decide +kernel
theorem dX7_init_213 : decode cX7_init 213 = .ok (.bipush 14, 2) := by decide +kernel
theorem dX7_init_215 : decode cX7_init 215 = .ok (.bipush 104, 2) := by decide +kernel
theorem dX7_init_217 : decode cX7_init 217 = .ok (.iastore, 1) := by decide +kernel
theorem dX7_init_218 : decode cX7_init 218 = .ok (.dup, 1) := by decide +kernel
theorem dX7_init_219 : decode cX7_init 219 = .ok (.bipush 15, 2) := by decide +kernel
theorem dX7_init_221 : decode cX7_init 221 = .ok (.bipush 101, 2) := by decide +kernel
theorem dX7_init_223 : decode cX7_init 223 = .ok (.iastore, 1) := by decide +kernel
theorem dX7_init_224 : decode cX7_init 224 = .ok (.dup, 1) := by decide +kernel
theorem dX7_init_225 : decode cX7_init 225 = .ok (.bipush 16, 2) := by decide +kernel
theorem dX7_init_227 : decode cX7_init 227 = .ok (.bipush 97, 2) := by decide +kernel
theorem dX7_init_229 : decode cX7_init 229 = .ok (.iastore, 1) := by decide +kernel
theorem dX7_init_230 : decode cX7_init 230 = .ok (.dup, 1) := by decide +kernel
theorem dX7_init_231 : decode cX7_init 231 = .ok (.bipush 17, 2) := by decide +kernel
theorem dX7_init_233 : decode cX7_init 233 = .ok (.bipush 116, 2) := by decide +kernel
theorem dX7_init_235 : decode cX7_init 235 = .ok (.iastore, 1) := by decide +kernel
theorem dX7_init_236 : decode cX7_init 236 = .ok (.dup, 1) := by decide +kernel
theorem dX7_init_237 : decode cX7_init 237 = .ok (.bipush 18, 2) := by decide +kernel
theorem dX7_init_239 : decode cX7_init 239 = .ok (.bipush 32, 2) := by decide +kernel
theorem dX7_init_241 : decode cX7_init 241 = .ok (.iastore, 1) := by decide +kernel
theorem dX7_init_242 : decode cX7_init 242 = .ok (.dup, 1) := by decide +kernel
theorem dX7_init_243 : decode cX7_init 243 = .ok (.bipush 19, 2) := by decide +kernel
theorem dX7_init_245 : decode cX7_init 245 = .ok (.iconst 0, 1) := by decide +kernel
theorem dX7_init_246 : decode cX7_init 246 = .ok (.iastore, 1) := by decide +kernel
theorem dX7_init_247 : decode cX7_init 247 = .ok (.dup, 1) := by decide +kernel
theorem dX7_init_248 : decode cX7_init 248 = .ok (.bipush 20, 2) := by decide +kernel
theorem dX7_init_250 : decode cX7_init 250 = .ok (.bipush 108, 2) := by decide +kernel
theorem dX7_init_252 : decode cX7_init 252 = .ok (.iastore, 1) := by decide +kernel
theorem dX7_init_253 : decode cX7_init 253 = .ok (.dup, 1) := by decide +kernel
theorem dX7_init_254 : decode cX7_init 254 = .ok (.bipush 21, 2) := by decide +kernel
theorem dX7_init_256 : decode cX7_init 256 = .ok (.bipush 111, 2) := by decide +kernel
theorem dX7_init_258 : decode cX7_init 258 = .ok (.iastore, 1) := by decide +kernel
theorem dX7_init_259 : decode cX7_init 259 = .ok (.dup, 1) := by decide +kernel
theorem dX7_init_260 : decode cX7_init 260 = .ok (.bipush 22, 2) := by decide +kernel
theorem dX7_init_262 : decode cX7_init 262 = .ok (.bipush 115, 2) := by decide +kernel
theorem dX7_init_264 : decode cX7_init 264 = .ok (.iastore, 1) := by decide +kernel
theorem dX7_init_265 : decode cX7_init 265 = .ok (.dup, 1) := by decide +kernel
theorem dX7_init_266 : decode cX7_init 266 = .ok (.bipush 23, 2) := by decide +kernel
theorem dX7_init_268 : decode cX7_init 268 = .ok (.bipush 115, 2) := by decide +kernel
theorem dX7_init_270 : decode cX7_init 270 = .ok (.iastore, 1) := by decide +kernel
theorem dX7_init_271 : decode cX7_init 271 = .ok (.dup, 1) := by decide +kernel
theorem dX7_init_272 : decode cX7_init 272 = .ok (.bipush 24, 2) := by decide +kernel
theorem dX7_init_274 : decode cX7_init 274 = .ok (.bipush 32, 2) := by decide +kernel
theorem dX7_init_276 : decode cX7_init 276 = .ok (.iastore, 1) := by decide +kernel
theorem dX7_init_277 : decode cX7_init 277 = .ok (.dup, 1) := by decide +kernel
theorem dX7_init_278 : decode cX7_init 278 = .ok (.bipush 25, 2) := by decide +kernel
theorem dX7_init_280 : decode cX7_init 280 = .ok (.iconst 0, 1) := by decide +kernel
theorem dX7_init_281 : decode cX7_init 281 = .ok (.iastore, 1) := by decide +kernel
theorem dX7_init_282 : decode cX7_init 282 = .ok (.dup, 1) := by decide +kernel
theorem dX7_init_283 : decode cX7_init 283 = .ok (.bipush 26, 2) := by decide +kernel
theorem dX7_init_285 : decode cX7_init 285 = .ok (.bipush 116, 2) := by decide +kernel
theorem dX7_init_287 : decode cX7_init 287 = .ok (.iastore, 1) := by decide +kernel
theorem dX7_init_288 : decode cX7_init 288 = .ok (.dup, 1) := by decide +kernel
theorem dX7_init_289 : decode cX7_init 289 = .ok (.bipush 27, 2) := by decide +kernel
theorem dX7_init_291 : decode cX7_init 291 = .ok (.bipush 101, 2) := by decide +kernel
theorem dX7_init_293 : decode cX7_init 293 = .ok (.iastore, 1) := by decide +kernel
theorem dX7_init_294 : decode cX7_init 294 = .ok (.dup, 1) := by decide +kernel
theorem dX7_init_295 : decode cX7_init 295 = .ok (.bipush 28, 2) := by decide +kernel
theorem dX7_init_297 : decode cX7_init 297 = .ok (.bipush 97, 2) := by decide +kernel
theorem dX7_init_299 : decode cX7_init 299 = .ok (.iastore, 1) := by decide +kernel
theorem dX7_init_300 : decode cX7_init 300 = .ok (.dup, 1) := by decide +kernel
theorem dX7_init_301 : decode cX7_init 301 = .ok (.bipush 29, 2) := by decide +kernel
theorem dX7_init_303 : decode cX7_init 303 = .ok (.bipush 32, 2) := by decide +kernel
theorem dX7_init_305 : decode cX7_init 305 = .ok (.iastore, 1) := by decide +kernel
theorem dX7_init_306 : decode cX7_init 306 = .ok (.dup, 1) := by decide +kernel
theorem dX7_init_307 : decode cX7_init 307 = .ok (.bipush 30, 2) := by decide +kernel
theorem dX7_init_309 : decode cX7_init 309 = .ok (.iconst 0, 1) := by decide +kernel
theorem dX7_init_310 : decode cX7_init 310 = .ok (.iastore, 1) := by decide +kernel
theorem dX7_init_311 : decode cX7_init 311 = .ok (.dup, 1) := by decide +kernel
theorem dX7_init_312 : decode cX7_init 312 = .ok (.bipush 31, 2) := by decide +kernel
theorem dX7_init_314 : decode cX7_init 314 = .ok (.bipush 119, 2) := by decide +kernel
theorem dX7_init_316 : decode cX7_init 316 = .ok (.iastore, 1) := by decide +kernel
theorem dX7_init_317 : decode cX7_init 317 = .ok (.dup, 1) := by decide +kernel
theorem dX7_init_318 : decode cX7_init 318 = .ok (.bipush 32, 2) := by decide +kernel
theorem dX7_init_320 : decode cX7_init 320 = .ok (.bipush 111, 2) := by decide +kernel
theorem dX7_init_322 : decode cX7_init 322 = .ok (.iastore, 1) := by decide +kernel
theorem dX7_init_323 : decode cX7_init 323 = .ok (.dup, 1) := by decide +kernel
theorem dX7_init_324 : decode cX7_init 324 = .ok (.bipush 33, 2) := by decide +kernel
theorem dX7_init_326 : decode cX7_init 326 = .ok (.bipush 114, 2) := by decide +kernel
theorem dX7_init_328 : decode cX7_init 328 = .ok (.iastore, 1) := by decide +kernel
theorem dX7_init_329 : decode cX7_init 329 = .ok (.dup, 1) := by decide +kernel
theorem dX7_init_330 : decode cX7_init 330 = .ok (.bipush 34, 2) := by decide +kernel
theorem dX7_init_332 : decode cX7_init 332 = .ok (.bipush 116, 2) := by decide +kernel
theorem dX7_init_334 : decode cX7_init 334 = .ok (.iastore, 1) := by decide +kernel
theorem dX7_init_335 : decode cX7_init 335 = .ok (.dup, 1) := by decide +kernel
theorem dX7_init_336 : decode cX7_init 336 = .ok (.bipush 35, 2) := by decide +kernel
theorem dX7_init_338 : decode cX7_init 338 = .ok (.bipush 104, 2) := by decide +kernel
theorem dX7_init_340 : decode cX7_init 340 = .ok (.iastore, 1) := by decide +kernel
theorem dX7_init_341 : decode cX7_init 341 = .ok (.dup, 1) := by decide +kernel
theorem dX7_init_342 : decode cX7_init 342 = .ok (.bipush 36, 2) := by decide +kernel
theorem dX7_init_344 : decode cX7_init 344 = .ok (.bipush 32, 2) := by decide +kernel
theorem dX7_init_346 : decode cX7_init 346 = .ok (.iastore, 1) := by decide +kernel
theorem dX7_init_347 : decode cX7_init 347 = .ok (.dup, 1) := by decide +kernel
theorem dX7_init_348 : decode cX7_init 348 = .ok (.bipush 37, 2) := by decide +kernel
theorem dX7_init_350 : decode cX7_init 350 = .ok (.iconst 0, 1) := by decide +kernel
theorem dX7_init_351 : decode cX7_init 351 = .ok (.iastore, 1) := by decide +kernel
theorem dX7_init_352 : decode cX7_init 352 = .ok (.dup, 1) := by decide +kernel
theorem dX7_init_353 : decode cX7_init 353 = .ok (.bipush 38, 2) := by decide +kernel
theorem dX7_init_355 : decode cX7_init 355 = .ok (.bipush 100, 2) := by decide +kernel
theorem dX7_init_357 : decode cX7_init 357 = .ok (.iastore, 1) := by decide +kernel
theorem dX7_init_358 : decode cX7_init 358 = .ok (.dup, 1) := by decide +kernel
theorem dX7_init_359 : decode cX7_init 359 = .ok (.bipush 39, 2) := by decide +kernel
theorem dX7_init_361 : decode cX7_init 361 = .ok (.bipush 105, 2) := by decide +kernel
theorem dX7_init_363 : decode cX7_init 363 = .ok (.iastore, 1) := by decide +kernel
theorem dX7_init_364 : decode cX7_init 364 = .ok (.dup, 1) := by decide +kernel
theorem dX7_init_365 : decode cX7_init 365 = .ok (.bipush 40, 2) := by decide +kernel
theorem dX7_init_367 : decode cX7_init 367 = .ok (.bipush 112, 2) := by decide +kernel
theorem dX7_init_369 : decode cX7_init 369 = .ok (.iastore, 1) := by decide +kernel
theorem dX7_init_370 : decode cX7_init 370 = .ok (.dup, 1) := by decide +kernel
theorem dX7_init_371 : decode cX7_init 371 = .ok (.bipush 41, 2) := by decide +kernel
theorem dX7_init_373 : decode cX7_init 373 = .ok (.bipush 32, 2) := by decide +kernel
theorem dX7_init_375 : decode cX7_init 375 = .ok (.iastore, 1) := by decide +kernel
theorem dX7_init_376 : decode cX7_init 376 = .ok (.dup, 1) := by decide +kernel
theorem dX7_init_377 : decode cX7_init 377 = .ok (.bipush 42, 2) := by decide +kernel
theorem dX7_init_379 : decode cX7_init 379 = .ok (.iconst 0, 1) := by decide +kernel
theorem dX7_init_380 : decode cX7_init 380 = .ok (.iastore, 1) := by decide +kernel
theorem dX7_init_381 : decode cX7_init 381 = .ok (.putfield 63, 3) := by decide +kernel
theorem dX7_init_384 : decode cX7_init 384 = .ok (.aload_n 0, 1) := by decide +kernel
theorem dX7_init_385 : decode cX7_init 385 = .ok (.iconst 3, 1) := by decide +kernel
theorem dX7_init_386 : decode cX7_init 386 = .ok (.newarray .int, 2) := by decide +kernel
theorem dX7_init_388 : decode cX7_init 388 = .ok (.putfield 66, 3) := by decide +kernel
theorem dX7_init_391 : decode cX7_init 391 = .ok (.aload_n 0, 1) := by decide +kernel
theorem dX7_init_392 : decode cX7_init 392 = .ok (.bipush 120, 2) := by decide +kernel
theorem dX7_init_394 : decode cX7_init 394 = .ok (.newarray .int, 2) := by decide +kernel
theorem dX7_init_396 : decode cX7_init 396 = .ok (.putfield 69, 3) := by decide +kernel
theorem dX7_init_399 : decode cX7_init 399 = .ok (.aload_n 0, 1) := by decide +kernel
theorem dX7_init_400 : decode cX7_init 400 = .ok (.bipush 120, 2) := by decide +kernel
theorem dX7_init_402 : decode cX7_init 402 = .ok (.newarray .int, 2) := by decide +kernel
theorem dX7_init_404 : decode cX7_init 404 = .ok (.putfield 72, 3) := by decide +kernel
theorem dX7_init_407 : decode cX7_init 407 = .ok (.aload_n 0, 1) := by decide +kernel
theorem dX7_init_408 : decode cX7_init 408 = .ok (.bipush 12, 2) := by decide +kernel
theorem dX7_init_410 : decode cX7_init 410 = .ok (.newarray .int, 2) := by decide +kernel
theorem dX7_init_412 : decode cX7_init 412 = .ok (.putfield 75, 3) := by decide +kernel
theorem dX7_init_415 : decode cX7_init 415 = .ok (.aload_n 0, 1) := by decide +kernel
theorem dX7_init_416 : decode cX7_init 416 = .ok (.bipush 12, 2) := by decide +kernel
theorem dX7_init_418 : decode cX7_init 418 = .ok (.newarray .int, 2) := by decide +kernel
theorem dX7_init_420 : decode cX7_init 420 = .ok (.putfield 78, 3) := by decide +kernel
theorem dX7_init_423 : decode cX7_init 423 = .ok (.aload_n 0, 1) := by decide +kernel
theorem dX7_init_424 : decode cX7_init 424 = .ok (.iconst 5, 1) := by decide +kernel
theorem dX7_init_425 : decode cX7_init 425 = .ok (.newarray .int, 2) := by decide +kernel
theorem dX7_init_427 : decode cX7_init 427 = .ok (.putfield 81, 3) := by decide +kernel
theorem dX7_init_430 : decode cX7_init 430 = .ok (.aload_n 0, 1) := by decide +kernel
theorem dX7_init_431 : decode cX7_init 431 = .ok (.iconst 5, 1) := by decide +kernel
theorem dX7_init_432 : decode cX7_init 432 = .ok (.newarray .int, 2) := by decide +kernel
theorem dX7_init_434 : decode cX7_init 434 = .ok (.putfield 84, 3) := by decide +kernel
theorem dX7_init_437 : decode cX7_init 437 = .ok (.aload_n 0, 1) := by decide +kernel
theorem dX7_init_438 : decode cX7_init 438 = .ok (.bipush 20, 2) := by decide +kernel
theorem dX7_init_440 : decode cX7_init 440 = .ok (.newarray .int, 2) := by decide +kernel
theorem dX7_init_442 : decode cX7_init 442 = .ok (.putfield 87, 3) := by decide +kernel
theorem dX7_init_445 : decode cX7_init 445 = .ok (.return_, 1) := by decide +kernel
theorem dX7_no_0 : decode cX7_no 0 = .ok (.aload_n 0, 1) := by decide +kernel
theorem dX7_no_1 : decode cX7_no 1 = .ok (.getfield 25, 3) := by decide +kernel
theorem dX7_no_4 : decode cX7_no 4 = .ok (.iload_n 1, 1) := by decide +kernel
theorem dX7_no_5 : decode cX7_no 5 = .ok (.ineg, 1) := by decide +kernel
theorem dX7_no_6 : decode cX7_no 6 = .ok (.dup2, 1) := by decide +kernel
theorem dX7_no_7 : decode cX7_no 7 = .ok (.iaload, 1) := by decide +kernel
theorem dX7_no_8 : decode cX7_no 8 = .ok (.iconst 1, 1) := by decide +kernel
theorem dX7_no_9 : decode cX7_no 9 = .ok (.iadd, 1) := by decide +kernel
theorem dX7_no_10 : decode cX7_no 10 = .ok (.iastore, 1) := by decide +kernel
theorem dX7_no_11 : decode cX7_no 11 = .ok (.iload_n 1, 1) := by decide +kernel
theorem dX7_no_12 : decode cX7_no 12 = .ok (.ireturn, 1) := by decide +kernel
theorem dX7_noTen_0 : decode cX7_noTen 0 = .ok (.aload_n 0, 1) := by decide +kernel
theorem dX7_noTen_1 : decode cX7_noTen 1 = .ok (.getfield 25, 3) := by decide +kernel
theorem dX7_noTen_4 : decode cX7_noTen 4 = .ok (.iload_n 1, 1) := by decide +kernel
theorem dX7_noTen_5 : decode cX7_noTen 5 = .ok (.ineg, 1) := by decide +kernel
theorem dX7_noTen_6 : decode cX7_noTen 6 = .ok (.dup2, 1) := by decide +kernel
theorem dX7_noTen_7 : decode cX7_noTen 7 = .ok (.iaload, 1) := by decide +kernel
theorem dX7_noTen_8 : decode cX7_noTen 8 = .ok (.iconst 1, 1) := by decide +kernel
theorem dX7_noTen_9 : decode cX7_noTen 9 = .ok (.iadd, 1) := by decide +kernel
theorem dX7_noTen_10 : decode cX7_noTen 10 = .ok (.iastore, 1) := by decide +kernel
theorem dX7_noTen_11 : decode cX7_noTen 11 = .ok (.iload_n 1, 1) := by decide +kernel
theorem dX7_noTen_12 : decode cX7_noTen 12 = .ok (.bipush 10, 2) := by decide +kernel
theorem dX7_noTen_14 : decode cX7_noTen 14 = .ok (.isub, 1) := by decide +kernel
theorem dX7_noTen_15 : decode cX7_noTen 15 = .ok (.ireturn, 1) := by decide +kernel
theorem dX7_noFar_0 : decode cX7_noFar 0 = .ok (.aload_n 0, 1) := by decide +kernel
theorem dX7_noFar_1 : decode cX7_noFar 1 = .ok (.getfield 25, 3) := by decide +kernel
theorem dX7_noFar_4 : decode cX7_noFar 4 = .ok (.iload_n 1, 1) := by decide +kernel
theorem dX7_noFar_5 : decode cX7_noFar 5 = .ok (.ineg, 1) := by decide +kernel
theorem dX7_noFar_6 : decode cX7_noFar 6 = .ok (.dup2, 1) := by decide +kernel
theorem dX7_noFar_7 : decode cX7_noFar 7 = .ok (.iaload, 1) := by decide +kernel
theorem dX7_noFar_8 : decode cX7_noFar 8 = .ok (.iconst 1, 1) := by decide +kernel
theorem dX7_noFar_9 : decode cX7_noFar 9 = .ok (.iadd, 1) := by decide +kernel
theorem dX7_noFar_10 : decode cX7_noFar 10 = .ok (.iastore, 1) := by decide +kernel
theorem dX7_noFar_11 : decode cX7_noFar 11 = .ok (.iload_n 1, 1) := by decide +kernel
theorem dX7_noFar_12 : decode cX7_noFar 12 = .ok (.sipush 1000, 3) := by decide +kernel
theorem dX7_noFar_15 : decode cX7_noFar 15 = .ok (.isub, 1) := by decide +kernel
theorem dX7_noFar_16 : decode cX7_noFar 16 = .ok (.ireturn, 1) := by decide +kernel
theorem dX7_isShelf_0 : decode cX7_isShelf 0 = .ok (.iload_n 1, 1) := by decide +kernel
theorem dX7_isShelf_1 : decode cX7_isShelf 1 = .ok (.ifCond .lt 13, 3) := by decide +kernel
theorem dX7_isShelf_4 : decode cX7_isShelf 4 = .ok (.iload_n 1, 1) := by decide +kernel
theorem dX7_isShelf_5 : decode cX7_isShelf 5 = .ok (.bipush 8, 2) := by decide +kernel
theorem dX7_isShelf_7 : decode cX7_isShelf 7 = .ok (.if_icmp .ge 7, 3) := by decide +kernel
theorem dX7_isShelf_10 : decode cX7_isShelf 10 = .ok (.iconst 1, 1) := by decide +kernel
theorem dX7_isShelf_11 : decode cX7_isShelf 11 = .ok (.goto 4, 3) := by decide +kernel
theorem dX7_isShelf_14 : decode cX7_isShelf 14 = .ok (.iconst 0, 1) := by decide +kernel
theorem dX7_isShelf_15 : decode cX7_isShelf 15 = .ok (.ireturn, 1) := by decide +kernel
theorem dX7_isBiscuit_0 : decode cX7_isBiscuit 0 = .ok (.iload_n 1, 1) := by decide +kernel
theorem dX7_isBiscuit_1 : decode cX7_isBiscuit 1 = .ok (.ifCond .lt 15, 3) := by decide +kernel
theorem dX7_isBiscuit_4 : decode cX7_isBiscuit 4 = .ok (.iload_n 1, 1) := by decide +kernel
theorem dX7_isBiscuit_5 : decode cX7_isBiscuit 5 = .ok (.aload_n 0, 1) := by decide +kernel
theorem dX7_isBiscuit_6 : decode cX7_isBiscuit 6 = .ok (.getfield 90, 3) := by decide +kernel
theorem dX7_isBiscuit_9 : decode cX7_isBiscuit 9 = .ok (.if_icmp .ge 7, 3) := by decide +kernel
theorem dX7_isBiscuit_12 : decode cX7_isBiscuit 12 = .ok (.iconst 1, 1) := by decide +kernel
theorem dX7_isBiscuit_13 : decode cX7_isBiscuit 13 = .ok (.goto 4, 3) := by decide +kernel
theorem dX7_isBiscuit_16 : decode cX7_isBiscuit 16 = .ok (.iconst 0, 1) := by decide +kernel
theorem dX7_isBiscuit_17 : decode cX7_isBiscuit 17 = .ok (.ireturn, 1) := by decide +kernel
theorem dX7_isCell_0 : decode cX7_isCell 0 = .ok (.aload_n 0, 1) := by decide +kernel
theorem dX7_isCell_1 : decode cX7_isCell 1 = .ok (.iload_n 1, 1) := by decide +kernel
theorem dX7_isCell_2 : decode cX7_isCell 2 = .ok (.invokevirtual 93, 3) := by decide +kernel
theorem dX7_isCell_5 : decode cX7_isCell 5 = .ok (.ifCond .eq 21, 3) := by decide +kernel
theorem dX7_isCell_8 : decode cX7_isCell 8 = .ok (.iload_n 2, 1) := by decide +kernel
theorem dX7_isCell_9 : decode cX7_isCell 9 = .ok (.ifCond .lt 17, 3) := by decide +kernel
theorem dX7_isCell_12 : decode cX7_isCell 12 = .ok (.iload_n 2, 1) := by decide +kernel
theorem dX7_isCell_13 : decode cX7_isCell 13 = .ok (.aload_n 0, 1) := by decide +kernel
theorem dX7_isCell_14 : decode cX7_isCell 14 = .ok (.getfield 35, 3) := by decide +kernel
theorem dX7_isCell_17 : decode cX7_isCell 17 = .ok (.iload_n 1, 1) := by decide +kernel
theorem dX7_isCell_18 : decode cX7_isCell 18 = .ok (.iaload, 1) := by decide +kernel
theorem dX7_isCell_19 : decode cX7_isCell 19 = .ok (.if_icmp .ge 7, 3) := by decide +kernel
theorem dX7_isCell_22 : decode cX7_isCell 22 = .ok (.iconst 1, 1) := by decide +kernel
theorem dX7_isCell_23 : decode cX7_isCell 23 = .ok (.goto 4, 3) := by decide +kernel
theorem dX7_isCell_26 : decode cX7_isCell 26 = .ok (.iconst 0, 1) := by decide +kernel
theorem dX7_isCell_27 : decode cX7_isCell 27 = .ok (.ireturn, 1) := by decide +kernel
theorem dX7_isDeep_0 : decode cX7_isDeep 0 = .ok (.iload_n 1, 1) := by decide +kernel
theorem dX7_isDeep_1 : decode cX7_isDeep 1 = .ok (.ifCond .lt 13, 3) := by decide +kernel
theorem dX7_isDeep_4 : decode cX7_isDeep 4 = .ok (.iload_n 1, 1) := by decide +kernel
theorem dX7_isDeep_5 : decode cX7_isDeep 5 = .ok (.bipush 12, 2) := by decide +kernel
theorem dX7_isDeep_7 : decode cX7_isDeep 7 = .ok (.if_icmp .gt 7, 3) := by decide +kernel
theorem dX7_isDeep_10 : decode cX7_isDeep 10 = .ok (.iconst 1, 1) := by decide +kernel
theorem dX7_isDeep_11 : decode cX7_isDeep 11 = .ok (.goto 4, 3) := by decide +kernel
theorem dX7_isDeep_14 : decode cX7_isDeep 14 = .ok (.iconst 0, 1) := by decide +kernel
theorem dX7_isDeep_15 : decode cX7_isDeep 15 = .ok (.ireturn, 1) := by decide +kernel
theorem dX7_isLong_0 : decode cX7_isLong 0 = .ok (.iload_n 1, 1) := by decide +kernel
theorem dX7_isLong_1 : decode cX7_isLong 1 = .ok (.ifCond .lt 13, 3) := by decide +kernel
theorem dX7_isLong_4 : decode cX7_isLong 4 = .ok (.iload_n 1, 1) := by decide +kernel
theorem dX7_isLong_5 : decode cX7_isLong 5 = .ok (.bipush 60, 2) := by decide +kernel
theorem dX7_isLong_7 : decode cX7_isLong 7 = .ok (.if_icmp .gt 7, 3) := by decide +kernel
theorem dX7_isLong_10 : decode cX7_isLong 10 = .ok (.iconst 1, 1) := by decide +kernel
theorem dX7_isLong_11 : decode cX7_isLong 11 = .ok (.goto 4, 3) := by decide +kernel
theorem dX7_isLong_14 : decode cX7_isLong 14 = .ok (.iconst 0, 1) := by decide +kernel
theorem dX7_isLong_15 : decode cX7_isLong 15 = .ok (.ireturn, 1) := by decide +kernel
theorem dX7_row_0 : decode cX7_row 0 = .ok (.aload_n 0, 1) := by decide +kernel
theorem dX7_row_1 : decode cX7_row 1 = .ok (.iload_n 1, 1) := by decide +kernel
theorem dX7_row_2 : decode cX7_row 2 = .ok (.invokevirtual 97, 3) := by decide +kernel
theorem dX7_row_5 : decode cX7_row 5 = .ok (.ifCond .ne 9, 3) := by decide +kernel
theorem dX7_row_8 : decode cX7_row 8 = .ok (.aload_n 0, 1) := by decide +kernel
theorem dX7_row_9 : decode cX7_row 9 = .ok (.iconst (-1), 1) := by decide +kernel
theorem dX7_row_10 : decode cX7_row 10 = .ok (.invokevirtual 100, 3) := by decide +kernel
theorem dX7_row_13 : decode cX7_row 13 = .ok (.ireturn, 1) := by decide +kernel
theorem dX7_row_14 : decode cX7_row 14 = .ok (.iload_n 3, 1) := by decide +kernel
theorem dX7_row_15 : decode cX7_row 15 = .ok (.ifCond .ge 10, 3) := by decide +kernel
theorem dX7_row_18 : decode cX7_row 18 = .ok (.aload_n 0, 1) := by decide +kernel
theorem dX7_row_19 : decode cX7_row 19 = .ok (.bipush (-4), 2) := by decide +kernel
theorem dX7_row_21 : decode cX7_row 21 = .ok (.invokevirtual 100, 3) := by decide +kernel
theorem dX7_row_24 : decode cX7_row 24 = .ok (.ireturn, 1) := by decide +kernel
theorem dX7_row_25 : decode cX7_row 25 = .ok (.iload_n 2, 1) := by decide +kernel
theorem dX7_row_26 : decode cX7_row 26 = .ok (.ifCond .lt 8, 3) := by decide +kernel
theorem dX7_row_29 : decode cX7_row 29 = .ok (.iload_n 2, 1) := by decide +kernel
theorem dX7_row_30 : decode cX7_row 30 = .ok (.iconst 3, 1) := by decide +kernel
theorem dX7_row_31 : decode cX7_row 31 = .ok (.if_icmp .le 10, 3) := by decide +kernel
theorem dX7_row_34 : decode cX7_row 34 = .ok (.aload_n 0, 1) := by decide +kernel
theorem dX7_row_35 : decode cX7_row 35 = .ok (.bipush (-6), 2) := by decide +kernel
theorem dX7_row_37 : decode cX7_row 37 = .ok (.invokevirtual 100, 3) := by decide +kernel
theorem dX7_row_40 : decode cX7_row 40 = .ok (.ireturn, 1) := by decide +kernel
theorem dX7_row_41 : decode cX7_row 41 = .ok (.iload_n 3, 1) := by decide +kernel
theorem dX7_row_42 : decode cX7_row 42 = .ok (.sipush 160, 3) := by decide +kernel
theorem dX7_row_45 : decode cX7_row 45 = .ok (.if_icmp .le 10, 3) := by decide +kernel
theorem dX7_row_48 : decode cX7_row 48 = .ok (.aload_n 0, 1) := by decide +kernel
theorem dX7_row_49 : decode cX7_row 49 = .ok (.bipush (-7), 2) := by decide +kernel
theorem dX7_row_51 : decode cX7_row 51 = .ok (.invokevirtual 100, 3) := by decide +kernel
theorem dX7_row_54 : decode cX7_row 54 = .ok (.ireturn, 1) := by decide +kernel
theorem dX7_row_55 : decode cX7_row 55 = .ok (.aload_n 0, 1) := by decide +kernel
theorem dX7_row_56 : decode cX7_row 56 = .ok (.getfield 44, 3) := by decide +kernel
theorem dX7_row_59 : decode cX7_row 59 = .ok (.iload_n 1, 1) := by decide +kernel
theorem dX7_row_60 : decode cX7_row 60 = .ok (.iconst 1, 1) := by decide +kernel
theorem dX7_row_61 : decode cX7_row 61 = .ok (.iastore, 1) := by decide +kernel
theorem dX7_row_62 : decode cX7_row 62 = .ok (.aload_n 0, 1) := by decide +kernel
theorem dX7_row_63 : decode cX7_row 63 = .ok (.getfield 47, 3) := by decide +kernel
theorem dX7_row_66 : decode cX7_row 66 = .ok (.iload_n 1, 1) := by decide +kernel
theorem dX7_row_67 : decode cX7_row 67 = .ok (.iload_n 2, 1) := by decide +kernel
theorem dX7_row_68 : decode cX7_row 68 = .ok (.iastore, 1) := by decide +kernel
theorem dX7_row_69 : decode cX7_row 69 = .ok (.aload_n 0, 1) := by decide +kernel
theorem dX7_row_70 : decode cX7_row 70 = .ok (.getfield 50, 3) := by decide +kernel
theorem dX7_row_73 : decode cX7_row 73 = .ok (.iload_n 1, 1) := by decide +kernel
theorem dX7_row_74 : decode cX7_row 74 = .ok (.iload_n 3, 1) := by decide +kernel
theorem dX7_row_75 : decode cX7_row 75 = .ok (.iastore, 1) := by decide +kernel
theorem dX7_row_76 : decode cX7_row 76 = .ok (.iconst 0, 1) := by decide +kernel
theorem dX7_row_77 : decode cX7_row 77 = .ok (.istore 4, 2) := by decide +kernel
theorem dX7_row_79 : decode cX7_row 79 = .ok (.iload 4, 2) := by decide +kernel
theorem dX7_row_81 : decode cX7_row 81 = .ok (.sipush 160, 3) := by decide +kernel
theorem dX7_row_84 : decode cX7_row 84 = .ok (.if_icmp .ge 23, 3) := by decide +kernel
theorem dX7_row_87 : decode cX7_row 87 = .ok (.aload_n 0, 1) := by decide +kernel
theorem dX7_row_88 : decode cX7_row 88 = .ok (.getfield 56, 3) := by decide +kernel
theorem dX7_row_91 : decode cX7_row 91 = .ok (.sipush 160, 3) := by decide +kernel
theorem dX7_row_94 : decode cX7_row 94 = .ok (.iload_n 1, 1) := by decide +kernel
theorem dX7_row_95 : decode cX7_row 95 = .ok (.imul, 1) := by decide +kernel
theorem dX7_row_96 : decode cX7_row 96 = .ok (.iload 4, 2) := by decide +kernel
theorem dX7_row_98 : decode cX7_row 98 = .ok (.iadd, 1) := by decide +kernel
theorem dX7_row_99 : decode cX7_row 99 = .ok (.lconst 0, 1) := by decide +kernel
theorem dX7_row_100 : decode cX7_row 100 = .ok (.lastore, 1) := by decide +kernel
theorem dX7_row_101 : decode cX7_row 101 = .ok (.iinc 4 1, 3) := by decide +kernel
theorem dX7_row_104 : decode cX7_row 104 = .ok (.goto (-25), 3) := by decide +kernel
theorem dX7_row_107 : decode cX7_row 107 = .ok (.iconst 1, 1) := by decide +kernel
theorem dX7_row_108 : decode cX7_row 108 = .ok (.ireturn, 1) := by decide +kernel
theorem dX7_set_0 : decode cX7_set 0 = .ok (.aload_n 0, 1) := by decide +kernel
theorem dX7_set_1 : decode cX7_set 1 = .ok (.iload_n 1, 1) := by decide +kernel
theorem dX7_set_2 : decode cX7_set 2 = .ok (.invokevirtual 97, 3) := by decide +kernel
theorem dX7_set_5 : decode cX7_set 5 = .ok (.ifCond .ne 9, 3) := by decide +kernel
theorem dX7_set_8 : decode cX7_set 8 = .ok (.aload_n 0, 1) := by decide +kernel
theorem dX7_set_9 : decode cX7_set 9 = .ok (.iconst (-1), 1) := by decide +kernel
theorem dX7_set_10 : decode cX7_set 10 = .ok (.invokevirtual 100, 3) := by decide +kernel
theorem dX7_set_13 : decode cX7_set 13 = .ok (.ireturn, 1) := by decide +kernel
theorem dX7_set_14 : decode cX7_set 14 = .ok (.aload_n 0, 1) := by decide +kernel
theorem dX7_set_15 : decode cX7_set 15 = .ok (.getfield 44, 3) := by decide +kernel
theorem dX7_set_18 : decode cX7_set 18 = .ok (.iload_n 1, 1) := by decide +kernel
theorem dX7_set_19 : decode cX7_set 19 = .ok (.iaload, 1) := by decide +kernel
theorem dX7_set_20 : decode cX7_set 20 = .ok (.iconst 2, 1) := by decide +kernel
theorem dX7_set_21 : decode cX7_set 21 = .ok (.if_icmp .ne 10, 3) := by decide +kernel
theorem dX7_set_24 : decode cX7_set 24 = .ok (.aload_n 0, 1) := by decide +kernel
theorem dX7_set_25 : decode cX7_set 25 = .ok (.bipush (-2), 2) := by decide +kernel
theorem dX7_set_27 : decode cX7_set 27 = .ok (.invokevirtual 100, 3) := by decide +kernel
theorem dX7_set_30 : decode cX7_set 30 = .ok (.ireturn, 1) := by decide +kernel
theorem dX7_set_31 : decode cX7_set 31 = .ok (.aload_n 0, 1) := by decide +kernel
theorem dX7_set_32 : decode cX7_set 32 = .ok (.getfield 44, 3) := by decide +kernel
theorem dX7_set_35 : decode cX7_set 35 = .ok (.iload_n 1, 1) := by decide +kernel
theorem dX7_set_36 : decode cX7_set 36 = .ok (.iaload, 1) := by decide +kernel
theorem dX7_set_37 : decode cX7_set 37 = .ok (.ifCond .ne 10, 3) := by decide +kernel
theorem dX7_set_40 : decode cX7_set 40 = .ok (.aload_n 0, 1) := by decide +kernel
theorem dX7_set_41 : decode cX7_set 41 = .ok (.bipush (-3), 2) := by decide +kernel
theorem dX7_set_43 : decode cX7_set 43 = .ok (.invokevirtual 100, 3) := by decide +kernel
theorem dX7_set_46 : decode cX7_set 46 = .ok (.ireturn, 1) := by decide +kernel
theorem dX7_set_47 : decode cX7_set 47 = .ok (.iload_n 2, 1) := by decide +kernel
theorem dX7_set_48 : decode cX7_set 48 = .ok (.ifCond .lt 13, 3) := by decide +kernel
theorem dX7_set_51 : decode cX7_set 51 = .ok (.iload_n 2, 1) := by decide +kernel
theorem dX7_set_52 : decode cX7_set 52 = .ok (.aload_n 0, 1) := by decide +kernel
theorem dX7_set_53 : decode cX7_set 53 = .ok (.getfield 50, 3) := by decide +kernel
theorem dX7_set_56 : decode cX7_set 56 = .ok (.iload_n 1, 1) := by decide +kernel
theorem dX7_set_57 : decode cX7_set 57 = .ok (.iaload, 1) := by decide +kernel
theorem dX7_set_58 : decode cX7_set 58 = .ok (.if_icmp .lt 10, 3) := by decide +kernel
theorem dX7_set_61 : decode cX7_set 61 = .ok (.aload_n 0, 1) := by decide +kernel
theorem dX7_set_62 : decode cX7_set 62 = .ok (.bipush (-5), 2) := by decide +kernel
theorem dX7_set_64 : decode cX7_set 64 = .ok (.invokevirtual 100, 3) := by decide +kernel
theorem dX7_set_67 : decode cX7_set 67 = .ok (.ireturn, 1) := by decide +kernel
theorem dX7_set_68 : decode cX7_set 68 = .ok (.aload_n 0, 1) := by decide +kernel
theorem dX7_set_69 : decode cX7_set 69 = .ok (.getfield 56, 3) := by decide +kernel
theorem dX7_set_72 : decode cX7_set 72 = .ok (.sipush 160, 3) := by decide +kernel
theorem dX7_set_75 : decode cX7_set 75 = .ok (.iload_n 1, 1) := by decide +kernel
theorem dX7_set_76 : decode cX7_set 76 = .ok (.imul, 1) := by decide +kernel
theorem dX7_set_77 : decode cX7_set 77 = .ok (.iload_n 2, 1) := by decide +kernel
theorem dX7_set_78 : decode cX7_set 78 = .ok (.iadd, 1) := by decide +kernel
theorem dX7_set_79 : decode cX7_set 79 = .ok (.aload_n 0, 1) := by decide +kernel
theorem dX7_set_80 : decode cX7_set 80 = .ok (.getfield 47, 3) := by decide +kernel
theorem dX7_set_83 : decode cX7_set 83 = .ok (.iload_n 1, 1) := by decide +kernel
theorem dX7_set_84 : decode cX7_set 84 = .ok (.iaload, 1) := by decide +kernel
theorem dX7_set_85 : decode cX7_set 85 = .ok (.ifCond .ne 10, 3) := by decide +kernel
theorem dX7_set_88 : decode cX7_set 88 = .ok (.lload_n 3, 1) := by decide +kernel
theorem dX7_set_89 : decode cX7_set 89 = .ok (.l2i, 1) := by decide +kernel
theorem dX7_set_90 : decode cX7_set 90 = .ok (.i2b, 1) := by decide +kernel
theorem dX7_set_91 : decode cX7_set 91 = .ok (.i2l, 1) := by decide +kernel
theorem dX7_set_92 : decode cX7_set 92 = .ok (.goto 37, 3) := by decide +kernel
theorem dX7_set_95 : decode cX7_set 95 = .ok (.aload_n 0, 1) := by decide +kernel
theorem dX7_set_96 : decode cX7_set 96 = .ok (.getfield 47, 3) := by decide +kernel
theorem dX7_set_99 : decode cX7_set 99 = .ok (.iload_n 1, 1) := by decide +kernel
theorem dX7_set_100 : decode cX7_set 100 = .ok (.iaload, 1) := by decide +kernel
theorem dX7_set_101 : decode cX7_set 101 = .ok (.iconst 1, 1) := by decide +kernel
theorem dX7_set_102 : decode cX7_set 102 = .ok (.if_icmp .ne 10, 3) := by decide +kernel
theorem dX7_set_105 : decode cX7_set 105 = .ok (.lload_n 3, 1) := by decide +kernel
theorem dX7_set_106 : decode cX7_set 106 = .ok (.l2i, 1) := by decide +kernel
theorem dX7_set_107 : decode cX7_set 107 = .ok (.i2s, 1) := by decide +kernel
theorem dX7_set_108 : decode cX7_set 108 = .ok (.i2l, 1) := by decide +kernel
theorem dX7_set_109 : decode cX7_set 109 = .ok (.goto 20, 3) := by decide +kernel
theorem dX7_set_112 : decode cX7_set 112 = .ok (.aload_n 0, 1) := by decide +kernel
theorem dX7_set_113 : decode cX7_set 113 = .ok (.getfield 47, 3) := by decide +kernel
theorem dX7_set_116 : decode cX7_set 116 = .ok (.iload_n 1, 1) := by decide +kernel
theorem dX7_set_117 : decode cX7_set 117 = .ok (.iaload, 1) := by decide +kernel
theorem dX7_set_118 : decode cX7_set 118 = .ok (.iconst 2, 1) := by decide +kernel
theorem dX7_set_119 : decode cX7_set 119 = .ok (.if_icmp .ne 9, 3) := by decide +kernel
theorem dX7_set_122 : decode cX7_set 122 = .ok (.lload_n 3, 1) := by decide +kernel
theorem dX7_set_123 : decode cX7_set 123 = .ok (.l2i, 1) := by decide +kernel
theorem dX7_set_124 : decode cX7_set 124 = .ok (.i2l, 1) := by decide +kernel
theorem dX7_set_125 : decode cX7_set 125 = .ok (.goto 4, 3) := by decide +kernel
theorem dX7_set_128 : decode cX7_set 128 = .ok (.lload_n 3, 1) := by decide +kernel
theorem dX7_set_129 : decode cX7_set 129 = .ok (.lastore, 1) := by decide +kernel
theorem dX7_set_130 : decode cX7_set 130 = .ok (.iconst 1, 1) := by decide +kernel
theorem dX7_set_131 : decode cX7_set 131 = .ok (.ireturn, 1) := by decide +kernel
theorem dX7_copy_0 : decode cX7_copy 0 = .ok (.aload_n 0, 1) := by decide +kernel
theorem dX7_copy_1 : decode cX7_copy 1 = .ok (.iload_n 1, 1) := by decide +kernel
theorem dX7_copy_2 : decode cX7_copy 2 = .ok (.invokevirtual 97, 3) := by decide +kernel
theorem dX7_copy_5 : decode cX7_copy 5 = .ok (.ifCond .eq 11, 3) := by decide +kernel
theorem dX7_copy_8 : decode cX7_copy 8 = .ok (.aload_n 0, 1) := by decide +kernel
theorem dX7_copy_9 : decode cX7_copy 9 = .ok (.iload_n 2, 1) := by decide +kernel
theorem dX7_copy_10 : decode cX7_copy 10 = .ok (.invokevirtual 97, 3) := by decide +kernel
theorem dX7_copy_13 : decode cX7_copy 13 = .ok (.ifCond .ne 9, 3) := by decide +kernel
theorem dX7_copy_16 : decode cX7_copy 16 = .ok (.aload_n 0, 1) := by decide +kernel
theorem dX7_copy_17 : decode cX7_copy 17 = .ok (.iconst (-1), 1) := by decide +kernel
theorem dX7_copy_18 : decode cX7_copy 18 = .ok (.invokevirtual 100, 3) := by decide +kernel
theorem dX7_copy_21 : decode cX7_copy 21 = .ok (.ireturn, 1) := by decide +kernel
theorem dX7_copy_22 : decode cX7_copy 22 = .ok (.aload_n 0, 1) := by decide +kernel
theorem dX7_copy_23 : decode cX7_copy 23 = .ok (.getfield 44, 3) := by decide +kernel
theorem dX7_copy_26 : decode cX7_copy 26 = .ok (.iload_n 1, 1) := by decide +kernel
theorem dX7_copy_27 : decode cX7_copy 27 = .ok (.iaload, 1) := by decide +kernel
theorem dX7_copy_28 : decode cX7_copy 28 = .ok (.iconst 2, 1) := by decide +kernel
theorem dX7_copy_29 : decode cX7_copy 29 = .ok (.if_icmp .eq 48, 3) := by decide +kernel
theorem dX7_copy_32 : decode cX7_copy 32 = .ok (.aload_n 0, 1) := by decide +kernel
theorem dX7_copy_33 : decode cX7_copy 33 = .ok (.getfield 44, 3) := by decide +kernel
theorem dX7_copy_36 : decode cX7_copy 36 = .ok (.iload_n 2, 1) := by decide +kernel
theorem dX7_copy_37 : decode cX7_copy 37 = .ok (.iaload, 1) := by decide +kernel
theorem dX7_copy_38 : decode cX7_copy 38 = .ok (.iconst 2, 1) := by decide +kernel
theorem dX7_copy_39 : decode cX7_copy 39 = .ok (.if_icmp .eq 38, 3) := by decide +kernel
theorem dX7_copy_42 : decode cX7_copy 42 = .ok (.aload_n 0, 1) := by decide +kernel
theorem dX7_copy_43 : decode cX7_copy 43 = .ok (.getfield 44, 3) := by decide +kernel
theorem dX7_copy_46 : decode cX7_copy 46 = .ok (.iload_n 1, 1) := by decide +kernel
theorem dX7_copy_47 : decode cX7_copy 47 = .ok (.iaload, 1) := by decide +kernel
theorem dX7_copy_48 : decode cX7_copy 48 = .ok (.iconst 1, 1) := by decide +kernel
theorem dX7_copy_49 : decode cX7_copy 49 = .ok (.if_icmp .ne 35, 3) := by decide +kernel
theorem dX7_copy_52 : decode cX7_copy 52 = .ok (.aload_n 0, 1) := by decide +kernel
theorem dX7_copy_53 : decode cX7_copy 53 = .ok (.getfield 44, 3) := by decide +kernel
theorem dX7_copy_56 : decode cX7_copy 56 = .ok (.iload_n 2, 1) := by decide +kernel
theorem dX7_copy_57 : decode cX7_copy 57 = .ok (.iaload, 1) := by decide +kernel
theorem dX7_copy_58 : decode cX7_copy 58 = .ok (.iconst 1, 1) := by decide +kernel
theorem dX7_copy_59 : decode cX7_copy 59 = .ok (.if_icmp .ne 25, 3) := by decide +kernel
theorem dX7_copy_62 : decode cX7_copy 62 = .ok (.aload_n 0, 1) := by decide +kernel
theorem dX7_copy_63 : decode cX7_copy 63 = .ok (.getfield 47, 3) := by decide +kernel
theorem dX7_copy_66 : decode cX7_copy 66 = .ok (.iload_n 1, 1) := by decide +kernel
theorem dX7_copy_67 : decode cX7_copy 67 = .ok (.iaload, 1) := by decide +kernel
theorem dX7_copy_68 : decode cX7_copy 68 = .ok (.aload_n 0, 1) := by decide +kernel
theorem dX7_copy_69 : decode cX7_copy 69 = .ok (.getfield 47, 3) := by decide +kernel
theorem dX7_copy_72 : decode cX7_copy 72 = .ok (.iload_n 2, 1) := by decide +kernel
theorem dX7_copy_73 : decode cX7_copy 73 = .ok (.iaload, 1) := by decide +kernel
theorem dX7_copy_74 : decode cX7_copy 74 = .ok (.if_icmp .eq 10, 3) := by decide +kernel
theorem dX7_copy_77 : decode cX7_copy 77 = .ok (.aload_n 0, 1) := by decide +kernel
theorem dX7_copy_78 : decode cX7_copy 78 = .ok (.bipush (-2), 2) := by decide +kernel
theorem dX7_copy_80 : decode cX7_copy 80 = .ok (.invokevirtual 100, 3) := by decide +kernel
theorem dX7_copy_83 : decode cX7_copy 83 = .ok (.ireturn, 1) := by decide +kernel
theorem dX7_copy_84 : decode cX7_copy 84 = .ok (.aload_n 0, 1) := by decide +kernel
theorem dX7_copy_85 : decode cX7_copy 85 = .ok (.getfield 44, 3) := by decide +kernel
theorem dX7_copy_88 : decode cX7_copy 88 = .ok (.iload_n 1, 1) := by decide +kernel
theorem dX7_copy_89 : decode cX7_copy 89 = .ok (.iaload, 1) := by decide +kernel
theorem dX7_copy_90 : decode cX7_copy 90 = .ok (.ifCond .eq 12, 3) := by decide +kernel
theorem dX7_copy_93 : decode cX7_copy 93 = .ok (.aload_n 0, 1) := by decide +kernel
theorem dX7_copy_94 : decode cX7_copy 94 = .ok (.getfield 44, 3) := by decide +kernel
theorem dX7_copy_97 : decode cX7_copy 97 = .ok (.iload_n 2, 1) := by decide +kernel
theorem dX7_copy_98 : decode cX7_copy 98 = .ok (.iaload, 1) := by decide +kernel
theorem dX7_copy_99 : decode cX7_copy 99 = .ok (.ifCond .ne 10, 3) := by decide +kernel
theorem dX7_copy_102 : decode cX7_copy 102 = .ok (.aload_n 0, 1) := by decide +kernel
theorem dX7_copy_103 : decode cX7_copy 103 = .ok (.bipush (-3), 2) := by decide +kernel
theorem dX7_copy_105 : decode cX7_copy 105 = .ok (.invokevirtual 100, 3) := by decide +kernel
theorem dX7_copy_108 : decode cX7_copy 108 = .ok (.ireturn, 1) := by decide +kernel
theorem dX7_copy_109 : decode cX7_copy 109 = .ok (.iload 5, 2) := by decide +kernel
theorem dX7_copy_111 : decode cX7_copy 111 = .ok (.ifCond .ge 10, 3) := by decide +kernel
theorem dX7_copy_114 : decode cX7_copy 114 = .ok (.aload_n 0, 1) := by decide +kernel
theorem dX7_copy_115 : decode cX7_copy 115 = .ok (.bipush (-4), 2) := by decide +kernel
theorem dX7_copy_117 : decode cX7_copy 117 = .ok (.invokevirtual 100, 3) := by decide +kernel
theorem dX7_copy_120 : decode cX7_copy 120 = .ok (.ireturn, 1) := by decide +kernel
theorem dX7_copy_121 : decode cX7_copy 121 = .ok (.iload_n 3, 1) := by decide +kernel
theorem dX7_copy_122 : decode cX7_copy 122 = .ok (.ifCond .lt 35, 3) := by decide +kernel
theorem dX7_copy_125 : decode cX7_copy 125 = .ok (.iload 4, 2) := by decide +kernel
theorem dX7_copy_127 : decode cX7_copy 127 = .ok (.ifCond .lt 30, 3) := by decide +kernel
theorem dX7_copy_130 : decode cX7_copy 130 = .ok (.iload_n 3, 1) := by decide +kernel
theorem dX7_copy_131 : decode cX7_copy 131 = .ok (.aload_n 0, 1) := by decide +kernel
theorem dX7_copy_132 : decode cX7_copy 132 = .ok (.getfield 50, 3) := by decide +kernel
theorem dX7_copy_135 : decode cX7_copy 135 = .ok (.iload_n 1, 1) := by decide +kernel
theorem dX7_copy_136 : decode cX7_copy 136 = .ok (.iaload, 1) := by decide +kernel
theorem dX7_copy_137 : decode cX7_copy 137 = .ok (.iload 5, 2) := by decide +kernel
theorem dX7_copy_139 : decode cX7_copy 139 = .ok (.isub, 1) := by decide +kernel
theorem dX7_copy_140 : decode cX7_copy 140 = .ok (.if_icmp .gt 17, 3) := by decide +kernel
theorem dX7_copy_143 : decode cX7_copy 143 = .ok (.iload 4, 2) := by decide +kernel
theorem dX7_copy_145 : decode cX7_copy 145 = .ok (.aload_n 0, 1) := by decide +kernel
theorem dX7_copy_146 : decode cX7_copy 146 = .ok (.getfield 50, 3) := by decide +kernel
theorem dX7_copy_149 : decode cX7_copy 149 = .ok (.iload_n 2, 1) := by decide +kernel
theorem dX7_copy_150 : decode cX7_copy 150 = .ok (.iaload, 1) := by decide +kernel
theorem dX7_copy_151 : decode cX7_copy 151 = .ok (.iload 5, 2) := by decide +kernel
theorem dX7_copy_153 : decode cX7_copy 153 = .ok (.isub, 1) := by decide +kernel
theorem dX7_copy_154 : decode cX7_copy 154 = .ok (.if_icmp .le 10, 3) := by decide +kernel
theorem dX7_copy_157 : decode cX7_copy 157 = .ok (.aload_n 0, 1) := by decide +kernel
theorem dX7_copy_158 : decode cX7_copy 158 = .ok (.bipush (-5), 2) := by decide +kernel
theorem dX7_copy_160 : decode cX7_copy 160 = .ok (.invokevirtual 100, 3) := by decide +kernel
theorem dX7_copy_163 : decode cX7_copy 163 = .ok (.ireturn, 1) := by decide +kernel
theorem dX7_copy_164 : decode cX7_copy 164 = .ok (.iconst 0, 1) := by decide +kernel
theorem dX7_copy_165 : decode cX7_copy 165 = .ok (.istore 6, 2) := by decide +kernel
theorem dX7_copy_167 : decode cX7_copy 167 = .ok (.iload 6, 2) := by decide +kernel
theorem dX7_copy_169 : decode cX7_copy 169 = .ok (.iload 5, 2) := by decide +kernel
theorem dX7_copy_171 : decode cX7_copy 171 = .ok (.if_icmp .ge 31, 3) := by decide +kernel
theorem dX7_copy_174 : decode cX7_copy 174 = .ok (.aload_n 0, 1) := by decide +kernel
theorem dX7_copy_175 : decode cX7_copy 175 = .ok (.getfield 60, 3) := by decide +kernel
theorem dX7_copy_178 : decode cX7_copy 178 = .ok (.iload 6, 2) := by decide +kernel
theorem dX7_copy_180 : decode cX7_copy 180 = .ok (.aload_n 0, 1) := by decide +kernel
theorem dX7_copy_181 : decode cX7_copy 181 = .ok (.getfield 56, 3) := by decide +kernel
theorem dX7_copy_184 : decode cX7_copy 184 = .ok (.sipush 160, 3) := by decide +kernel
theorem dX7_copy_187 : decode cX7_copy 187 = .ok (.iload_n 1, 1) := by decide +kernel
theorem dX7_copy_188 : decode cX7_copy 188 = .ok (.imul, 1) := by decide +kernel
theorem dX7_copy_189 : decode cX7_copy 189 = .ok (.iload_n 3, 1) := by decide +kernel
theorem dX7_copy_190 : decode cX7_copy 190 = .ok (.iadd, 1) := by decide +kernel
theorem dX7_copy_191 : decode cX7_copy 191 = .ok (.iload 6, 2) := by decide +kernel
theorem dX7_copy_193 : decode cX7_copy 193 = .ok (.iadd, 1) := by decide +kernel
theorem dX7_copy_194 : decode cX7_copy 194 = .ok (.laload, 1) := by decide +kernel
theorem dX7_copy_195 : decode cX7_copy 195 = .ok (.lastore, 1) := by decide +kernel
theorem dX7_copy_196 : decode cX7_copy 196 = .ok (.iinc 6 1, 3) := by decide +kernel
theorem dX7_copy_199 : decode cX7_copy 199 = .ok (.goto (-32), 3) := by decide +kernel
theorem dX7_copy_202 : decode cX7_copy 202 = .ok (.iconst 0, 1) := by decide +kernel
theorem dX7_copy_203 : decode cX7_copy 203 = .ok (.istore 6, 2) := by decide +kernel
theorem dX7_copy_205 : decode cX7_copy 205 = .ok (.iload 6, 2) := by decide +kernel
theorem dX7_copy_207 : decode cX7_copy 207 = .ok (.iload 5, 2) := by decide +kernel
theorem dX7_copy_209 : decode cX7_copy 209 = .ok (.if_icmp .ge 32, 3) := by decide +kernel
theorem dX7_copy_212 : decode cX7_copy 212 = .ok (.aload_n 0, 1) := by decide +kernel
theorem dX7_copy_213 : decode cX7_copy 213 = .ok (.getfield 56, 3) := by decide +kernel
theorem dX7_copy_216 : decode cX7_copy 216 = .ok (.sipush 160, 3) := by decide +kernel
theorem dX7_copy_219 : decode cX7_copy 219 = .ok (.iload_n 2, 1) := by decide +kernel
theorem dX7_copy_220 : decode cX7_copy 220 = .ok (.imul, 1) := by decide +kernel
theorem dX7_copy_221 : decode cX7_copy 221 = .ok (.iload 4, 2) := by decide +kernel
theorem dX7_copy_223 : decode cX7_copy 223 = .ok (.iadd, 1) := by decide +kernel
theorem dX7_copy_224 : decode cX7_copy 224 = .ok (.iload 6, 2) := by decide +kernel
theorem dX7_copy_226 : decode cX7_copy 226 = .ok (.iadd, 1) := by decide +kernel
theorem dX7_copy_227 : decode cX7_copy 227 = .ok (.aload_n 0, 1) := by decide +kernel
theorem dX7_copy_228 : decode cX7_copy 228 = .ok (.getfield 60, 3) := by decide +kernel
theorem dX7_copy_231 : decode cX7_copy 231 = .ok (.iload 6, 2) := by decide +kernel
theorem dX7_copy_233 : decode cX7_copy 233 = .ok (.laload, 1) := by decide +kernel
theorem dX7_copy_234 : decode cX7_copy 234 = .ok (.lastore, 1) := by decide +kernel
theorem dX7_copy_235 : decode cX7_copy 235 = .ok (.iinc 6 1, 3) := by decide +kernel
theorem dX7_copy_238 : decode cX7_copy 238 = .ok (.goto (-33), 3) := by decide +kernel
theorem dX7_copy_241 : decode cX7_copy 241 = .ok (.iconst 1, 1) := by decide +kernel
theorem dX7_copy_242 : decode cX7_copy 242 = .ok (.ireturn, 1) := by decide +kernel
theorem dX7_element_0 : decode cX7_element 0 = .ok (.aload_n 0, 1) := by decide +kernel
theorem dX7_element_1 : decode cX7_element 1 = .ok (.iload_n 1, 1) := by decide +kernel
theorem dX7_element_2 : decode cX7_element 2 = .ok (.invokevirtual 97, 3) := by decide +kernel
theorem dX7_element_5 : decode cX7_element 5 = .ok (.ifCond .eq 42, 3) := by decide +kernel
theorem dX7_element_8 : decode cX7_element 8 = .ok (.aload_n 0, 1) := by decide +kernel
theorem dX7_element_9 : decode cX7_element 9 = .ok (.getfield 44, 3) := by decide +kernel
theorem dX7_element_12 : decode cX7_element 12 = .ok (.iload_n 1, 1) := by decide +kernel
theorem dX7_element_13 : decode cX7_element 13 = .ok (.iaload, 1) := by decide +kernel
theorem dX7_element_14 : decode cX7_element 14 = .ok (.iconst 1, 1) := by decide +kernel
theorem dX7_element_15 : decode cX7_element 15 = .ok (.if_icmp .ne 32, 3) := by decide +kernel
theorem dX7_element_18 : decode cX7_element 18 = .ok (.iload_n 2, 1) := by decide +kernel
theorem dX7_element_19 : decode cX7_element 19 = .ok (.ifCond .lt 28, 3) := by decide +kernel
theorem dX7_element_22 : decode cX7_element 22 = .ok (.iload_n 2, 1) := by decide +kernel
theorem dX7_element_23 : decode cX7_element 23 = .ok (.aload_n 0, 1) := by decide +kernel
theorem dX7_element_24 : decode cX7_element 24 = .ok (.getfield 50, 3) := by decide +kernel
theorem dX7_element_27 : decode cX7_element 27 = .ok (.iload_n 1, 1) := by decide +kernel
theorem dX7_element_28 : decode cX7_element 28 = .ok (.iaload, 1) := by decide +kernel
theorem dX7_element_29 : decode cX7_element 29 = .ok (.if_icmp .ge 18, 3) := by decide +kernel
theorem dX7_element_32 : decode cX7_element 32 = .ok (.aload_n 0, 1) := by decide +kernel
theorem dX7_element_33 : decode cX7_element 33 = .ok (.getfield 56, 3) := by decide +kernel
theorem dX7_element_36 : decode cX7_element 36 = .ok (.sipush 160, 3) := by decide +kernel
theorem dX7_element_39 : decode cX7_element 39 = .ok (.iload_n 1, 1) := by decide +kernel
theorem dX7_element_40 : decode cX7_element 40 = .ok (.imul, 1) := by decide +kernel
theorem dX7_element_41 : decode cX7_element 41 = .ok (.iload_n 2, 1) := by decide +kernel
theorem dX7_element_42 : decode cX7_element 42 = .ok (.iadd, 1) := by decide +kernel
theorem dX7_element_43 : decode cX7_element 43 = .ok (.laload, 1) := by decide +kernel
theorem dX7_element_44 : decode cX7_element 44 = .ok (.goto 4, 3) := by decide +kernel
theorem dX7_element_47 : decode cX7_element 47 = .ok (.lconst 0, 1) := by decide +kernel
theorem dX7_element_48 : decode cX7_element 48 = .ok (.lreturn, 1) := by decide +kernel
theorem dX7_show_0 : decode cX7_show 0 = .ok (.aload_n 0, 1) := by decide +kernel
theorem dX7_show_1 : decode cX7_show 1 = .ok (.iload_n 1, 1) := by decide +kernel
theorem dX7_show_2 : decode cX7_show 2 = .ok (.invokevirtual 97, 3) := by decide +kernel
theorem dX7_show_5 : decode cX7_show 5 = .ok (.ifCond .eq 16, 3) := by decide +kernel
theorem dX7_show_8 : decode cX7_show 8 = .ok (.iload_n 2, 1) := by decide +kernel
theorem dX7_show_9 : decode cX7_show 9 = .ok (.iconst (-1), 1) := by decide +kernel
theorem dX7_show_10 : decode cX7_show 10 = .ok (.if_icmp .eq 17, 3) := by decide +kernel
theorem dX7_show_13 : decode cX7_show 13 = .ok (.aload_n 0, 1) := by decide +kernel
theorem dX7_show_14 : decode cX7_show 14 = .ok (.iload_n 2, 1) := by decide +kernel
theorem dX7_show_15 : decode cX7_show 15 = .ok (.invokevirtual 93, 3) := by decide +kernel
theorem dX7_show_18 : decode cX7_show 18 = .ok (.ifCond .ne 9, 3) := by decide +kernel
theorem dX7_show_21 : decode cX7_show 21 = .ok (.aload_n 0, 1) := by decide +kernel
theorem dX7_show_22 : decode cX7_show 22 = .ok (.iconst (-1), 1) := by decide +kernel
theorem dX7_show_23 : decode cX7_show 23 = .ok (.invokevirtual 100, 3) := by decide +kernel
theorem dX7_show_26 : decode cX7_show 26 = .ok (.ireturn, 1) := by decide +kernel
theorem dX7_show_27 : decode cX7_show 27 = .ok (.aload_n 0, 1) := by decide +kernel
theorem dX7_show_28 : decode cX7_show 28 = .ok (.getfield 44, 3) := by decide +kernel
theorem dX7_show_31 : decode cX7_show 31 = .ok (.iload_n 1, 1) := by decide +kernel
theorem dX7_show_32 : decode cX7_show 32 = .ok (.iload_n 2, 1) := by decide +kernel
theorem dX7_show_33 : decode cX7_show 33 = .ok (.iconst (-1), 1) := by decide +kernel
theorem dX7_show_34 : decode cX7_show 34 = .ok (.if_icmp .ne 7, 3) := by decide +kernel
theorem dX7_show_37 : decode cX7_show 37 = .ok (.iconst 0, 1) := by decide +kernel
theorem dX7_show_38 : decode cX7_show 38 = .ok (.goto 4, 3) := by decide +kernel
theorem dX7_show_41 : decode cX7_show 41 = .ok (.iconst 2, 1) := by decide +kernel
theorem dX7_show_42 : decode cX7_show 42 = .ok (.iastore, 1) := by decide +kernel
theorem dX7_show_43 : decode cX7_show 43 = .ok (.aload_n 0, 1) := by decide +kernel
theorem dX7_show_44 : decode cX7_show 44 = .ok (.getfield 53, 3) := by decide +kernel
theorem dX7_show_47 : decode cX7_show 47 = .ok (.iload_n 1, 1) := by decide +kernel
theorem dX7_show_48 : decode cX7_show 48 = .ok (.iload_n 2, 1) := by decide +kernel
theorem dX7_show_49 : decode cX7_show 49 = .ok (.iastore, 1) := by decide +kernel
theorem dX7_show_50 : decode cX7_show 50 = .ok (.iload_n 2, 1) := by decide +kernel
theorem dX7_show_51 : decode cX7_show 51 = .ok (.iconst (-1), 1) := by decide +kernel
theorem dX7_show_52 : decode cX7_show 52 = .ok (.if_icmp .ne 7, 3) := by decide +kernel
theorem dX7_show_55 : decode cX7_show 55 = .ok (.iconst 0, 1) := by decide +kernel
theorem dX7_show_56 : decode cX7_show 56 = .ok (.goto 4, 3) := by decide +kernel
theorem dX7_show_59 : decode cX7_show 59 = .ok (.iconst 1, 1) := by decide +kernel
theorem dX7_show_60 : decode cX7_show 60 = .ok (.ireturn, 1) := by decide +kernel
theorem dX7_holds_0 : decode cX7_holds 0 = .ok (.aload_n 0, 1) := by decide +kernel
theorem dX7_holds_1 : decode cX7_holds 1 = .ok (.iload_n 1, 1) := by decide +kernel
theorem dX7_holds_2 : decode cX7_holds 2 = .ok (.invokevirtual 97, 3) := by decide +kernel
theorem dX7_holds_5 : decode cX7_holds 5 = .ok (.ifCond .eq 12, 3) := by decide +kernel
theorem dX7_holds_8 : decode cX7_holds 8 = .ok (.aload_n 0, 1) := by decide +kernel
theorem dX7_holds_9 : decode cX7_holds 9 = .ok (.getfield 44, 3) := by decide +kernel
theorem dX7_holds_12 : decode cX7_holds 12 = .ok (.iload_n 1, 1) := by decide +kernel
theorem dX7_holds_13 : decode cX7_holds 13 = .ok (.iaload, 1) := by decide +kernel
theorem dX7_holds_14 : decode cX7_holds 14 = .ok (.ifCond .ne 5, 3) := by decide +kernel
theorem dX7_holds_17 : decode cX7_holds 17 = .ok (.iconst (-1), 1) := by decide +kernel
theorem dX7_holds_18 : decode cX7_holds 18 = .ok (.ireturn, 1) := by decide +kernel
theorem dX7_holds_19 : decode cX7_holds 19 = .ok (.aload_n 0, 1) := by decide +kernel
theorem dX7_holds_20 : decode cX7_holds 20 = .ok (.getfield 44, 3) := by decide +kernel
theorem dX7_holds_23 : decode cX7_holds 23 = .ok (.iload_n 1, 1) := by decide +kernel
theorem dX7_holds_24 : decode cX7_holds 24 = .ok (.iaload, 1) := by decide +kernel
theorem dX7_holds_25 : decode cX7_holds 25 = .ok (.iconst 1, 1) := by decide +kernel
theorem dX7_holds_26 : decode cX7_holds 26 = .ok (.if_icmp .ne 15, 3) := by decide +kernel
theorem dX7_holds_29 : decode cX7_holds 29 = .ok (.bipush 100, 2) := by decide +kernel
theorem dX7_holds_31 : decode cX7_holds 31 = .ok (.aload_n 0, 1) := by decide +kernel
theorem dX7_holds_32 : decode cX7_holds 32 = .ok (.getfield 47, 3) := by decide +kernel
theorem dX7_holds_35 : decode cX7_holds 35 = .ok (.iload_n 1, 1) := by decide +kernel
theorem dX7_holds_36 : decode cX7_holds 36 = .ok (.iaload, 1) := by decide +kernel
theorem dX7_holds_37 : decode cX7_holds 37 = .ok (.iadd, 1) := by decide +kernel
theorem dX7_holds_38 : decode cX7_holds 38 = .ok (.goto 9, 3) := by decide +kernel
theorem dX7_holds_41 : decode cX7_holds 41 = .ok (.aload_n 0, 1) := by decide +kernel
theorem dX7_holds_42 : decode cX7_holds 42 = .ok (.getfield 53, 3) := by decide +kernel
theorem dX7_holds_45 : decode cX7_holds 45 = .ok (.iload_n 1, 1) := by decide +kernel
theorem dX7_holds_46 : decode cX7_holds 46 = .ok (.iaload, 1) := by decide +kernel
theorem dX7_holds_47 : decode cX7_holds 47 = .ok (.ireturn, 1) := by decide +kernel
theorem dX7_says_0 : decode cX7_says 0 = .ok (.aload_n 0, 1) := by decide +kernel
theorem dX7_says_1 : decode cX7_says 1 = .ok (.iload_n 1, 1) := by decide +kernel
theorem dX7_says_2 : decode cX7_says 2 = .ok (.invokevirtual 97, 3) := by decide +kernel
theorem dX7_says_5 : decode cX7_says 5 = .ok (.ifCond .eq 13, 3) := by decide +kernel
theorem dX7_says_8 : decode cX7_says 8 = .ok (.iload_n 2, 1) := by decide +kernel
theorem dX7_says_9 : decode cX7_says 9 = .ok (.ifCond .lt 9, 3) := by decide +kernel
theorem dX7_says_12 : decode cX7_says 12 = .ok (.iload_n 2, 1) := by decide +kernel
theorem dX7_says_13 : decode cX7_says 13 = .ok (.bipush 6, 2) := by decide +kernel
theorem dX7_says_15 : decode cX7_says 15 = .ok (.if_icmp .le 9, 3) := by decide +kernel
theorem dX7_says_18 : decode cX7_says 18 = .ok (.aload_n 0, 1) := by decide +kernel
theorem dX7_says_19 : decode cX7_says 19 = .ok (.iconst (-1), 1) := by decide +kernel
theorem dX7_says_20 : decode cX7_says 20 = .ok (.invokevirtual 100, 3) := by decide +kernel
theorem dX7_says_23 : decode cX7_says 23 = .ok (.ireturn, 1) := by decide +kernel
theorem dX7_says_24 : decode cX7_says 24 = .ok (.aload_n 0, 1) := by decide +kernel
theorem dX7_says_25 : decode cX7_says 25 = .ok (.getfield 44, 3) := by decide +kernel
theorem dX7_says_28 : decode cX7_says 28 = .ok (.iload_n 1, 1) := by decide +kernel
theorem dX7_says_29 : decode cX7_says 29 = .ok (.iaload, 1) := by decide +kernel
theorem dX7_says_30 : decode cX7_says 30 = .ok (.iconst 1, 1) := by decide +kernel
theorem dX7_says_31 : decode cX7_says 31 = .ok (.if_icmp .ne 10, 3) := by decide +kernel
theorem dX7_says_34 : decode cX7_says 34 = .ok (.aload_n 0, 1) := by decide +kernel
theorem dX7_says_35 : decode cX7_says 35 = .ok (.bipush (-2), 2) := by decide +kernel
theorem dX7_says_37 : decode cX7_says 37 = .ok (.invokevirtual 100, 3) := by decide +kernel
theorem dX7_says_40 : decode cX7_says 40 = .ok (.ireturn, 1) := by decide +kernel
theorem dX7_says_41 : decode cX7_says 41 = .ok (.aload_n 0, 1) := by decide +kernel
theorem dX7_says_42 : decode cX7_says 42 = .ok (.getfield 44, 3) := by decide +kernel
theorem dX7_says_45 : decode cX7_says 45 = .ok (.iload_n 1, 1) := by decide +kernel
theorem dX7_says_46 : decode cX7_says 46 = .ok (.iaload, 1) := by decide +kernel
theorem dX7_says_47 : decode cX7_says 47 = .ok (.ifCond .ne 10, 3) := by decide +kernel
theorem dX7_says_50 : decode cX7_says 50 = .ok (.aload_n 0, 1) := by decide +kernel
theorem dX7_says_51 : decode cX7_says 51 = .ok (.bipush (-3), 2) := by decide +kernel
theorem dX7_says_53 : decode cX7_says 53 = .ok (.invokevirtual 100, 3) := by decide +kernel
theorem dX7_says_56 : decode cX7_says 56 = .ok (.ireturn, 1) := by decide +kernel
theorem dX7_says_57 : decode cX7_says 57 = .ok (.aload_n 0, 1) := by decide +kernel
theorem dX7_says_58 : decode cX7_says 58 = .ok (.getfield 53, 3) := by decide +kernel
theorem dX7_says_61 : decode cX7_says 61 = .ok (.iload_n 1, 1) := by decide +kernel
theorem dX7_says_62 : decode cX7_says 62 = .ok (.iaload, 1) := by decide +kernel
theorem dX7_says_63 : decode cX7_says 63 = .ok (.istore_n 3, 1) := by decide +kernel
theorem dX7_says_64 : decode cX7_says 64 = .ok (.aload_n 0, 1) := by decide +kernel
theorem dX7_says_65 : decode cX7_says 65 = .ok (.getfield 29, 3) := by decide +kernel
theorem dX7_says_68 : decode cX7_says 68 = .ok (.iload_n 3, 1) := by decide +kernel
theorem dX7_says_69 : decode cX7_says 69 = .ok (.iaload, 1) := by decide +kernel
theorem dX7_says_70 : decode cX7_says 70 = .ok (.istore 4, 2) := by decide +kernel
theorem dX7_says_72 : decode cX7_says 72 = .ok (.iload_n 2, 1) := by decide +kernel
theorem dX7_says_73 : decode cX7_says 73 = .ok (.iconst 1, 1) := by decide +kernel
theorem dX7_says_74 : decode cX7_says 74 = .ok (.if_icmp .ne 9, 3) := by decide +kernel
theorem dX7_says_77 : decode cX7_says 77 = .ok (.iload 4, 2) := by decide +kernel
theorem dX7_says_79 : decode cX7_says 79 = .ok (.iconst 3, 1) := by decide +kernel
theorem dX7_says_80 : decode cX7_says 80 = .ok (.if_icmp .eq 26, 3) := by decide +kernel
theorem dX7_says_83 : decode cX7_says 83 = .ok (.iload_n 2, 1) := by decide +kernel
theorem dX7_says_84 : decode cX7_says 84 = .ok (.iconst 2, 1) := by decide +kernel
theorem dX7_says_85 : decode cX7_says 85 = .ok (.if_icmp .ne 9, 3) := by decide +kernel
theorem dX7_says_88 : decode cX7_says 88 = .ok (.iload 4, 2) := by decide +kernel
theorem dX7_says_90 : decode cX7_says 90 = .ok (.iconst 5, 1) := by decide +kernel
theorem dX7_says_91 : decode cX7_says 91 = .ok (.if_icmp .eq 15, 3) := by decide +kernel
theorem dX7_says_94 : decode cX7_says 94 = .ok (.iload_n 2, 1) := by decide +kernel
theorem dX7_says_95 : decode cX7_says 95 = .ok (.iconst 4, 1) := by decide +kernel
theorem dX7_says_96 : decode cX7_says 96 = .ok (.if_icmp .ne 14, 3) := by decide +kernel
theorem dX7_says_99 : decode cX7_says 99 = .ok (.iload 4, 2) := by decide +kernel
theorem dX7_says_101 : decode cX7_says 101 = .ok (.bipush 6, 2) := by decide +kernel
theorem dX7_says_103 : decode cX7_says 103 = .ok (.if_icmp .ne 7, 3) := by decide +kernel
theorem dX7_says_106 : decode cX7_says 106 = .ok (.iconst 1, 1) := by decide +kernel
theorem dX7_says_107 : decode cX7_says 107 = .ok (.goto 4, 3) := by decide +kernel
theorem dX7_says_110 : decode cX7_says 110 = .ok (.iconst 0, 1) := by decide +kernel
theorem dX7_says_111 : decode cX7_says 111 = .ok (.istore 5, 2) := by decide +kernel
theorem dX7_says_113 : decode cX7_says 113 = .ok (.iload_n 2, 1) := by decide +kernel
theorem dX7_says_114 : decode cX7_says 114 = .ok (.ifCond .eq 21, 3) := by decide +kernel
theorem dX7_says_117 : decode cX7_says 117 = .ok (.iload_n 2, 1) := by decide +kernel
theorem dX7_says_118 : decode cX7_says 118 = .ok (.iload 4, 2) := by decide +kernel
theorem dX7_says_120 : decode cX7_says 120 = .ok (.if_icmp .eq 15, 3) := by decide +kernel
theorem dX7_says_123 : decode cX7_says 123 = .ok (.iload 5, 2) := by decide +kernel
theorem dX7_says_125 : decode cX7_says 125 = .ok (.ifCond .ne 10, 3) := by decide +kernel
theorem dX7_says_128 : decode cX7_says 128 = .ok (.aload_n 0, 1) := by decide +kernel
theorem dX7_says_129 : decode cX7_says 129 = .ok (.bipush (-2), 2) := by decide +kernel
theorem dX7_says_131 : decode cX7_says 131 = .ok (.invokevirtual 100, 3) := by decide +kernel
theorem dX7_says_134 : decode cX7_says 134 = .ok (.ireturn, 1) := by decide +kernel
theorem dX7_says_135 : decode cX7_says 135 = .ok (.iload_n 2, 1) := by decide +kernel
theorem dX7_says_136 : decode cX7_says 136 = .ok (.tableswitch 71 0 6 #[44, 71, 71, 51, 71, 58, 61], 44) := by decide +kernel
theorem dX7_says_180 : decode cX7_says 180 = .ok (.aload_n 0, 1) := by decide +kernel
theorem dX7_says_181 : decode cX7_says 181 = .ok (.getfield 35, 3) := by decide +kernel
theorem dX7_says_184 : decode cX7_says 184 = .ok (.iload_n 3, 1) := by decide +kernel
theorem dX7_says_185 : decode cX7_says 185 = .ok (.iaload, 1) := by decide +kernel
theorem dX7_says_186 : decode cX7_says 186 = .ok (.ireturn, 1) := by decide +kernel
theorem dX7_says_187 : decode cX7_says 187 = .ok (.aload_n 0, 1) := by decide +kernel
theorem dX7_says_188 : decode cX7_says 188 = .ok (.getfield 32, 3) := by decide +kernel
theorem dX7_says_191 : decode cX7_says 191 = .ok (.iload_n 3, 1) := by decide +kernel
theorem dX7_says_192 : decode cX7_says 192 = .ok (.iaload, 1) := by decide +kernel
theorem dX7_says_193 : decode cX7_says 193 = .ok (.ireturn, 1) := by decide +kernel
theorem dX7_says_194 : decode cX7_says 194 = .ok (.bipush 100, 2) := by decide +kernel
theorem dX7_says_196 : decode cX7_says 196 = .ok (.ireturn, 1) := by decide +kernel
theorem dX7_says_197 : decode cX7_says 197 = .ok (.bipush 50, 2) := by decide +kernel
theorem dX7_says_199 : decode cX7_says 199 = .ok (.aload_n 0, 1) := by decide +kernel
theorem dX7_says_200 : decode cX7_says 200 = .ok (.getfield 32, 3) := by decide +kernel
theorem dX7_says_203 : decode cX7_says 203 = .ok (.iload_n 3, 1) := by decide +kernel
theorem dX7_says_204 : decode cX7_says 204 = .ok (.iaload, 1) := by decide +kernel
theorem dX7_says_205 : decode cX7_says 205 = .ok (.iadd, 1) := by decide +kernel
theorem dX7_says_206 : decode cX7_says 206 = .ok (.ireturn, 1) := by decide +kernel
theorem dX7_says_207 : decode cX7_says 207 = .ok (.aload_n 0, 1) := by decide +kernel
theorem dX7_says_208 : decode cX7_says 208 = .ok (.iload_n 3, 1) := by decide +kernel
theorem dX7_says_209 : decode cX7_says 209 = .ok (.iconst 0, 1) := by decide +kernel
theorem dX7_says_210 : decode cX7_says 210 = .ok (.aload_n 0, 1) := by decide +kernel
theorem dX7_says_211 : decode cX7_says 211 = .ok (.getfield 35, 3) := by decide +kernel
theorem dX7_says_214 : decode cX7_says 214 = .ok (.iload_n 3, 1) := by decide +kernel
theorem dX7_says_215 : decode cX7_says 215 = .ok (.iaload, 1) := by decide +kernel
theorem dX7_says_216 : decode cX7_says 216 = .ok (.aload_n 0, 1) := by decide +kernel
theorem dX7_says_217 : decode cX7_says 217 = .ok (.getfield 7, 3) := by decide +kernel
theorem dX7_says_220 : decode cX7_says 220 = .ok (.invokevirtual 104, 3) := by decide +kernel
theorem dX7_says_223 : decode cX7_says 223 = .ok (.ireturn, 1) := by decide +kernel
theorem dX7_wanted_0 : decode cX7_wanted 0 = .ok (.aload_n 0, 1) := by decide +kernel
theorem dX7_wanted_1 : decode cX7_wanted 1 = .ok (.iload_n 1, 1) := by decide +kernel
theorem dX7_wanted_2 : decode cX7_wanted 2 = .ok (.invokevirtual 97, 3) := by decide +kernel
theorem dX7_wanted_5 : decode cX7_wanted 5 = .ok (.ifCond .ne 7, 3) := by decide +kernel
theorem dX7_wanted_8 : decode cX7_wanted 8 = .ok (.iconst (-1), 1) := by decide +kernel
theorem dX7_wanted_9 : decode cX7_wanted 9 = .ok (.goto 33, 3) := by decide +kernel
theorem dX7_wanted_12 : decode cX7_wanted 12 = .ok (.aload_n 0, 1) := by decide +kernel
theorem dX7_wanted_13 : decode cX7_wanted 13 = .ok (.getfield 44, 3) := by decide +kernel
theorem dX7_wanted_16 : decode cX7_wanted 16 = .ok (.iload_n 1, 1) := by decide +kernel
theorem dX7_wanted_17 : decode cX7_wanted 17 = .ok (.iaload, 1) := by decide +kernel
theorem dX7_wanted_18 : decode cX7_wanted 18 = .ok (.iconst 2, 1) := by decide +kernel
theorem dX7_wanted_19 : decode cX7_wanted 19 = .ok (.if_icmp .ne 8, 3) := by decide +kernel
theorem dX7_wanted_22 : decode cX7_wanted 22 = .ok (.bipush (-2), 2) := by decide +kernel
theorem dX7_wanted_24 : decode cX7_wanted 24 = .ok (.goto 18, 3) := by decide +kernel
theorem dX7_wanted_27 : decode cX7_wanted 27 = .ok (.aload_n 0, 1) := by decide +kernel
theorem dX7_wanted_28 : decode cX7_wanted 28 = .ok (.getfield 44, 3) := by decide +kernel
theorem dX7_wanted_31 : decode cX7_wanted 31 = .ok (.iload_n 1, 1) := by decide +kernel
theorem dX7_wanted_32 : decode cX7_wanted 32 = .ok (.iaload, 1) := by decide +kernel
theorem dX7_wanted_33 : decode cX7_wanted 33 = .ok (.ifCond .ne 8, 3) := by decide +kernel
theorem dX7_wanted_36 : decode cX7_wanted 36 = .ok (.bipush (-3), 2) := by decide +kernel
theorem dX7_wanted_38 : decode cX7_wanted 38 = .ok (.goto 4, 3) := by decide +kernel
theorem dX7_wanted_41 : decode cX7_wanted 41 = .ok (.iconst 0, 1) := by decide +kernel
theorem dX7_wanted_42 : decode cX7_wanted 42 = .ok (.ireturn, 1) := by decide +kernel
theorem dX7_adds_0 : decode cX7_adds 0 = .ok (.aload_n 0, 1) := by decide +kernel
theorem dX7_adds_1 : decode cX7_adds 1 = .ok (.getfield 29, 3) := by decide +kernel
theorem dX7_adds_4 : decode cX7_adds 4 = .ok (.aload_n 0, 1) := by decide +kernel
theorem dX7_adds_5 : decode cX7_adds 5 = .ok (.getfield 90, 3) := by decide +kernel
theorem dX7_adds_8 : decode cX7_adds 8 = .ok (.iload_n 1, 1) := by decide +kernel
theorem dX7_adds_9 : decode cX7_adds 9 = .ok (.iastore, 1) := by decide +kernel
theorem dX7_adds_10 : decode cX7_adds 10 = .ok (.aload_n 0, 1) := by decide +kernel
theorem dX7_adds_11 : decode cX7_adds 11 = .ok (.getfield 35, 3) := by decide +kernel
theorem dX7_adds_14 : decode cX7_adds 14 = .ok (.aload_n 0, 1) := by decide +kernel
theorem dX7_adds_15 : decode cX7_adds 15 = .ok (.getfield 90, 3) := by decide +kernel
theorem dX7_adds_18 : decode cX7_adds 18 = .ok (.iload_n 2, 1) := by decide +kernel
theorem dX7_adds_19 : decode cX7_adds 19 = .ok (.iastore, 1) := by decide +kernel
theorem dX7_adds_20 : decode cX7_adds 20 = .ok (.aload_n 0, 1) := by decide +kernel
theorem dX7_adds_21 : decode cX7_adds 21 = .ok (.getfield 32, 3) := by decide +kernel
theorem dX7_adds_24 : decode cX7_adds 24 = .ok (.aload_n 0, 1) := by decide +kernel
theorem dX7_adds_25 : decode cX7_adds 25 = .ok (.getfield 90, 3) := by decide +kernel
theorem dX7_adds_28 : decode cX7_adds 28 = .ok (.iload_n 3, 1) := by decide +kernel
theorem dX7_adds_29 : decode cX7_adds 29 = .ok (.iastore, 1) := by decide +kernel
theorem dX7_adds_30 : decode cX7_adds 30 = .ok (.iconst 0, 1) := by decide +kernel
theorem dX7_adds_31 : decode cX7_adds 31 = .ok (.istore 4, 2) := by decide +kernel
theorem dX7_adds_33 : decode cX7_adds 33 = .ok (.iload 4, 2) := by decide +kernel
theorem dX7_adds_35 : decode cX7_adds 35 = .ok (.bipush 12, 2) := by decide +kernel
theorem dX7_adds_37 : decode cX7_adds 37 = .ok (.if_icmp .ge 25, 3) := by decide +kernel
theorem dX7_adds_40 : decode cX7_adds 40 = .ok (.aload_n 0, 1) := by decide +kernel
theorem dX7_adds_41 : decode cX7_adds 41 = .ok (.getfield 38, 3) := by decide +kernel
theorem dX7_adds_44 : decode cX7_adds 44 = .ok (.bipush 12, 2) := by decide +kernel
theorem dX7_adds_46 : decode cX7_adds 46 = .ok (.aload_n 0, 1) := by decide +kernel
theorem dX7_adds_47 : decode cX7_adds 47 = .ok (.getfield 90, 3) := by decide +kernel
theorem dX7_adds_50 : decode cX7_adds 50 = .ok (.imul, 1) := by decide +kernel
theorem dX7_adds_51 : decode cX7_adds 51 = .ok (.iload 4, 2) := by decide +kernel
theorem dX7_adds_53 : decode cX7_adds 53 = .ok (.iadd, 1) := by decide +kernel
theorem dX7_adds_54 : decode cX7_adds 54 = .ok (.iconst 0, 1) := by decide +kernel
theorem dX7_adds_55 : decode cX7_adds 55 = .ok (.iastore, 1) := by decide +kernel
theorem dX7_adds_56 : decode cX7_adds 56 = .ok (.iinc 4 1, 3) := by decide +kernel
theorem dX7_adds_59 : decode cX7_adds 59 = .ok (.goto (-26), 3) := by decide +kernel
theorem dX7_adds_62 : decode cX7_adds 62 = .ok (.aload_n 0, 1) := by decide +kernel
theorem dX7_adds_63 : decode cX7_adds 63 = .ok (.dup, 1) := by decide +kernel
theorem dX7_adds_64 : decode cX7_adds 64 = .ok (.getfield 90, 3) := by decide +kernel
theorem dX7_adds_67 : decode cX7_adds 67 = .ok (.dup_x1, 1) := by decide +kernel
theorem dX7_adds_68 : decode cX7_adds 68 = .ok (.iconst 1, 1) := by decide +kernel
theorem dX7_adds_69 : decode cX7_adds 69 = .ok (.iadd, 1) := by decide +kernel
theorem dX7_adds_70 : decode cX7_adds 70 = .ok (.putfield 90, 3) := by decide +kernel
theorem dX7_adds_73 : decode cX7_adds 73 = .ok (.ireturn, 1) := by decide +kernel
theorem dX7_biscuit_0 : decode cX7_biscuit 0 = .ok (.iload_n 1, 1) := by decide +kernel
theorem dX7_biscuit_1 : decode cX7_biscuit 1 = .ok (.ifCond .lt 9, 3) := by decide +kernel
theorem dX7_biscuit_4 : decode cX7_biscuit 4 = .ok (.iload_n 1, 1) := by decide +kernel
theorem dX7_biscuit_5 : decode cX7_biscuit 5 = .ok (.bipush 6, 2) := by decide +kernel
theorem dX7_biscuit_7 : decode cX7_biscuit 7 = .ok (.if_icmp .le 9, 3) := by decide +kernel
theorem dX7_biscuit_10 : decode cX7_biscuit 10 = .ok (.aload_n 0, 1) := by decide +kernel
theorem dX7_biscuit_11 : decode cX7_biscuit 11 = .ok (.iconst (-1), 1) := by decide +kernel
theorem dX7_biscuit_12 : decode cX7_biscuit 12 = .ok (.invokevirtual 100, 3) := by decide +kernel
theorem dX7_biscuit_15 : decode cX7_biscuit 15 = .ok (.ireturn, 1) := by decide +kernel
theorem dX7_biscuit_16 : decode cX7_biscuit 16 = .ok (.iload_n 2, 1) := by decide +kernel
theorem dX7_biscuit_17 : decode cX7_biscuit 17 = .ok (.iconst 1, 1) := by decide +kernel
theorem dX7_biscuit_18 : decode cX7_biscuit 18 = .ok (.if_icmp .lt 19, 3) := by decide +kernel
theorem dX7_biscuit_21 : decode cX7_biscuit 21 = .ok (.iload_n 2, 1) := by decide +kernel
theorem dX7_biscuit_22 : decode cX7_biscuit 22 = .ok (.bipush 12, 2) := by decide +kernel
theorem dX7_biscuit_24 : decode cX7_biscuit 24 = .ok (.if_icmp .gt 13, 3) := by decide +kernel
theorem dX7_biscuit_27 : decode cX7_biscuit 27 = .ok (.iload_n 3, 1) := by decide +kernel
theorem dX7_biscuit_28 : decode cX7_biscuit 28 = .ok (.ifCond .lt 9, 3) := by decide +kernel
theorem dX7_biscuit_31 : decode cX7_biscuit 31 = .ok (.iload_n 3, 1) := by decide +kernel
theorem dX7_biscuit_32 : decode cX7_biscuit 32 = .ok (.bipush 9, 2) := by decide +kernel
theorem dX7_biscuit_34 : decode cX7_biscuit 34 = .ok (.if_icmp .le 10, 3) := by decide +kernel
theorem dX7_biscuit_37 : decode cX7_biscuit 37 = .ok (.aload_n 0, 1) := by decide +kernel
theorem dX7_biscuit_38 : decode cX7_biscuit 38 = .ok (.bipush (-6), 2) := by decide +kernel
theorem dX7_biscuit_40 : decode cX7_biscuit 40 = .ok (.invokevirtual 100, 3) := by decide +kernel
theorem dX7_biscuit_43 : decode cX7_biscuit 43 = .ok (.ireturn, 1) := by decide +kernel
theorem dX7_biscuit_44 : decode cX7_biscuit 44 = .ok (.aload_n 0, 1) := by decide +kernel
theorem dX7_biscuit_45 : decode cX7_biscuit 45 = .ok (.getfield 90, 3) := by decide +kernel
theorem dX7_biscuit_48 : decode cX7_biscuit 48 = .ok (.bipush 6, 2) := by decide +kernel
theorem dX7_biscuit_50 : decode cX7_biscuit 50 = .ok (.if_icmp .ne 12, 3) := by decide +kernel
theorem dX7_biscuit_53 : decode cX7_biscuit 53 = .ok (.aload_n 0, 1) := by decide +kernel
theorem dX7_biscuit_54 : decode cX7_biscuit 54 = .ok (.bipush (-7), 2) := by decide +kernel
theorem dX7_biscuit_56 : decode cX7_biscuit 56 = .ok (.invokevirtual 100, 3) := by decide +kernel
theorem dX7_biscuit_59 : decode cX7_biscuit 59 = .ok (.goto 10, 3) := by decide +kernel
theorem dX7_biscuit_62 : decode cX7_biscuit 62 = .ok (.aload_n 0, 1) := by decide +kernel
theorem dX7_biscuit_63 : decode cX7_biscuit 63 = .ok (.iload_n 1, 1) := by decide +kernel
theorem dX7_biscuit_64 : decode cX7_biscuit 64 = .ok (.iload_n 2, 1) := by decide +kernel
theorem dX7_biscuit_65 : decode cX7_biscuit 65 = .ok (.iload_n 3, 1) := by decide +kernel
theorem dX7_biscuit_66 : decode cX7_biscuit 66 = .ok (.invokevirtual 108, 3) := by decide +kernel
theorem dX7_biscuit_69 : decode cX7_biscuit 69 = .ok (.ireturn, 1) := by decide +kernel
theorem dX7_biscuitOf_0 : decode cX7_biscuitOf 0 = .ok (.aload_n 0, 1) := by decide +kernel
theorem dX7_biscuitOf_1 : decode cX7_biscuitOf 1 = .ok (.iload_n 1, 1) := by decide +kernel
theorem dX7_biscuitOf_2 : decode cX7_biscuitOf 2 = .ok (.invokevirtual 93, 3) := by decide +kernel
theorem dX7_biscuitOf_5 : decode cX7_biscuitOf 5 = .ok (.ifCond .ne 10, 3) := by decide +kernel
theorem dX7_biscuitOf_8 : decode cX7_biscuitOf 8 = .ok (.aload_n 0, 1) := by decide +kernel
theorem dX7_biscuitOf_9 : decode cX7_biscuitOf 9 = .ok (.bipush (-5), 2) := by decide +kernel
theorem dX7_biscuitOf_11 : decode cX7_biscuitOf 11 = .ok (.invokevirtual 100, 3) := by decide +kernel
theorem dX7_biscuitOf_14 : decode cX7_biscuitOf 14 = .ok (.ireturn, 1) := by decide +kernel
theorem dX7_biscuitOf_15 : decode cX7_biscuitOf 15 = .ok (.iload_n 2, 1) := by decide +kernel
theorem dX7_biscuitOf_16 : decode cX7_biscuitOf 16 = .ok (.bipush 10, 2) := by decide +kernel
theorem dX7_biscuitOf_18 : decode cX7_biscuitOf 18 = .ok (.if_icmp .lt 30, 3) := by decide +kernel
theorem dX7_biscuitOf_21 : decode cX7_biscuitOf 21 = .ok (.aload_n 0, 1) := by decide +kernel
theorem dX7_biscuitOf_22 : decode cX7_biscuitOf 22 = .ok (.iload_n 1, 1) := by decide +kernel
theorem dX7_biscuitOf_23 : decode cX7_biscuitOf 23 = .ok (.iload_n 2, 1) := by decide +kernel
theorem dX7_biscuitOf_24 : decode cX7_biscuitOf 24 = .ok (.bipush 10, 2) := by decide +kernel
theorem dX7_biscuitOf_26 : decode cX7_biscuitOf 26 = .ok (.isub, 1) := by decide +kernel
theorem dX7_biscuitOf_27 : decode cX7_biscuitOf 27 = .ok (.invokevirtual 112, 3) := by decide +kernel
theorem dX7_biscuitOf_30 : decode cX7_biscuitOf 30 = .ok (.ifCond .eq 18, 3) := by decide +kernel
theorem dX7_biscuitOf_33 : decode cX7_biscuitOf 33 = .ok (.aload_n 0, 1) := by decide +kernel
theorem dX7_biscuitOf_34 : decode cX7_biscuitOf 34 = .ok (.getfield 38, 3) := by decide +kernel
theorem dX7_biscuitOf_37 : decode cX7_biscuitOf 37 = .ok (.bipush 12, 2) := by decide +kernel
theorem dX7_biscuitOf_39 : decode cX7_biscuitOf 39 = .ok (.iload_n 1, 1) := by decide +kernel
theorem dX7_biscuitOf_40 : decode cX7_biscuitOf 40 = .ok (.imul, 1) := by decide +kernel
theorem dX7_biscuitOf_41 : decode cX7_biscuitOf 41 = .ok (.iload_n 2, 1) := by decide +kernel
theorem dX7_biscuitOf_42 : decode cX7_biscuitOf 42 = .ok (.iadd, 1) := by decide +kernel
theorem dX7_biscuitOf_43 : decode cX7_biscuitOf 43 = .ok (.bipush 10, 2) := by decide +kernel
theorem dX7_biscuitOf_45 : decode cX7_biscuitOf 45 = .ok (.isub, 1) := by decide +kernel
theorem dX7_biscuitOf_46 : decode cX7_biscuitOf 46 = .ok (.iaload, 1) := by decide +kernel
theorem dX7_biscuitOf_47 : decode cX7_biscuitOf 47 = .ok (.ireturn, 1) := by decide +kernel
theorem dX7_biscuitOf_48 : decode cX7_biscuitOf 48 = .ok (.iconst 0, 1) := by decide +kernel
theorem dX7_biscuitOf_49 : decode cX7_biscuitOf 49 = .ok (.istore_n 3, 1) := by decide +kernel
theorem dX7_biscuitOf_50 : decode cX7_biscuitOf 50 = .ok (.iload_n 2, 1) := by decide +kernel
theorem dX7_biscuitOf_51 : decode cX7_biscuitOf 51 = .ok (.tableswitch 87 0 3 #[29, 36, 43, 50], 29) := by decide +kernel
theorem dX7_biscuitOf_80 : decode cX7_biscuitOf 80 = .ok (.aload_n 0, 1) := by decide +kernel
theorem dX7_biscuitOf_81 : decode cX7_biscuitOf 81 = .ok (.getfield 29, 3) := by decide +kernel
theorem dX7_biscuitOf_84 : decode cX7_biscuitOf 84 = .ok (.iload_n 1, 1) := by decide +kernel
theorem dX7_biscuitOf_85 : decode cX7_biscuitOf 85 = .ok (.iaload, 1) := by decide +kernel
theorem dX7_biscuitOf_86 : decode cX7_biscuitOf 86 = .ok (.ireturn, 1) := by decide +kernel
theorem dX7_biscuitOf_87 : decode cX7_biscuitOf 87 = .ok (.aload_n 0, 1) := by decide +kernel
theorem dX7_biscuitOf_88 : decode cX7_biscuitOf 88 = .ok (.getfield 35, 3) := by decide +kernel
theorem dX7_biscuitOf_91 : decode cX7_biscuitOf 91 = .ok (.iload_n 1, 1) := by decide +kernel
theorem dX7_biscuitOf_92 : decode cX7_biscuitOf 92 = .ok (.iaload, 1) := by decide +kernel
theorem dX7_biscuitOf_93 : decode cX7_biscuitOf 93 = .ok (.ireturn, 1) := by decide +kernel
theorem dX7_biscuitOf_94 : decode cX7_biscuitOf 94 = .ok (.aload_n 0, 1) := by decide +kernel
theorem dX7_biscuitOf_95 : decode cX7_biscuitOf 95 = .ok (.getfield 32, 3) := by decide +kernel
theorem dX7_biscuitOf_98 : decode cX7_biscuitOf 98 = .ok (.iload_n 1, 1) := by decide +kernel
theorem dX7_biscuitOf_99 : decode cX7_biscuitOf 99 = .ok (.iaload, 1) := by decide +kernel
theorem dX7_biscuitOf_100 : decode cX7_biscuitOf 100 = .ok (.ireturn, 1) := by decide +kernel
theorem dX7_biscuitOf_101 : decode cX7_biscuitOf 101 = .ok (.iconst 0, 1) := by decide +kernel
theorem dX7_biscuitOf_102 : decode cX7_biscuitOf 102 = .ok (.istore 4, 2) := by decide +kernel
theorem dX7_biscuitOf_104 : decode cX7_biscuitOf 104 = .ok (.iload 4, 2) := by decide +kernel
theorem dX7_biscuitOf_106 : decode cX7_biscuitOf 106 = .ok (.aload_n 0, 1) := by decide +kernel
theorem dX7_biscuitOf_107 : decode cX7_biscuitOf 107 = .ok (.getfield 35, 3) := by decide +kernel
theorem dX7_biscuitOf_110 : decode cX7_biscuitOf 110 = .ok (.iload_n 1, 1) := by decide +kernel
theorem dX7_biscuitOf_111 : decode cX7_biscuitOf 111 = .ok (.iaload, 1) := by decide +kernel
theorem dX7_biscuitOf_112 : decode cX7_biscuitOf 112 = .ok (.if_icmp .ge 24, 3) := by decide +kernel
theorem dX7_biscuitOf_115 : decode cX7_biscuitOf 115 = .ok (.iload_n 3, 1) := by decide +kernel
theorem dX7_biscuitOf_116 : decode cX7_biscuitOf 116 = .ok (.aload_n 0, 1) := by decide +kernel
theorem dX7_biscuitOf_117 : decode cX7_biscuitOf 117 = .ok (.getfield 38, 3) := by decide +kernel
theorem dX7_biscuitOf_120 : decode cX7_biscuitOf 120 = .ok (.bipush 12, 2) := by decide +kernel
theorem dX7_biscuitOf_122 : decode cX7_biscuitOf 122 = .ok (.iload_n 1, 1) := by decide +kernel
theorem dX7_biscuitOf_123 : decode cX7_biscuitOf 123 = .ok (.imul, 1) := by decide +kernel
theorem dX7_biscuitOf_124 : decode cX7_biscuitOf 124 = .ok (.iload 4, 2) := by decide +kernel
theorem dX7_biscuitOf_126 : decode cX7_biscuitOf 126 = .ok (.iadd, 1) := by decide +kernel
theorem dX7_biscuitOf_127 : decode cX7_biscuitOf 127 = .ok (.iaload, 1) := by decide +kernel
theorem dX7_biscuitOf_128 : decode cX7_biscuitOf 128 = .ok (.iadd, 1) := by decide +kernel
theorem dX7_biscuitOf_129 : decode cX7_biscuitOf 129 = .ok (.istore_n 3, 1) := by decide +kernel
theorem dX7_biscuitOf_130 : decode cX7_biscuitOf 130 = .ok (.iinc 4 1, 3) := by decide +kernel
theorem dX7_biscuitOf_133 : decode cX7_biscuitOf 133 = .ok (.goto (-29), 3) := by decide +kernel
theorem dX7_biscuitOf_136 : decode cX7_biscuitOf 136 = .ok (.iload_n 3, 1) := by decide +kernel
theorem dX7_biscuitOf_137 : decode cX7_biscuitOf 137 = .ok (.ireturn, 1) := by decide +kernel
theorem dX7_biscuitOf_138 : decode cX7_biscuitOf 138 = .ok (.aload_n 0, 1) := by decide +kernel
theorem dX7_biscuitOf_139 : decode cX7_biscuitOf 139 = .ok (.bipush (-5), 2) := by decide +kernel
theorem dX7_biscuitOf_141 : decode cX7_biscuitOf 141 = .ok (.invokevirtual 100, 3) := by decide +kernel
theorem dX7_biscuitOf_144 : decode cX7_biscuitOf 144 = .ok (.ireturn, 1) := by decide +kernel
theorem dX7_wet_0 : decode cX7_wet 0 = .ok (.aload_n 0, 1) := by decide +kernel
theorem dX7_wet_1 : decode cX7_wet 1 = .ok (.iload_n 1, 1) := by decide +kernel
theorem dX7_wet_2 : decode cX7_wet 2 = .ok (.iload_n 2, 1) := by decide +kernel
theorem dX7_wet_3 : decode cX7_wet 3 = .ok (.invokevirtual 112, 3) := by decide +kernel
theorem dX7_wet_6 : decode cX7_wet 6 = .ok (.ifCond .ne 9, 3) := by decide +kernel
theorem dX7_wet_9 : decode cX7_wet 9 = .ok (.aload_n 0, 1) := by decide +kernel
theorem dX7_wet_10 : decode cX7_wet 10 = .ok (.iconst (-1), 1) := by decide +kernel
theorem dX7_wet_11 : decode cX7_wet 11 = .ok (.invokevirtual 100, 3) := by decide +kernel
theorem dX7_wet_14 : decode cX7_wet 14 = .ok (.ireturn, 1) := by decide +kernel
theorem dX7_wet_15 : decode cX7_wet 15 = .ok (.iload_n 3, 1) := by decide +kernel
theorem dX7_wet_16 : decode cX7_wet 16 = .ok (.ifCond .lt 9, 3) := by decide +kernel
theorem dX7_wet_19 : decode cX7_wet 19 = .ok (.iload_n 3, 1) := by decide +kernel
theorem dX7_wet_20 : decode cX7_wet 20 = .ok (.bipush 99, 2) := by decide +kernel
theorem dX7_wet_22 : decode cX7_wet 22 = .ok (.if_icmp .le 10, 3) := by decide +kernel
theorem dX7_wet_25 : decode cX7_wet 25 = .ok (.aload_n 0, 1) := by decide +kernel
theorem dX7_wet_26 : decode cX7_wet 26 = .ok (.bipush (-6), 2) := by decide +kernel
theorem dX7_wet_28 : decode cX7_wet 28 = .ok (.invokevirtual 100, 3) := by decide +kernel
theorem dX7_wet_31 : decode cX7_wet 31 = .ok (.ireturn, 1) := by decide +kernel
theorem dX7_wet_32 : decode cX7_wet 32 = .ok (.aload_n 0, 1) := by decide +kernel
theorem dX7_wet_33 : decode cX7_wet 33 = .ok (.getfield 38, 3) := by decide +kernel
theorem dX7_wet_36 : decode cX7_wet 36 = .ok (.bipush 12, 2) := by decide +kernel
theorem dX7_wet_38 : decode cX7_wet 38 = .ok (.iload_n 1, 1) := by decide +kernel
theorem dX7_wet_39 : decode cX7_wet 39 = .ok (.imul, 1) := by decide +kernel
theorem dX7_wet_40 : decode cX7_wet 40 = .ok (.iload_n 2, 1) := by decide +kernel
theorem dX7_wet_41 : decode cX7_wet 41 = .ok (.iadd, 1) := by decide +kernel
theorem dX7_wet_42 : decode cX7_wet 42 = .ok (.iaload, 1) := by decide +kernel
theorem dX7_wet_43 : decode cX7_wet 43 = .ok (.istore 4, 2) := by decide +kernel
theorem dX7_wet_45 : decode cX7_wet 45 = .ok (.aload_n 0, 1) := by decide +kernel
theorem dX7_wet_46 : decode cX7_wet 46 = .ok (.getfield 38, 3) := by decide +kernel
theorem dX7_wet_49 : decode cX7_wet 49 = .ok (.bipush 12, 2) := by decide +kernel
theorem dX7_wet_51 : decode cX7_wet 51 = .ok (.iload_n 1, 1) := by decide +kernel
theorem dX7_wet_52 : decode cX7_wet 52 = .ok (.imul, 1) := by decide +kernel
theorem dX7_wet_53 : decode cX7_wet 53 = .ok (.iload_n 2, 1) := by decide +kernel
theorem dX7_wet_54 : decode cX7_wet 54 = .ok (.iadd, 1) := by decide +kernel
theorem dX7_wet_55 : decode cX7_wet 55 = .ok (.iload_n 3, 1) := by decide +kernel
theorem dX7_wet_56 : decode cX7_wet 56 = .ok (.iastore, 1) := by decide +kernel
theorem dX7_wet_57 : decode cX7_wet 57 = .ok (.iload 4, 2) := by decide +kernel
theorem dX7_wet_59 : decode cX7_wet 59 = .ok (.ireturn, 1) := by decide +kernel
theorem dX7_ask_0 : decode cX7_ask 0 = .ok (.iload_n 1, 1) := by decide +kernel
theorem dX7_ask_1 : decode cX7_ask 1 = .ok (.ifCond .ne 26, 3) := by decide +kernel
theorem dX7_ask_4 : decode cX7_ask 4 = .ok (.iload_n 2, 1) := by decide +kernel
theorem dX7_ask_5 : decode cX7_ask 5 = .ok (.ifCond .lt 22, 3) := by decide +kernel
theorem dX7_ask_8 : decode cX7_ask 8 = .ok (.iload_n 2, 1) := by decide +kernel
theorem dX7_ask_9 : decode cX7_ask 9 = .ok (.bipush 99, 2) := by decide +kernel
theorem dX7_ask_11 : decode cX7_ask 11 = .ok (.if_icmp .gt 16, 3) := by decide +kernel
theorem dX7_ask_14 : decode cX7_ask 14 = .ok (.aload_n 0, 1) := by decide +kernel
theorem dX7_ask_15 : decode cX7_ask 15 = .ok (.getfield 7, 3) := by decide +kernel
theorem dX7_ask_18 : decode cX7_ask 18 = .ok (.istore_n 3, 1) := by decide +kernel
theorem dX7_ask_19 : decode cX7_ask 19 = .ok (.aload_n 0, 1) := by decide +kernel
theorem dX7_ask_20 : decode cX7_ask 20 = .ok (.iload_n 2, 1) := by decide +kernel
theorem dX7_ask_21 : decode cX7_ask 21 = .ok (.putfield 7, 3) := by decide +kernel
theorem dX7_ask_24 : decode cX7_ask 24 = .ok (.goto 68, 3) := by decide +kernel
theorem dX7_ask_27 : decode cX7_ask 27 = .ok (.iload_n 1, 1) := by decide +kernel
theorem dX7_ask_28 : decode cX7_ask 28 = .ok (.iconst 1, 1) := by decide +kernel
theorem dX7_ask_29 : decode cX7_ask 29 = .ok (.if_icmp .ne 27, 3) := by decide +kernel
theorem dX7_ask_32 : decode cX7_ask 32 = .ok (.iload_n 2, 1) := by decide +kernel
theorem dX7_ask_33 : decode cX7_ask 33 = .ok (.iconst 1, 1) := by decide +kernel
theorem dX7_ask_34 : decode cX7_ask 34 = .ok (.if_icmp .lt 22, 3) := by decide +kernel
theorem dX7_ask_37 : decode cX7_ask 37 = .ok (.iload_n 2, 1) := by decide +kernel
theorem dX7_ask_38 : decode cX7_ask 38 = .ok (.bipush 99, 2) := by decide +kernel
theorem dX7_ask_40 : decode cX7_ask 40 = .ok (.if_icmp .gt 16, 3) := by decide +kernel
theorem dX7_ask_43 : decode cX7_ask 43 = .ok (.aload_n 0, 1) := by decide +kernel
theorem dX7_ask_44 : decode cX7_ask 44 = .ok (.getfield 13, 3) := by decide +kernel
theorem dX7_ask_47 : decode cX7_ask 47 = .ok (.istore_n 3, 1) := by decide +kernel
theorem dX7_ask_48 : decode cX7_ask 48 = .ok (.aload_n 0, 1) := by decide +kernel
theorem dX7_ask_49 : decode cX7_ask 49 = .ok (.iload_n 2, 1) := by decide +kernel
theorem dX7_ask_50 : decode cX7_ask 50 = .ok (.putfield 13, 3) := by decide +kernel
theorem dX7_ask_53 : decode cX7_ask 53 = .ok (.goto 39, 3) := by decide +kernel
theorem dX7_ask_56 : decode cX7_ask 56 = .ok (.iload_n 1, 1) := by decide +kernel
theorem dX7_ask_57 : decode cX7_ask 57 = .ok (.iconst 2, 1) := by decide +kernel
theorem dX7_ask_58 : decode cX7_ask 58 = .ok (.if_icmp .ne 27, 3) := by decide +kernel
theorem dX7_ask_61 : decode cX7_ask 61 = .ok (.iload_n 2, 1) := by decide +kernel
theorem dX7_ask_62 : decode cX7_ask 62 = .ok (.ifCond .lt 23, 3) := by decide +kernel
theorem dX7_ask_65 : decode cX7_ask 65 = .ok (.iload_n 2, 1) := by decide +kernel
theorem dX7_ask_66 : decode cX7_ask 66 = .ok (.sipush 9999, 3) := by decide +kernel
theorem dX7_ask_69 : decode cX7_ask 69 = .ok (.if_icmp .gt 16, 3) := by decide +kernel
theorem dX7_ask_72 : decode cX7_ask 72 = .ok (.aload_n 0, 1) := by decide +kernel
theorem dX7_ask_73 : decode cX7_ask 73 = .ok (.getfield 16, 3) := by decide +kernel
theorem dX7_ask_76 : decode cX7_ask 76 = .ok (.istore_n 3, 1) := by decide +kernel
theorem dX7_ask_77 : decode cX7_ask 77 = .ok (.aload_n 0, 1) := by decide +kernel
theorem dX7_ask_78 : decode cX7_ask 78 = .ok (.iload_n 2, 1) := by decide +kernel
theorem dX7_ask_79 : decode cX7_ask 79 = .ok (.putfield 16, 3) := by decide +kernel
theorem dX7_ask_82 : decode cX7_ask 82 = .ok (.goto 10, 3) := by decide +kernel
theorem dX7_ask_85 : decode cX7_ask 85 = .ok (.aload_n 0, 1) := by decide +kernel
theorem dX7_ask_86 : decode cX7_ask 86 = .ok (.bipush (-6), 2) := by decide +kernel
theorem dX7_ask_88 : decode cX7_ask 88 = .ok (.invokevirtual 100, 3) := by decide +kernel
theorem dX7_ask_91 : decode cX7_ask 91 = .ok (.ireturn, 1) := by decide +kernel
theorem dX7_ask_92 : decode cX7_ask 92 = .ok (.iload_n 3, 1) := by decide +kernel
theorem dX7_ask_93 : decode cX7_ask 93 = .ok (.ireturn, 1) := by decide +kernel
theorem dX7_worthOf_0 : decode cX7_worthOf 0 = .ok (.iload_n 1, 1) := by decide +kernel
theorem dX7_worthOf_1 : decode cX7_worthOf 1 = .ok (.ifCond .lt 19, 3) := by decide +kernel
theorem dX7_worthOf_4 : decode cX7_worthOf 4 = .ok (.iload_n 1, 1) := by decide +kernel
theorem dX7_worthOf_5 : decode cX7_worthOf 5 = .ok (.bipush 9, 2) := by decide +kernel
theorem dX7_worthOf_7 : decode cX7_worthOf 7 = .ok (.if_icmp .gt 13, 3) := by decide +kernel
theorem dX7_worthOf_10 : decode cX7_worthOf 10 = .ok (.iload_n 2, 1) := by decide +kernel
theorem dX7_worthOf_11 : decode cX7_worthOf 11 = .ok (.ifCond .lt 9, 3) := by decide +kernel
theorem dX7_worthOf_14 : decode cX7_worthOf 14 = .ok (.iload_n 2, 1) := by decide +kernel
theorem dX7_worthOf_15 : decode cX7_worthOf 15 = .ok (.bipush 99, 2) := by decide +kernel
theorem dX7_worthOf_17 : decode cX7_worthOf 17 = .ok (.if_icmp .le 10, 3) := by decide +kernel
theorem dX7_worthOf_20 : decode cX7_worthOf 20 = .ok (.aload_n 0, 1) := by decide +kernel
theorem dX7_worthOf_21 : decode cX7_worthOf 21 = .ok (.bipush (-6), 2) := by decide +kernel
theorem dX7_worthOf_23 : decode cX7_worthOf 23 = .ok (.invokevirtual 100, 3) := by decide +kernel
theorem dX7_worthOf_26 : decode cX7_worthOf 26 = .ok (.ireturn, 1) := by decide +kernel
theorem dX7_worthOf_27 : decode cX7_worthOf 27 = .ok (.aload_n 0, 1) := by decide +kernel
theorem dX7_worthOf_28 : decode cX7_worthOf 28 = .ok (.getfield 41, 3) := by decide +kernel
theorem dX7_worthOf_31 : decode cX7_worthOf 31 = .ok (.iload_n 1, 1) := by decide +kernel
theorem dX7_worthOf_32 : decode cX7_worthOf 32 = .ok (.iaload, 1) := by decide +kernel
theorem dX7_worthOf_33 : decode cX7_worthOf 33 = .ok (.istore_n 3, 1) := by decide +kernel
theorem dX7_worthOf_34 : decode cX7_worthOf 34 = .ok (.aload_n 0, 1) := by decide +kernel
theorem dX7_worthOf_35 : decode cX7_worthOf 35 = .ok (.getfield 41, 3) := by decide +kernel
theorem dX7_worthOf_38 : decode cX7_worthOf 38 = .ok (.iload_n 1, 1) := by decide +kernel
theorem dX7_worthOf_39 : decode cX7_worthOf 39 = .ok (.iload_n 2, 1) := by decide +kernel
theorem dX7_worthOf_40 : decode cX7_worthOf 40 = .ok (.iastore, 1) := by decide +kernel
theorem dX7_worthOf_41 : decode cX7_worthOf 41 = .ok (.iload_n 3, 1) := by decide +kernel
theorem dX7_worthOf_42 : decode cX7_worthOf 42 = .ok (.ireturn, 1) := by decide +kernel
theorem dX7_wrong_0 : decode cX7_wrong 0 = .ok (.aload_n 0, 1) := by decide +kernel
theorem dX7_wrong_1 : decode cX7_wrong 1 = .ok (.iload_n 1, 1) := by decide +kernel
theorem dX7_wrong_2 : decode cX7_wrong 2 = .ok (.putfield 116, 3) := by decide +kernel
theorem dX7_wrong_5 : decode cX7_wrong 5 = .ok (.iconst 0, 1) := by decide +kernel
theorem dX7_wrong_6 : decode cX7_wrong 6 = .ok (.ireturn, 1) := by decide +kernel
theorem dX7_isWordAt_0 : decode cX7_isWordAt 0 = .ok (.iconst 0, 1) := by decide +kernel
theorem dX7_isWordAt_1 : decode cX7_isWordAt 1 = .ok (.istore_n 2, 1) := by decide +kernel
theorem dX7_isWordAt_2 : decode cX7_isWordAt 2 = .ok (.iconst 0, 1) := by decide +kernel
theorem dX7_isWordAt_3 : decode cX7_isWordAt 3 = .ok (.istore_n 3, 1) := by decide +kernel
theorem dX7_isWordAt_4 : decode cX7_isWordAt 4 = .ok (.iload_n 3, 1) := by decide +kernel
theorem dX7_isWordAt_5 : decode cX7_isWordAt 5 = .ok (.iload_n 1, 1) := by decide +kernel
theorem dX7_isWordAt_6 : decode cX7_isWordAt 6 = .ok (.if_icmp .ge 26, 3) := by decide +kernel
theorem dX7_isWordAt_9 : decode cX7_isWordAt 9 = .ok (.iload_n 3, 1) := by decide +kernel
theorem dX7_isWordAt_10 : decode cX7_isWordAt 10 = .ok (.aload_n 0, 1) := by decide +kernel
theorem dX7_isWordAt_11 : decode cX7_isWordAt 11 = .ok (.getfield 63, 3) := by decide +kernel
theorem dX7_isWordAt_14 : decode cX7_isWordAt 14 = .ok (.iload_n 2, 1) := by decide +kernel
theorem dX7_isWordAt_15 : decode cX7_isWordAt 15 = .ok (.iaload, 1) := by decide +kernel
theorem dX7_isWordAt_16 : decode cX7_isWordAt 16 = .ok (.ifCond .ne 7, 3) := by decide +kernel
theorem dX7_isWordAt_19 : decode cX7_isWordAt 19 = .ok (.iconst 1, 1) := by decide +kernel
theorem dX7_isWordAt_20 : decode cX7_isWordAt 20 = .ok (.goto 4, 3) := by decide +kernel
theorem dX7_isWordAt_23 : decode cX7_isWordAt 23 = .ok (.iconst 0, 1) := by decide +kernel
theorem dX7_isWordAt_24 : decode cX7_isWordAt 24 = .ok (.iadd, 1) := by decide +kernel
theorem dX7_isWordAt_25 : decode cX7_isWordAt 25 = .ok (.istore_n 3, 1) := by decide +kernel
theorem dX7_isWordAt_26 : decode cX7_isWordAt 26 = .ok (.iinc 2 1, 3) := by decide +kernel
theorem dX7_isWordAt_29 : decode cX7_isWordAt 29 = .ok (.goto (-25), 3) := by decide +kernel
theorem dX7_isWordAt_32 : decode cX7_isWordAt 32 = .ok (.aload_n 0, 1) := by decide +kernel
theorem dX7_isWordAt_33 : decode cX7_isWordAt 33 = .ok (.getfield 119, 3) := by decide +kernel
theorem dX7_isWordAt_36 : decode cX7_isWordAt 36 = .ok (.istore_n 3, 1) := by decide +kernel
theorem dX7_isWordAt_37 : decode cX7_isWordAt 37 = .ok (.aload_n 0, 1) := by decide +kernel
theorem dX7_isWordAt_38 : decode cX7_isWordAt 38 = .ok (.getfield 63, 3) := by decide +kernel
theorem dX7_isWordAt_41 : decode cX7_isWordAt 41 = .ok (.iload_n 2, 1) := by decide +kernel
theorem dX7_isWordAt_42 : decode cX7_isWordAt 42 = .ok (.iaload, 1) := by decide +kernel
theorem dX7_isWordAt_43 : decode cX7_isWordAt 43 = .ok (.bipush 32, 2) := by decide +kernel
theorem dX7_isWordAt_45 : decode cX7_isWordAt 45 = .ok (.if_icmp .le 41, 3) := by decide +kernel
theorem dX7_isWordAt_48 : decode cX7_isWordAt 48 = .ok (.iload_n 3, 1) := by decide +kernel
theorem dX7_isWordAt_49 : decode cX7_isWordAt 49 = .ok (.aload_n 0, 1) := by decide +kernel
theorem dX7_isWordAt_50 : decode cX7_isWordAt 50 = .ok (.getfield 122, 3) := by decide +kernel
theorem dX7_isWordAt_53 : decode cX7_isWordAt 53 = .ok (.if_icmp .ge 33, 3) := by decide +kernel
theorem dX7_isWordAt_56 : decode cX7_isWordAt 56 = .ok (.aload_n 0, 1) := by decide +kernel
theorem dX7_isWordAt_57 : decode cX7_isWordAt 57 = .ok (.getfield 56, 3) := by decide +kernel
theorem dX7_isWordAt_60 : decode cX7_isWordAt 60 = .ok (.aload_n 0, 1) := by decide +kernel
theorem dX7_isWordAt_61 : decode cX7_isWordAt 61 = .ok (.getfield 125, 3) := by decide +kernel
theorem dX7_isWordAt_64 : decode cX7_isWordAt 64 = .ok (.iload_n 3, 1) := by decide +kernel
theorem dX7_isWordAt_65 : decode cX7_isWordAt 65 = .ok (.iadd, 1) := by decide +kernel
theorem dX7_isWordAt_66 : decode cX7_isWordAt 66 = .ok (.laload, 1) := by decide +kernel
theorem dX7_isWordAt_67 : decode cX7_isWordAt 67 = .ok (.l2i, 1) := by decide +kernel
theorem dX7_isWordAt_68 : decode cX7_isWordAt 68 = .ok (.aload_n 0, 1) := by decide +kernel
theorem dX7_isWordAt_69 : decode cX7_isWordAt 69 = .ok (.getfield 63, 3) := by decide +kernel
theorem dX7_isWordAt_72 : decode cX7_isWordAt 72 = .ok (.iload_n 2, 1) := by decide +kernel
theorem dX7_isWordAt_73 : decode cX7_isWordAt 73 = .ok (.iaload, 1) := by decide +kernel
theorem dX7_isWordAt_74 : decode cX7_isWordAt 74 = .ok (.if_icmp .ne 12, 3) := by decide +kernel
theorem dX7_isWordAt_77 : decode cX7_isWordAt 77 = .ok (.iinc 3 1, 3) := by decide +kernel
theorem dX7_isWordAt_80 : decode cX7_isWordAt 80 = .ok (.iinc 2 1, 3) := by decide +kernel
theorem dX7_isWordAt_83 : decode cX7_isWordAt 83 = .ok (.goto (-46), 3) := by decide +kernel
theorem dX7_isWordAt_86 : decode cX7_isWordAt 86 = .ok (.aload_n 0, 1) := by decide +kernel
theorem dX7_isWordAt_87 : decode cX7_isWordAt 87 = .ok (.getfield 63, 3) := by decide +kernel
theorem dX7_isWordAt_90 : decode cX7_isWordAt 90 = .ok (.iload_n 2, 1) := by decide +kernel
theorem dX7_isWordAt_91 : decode cX7_isWordAt 91 = .ok (.iaload, 1) := by decide +kernel
theorem dX7_isWordAt_92 : decode cX7_isWordAt 92 = .ok (.bipush 32, 2) := by decide +kernel
theorem dX7_isWordAt_94 : decode cX7_isWordAt 94 = .ok (.if_icmp .gt 7, 3) := by decide +kernel
theorem dX7_isWordAt_97 : decode cX7_isWordAt 97 = .ok (.iconst 1, 1) := by decide +kernel
theorem dX7_isWordAt_98 : decode cX7_isWordAt 98 = .ok (.goto 4, 3) := by decide +kernel
theorem dX7_isWordAt_101 : decode cX7_isWordAt 101 = .ok (.iconst 0, 1) := by decide +kernel
theorem dX7_isWordAt_102 : decode cX7_isWordAt 102 = .ok (.ireturn, 1) := by decide +kernel
theorem dX7_word_0 : decode cX7_word 0 = .ok (.iconst 0, 1) := by decide +kernel
theorem dX7_word_1 : decode cX7_word 1 = .ok (.istore_n 1, 1) := by decide +kernel
theorem dX7_word_2 : decode cX7_word 2 = .ok (.aload_n 0, 1) := by decide +kernel
theorem dX7_word_3 : decode cX7_word 3 = .ok (.getfield 119, 3) := by decide +kernel
theorem dX7_word_6 : decode cX7_word 6 = .ok (.istore_n 2, 1) := by decide +kernel
theorem dX7_word_7 : decode cX7_word 7 = .ok (.iconst 0, 1) := by decide +kernel
theorem dX7_word_8 : decode cX7_word 8 = .ok (.istore_n 3, 1) := by decide +kernel
theorem dX7_word_9 : decode cX7_word 9 = .ok (.iload_n 3, 1) := by decide +kernel
theorem dX7_word_10 : decode cX7_word 10 = .ok (.bipush 7, 2) := by decide +kernel
theorem dX7_word_12 : decode cX7_word 12 = .ok (.if_icmp .ge 118, 3) := by decide +kernel
theorem dX7_word_15 : decode cX7_word 15 = .ok (.aload_n 0, 1) := by decide +kernel
theorem dX7_word_16 : decode cX7_word 16 = .ok (.getfield 119, 3) := by decide +kernel
theorem dX7_word_19 : decode cX7_word 19 = .ok (.istore 4, 2) := by decide +kernel
theorem dX7_word_21 : decode cX7_word 21 = .ok (.iload_n 1, 1) := by decide +kernel
theorem dX7_word_22 : decode cX7_word 22 = .ok (.istore 5, 2) := by decide +kernel
theorem dX7_word_24 : decode cX7_word 24 = .ok (.aload_n 0, 1) := by decide +kernel
theorem dX7_word_25 : decode cX7_word 25 = .ok (.getfield 63, 3) := by decide +kernel
theorem dX7_word_28 : decode cX7_word 28 = .ok (.iload 5, 2) := by decide +kernel
theorem dX7_word_30 : decode cX7_word 30 = .ok (.iaload, 1) := by decide +kernel
theorem dX7_word_31 : decode cX7_word 31 = .ok (.ifCond .eq 44, 3) := by decide +kernel
theorem dX7_word_34 : decode cX7_word 34 = .ok (.iload 4, 2) := by decide +kernel
theorem dX7_word_36 : decode cX7_word 36 = .ok (.aload_n 0, 1) := by decide +kernel
theorem dX7_word_37 : decode cX7_word 37 = .ok (.getfield 122, 3) := by decide +kernel
theorem dX7_word_40 : decode cX7_word 40 = .ok (.if_icmp .ge 35, 3) := by decide +kernel
theorem dX7_word_43 : decode cX7_word 43 = .ok (.aload_n 0, 1) := by decide +kernel
theorem dX7_word_44 : decode cX7_word 44 = .ok (.getfield 56, 3) := by decide +kernel
theorem dX7_word_47 : decode cX7_word 47 = .ok (.aload_n 0, 1) := by decide +kernel
theorem dX7_word_48 : decode cX7_word 48 = .ok (.getfield 125, 3) := by decide +kernel
theorem dX7_word_51 : decode cX7_word 51 = .ok (.iload 4, 2) := by decide +kernel
theorem dX7_word_53 : decode cX7_word 53 = .ok (.iadd, 1) := by decide +kernel
theorem dX7_word_54 : decode cX7_word 54 = .ok (.laload, 1) := by decide +kernel
theorem dX7_word_55 : decode cX7_word 55 = .ok (.l2i, 1) := by decide +kernel
theorem dX7_word_56 : decode cX7_word 56 = .ok (.aload_n 0, 1) := by decide +kernel
theorem dX7_word_57 : decode cX7_word 57 = .ok (.getfield 63, 3) := by decide +kernel
theorem dX7_word_60 : decode cX7_word 60 = .ok (.iload 5, 2) := by decide +kernel
theorem dX7_word_62 : decode cX7_word 62 = .ok (.iaload, 1) := by decide +kernel
theorem dX7_word_63 : decode cX7_word 63 = .ok (.if_icmp .ne 12, 3) := by decide +kernel
theorem dX7_word_66 : decode cX7_word 66 = .ok (.iinc 4 1, 3) := by decide +kernel
theorem dX7_word_69 : decode cX7_word 69 = .ok (.iinc 5 1, 3) := by decide +kernel
theorem dX7_word_72 : decode cX7_word 72 = .ok (.goto (-48), 3) := by decide +kernel
theorem dX7_word_75 : decode cX7_word 75 = .ok (.aload_n 0, 1) := by decide +kernel
theorem dX7_word_76 : decode cX7_word 76 = .ok (.getfield 63, 3) := by decide +kernel
theorem dX7_word_79 : decode cX7_word 79 = .ok (.iload 5, 2) := by decide +kernel
theorem dX7_word_81 : decode cX7_word 81 = .ok (.iaload, 1) := by decide +kernel
theorem dX7_word_82 : decode cX7_word 82 = .ok (.ifCond .ne 11, 3) := by decide +kernel
theorem dX7_word_85 : decode cX7_word 85 = .ok (.aload_n 0, 1) := by decide +kernel
theorem dX7_word_86 : decode cX7_word 86 = .ok (.iload 4, 2) := by decide +kernel
theorem dX7_word_88 : decode cX7_word 88 = .ok (.putfield 119, 3) := by decide +kernel
theorem dX7_word_91 : decode cX7_word 91 = .ok (.iload_n 3, 1) := by decide +kernel
theorem dX7_word_92 : decode cX7_word 92 = .ok (.ireturn, 1) := by decide +kernel
theorem dX7_word_93 : decode cX7_word 93 = .ok (.iload 4, 2) := by decide +kernel
theorem dX7_word_95 : decode cX7_word 95 = .ok (.iload_n 2, 1) := by decide +kernel
theorem dX7_word_96 : decode cX7_word 96 = .ok (.if_icmp .le 8, 3) := by decide +kernel
theorem dX7_word_99 : decode cX7_word 99 = .ok (.iload 4, 2) := by decide +kernel
theorem dX7_word_101 : decode cX7_word 101 = .ok (.goto 4, 3) := by decide +kernel
theorem dX7_word_104 : decode cX7_word 104 = .ok (.iload_n 2, 1) := by decide +kernel
theorem dX7_word_105 : decode cX7_word 105 = .ok (.istore_n 2, 1) := by decide +kernel
theorem dX7_word_106 : decode cX7_word 106 = .ok (.aload_n 0, 1) := by decide +kernel
theorem dX7_word_107 : decode cX7_word 107 = .ok (.getfield 63, 3) := by decide +kernel
theorem dX7_word_110 : decode cX7_word 110 = .ok (.iload_n 1, 1) := by decide +kernel
theorem dX7_word_111 : decode cX7_word 111 = .ok (.iaload, 1) := by decide +kernel
theorem dX7_word_112 : decode cX7_word 112 = .ok (.ifCond .eq 9, 3) := by decide +kernel
theorem dX7_word_115 : decode cX7_word 115 = .ok (.iinc 1 1, 3) := by decide +kernel
theorem dX7_word_118 : decode cX7_word 118 = .ok (.goto (-12), 3) := by decide +kernel
theorem dX7_word_121 : decode cX7_word 121 = .ok (.iinc 1 1, 3) := by decide +kernel
theorem dX7_word_124 : decode cX7_word 124 = .ok (.iinc 3 1, 3) := by decide +kernel
theorem dX7_word_127 : decode cX7_word 127 = .ok (.goto (-118), 3) := by decide +kernel
theorem dX7_word_130 : decode cX7_word 130 = .ok (.aload_n 0, 1) := by decide +kernel
theorem dX7_word_131 : decode cX7_word 131 = .ok (.iload_n 2, 1) := by decide +kernel
theorem dX7_word_132 : decode cX7_word 132 = .ok (.putfield 116, 3) := by decide +kernel
theorem dX7_word_135 : decode cX7_word 135 = .ok (.iconst (-1), 1) := by decide +kernel
theorem dX7_word_136 : decode cX7_word 136 = .ok (.ireturn, 1) := by decide +kernel
theorem dX7_isDigit_0 : decode cX7_isDigit 0 = .ok (.aload_n 0, 1) := by decide +kernel
theorem dX7_isDigit_1 : decode cX7_isDigit 1 = .ok (.getfield 119, 3) := by decide +kernel
theorem dX7_isDigit_4 : decode cX7_isDigit 4 = .ok (.aload_n 0, 1) := by decide +kernel
theorem dX7_isDigit_5 : decode cX7_isDigit 5 = .ok (.getfield 122, 3) := by decide +kernel
theorem dX7_isDigit_8 : decode cX7_isDigit 8 = .ok (.if_icmp .ge 47, 3) := by decide +kernel
theorem dX7_isDigit_11 : decode cX7_isDigit 11 = .ok (.aload_n 0, 1) := by decide +kernel
theorem dX7_isDigit_12 : decode cX7_isDigit 12 = .ok (.getfield 56, 3) := by decide +kernel
theorem dX7_isDigit_15 : decode cX7_isDigit 15 = .ok (.aload_n 0, 1) := by decide +kernel
theorem dX7_isDigit_16 : decode cX7_isDigit 16 = .ok (.getfield 125, 3) := by decide +kernel
theorem dX7_isDigit_19 : decode cX7_isDigit 19 = .ok (.aload_n 0, 1) := by decide +kernel
theorem dX7_isDigit_20 : decode cX7_isDigit 20 = .ok (.getfield 119, 3) := by decide +kernel
theorem dX7_isDigit_23 : decode cX7_isDigit 23 = .ok (.iadd, 1) := by decide +kernel
theorem dX7_isDigit_24 : decode cX7_isDigit 24 = .ok (.laload, 1) := by decide +kernel
theorem dX7_isDigit_25 : decode cX7_isDigit 25 = .ok (.l2i, 1) := by decide +kernel
theorem dX7_isDigit_26 : decode cX7_isDigit 26 = .ok (.bipush 48, 2) := by decide +kernel
theorem dX7_isDigit_28 : decode cX7_isDigit 28 = .ok (.if_icmp .lt 27, 3) := by decide +kernel
theorem dX7_isDigit_31 : decode cX7_isDigit 31 = .ok (.aload_n 0, 1) := by decide +kernel
theorem dX7_isDigit_32 : decode cX7_isDigit 32 = .ok (.getfield 56, 3) := by decide +kernel
theorem dX7_isDigit_35 : decode cX7_isDigit 35 = .ok (.aload_n 0, 1) := by decide +kernel
theorem dX7_isDigit_36 : decode cX7_isDigit 36 = .ok (.getfield 125, 3) := by decide +kernel
theorem dX7_isDigit_39 : decode cX7_isDigit 39 = .ok (.aload_n 0, 1) := by decide +kernel
theorem dX7_isDigit_40 : decode cX7_isDigit 40 = .ok (.getfield 119, 3) := by decide +kernel
theorem dX7_isDigit_43 : decode cX7_isDigit 43 = .ok (.iadd, 1) := by decide +kernel
theorem dX7_isDigit_44 : decode cX7_isDigit 44 = .ok (.laload, 1) := by decide +kernel
theorem dX7_isDigit_45 : decode cX7_isDigit 45 = .ok (.l2i, 1) := by decide +kernel
theorem dX7_isDigit_46 : decode cX7_isDigit 46 = .ok (.bipush 57, 2) := by decide +kernel
theorem dX7_isDigit_48 : decode cX7_isDigit 48 = .ok (.if_icmp .gt 7, 3) := by decide +kernel
theorem dX7_isDigit_51 : decode cX7_isDigit 51 = .ok (.iconst 1, 1) := by decide +kernel
theorem dX7_isDigit_52 : decode cX7_isDigit 52 = .ok (.goto 4, 3) := by decide +kernel
theorem dX7_isDigit_55 : decode cX7_isDigit 55 = .ok (.iconst 0, 1) := by decide +kernel
theorem dX7_isDigit_56 : decode cX7_isDigit 56 = .ok (.ireturn, 1) := by decide +kernel
theorem dX7_number_0 : decode cX7_number 0 = .ok (.aload_n 0, 1) := by decide +kernel
theorem dX7_number_1 : decode cX7_number 1 = .ok (.iconst 0, 1) := by decide +kernel
theorem dX7_number_2 : decode cX7_number 2 = .ok (.putfield 128, 3) := by decide +kernel
theorem dX7_number_5 : decode cX7_number 5 = .ok (.aload_n 0, 1) := by decide +kernel
theorem dX7_number_6 : decode cX7_number 6 = .ok (.invokevirtual 131, 3) := by decide +kernel
theorem dX7_number_9 : decode cX7_number 9 = .ok (.ifCond .ne 12, 3) := by decide +kernel
theorem dX7_number_12 : decode cX7_number 12 = .ok (.aload_n 0, 1) := by decide +kernel
theorem dX7_number_13 : decode cX7_number 13 = .ok (.aload_n 0, 1) := by decide +kernel
theorem dX7_number_14 : decode cX7_number 14 = .ok (.getfield 119, 3) := by decide +kernel
theorem dX7_number_17 : decode cX7_number 17 = .ok (.invokevirtual 135, 3) := by decide +kernel
theorem dX7_number_20 : decode cX7_number 20 = .ok (.ireturn, 1) := by decide +kernel
theorem dX7_number_21 : decode cX7_number 21 = .ok (.iconst 0, 1) := by decide +kernel
theorem dX7_number_22 : decode cX7_number 22 = .ok (.istore_n 1, 1) := by decide +kernel
theorem dX7_number_23 : decode cX7_number 23 = .ok (.iload_n 1, 1) := by decide +kernel
theorem dX7_number_24 : decode cX7_number 24 = .ok (.iconst 4, 1) := by decide +kernel
theorem dX7_number_25 : decode cX7_number 25 = .ok (.if_icmp .ge 56, 3) := by decide +kernel
theorem dX7_number_28 : decode cX7_number 28 = .ok (.aload_n 0, 1) := by decide +kernel
theorem dX7_number_29 : decode cX7_number 29 = .ok (.invokevirtual 131, 3) := by decide +kernel
theorem dX7_number_32 : decode cX7_number 32 = .ok (.ifCond .eq 49, 3) := by decide +kernel
theorem dX7_number_35 : decode cX7_number 35 = .ok (.aload_n 0, 1) := by decide +kernel
theorem dX7_number_36 : decode cX7_number 36 = .ok (.bipush 10, 2) := by decide +kernel
theorem dX7_number_38 : decode cX7_number 38 = .ok (.aload_n 0, 1) := by decide +kernel
theorem dX7_number_39 : decode cX7_number 39 = .ok (.getfield 128, 3) := by decide +kernel
theorem dX7_number_42 : decode cX7_number 42 = .ok (.imul, 1) := by decide +kernel
theorem dX7_number_43 : decode cX7_number 43 = .ok (.aload_n 0, 1) := by decide +kernel
theorem dX7_number_44 : decode cX7_number 44 = .ok (.getfield 56, 3) := by decide +kernel
theorem dX7_number_47 : decode cX7_number 47 = .ok (.aload_n 0, 1) := by decide +kernel
theorem dX7_number_48 : decode cX7_number 48 = .ok (.getfield 125, 3) := by decide +kernel
theorem dX7_number_51 : decode cX7_number 51 = .ok (.aload_n 0, 1) := by decide +kernel
theorem dX7_number_52 : decode cX7_number 52 = .ok (.getfield 119, 3) := by decide +kernel
theorem dX7_number_55 : decode cX7_number 55 = .ok (.iadd, 1) := by decide +kernel
theorem dX7_number_56 : decode cX7_number 56 = .ok (.laload, 1) := by decide +kernel
theorem dX7_number_57 : decode cX7_number 57 = .ok (.l2i, 1) := by decide +kernel
theorem dX7_number_58 : decode cX7_number 58 = .ok (.iadd, 1) := by decide +kernel
theorem dX7_number_59 : decode cX7_number 59 = .ok (.bipush 48, 2) := by decide +kernel
theorem dX7_number_61 : decode cX7_number 61 = .ok (.isub, 1) := by decide +kernel
theorem dX7_number_62 : decode cX7_number 62 = .ok (.putfield 128, 3) := by decide +kernel
theorem dX7_number_65 : decode cX7_number 65 = .ok (.aload_n 0, 1) := by decide +kernel
theorem dX7_number_66 : decode cX7_number 66 = .ok (.dup, 1) := by decide +kernel
theorem dX7_number_67 : decode cX7_number 67 = .ok (.getfield 119, 3) := by decide +kernel
theorem dX7_number_70 : decode cX7_number 70 = .ok (.iconst 1, 1) := by decide +kernel
theorem dX7_number_71 : decode cX7_number 71 = .ok (.iadd, 1) := by decide +kernel
theorem dX7_number_72 : decode cX7_number 72 = .ok (.putfield 119, 3) := by decide +kernel
theorem dX7_number_75 : decode cX7_number 75 = .ok (.iinc 1 1, 3) := by decide +kernel
theorem dX7_number_78 : decode cX7_number 78 = .ok (.goto (-55), 3) := by decide +kernel
theorem dX7_number_81 : decode cX7_number 81 = .ok (.iconst 1, 1) := by decide +kernel
theorem dX7_number_82 : decode cX7_number 82 = .ok (.ireturn, 1) := by decide +kernel
theorem dX7_isSo_0 : decode cX7_isSo 0 = .ok (.iload_n 1, 1) := by decide +kernel
theorem dX7_isSo_1 : decode cX7_isSo 1 = .ok (.tableswitch 238 0 5 #[39, 105, 174, 189, 212, 214], 39) := by decide +kernel
theorem dX7_isSo_40 : decode cX7_isSo 40 = .ok (.iload_n 2, 1) := by decide +kernel
theorem dX7_isSo_41 : decode cX7_isSo 41 = .ok (.ifCond .ne 20, 3) := by decide +kernel
theorem dX7_isSo_44 : decode cX7_isSo 44 = .ok (.aload_n 0, 1) := by decide +kernel
theorem dX7_isSo_45 : decode cX7_isSo 45 = .ok (.getfield 128, 3) := by decide +kernel
theorem dX7_isSo_48 : decode cX7_isSo 48 = .ok (.bipush 6, 2) := by decide +kernel
theorem dX7_isSo_50 : decode cX7_isSo 50 = .ok (.if_icmp .gt 7, 3) := by decide +kernel
theorem dX7_isSo_53 : decode cX7_isSo 53 = .ok (.iconst 1, 1) := by decide +kernel
theorem dX7_isSo_54 : decode cX7_isSo 54 = .ok (.goto 51, 3) := by decide +kernel
theorem dX7_isSo_57 : decode cX7_isSo 57 = .ok (.iconst 0, 1) := by decide +kernel
theorem dX7_isSo_58 : decode cX7_isSo 58 = .ok (.goto 47, 3) := by decide +kernel
theorem dX7_isSo_61 : decode cX7_isSo 61 = .ok (.iload_n 2, 1) := by decide +kernel
theorem dX7_isSo_62 : decode cX7_isSo 62 = .ok (.iconst 1, 1) := by decide +kernel
theorem dX7_isSo_63 : decode cX7_isSo 63 = .ok (.if_icmp .ne 28, 3) := by decide +kernel
theorem dX7_isSo_66 : decode cX7_isSo 66 = .ok (.aload_n 0, 1) := by decide +kernel
theorem dX7_isSo_67 : decode cX7_isSo 67 = .ok (.getfield 128, 3) := by decide +kernel
theorem dX7_isSo_70 : decode cX7_isSo 70 = .ok (.iconst 1, 1) := by decide +kernel
theorem dX7_isSo_71 : decode cX7_isSo 71 = .ok (.if_icmp .lt 16, 3) := by decide +kernel
theorem dX7_isSo_74 : decode cX7_isSo 74 = .ok (.aload_n 0, 1) := by decide +kernel
theorem dX7_isSo_75 : decode cX7_isSo 75 = .ok (.getfield 128, 3) := by decide +kernel
theorem dX7_isSo_78 : decode cX7_isSo 78 = .ok (.bipush 12, 2) := by decide +kernel
theorem dX7_isSo_80 : decode cX7_isSo 80 = .ok (.if_icmp .gt 7, 3) := by decide +kernel
theorem dX7_isSo_83 : decode cX7_isSo 83 = .ok (.iconst 1, 1) := by decide +kernel
theorem dX7_isSo_84 : decode cX7_isSo 84 = .ok (.goto 21, 3) := by decide +kernel
theorem dX7_isSo_87 : decode cX7_isSo 87 = .ok (.iconst 0, 1) := by decide +kernel
theorem dX7_isSo_88 : decode cX7_isSo 88 = .ok (.goto 17, 3) := by decide +kernel
theorem dX7_isSo_91 : decode cX7_isSo 91 = .ok (.aload_n 0, 1) := by decide +kernel
theorem dX7_isSo_92 : decode cX7_isSo 92 = .ok (.getfield 128, 3) := by decide +kernel
theorem dX7_isSo_95 : decode cX7_isSo 95 = .ok (.bipush 9, 2) := by decide +kernel
theorem dX7_isSo_97 : decode cX7_isSo 97 = .ok (.if_icmp .gt 7, 3) := by decide +kernel
theorem dX7_isSo_100 : decode cX7_isSo 100 = .ok (.iconst 1, 1) := by decide +kernel
theorem dX7_isSo_101 : decode cX7_isSo 101 = .ok (.goto 4, 3) := by decide +kernel
theorem dX7_isSo_104 : decode cX7_isSo 104 = .ok (.iconst 0, 1) := by decide +kernel
theorem dX7_isSo_105 : decode cX7_isSo 105 = .ok (.ireturn, 1) := by decide +kernel
theorem dX7_isSo_106 : decode cX7_isSo 106 = .ok (.iload_n 2, 1) := by decide +kernel
theorem dX7_isSo_107 : decode cX7_isSo 107 = .ok (.ifCond .ne 22, 3) := by decide +kernel
theorem dX7_isSo_110 : decode cX7_isSo 110 = .ok (.aload_n 0, 1) := by decide +kernel
theorem dX7_isSo_111 : decode cX7_isSo 111 = .ok (.getfield 128, 3) := by decide +kernel
theorem dX7_isSo_114 : decode cX7_isSo 114 = .ok (.aload_n 0, 1) := by decide +kernel
theorem dX7_isSo_115 : decode cX7_isSo 115 = .ok (.getfield 90, 3) := by decide +kernel
theorem dX7_isSo_118 : decode cX7_isSo 118 = .ok (.if_icmp .ge 7, 3) := by decide +kernel
theorem dX7_isSo_121 : decode cX7_isSo 121 = .ok (.iconst 1, 1) := by decide +kernel
theorem dX7_isSo_122 : decode cX7_isSo 122 = .ok (.goto 52, 3) := by decide +kernel
theorem dX7_isSo_125 : decode cX7_isSo 125 = .ok (.iconst 0, 1) := by decide +kernel
theorem dX7_isSo_126 : decode cX7_isSo 126 = .ok (.goto 48, 3) := by decide +kernel
theorem dX7_isSo_129 : decode cX7_isSo 129 = .ok (.iload_n 2, 1) := by decide +kernel
theorem dX7_isSo_130 : decode cX7_isSo 130 = .ok (.iconst 1, 1) := by decide +kernel
theorem dX7_isSo_131 : decode cX7_isSo 131 = .ok (.if_icmp .ne 29, 3) := by decide +kernel
theorem dX7_isSo_134 : decode cX7_isSo 134 = .ok (.aload_n 0, 1) := by decide +kernel
theorem dX7_isSo_135 : decode cX7_isSo 135 = .ok (.getfield 128, 3) := by decide +kernel
theorem dX7_isSo_138 : decode cX7_isSo 138 = .ok (.aload_n 0, 1) := by decide +kernel
theorem dX7_isSo_139 : decode cX7_isSo 139 = .ok (.getfield 35, 3) := by decide +kernel
theorem dX7_isSo_142 : decode cX7_isSo 142 = .ok (.aload_n 0, 1) := by decide +kernel
theorem dX7_isSo_143 : decode cX7_isSo 143 = .ok (.getfield 66, 3) := by decide +kernel
theorem dX7_isSo_146 : decode cX7_isSo 146 = .ok (.iconst 0, 1) := by decide +kernel
theorem dX7_isSo_147 : decode cX7_isSo 147 = .ok (.iaload, 1) := by decide +kernel
theorem dX7_isSo_148 : decode cX7_isSo 148 = .ok (.iaload, 1) := by decide +kernel
theorem dX7_isSo_149 : decode cX7_isSo 149 = .ok (.if_icmp .ge 7, 3) := by decide +kernel
theorem dX7_isSo_152 : decode cX7_isSo 152 = .ok (.iconst 1, 1) := by decide +kernel
theorem dX7_isSo_153 : decode cX7_isSo 153 = .ok (.goto 21, 3) := by decide +kernel
theorem dX7_isSo_156 : decode cX7_isSo 156 = .ok (.iconst 0, 1) := by decide +kernel
theorem dX7_isSo_157 : decode cX7_isSo 157 = .ok (.goto 17, 3) := by decide +kernel
theorem dX7_isSo_160 : decode cX7_isSo 160 = .ok (.aload_n 0, 1) := by decide +kernel
theorem dX7_isSo_161 : decode cX7_isSo 161 = .ok (.getfield 128, 3) := by decide +kernel
theorem dX7_isSo_164 : decode cX7_isSo 164 = .ok (.bipush 99, 2) := by decide +kernel
theorem dX7_isSo_166 : decode cX7_isSo 166 = .ok (.if_icmp .gt 7, 3) := by decide +kernel
theorem dX7_isSo_169 : decode cX7_isSo 169 = .ok (.iconst 1, 1) := by decide +kernel
theorem dX7_isSo_170 : decode cX7_isSo 170 = .ok (.goto 4, 3) := by decide +kernel
theorem dX7_isSo_173 : decode cX7_isSo 173 = .ok (.iconst 0, 1) := by decide +kernel
theorem dX7_isSo_174 : decode cX7_isSo 174 = .ok (.ireturn, 1) := by decide +kernel
theorem dX7_isSo_175 : decode cX7_isSo 175 = .ok (.aload_n 0, 1) := by decide +kernel
theorem dX7_isSo_176 : decode cX7_isSo 176 = .ok (.getfield 128, 3) := by decide +kernel
theorem dX7_isSo_179 : decode cX7_isSo 179 = .ok (.bipush 99, 2) := by decide +kernel
theorem dX7_isSo_181 : decode cX7_isSo 181 = .ok (.if_icmp .gt 7, 3) := by decide +kernel
theorem dX7_isSo_184 : decode cX7_isSo 184 = .ok (.iconst 1, 1) := by decide +kernel
theorem dX7_isSo_185 : decode cX7_isSo 185 = .ok (.goto 4, 3) := by decide +kernel
theorem dX7_isSo_188 : decode cX7_isSo 188 = .ok (.iconst 0, 1) := by decide +kernel
theorem dX7_isSo_189 : decode cX7_isSo 189 = .ok (.ireturn, 1) := by decide +kernel
theorem dX7_isSo_190 : decode cX7_isSo 190 = .ok (.aload_n 0, 1) := by decide +kernel
theorem dX7_isSo_191 : decode cX7_isSo 191 = .ok (.getfield 128, 3) := by decide +kernel
theorem dX7_isSo_194 : decode cX7_isSo 194 = .ok (.iconst 1, 1) := by decide +kernel
theorem dX7_isSo_195 : decode cX7_isSo 195 = .ok (.if_icmp .lt 16, 3) := by decide +kernel
theorem dX7_isSo_198 : decode cX7_isSo 198 = .ok (.aload_n 0, 1) := by decide +kernel
theorem dX7_isSo_199 : decode cX7_isSo 199 = .ok (.getfield 128, 3) := by decide +kernel
theorem dX7_isSo_202 : decode cX7_isSo 202 = .ok (.bipush 99, 2) := by decide +kernel
theorem dX7_isSo_204 : decode cX7_isSo 204 = .ok (.if_icmp .gt 7, 3) := by decide +kernel
theorem dX7_isSo_207 : decode cX7_isSo 207 = .ok (.iconst 1, 1) := by decide +kernel
theorem dX7_isSo_208 : decode cX7_isSo 208 = .ok (.goto 4, 3) := by decide +kernel
theorem dX7_isSo_211 : decode cX7_isSo 211 = .ok (.iconst 0, 1) := by decide +kernel
theorem dX7_isSo_212 : decode cX7_isSo 212 = .ok (.ireturn, 1) := by decide +kernel
theorem dX7_isSo_213 : decode cX7_isSo 213 = .ok (.iconst 1, 1) := by decide +kernel
theorem dX7_isSo_214 : decode cX7_isSo 214 = .ok (.ireturn, 1) := by decide +kernel
theorem dX7_isSo_215 : decode cX7_isSo 215 = .ok (.aload_n 0, 1) := by decide +kernel
theorem dX7_isSo_216 : decode cX7_isSo 216 = .ok (.getfield 128, 3) := by decide +kernel
theorem dX7_isSo_219 : decode cX7_isSo 219 = .ok (.iload_n 2, 1) := by decide +kernel
theorem dX7_isSo_220 : decode cX7_isSo 220 = .ok (.ifCond .ne 8, 3) := by decide +kernel
theorem dX7_isSo_223 : decode cX7_isSo 223 = .ok (.bipush 9, 2) := by decide +kernel
theorem dX7_isSo_225 : decode cX7_isSo 225 = .ok (.goto 5, 3) := by decide +kernel
theorem dX7_isSo_228 : decode cX7_isSo 228 = .ok (.bipush 99, 2) := by decide +kernel
theorem dX7_isSo_230 : decode cX7_isSo 230 = .ok (.if_icmp .gt 7, 3) := by decide +kernel
theorem dX7_isSo_233 : decode cX7_isSo 233 = .ok (.iconst 1, 1) := by decide +kernel
theorem dX7_isSo_234 : decode cX7_isSo 234 = .ok (.goto 4, 3) := by decide +kernel
theorem dX7_isSo_237 : decode cX7_isSo 237 = .ok (.iconst 0, 1) := by decide +kernel
theorem dX7_isSo_238 : decode cX7_isSo 238 = .ok (.ireturn, 1) := by decide +kernel
theorem dX7_isSo_239 : decode cX7_isSo 239 = .ok (.iload_n 2, 1) := by decide +kernel
theorem dX7_isSo_240 : decode cX7_isSo 240 = .ok (.ifCond .ne 34, 3) := by decide +kernel
theorem dX7_isSo_243 : decode cX7_isSo 243 = .ok (.aload_n 0, 1) := by decide +kernel
theorem dX7_isSo_244 : decode cX7_isSo 244 = .ok (.getfield 128, 3) := by decide +kernel
theorem dX7_isSo_247 : decode cX7_isSo 247 = .ok (.aload_n 0, 1) := by decide +kernel
theorem dX7_isSo_248 : decode cX7_isSo 248 = .ok (.getfield 90, 3) := by decide +kernel
theorem dX7_isSo_251 : decode cX7_isSo 251 = .ok (.if_icmp .ge 19, 3) := by decide +kernel
theorem dX7_isSo_254 : decode cX7_isSo 254 = .ok (.aload_n 0, 1) := by decide +kernel
theorem dX7_isSo_255 : decode cX7_isSo 255 = .ok (.getfield 35, 3) := by decide +kernel
theorem dX7_isSo_258 : decode cX7_isSo 258 = .ok (.aload_n 0, 1) := by decide +kernel
theorem dX7_isSo_259 : decode cX7_isSo 259 = .ok (.getfield 128, 3) := by decide +kernel
theorem dX7_isSo_262 : decode cX7_isSo 262 = .ok (.iaload, 1) := by decide +kernel
theorem dX7_isSo_263 : decode cX7_isSo 263 = .ok (.ifCond .le 7, 3) := by decide +kernel
theorem dX7_isSo_266 : decode cX7_isSo 266 = .ok (.iconst 1, 1) := by decide +kernel
theorem dX7_isSo_267 : decode cX7_isSo 267 = .ok (.goto 31, 3) := by decide +kernel
theorem dX7_isSo_270 : decode cX7_isSo 270 = .ok (.iconst 0, 1) := by decide +kernel
theorem dX7_isSo_271 : decode cX7_isSo 271 = .ok (.goto 27, 3) := by decide +kernel
theorem dX7_isSo_274 : decode cX7_isSo 274 = .ok (.aload_n 0, 1) := by decide +kernel
theorem dX7_isSo_275 : decode cX7_isSo 275 = .ok (.getfield 128, 3) := by decide +kernel
theorem dX7_isSo_278 : decode cX7_isSo 278 = .ok (.iload_n 2, 1) := by decide +kernel
theorem dX7_isSo_279 : decode cX7_isSo 279 = .ok (.iconst 1, 1) := by decide +kernel
theorem dX7_isSo_280 : decode cX7_isSo 280 = .ok (.if_icmp .ne 8, 3) := by decide +kernel
theorem dX7_isSo_283 : decode cX7_isSo 283 = .ok (.bipush 12, 2) := by decide +kernel
theorem dX7_isSo_285 : decode cX7_isSo 285 = .ok (.goto 5, 3) := by decide +kernel
theorem dX7_isSo_288 : decode cX7_isSo 288 = .ok (.bipush 60, 2) := by decide +kernel
theorem dX7_isSo_290 : decode cX7_isSo 290 = .ok (.if_icmp .gt 7, 3) := by decide +kernel
theorem dX7_isSo_293 : decode cX7_isSo 293 = .ok (.iconst 1, 1) := by decide +kernel
theorem dX7_isSo_294 : decode cX7_isSo 294 = .ok (.goto 4, 3) := by decide +kernel
theorem dX7_isSo_297 : decode cX7_isSo 297 = .ok (.iconst 0, 1) := by decide +kernel
theorem dX7_isSo_298 : decode cX7_isSo 298 = .ok (.ireturn, 1) := by decide +kernel
theorem dX7_item_0 : decode cX7_item 0 = .ok (.aload_n 0, 1) := by decide +kernel
theorem dX7_item_1 : decode cX7_item 1 = .ok (.iconst 0, 1) := by decide +kernel
theorem dX7_item_2 : decode cX7_item 2 = .ok (.invokevirtual 138, 3) := by decide +kernel
theorem dX7_item_5 : decode cX7_item 5 = .ok (.ifCond .eq 21, 3) := by decide +kernel
theorem dX7_item_8 : decode cX7_item 8 = .ok (.aload_n 0, 1) := by decide +kernel
theorem dX7_item_9 : decode cX7_item 9 = .ok (.getfield 90, 3) := by decide +kernel
theorem dX7_item_12 : decode cX7_item 12 = .ok (.bipush 6, 2) := by decide +kernel
theorem dX7_item_14 : decode cX7_item 14 = .ok (.if_icmp .ne 12, 3) := by decide +kernel
theorem dX7_item_17 : decode cX7_item 17 = .ok (.aload_n 0, 1) := by decide +kernel
theorem dX7_item_18 : decode cX7_item 18 = .ok (.aload_n 0, 1) := by decide +kernel
theorem dX7_item_19 : decode cX7_item 19 = .ok (.getfield 119, 3) := by decide +kernel
theorem dX7_item_22 : decode cX7_item 22 = .ok (.invokevirtual 135, 3) := by decide +kernel
theorem dX7_item_25 : decode cX7_item 25 = .ok (.ireturn, 1) := by decide +kernel
theorem dX7_item_26 : decode cX7_item 26 = .ok (.aload_n 0, 1) := by decide +kernel
theorem dX7_item_27 : decode cX7_item 27 = .ok (.invokevirtual 141, 3) := by decide +kernel
theorem dX7_item_30 : decode cX7_item 30 = .ok (.istore_n 1, 1) := by decide +kernel
theorem dX7_item_31 : decode cX7_item 31 = .ok (.iload_n 1, 1) := by decide +kernel
theorem dX7_item_32 : decode cX7_item 32 = .ok (.iconst (-1), 1) := by decide +kernel
theorem dX7_item_33 : decode cX7_item 33 = .ok (.if_icmp .ne 5, 3) := by decide +kernel
theorem dX7_item_36 : decode cX7_item 36 = .ok (.iconst 0, 1) := by decide +kernel
theorem dX7_item_37 : decode cX7_item 37 = .ok (.ireturn, 1) := by decide +kernel
theorem dX7_item_38 : decode cX7_item 38 = .ok (.iload_n 1, 1) := by decide +kernel
theorem dX7_item_39 : decode cX7_item 39 = .ok (.iconst 2, 1) := by decide +kernel
theorem dX7_item_40 : decode cX7_item 40 = .ok (.if_icmp .lt 9, 3) := by decide +kernel
theorem dX7_item_43 : decode cX7_item 43 = .ok (.iload_n 1, 1) := by decide +kernel
theorem dX7_item_44 : decode cX7_item 44 = .ok (.bipush 6, 2) := by decide +kernel
theorem dX7_item_46 : decode cX7_item 46 = .ok (.if_icmp .ne 7, 3) := by decide +kernel
theorem dX7_item_49 : decode cX7_item 49 = .ok (.iconst 3, 1) := by decide +kernel
theorem dX7_item_50 : decode cX7_item 50 = .ok (.goto 13, 3) := by decide +kernel
theorem dX7_item_53 : decode cX7_item 53 = .ok (.iload_n 1, 1) := by decide +kernel
theorem dX7_item_54 : decode cX7_item 54 = .ok (.iconst 5, 1) := by decide +kernel
theorem dX7_item_55 : decode cX7_item 55 = .ok (.if_icmp .ne 7, 3) := by decide +kernel
theorem dX7_item_58 : decode cX7_item 58 = .ok (.iconst 2, 1) := by decide +kernel
theorem dX7_item_59 : decode cX7_item 59 = .ok (.goto 4, 3) := by decide +kernel
theorem dX7_item_62 : decode cX7_item 62 = .ok (.iconst 1, 1) := by decide +kernel
theorem dX7_item_63 : decode cX7_item 63 = .ok (.istore_n 2, 1) := by decide +kernel
theorem dX7_item_64 : decode cX7_item 64 = .ok (.iconst 0, 1) := by decide +kernel
theorem dX7_item_65 : decode cX7_item 65 = .ok (.istore_n 3, 1) := by decide +kernel
theorem dX7_item_66 : decode cX7_item 66 = .ok (.iload_n 3, 1) := by decide +kernel
theorem dX7_item_67 : decode cX7_item 67 = .ok (.iload_n 2, 1) := by decide +kernel
theorem dX7_item_68 : decode cX7_item 68 = .ok (.if_icmp .ge 104, 3) := by decide +kernel
theorem dX7_item_71 : decode cX7_item 71 = .ok (.iload_n 3, 1) := by decide +kernel
theorem dX7_item_72 : decode cX7_item 72 = .ok (.ifCond .le 53, 3) := by decide +kernel
theorem dX7_item_75 : decode cX7_item 75 = .ok (.aload_n 0, 1) := by decide +kernel
theorem dX7_item_76 : decode cX7_item 76 = .ok (.getfield 119, 3) := by decide +kernel
theorem dX7_item_79 : decode cX7_item 79 = .ok (.aload_n 0, 1) := by decide +kernel
theorem dX7_item_80 : decode cX7_item 80 = .ok (.getfield 122, 3) := by decide +kernel
theorem dX7_item_83 : decode cX7_item 83 = .ok (.if_icmp .ge 23, 3) := by decide +kernel
theorem dX7_item_86 : decode cX7_item 86 = .ok (.aload_n 0, 1) := by decide +kernel
theorem dX7_item_87 : decode cX7_item 87 = .ok (.getfield 56, 3) := by decide +kernel
theorem dX7_item_90 : decode cX7_item 90 = .ok (.aload_n 0, 1) := by decide +kernel
theorem dX7_item_91 : decode cX7_item 91 = .ok (.getfield 125, 3) := by decide +kernel
theorem dX7_item_94 : decode cX7_item 94 = .ok (.aload_n 0, 1) := by decide +kernel
theorem dX7_item_95 : decode cX7_item 95 = .ok (.getfield 119, 3) := by decide +kernel
theorem dX7_item_98 : decode cX7_item 98 = .ok (.iadd, 1) := by decide +kernel
theorem dX7_item_99 : decode cX7_item 99 = .ok (.laload, 1) := by decide +kernel
theorem dX7_item_100 : decode cX7_item 100 = .ok (.l2i, 1) := by decide +kernel
theorem dX7_item_101 : decode cX7_item 101 = .ok (.bipush 32, 2) := by decide +kernel
theorem dX7_item_103 : decode cX7_item 103 = .ok (.if_icmp .eq 12, 3) := by decide +kernel
theorem dX7_item_106 : decode cX7_item 106 = .ok (.aload_n 0, 1) := by decide +kernel
theorem dX7_item_107 : decode cX7_item 107 = .ok (.aload_n 0, 1) := by decide +kernel
theorem dX7_item_108 : decode cX7_item 108 = .ok (.getfield 119, 3) := by decide +kernel
theorem dX7_item_111 : decode cX7_item 111 = .ok (.invokevirtual 135, 3) := by decide +kernel
theorem dX7_item_114 : decode cX7_item 114 = .ok (.ireturn, 1) := by decide +kernel
theorem dX7_item_115 : decode cX7_item 115 = .ok (.aload_n 0, 1) := by decide +kernel
theorem dX7_item_116 : decode cX7_item 116 = .ok (.dup, 1) := by decide +kernel
theorem dX7_item_117 : decode cX7_item 117 = .ok (.getfield 119, 3) := by decide +kernel
theorem dX7_item_120 : decode cX7_item 120 = .ok (.iconst 1, 1) := by decide +kernel
theorem dX7_item_121 : decode cX7_item 121 = .ok (.iadd, 1) := by decide +kernel
theorem dX7_item_122 : decode cX7_item 122 = .ok (.putfield 119, 3) := by decide +kernel
theorem dX7_item_125 : decode cX7_item 125 = .ok (.aload_n 0, 1) := by decide +kernel
theorem dX7_item_126 : decode cX7_item 126 = .ok (.getfield 119, 3) := by decide +kernel
theorem dX7_item_129 : decode cX7_item 129 = .ok (.istore 4, 2) := by decide +kernel
theorem dX7_item_131 : decode cX7_item 131 = .ok (.aload_n 0, 1) := by decide +kernel
theorem dX7_item_132 : decode cX7_item 132 = .ok (.invokevirtual 145, 3) := by decide +kernel
theorem dX7_item_135 : decode cX7_item 135 = .ok (.ifCond .ne 5, 3) := by decide +kernel
theorem dX7_item_138 : decode cX7_item 138 = .ok (.iconst 0, 1) := by decide +kernel
theorem dX7_item_139 : decode cX7_item 139 = .ok (.ireturn, 1) := by decide +kernel
theorem dX7_item_140 : decode cX7_item 140 = .ok (.aload_n 0, 1) := by decide +kernel
theorem dX7_item_141 : decode cX7_item 141 = .ok (.iload_n 1, 1) := by decide +kernel
theorem dX7_item_142 : decode cX7_item 142 = .ok (.iload_n 3, 1) := by decide +kernel
theorem dX7_item_143 : decode cX7_item 143 = .ok (.invokevirtual 148, 3) := by decide +kernel
theorem dX7_item_146 : decode cX7_item 146 = .ok (.ifCond .ne 10, 3) := by decide +kernel
theorem dX7_item_149 : decode cX7_item 149 = .ok (.aload_n 0, 1) := by decide +kernel
theorem dX7_item_150 : decode cX7_item 150 = .ok (.iload 4, 2) := by decide +kernel
theorem dX7_item_152 : decode cX7_item 152 = .ok (.invokevirtual 135, 3) := by decide +kernel
theorem dX7_item_155 : decode cX7_item 155 = .ok (.ireturn, 1) := by decide +kernel
theorem dX7_item_156 : decode cX7_item 156 = .ok (.aload_n 0, 1) := by decide +kernel
theorem dX7_item_157 : decode cX7_item 157 = .ok (.getfield 66, 3) := by decide +kernel
theorem dX7_item_160 : decode cX7_item 160 = .ok (.iload_n 3, 1) := by decide +kernel
theorem dX7_item_161 : decode cX7_item 161 = .ok (.aload_n 0, 1) := by decide +kernel
theorem dX7_item_162 : decode cX7_item 162 = .ok (.getfield 128, 3) := by decide +kernel
theorem dX7_item_165 : decode cX7_item 165 = .ok (.iastore, 1) := by decide +kernel
theorem dX7_item_166 : decode cX7_item 166 = .ok (.iinc 3 1, 3) := by decide +kernel
theorem dX7_item_169 : decode cX7_item 169 = .ok (.goto (-103), 3) := by decide +kernel
theorem dX7_item_172 : decode cX7_item 172 = .ok (.iload_n 1, 1) := by decide +kernel
theorem dX7_item_173 : decode cX7_item 173 = .ok (.tableswitch 154 0 5 #[39, 65, 95, 108, 121, 134], 39) := by decide +kernel
theorem dX7_item_212 : decode cX7_item 212 = .ok (.aload_n 0, 1) := by decide +kernel
theorem dX7_item_213 : decode cX7_item 213 = .ok (.aload_n 0, 1) := by decide +kernel
theorem dX7_item_214 : decode cX7_item 214 = .ok (.getfield 66, 3) := by decide +kernel
theorem dX7_item_217 : decode cX7_item 217 = .ok (.iconst 0, 1) := by decide +kernel
theorem dX7_item_218 : decode cX7_item 218 = .ok (.iaload, 1) := by decide +kernel
theorem dX7_item_219 : decode cX7_item 219 = .ok (.aload_n 0, 1) := by decide +kernel
theorem dX7_item_220 : decode cX7_item 220 = .ok (.getfield 66, 3) := by decide +kernel
theorem dX7_item_223 : decode cX7_item 223 = .ok (.iconst 1, 1) := by decide +kernel
theorem dX7_item_224 : decode cX7_item 224 = .ok (.iaload, 1) := by decide +kernel
theorem dX7_item_225 : decode cX7_item 225 = .ok (.aload_n 0, 1) := by decide +kernel
theorem dX7_item_226 : decode cX7_item 226 = .ok (.getfield 66, 3) := by decide +kernel
theorem dX7_item_229 : decode cX7_item 229 = .ok (.iconst 2, 1) := by decide +kernel
theorem dX7_item_230 : decode cX7_item 230 = .ok (.iaload, 1) := by decide +kernel
theorem dX7_item_231 : decode cX7_item 231 = .ok (.invokevirtual 108, 3) := by decide +kernel
theorem dX7_item_234 : decode cX7_item 234 = .ok (.pop, 1) := by decide +kernel
theorem dX7_item_235 : decode cX7_item 235 = .ok (.goto 115, 3) := by decide +kernel
theorem dX7_item_238 : decode cX7_item 238 = .ok (.aload_n 0, 1) := by decide +kernel
theorem dX7_item_239 : decode cX7_item 239 = .ok (.getfield 38, 3) := by decide +kernel
theorem dX7_item_242 : decode cX7_item 242 = .ok (.bipush 12, 2) := by decide +kernel
theorem dX7_item_244 : decode cX7_item 244 = .ok (.aload_n 0, 1) := by decide +kernel
theorem dX7_item_245 : decode cX7_item 245 = .ok (.getfield 66, 3) := by decide +kernel
theorem dX7_item_248 : decode cX7_item 248 = .ok (.iconst 0, 1) := by decide +kernel
theorem dX7_item_249 : decode cX7_item 249 = .ok (.iaload, 1) := by decide +kernel
theorem dX7_item_250 : decode cX7_item 250 = .ok (.imul, 1) := by decide +kernel
theorem dX7_item_251 : decode cX7_item 251 = .ok (.aload_n 0, 1) := by decide +kernel
theorem dX7_item_252 : decode cX7_item 252 = .ok (.getfield 66, 3) := by decide +kernel
theorem dX7_item_255 : decode cX7_item 255 = .ok (.iconst 1, 1) := by decide +kernel
theorem dX7_item_256 : decode cX7_item 256 = .ok (.iaload, 1) := by decide +kernel
theorem dX7_item_257 : decode cX7_item 257 = .ok (.iadd, 1) := by decide +kernel
theorem dX7_item_258 : decode cX7_item 258 = .ok (.aload_n 0, 1) := by decide +kernel
theorem dX7_item_259 : decode cX7_item 259 = .ok (.getfield 66, 3) := by decide +kernel
theorem dX7_item_262 : decode cX7_item 262 = .ok (.iconst 2, 1) := by decide +kernel
theorem dX7_item_263 : decode cX7_item 263 = .ok (.iaload, 1) := by decide +kernel
theorem dX7_item_264 : decode cX7_item 264 = .ok (.iastore, 1) := by decide +kernel
theorem dX7_item_265 : decode cX7_item 265 = .ok (.goto 85, 3) := by decide +kernel
theorem dX7_item_268 : decode cX7_item 268 = .ok (.aload_n 0, 1) := by decide +kernel
theorem dX7_item_269 : decode cX7_item 269 = .ok (.aload_n 0, 1) := by decide +kernel
theorem dX7_item_270 : decode cX7_item 270 = .ok (.getfield 66, 3) := by decide +kernel
theorem dX7_item_273 : decode cX7_item 273 = .ok (.iconst 0, 1) := by decide +kernel
theorem dX7_item_274 : decode cX7_item 274 = .ok (.iaload, 1) := by decide +kernel
theorem dX7_item_275 : decode cX7_item 275 = .ok (.putfield 7, 3) := by decide +kernel
theorem dX7_item_278 : decode cX7_item 278 = .ok (.goto 72, 3) := by decide +kernel
theorem dX7_item_281 : decode cX7_item 281 = .ok (.aload_n 0, 1) := by decide +kernel
theorem dX7_item_282 : decode cX7_item 282 = .ok (.aload_n 0, 1) := by decide +kernel
theorem dX7_item_283 : decode cX7_item 283 = .ok (.getfield 66, 3) := by decide +kernel
theorem dX7_item_286 : decode cX7_item 286 = .ok (.iconst 0, 1) := by decide +kernel
theorem dX7_item_287 : decode cX7_item 287 = .ok (.iaload, 1) := by decide +kernel
theorem dX7_item_288 : decode cX7_item 288 = .ok (.putfield 13, 3) := by decide +kernel
theorem dX7_item_291 : decode cX7_item 291 = .ok (.goto 59, 3) := by decide +kernel
theorem dX7_item_294 : decode cX7_item 294 = .ok (.aload_n 0, 1) := by decide +kernel
theorem dX7_item_295 : decode cX7_item 295 = .ok (.aload_n 0, 1) := by decide +kernel
theorem dX7_item_296 : decode cX7_item 296 = .ok (.getfield 66, 3) := by decide +kernel
theorem dX7_item_299 : decode cX7_item 299 = .ok (.iconst 0, 1) := by decide +kernel
theorem dX7_item_300 : decode cX7_item 300 = .ok (.iaload, 1) := by decide +kernel
theorem dX7_item_301 : decode cX7_item 301 = .ok (.putfield 16, 3) := by decide +kernel
theorem dX7_item_304 : decode cX7_item 304 = .ok (.goto 46, 3) := by decide +kernel
theorem dX7_item_307 : decode cX7_item 307 = .ok (.aload_n 0, 1) := by decide +kernel
theorem dX7_item_308 : decode cX7_item 308 = .ok (.getfield 41, 3) := by decide +kernel
theorem dX7_item_311 : decode cX7_item 311 = .ok (.aload_n 0, 1) := by decide +kernel
theorem dX7_item_312 : decode cX7_item 312 = .ok (.getfield 66, 3) := by decide +kernel
theorem dX7_item_315 : decode cX7_item 315 = .ok (.iconst 0, 1) := by decide +kernel
theorem dX7_item_316 : decode cX7_item 316 = .ok (.iaload, 1) := by decide +kernel
theorem dX7_item_317 : decode cX7_item 317 = .ok (.aload_n 0, 1) := by decide +kernel
theorem dX7_item_318 : decode cX7_item 318 = .ok (.getfield 66, 3) := by decide +kernel
theorem dX7_item_321 : decode cX7_item 321 = .ok (.iconst 1, 1) := by decide +kernel
theorem dX7_item_322 : decode cX7_item 322 = .ok (.iaload, 1) := by decide +kernel
theorem dX7_item_323 : decode cX7_item 323 = .ok (.iastore, 1) := by decide +kernel
theorem dX7_item_324 : decode cX7_item 324 = .ok (.goto 26, 3) := by decide +kernel
theorem dX7_item_327 : decode cX7_item 327 = .ok (.aload_n 0, 1) := by decide +kernel
theorem dX7_item_328 : decode cX7_item 328 = .ok (.aload_n 0, 1) := by decide +kernel
theorem dX7_item_329 : decode cX7_item 329 = .ok (.getfield 66, 3) := by decide +kernel
theorem dX7_item_332 : decode cX7_item 332 = .ok (.iconst 0, 1) := by decide +kernel
theorem dX7_item_333 : decode cX7_item 333 = .ok (.iaload, 1) := by decide +kernel
theorem dX7_item_334 : decode cX7_item 334 = .ok (.aload_n 0, 1) := by decide +kernel
theorem dX7_item_335 : decode cX7_item 335 = .ok (.getfield 66, 3) := by decide +kernel
theorem dX7_item_338 : decode cX7_item 338 = .ok (.iconst 1, 1) := by decide +kernel
theorem dX7_item_339 : decode cX7_item 339 = .ok (.iaload, 1) := by decide +kernel
theorem dX7_item_340 : decode cX7_item 340 = .ok (.aload_n 0, 1) := by decide +kernel
theorem dX7_item_341 : decode cX7_item 341 = .ok (.getfield 66, 3) := by decide +kernel
theorem dX7_item_344 : decode cX7_item 344 = .ok (.iconst 2, 1) := by decide +kernel
theorem dX7_item_345 : decode cX7_item 345 = .ok (.iaload, 1) := by decide +kernel
theorem dX7_item_346 : decode cX7_item 346 = .ok (.invokevirtual 151, 3) := by decide +kernel
theorem dX7_item_349 : decode cX7_item 349 = .ok (.pop, 1) := by decide +kernel
theorem dX7_item_350 : decode cX7_item 350 = .ok (.iconst 1, 1) := by decide +kernel
theorem dX7_item_351 : decode cX7_item 351 = .ok (.ireturn, 1) := by decide +kernel
theorem dX7_carries_0 : decode cX7_carries 0 = .ok (.iconst 0, 1) := by decide +kernel
theorem dX7_carries_1 : decode cX7_carries 1 = .ok (.istore 6, 2) := by decide +kernel
theorem dX7_carries_3 : decode cX7_carries 3 = .ok (.iload 6, 2) := by decide +kernel
theorem dX7_carries_5 : decode cX7_carries 5 = .ok (.iload_n 2, 1) := by decide +kernel
theorem dX7_carries_6 : decode cX7_carries 6 = .ok (.if_icmp .ge 39, 3) := by decide +kernel
theorem dX7_carries_9 : decode cX7_carries 9 = .ok (.iload 5, 2) := by decide +kernel
theorem dX7_carries_11 : decode cX7_carries 11 = .ok (.ifCond .eq 17, 3) := by decide +kernel
theorem dX7_carries_14 : decode cX7_carries 14 = .ok (.aload_n 1, 1) := by decide +kernel
theorem dX7_carries_15 : decode cX7_carries 15 = .ok (.iload 6, 2) := by decide +kernel
theorem dX7_carries_17 : decode cX7_carries 17 = .ok (.aload_n 3, 1) := by decide +kernel
theorem dX7_carries_18 : decode cX7_carries 18 = .ok (.iload 4, 2) := by decide +kernel
theorem dX7_carries_20 : decode cX7_carries 20 = .ok (.iload 6, 2) := by decide +kernel
theorem dX7_carries_22 : decode cX7_carries 22 = .ok (.iadd, 1) := by decide +kernel
theorem dX7_carries_23 : decode cX7_carries 23 = .ok (.iaload, 1) := by decide +kernel
theorem dX7_carries_24 : decode cX7_carries 24 = .ok (.iastore, 1) := by decide +kernel
theorem dX7_carries_25 : decode cX7_carries 25 = .ok (.goto 14, 3) := by decide +kernel
theorem dX7_carries_28 : decode cX7_carries 28 = .ok (.aload_n 3, 1) := by decide +kernel
theorem dX7_carries_29 : decode cX7_carries 29 = .ok (.iload 4, 2) := by decide +kernel
theorem dX7_carries_31 : decode cX7_carries 31 = .ok (.iload 6, 2) := by decide +kernel
theorem dX7_carries_33 : decode cX7_carries 33 = .ok (.iadd, 1) := by decide +kernel
theorem dX7_carries_34 : decode cX7_carries 34 = .ok (.aload_n 1, 1) := by decide +kernel
theorem dX7_carries_35 : decode cX7_carries 35 = .ok (.iload 6, 2) := by decide +kernel
theorem dX7_carries_37 : decode cX7_carries 37 = .ok (.iaload, 1) := by decide +kernel
theorem dX7_carries_38 : decode cX7_carries 38 = .ok (.iastore, 1) := by decide +kernel
theorem dX7_carries_39 : decode cX7_carries 39 = .ok (.iinc 6 1, 3) := by decide +kernel
theorem dX7_carries_42 : decode cX7_carries 42 = .ok (.goto (-39), 3) := by decide +kernel
theorem dX7_carries_45 : decode cX7_carries 45 = .ok (.iload 4, 2) := by decide +kernel
theorem dX7_carries_47 : decode cX7_carries 47 = .ok (.iload_n 2, 1) := by decide +kernel
theorem dX7_carries_48 : decode cX7_carries 48 = .ok (.iadd, 1) := by decide +kernel
theorem dX7_carries_49 : decode cX7_carries 49 = .ok (.ireturn, 1) := by decide +kernel
theorem dX7_all_0 : decode cX7_all 0 = .ok (.aload_n 0, 1) := by decide +kernel
theorem dX7_all_1 : decode cX7_all 1 = .ok (.aload_n 0, 1) := by decide +kernel
theorem dX7_all_2 : decode cX7_all 2 = .ok (.getfield 29, 3) := by decide +kernel
theorem dX7_all_5 : decode cX7_all 5 = .ok (.bipush 6, 2) := by decide +kernel
theorem dX7_all_7 : decode cX7_all 7 = .ok (.aload_n 1, 1) := by decide +kernel
theorem dX7_all_8 : decode cX7_all 8 = .ok (.iconst 0, 1) := by decide +kernel
theorem dX7_all_9 : decode cX7_all 9 = .ok (.iload_n 2, 1) := by decide +kernel
theorem dX7_all_10 : decode cX7_all 10 = .ok (.invokevirtual 154, 3) := by decide +kernel
theorem dX7_all_13 : decode cX7_all 13 = .ok (.istore_n 3, 1) := by decide +kernel
theorem dX7_all_14 : decode cX7_all 14 = .ok (.aload_n 0, 1) := by decide +kernel
theorem dX7_all_15 : decode cX7_all 15 = .ok (.aload_n 0, 1) := by decide +kernel
theorem dX7_all_16 : decode cX7_all 16 = .ok (.getfield 32, 3) := by decide +kernel
theorem dX7_all_19 : decode cX7_all 19 = .ok (.bipush 6, 2) := by decide +kernel
theorem dX7_all_21 : decode cX7_all 21 = .ok (.aload_n 1, 1) := by decide +kernel
theorem dX7_all_22 : decode cX7_all 22 = .ok (.iload_n 3, 1) := by decide +kernel
theorem dX7_all_23 : decode cX7_all 23 = .ok (.iload_n 2, 1) := by decide +kernel
theorem dX7_all_24 : decode cX7_all 24 = .ok (.invokevirtual 154, 3) := by decide +kernel
theorem dX7_all_27 : decode cX7_all 27 = .ok (.istore_n 3, 1) := by decide +kernel
theorem dX7_all_28 : decode cX7_all 28 = .ok (.aload_n 0, 1) := by decide +kernel
theorem dX7_all_29 : decode cX7_all 29 = .ok (.aload_n 0, 1) := by decide +kernel
theorem dX7_all_30 : decode cX7_all 30 = .ok (.getfield 35, 3) := by decide +kernel
theorem dX7_all_33 : decode cX7_all 33 = .ok (.bipush 6, 2) := by decide +kernel
theorem dX7_all_35 : decode cX7_all 35 = .ok (.aload_n 1, 1) := by decide +kernel
theorem dX7_all_36 : decode cX7_all 36 = .ok (.iload_n 3, 1) := by decide +kernel
theorem dX7_all_37 : decode cX7_all 37 = .ok (.iload_n 2, 1) := by decide +kernel
theorem dX7_all_38 : decode cX7_all 38 = .ok (.invokevirtual 154, 3) := by decide +kernel
theorem dX7_all_41 : decode cX7_all 41 = .ok (.istore_n 3, 1) := by decide +kernel
theorem dX7_all_42 : decode cX7_all 42 = .ok (.aload_n 0, 1) := by decide +kernel
theorem dX7_all_43 : decode cX7_all 43 = .ok (.aload_n 0, 1) := by decide +kernel
theorem dX7_all_44 : decode cX7_all 44 = .ok (.getfield 38, 3) := by decide +kernel
theorem dX7_all_47 : decode cX7_all 47 = .ok (.bipush 72, 2) := by decide +kernel
theorem dX7_all_49 : decode cX7_all 49 = .ok (.aload_n 1, 1) := by decide +kernel
theorem dX7_all_50 : decode cX7_all 50 = .ok (.iload_n 3, 1) := by decide +kernel
theorem dX7_all_51 : decode cX7_all 51 = .ok (.iload_n 2, 1) := by decide +kernel
theorem dX7_all_52 : decode cX7_all 52 = .ok (.invokevirtual 154, 3) := by decide +kernel
theorem dX7_all_55 : decode cX7_all 55 = .ok (.istore_n 3, 1) := by decide +kernel
theorem dX7_all_56 : decode cX7_all 56 = .ok (.aload_n 0, 1) := by decide +kernel
theorem dX7_all_57 : decode cX7_all 57 = .ok (.aload_n 0, 1) := by decide +kernel
theorem dX7_all_58 : decode cX7_all 58 = .ok (.getfield 41, 3) := by decide +kernel
theorem dX7_all_61 : decode cX7_all 61 = .ok (.bipush 10, 2) := by decide +kernel
theorem dX7_all_63 : decode cX7_all 63 = .ok (.aload_n 1, 1) := by decide +kernel
theorem dX7_all_64 : decode cX7_all 64 = .ok (.iload_n 3, 1) := by decide +kernel
theorem dX7_all_65 : decode cX7_all 65 = .ok (.iload_n 2, 1) := by decide +kernel
theorem dX7_all_66 : decode cX7_all 66 = .ok (.invokevirtual 154, 3) := by decide +kernel
theorem dX7_all_69 : decode cX7_all 69 = .ok (.istore_n 3, 1) := by decide +kernel
theorem dX7_all_70 : decode cX7_all 70 = .ok (.iload_n 2, 1) := by decide +kernel
theorem dX7_all_71 : decode cX7_all 71 = .ok (.ifCond .eq 78, 3) := by decide +kernel
theorem dX7_all_74 : decode cX7_all 74 = .ok (.aload_n 0, 1) := by decide +kernel
theorem dX7_all_75 : decode cX7_all 75 = .ok (.aload_n 1, 1) := by decide +kernel
theorem dX7_all_76 : decode cX7_all 76 = .ok (.iload_n 3, 1) := by decide +kernel
theorem dX7_all_77 : decode cX7_all 77 = .ok (.iaload, 1) := by decide +kernel
theorem dX7_all_78 : decode cX7_all 78 = .ok (.putfield 90, 3) := by decide +kernel
theorem dX7_all_81 : decode cX7_all 81 = .ok (.aload_n 0, 1) := by decide +kernel
theorem dX7_all_82 : decode cX7_all 82 = .ok (.aload_n 1, 1) := by decide +kernel
theorem dX7_all_83 : decode cX7_all 83 = .ok (.iload_n 3, 1) := by decide +kernel
theorem dX7_all_84 : decode cX7_all 84 = .ok (.iconst 1, 1) := by decide +kernel
theorem dX7_all_85 : decode cX7_all 85 = .ok (.iadd, 1) := by decide +kernel
theorem dX7_all_86 : decode cX7_all 86 = .ok (.iaload, 1) := by decide +kernel
theorem dX7_all_87 : decode cX7_all 87 = .ok (.putfield 7, 3) := by decide +kernel
theorem dX7_all_90 : decode cX7_all 90 = .ok (.aload_n 0, 1) := by decide +kernel
theorem dX7_all_91 : decode cX7_all 91 = .ok (.aload_n 1, 1) := by decide +kernel
theorem dX7_all_92 : decode cX7_all 92 = .ok (.iload_n 3, 1) := by decide +kernel
theorem dX7_all_93 : decode cX7_all 93 = .ok (.iconst 2, 1) := by decide +kernel
theorem dX7_all_94 : decode cX7_all 94 = .ok (.iadd, 1) := by decide +kernel
theorem dX7_all_95 : decode cX7_all 95 = .ok (.iaload, 1) := by decide +kernel
theorem dX7_all_96 : decode cX7_all 96 = .ok (.putfield 13, 3) := by decide +kernel
theorem dX7_all_99 : decode cX7_all 99 = .ok (.aload_n 0, 1) := by decide +kernel
theorem dX7_all_100 : decode cX7_all 100 = .ok (.aload_n 1, 1) := by decide +kernel
theorem dX7_all_101 : decode cX7_all 101 = .ok (.iload_n 3, 1) := by decide +kernel
theorem dX7_all_102 : decode cX7_all 102 = .ok (.iconst 3, 1) := by decide +kernel
theorem dX7_all_103 : decode cX7_all 103 = .ok (.iadd, 1) := by decide +kernel
theorem dX7_all_104 : decode cX7_all 104 = .ok (.iaload, 1) := by decide +kernel
theorem dX7_all_105 : decode cX7_all 105 = .ok (.putfield 16, 3) := by decide +kernel
theorem dX7_all_108 : decode cX7_all 108 = .ok (.aload_n 0, 1) := by decide +kernel
theorem dX7_all_109 : decode cX7_all 109 = .ok (.aload_n 1, 1) := by decide +kernel
theorem dX7_all_110 : decode cX7_all 110 = .ok (.iload_n 3, 1) := by decide +kernel
theorem dX7_all_111 : decode cX7_all 111 = .ok (.iconst 4, 1) := by decide +kernel
theorem dX7_all_112 : decode cX7_all 112 = .ok (.iadd, 1) := by decide +kernel
theorem dX7_all_113 : decode cX7_all 113 = .ok (.iaload, 1) := by decide +kernel
theorem dX7_all_114 : decode cX7_all 114 = .ok (.putfield 158, 3) := by decide +kernel
theorem dX7_all_117 : decode cX7_all 117 = .ok (.aload_n 0, 1) := by decide +kernel
theorem dX7_all_118 : decode cX7_all 118 = .ok (.aload_n 1, 1) := by decide +kernel
theorem dX7_all_119 : decode cX7_all 119 = .ok (.iload_n 3, 1) := by decide +kernel
theorem dX7_all_120 : decode cX7_all 120 = .ok (.iconst 5, 1) := by decide +kernel
theorem dX7_all_121 : decode cX7_all 121 = .ok (.iadd, 1) := by decide +kernel
theorem dX7_all_122 : decode cX7_all 122 = .ok (.iaload, 1) := by decide +kernel
theorem dX7_all_123 : decode cX7_all 123 = .ok (.putfield 161, 3) := by decide +kernel
theorem dX7_all_126 : decode cX7_all 126 = .ok (.aload_n 0, 1) := by decide +kernel
theorem dX7_all_127 : decode cX7_all 127 = .ok (.aload_n 1, 1) := by decide +kernel
theorem dX7_all_128 : decode cX7_all 128 = .ok (.iload_n 3, 1) := by decide +kernel
theorem dX7_all_129 : decode cX7_all 129 = .ok (.bipush 6, 2) := by decide +kernel
theorem dX7_all_131 : decode cX7_all 131 = .ok (.iadd, 1) := by decide +kernel
theorem dX7_all_132 : decode cX7_all 132 = .ok (.iaload, 1) := by decide +kernel
theorem dX7_all_133 : decode cX7_all 133 = .ok (.putfield 164, 3) := by decide +kernel
theorem dX7_all_136 : decode cX7_all 136 = .ok (.aload_n 0, 1) := by decide +kernel
theorem dX7_all_137 : decode cX7_all 137 = .ok (.aload_n 1, 1) := by decide +kernel
theorem dX7_all_138 : decode cX7_all 138 = .ok (.iload_n 3, 1) := by decide +kernel
theorem dX7_all_139 : decode cX7_all 139 = .ok (.bipush 7, 2) := by decide +kernel
theorem dX7_all_141 : decode cX7_all 141 = .ok (.iadd, 1) := by decide +kernel
theorem dX7_all_142 : decode cX7_all 142 = .ok (.iaload, 1) := by decide +kernel
theorem dX7_all_143 : decode cX7_all 143 = .ok (.putfield 19, 3) := by decide +kernel
theorem dX7_all_146 : decode cX7_all 146 = .ok (.goto 75, 3) := by decide +kernel
theorem dX7_all_149 : decode cX7_all 149 = .ok (.aload_n 1, 1) := by decide +kernel
theorem dX7_all_150 : decode cX7_all 150 = .ok (.iload_n 3, 1) := by decide +kernel
theorem dX7_all_151 : decode cX7_all 151 = .ok (.aload_n 0, 1) := by decide +kernel
theorem dX7_all_152 : decode cX7_all 152 = .ok (.getfield 90, 3) := by decide +kernel
theorem dX7_all_155 : decode cX7_all 155 = .ok (.iastore, 1) := by decide +kernel
theorem dX7_all_156 : decode cX7_all 156 = .ok (.aload_n 1, 1) := by decide +kernel
theorem dX7_all_157 : decode cX7_all 157 = .ok (.iload_n 3, 1) := by decide +kernel
theorem dX7_all_158 : decode cX7_all 158 = .ok (.iconst 1, 1) := by decide +kernel
theorem dX7_all_159 : decode cX7_all 159 = .ok (.iadd, 1) := by decide +kernel
theorem dX7_all_160 : decode cX7_all 160 = .ok (.aload_n 0, 1) := by decide +kernel
theorem dX7_all_161 : decode cX7_all 161 = .ok (.getfield 7, 3) := by decide +kernel
theorem dX7_all_164 : decode cX7_all 164 = .ok (.iastore, 1) := by decide +kernel
theorem dX7_all_165 : decode cX7_all 165 = .ok (.aload_n 1, 1) := by decide +kernel
theorem dX7_all_166 : decode cX7_all 166 = .ok (.iload_n 3, 1) := by decide +kernel
theorem dX7_all_167 : decode cX7_all 167 = .ok (.iconst 2, 1) := by decide +kernel
theorem dX7_all_168 : decode cX7_all 168 = .ok (.iadd, 1) := by decide +kernel
theorem dX7_all_169 : decode cX7_all 169 = .ok (.aload_n 0, 1) := by decide +kernel
theorem dX7_all_170 : decode cX7_all 170 = .ok (.getfield 13, 3) := by decide +kernel
theorem dX7_all_173 : decode cX7_all 173 = .ok (.iastore, 1) := by decide +kernel
theorem dX7_all_174 : decode cX7_all 174 = .ok (.aload_n 1, 1) := by decide +kernel
theorem dX7_all_175 : decode cX7_all 175 = .ok (.iload_n 3, 1) := by decide +kernel
theorem dX7_all_176 : decode cX7_all 176 = .ok (.iconst 3, 1) := by decide +kernel
theorem dX7_all_177 : decode cX7_all 177 = .ok (.iadd, 1) := by decide +kernel
theorem dX7_all_178 : decode cX7_all 178 = .ok (.aload_n 0, 1) := by decide +kernel
theorem dX7_all_179 : decode cX7_all 179 = .ok (.getfield 16, 3) := by decide +kernel
theorem dX7_all_182 : decode cX7_all 182 = .ok (.iastore, 1) := by decide +kernel
theorem dX7_all_183 : decode cX7_all 183 = .ok (.aload_n 1, 1) := by decide +kernel
theorem dX7_all_184 : decode cX7_all 184 = .ok (.iload_n 3, 1) := by decide +kernel
theorem dX7_all_185 : decode cX7_all 185 = .ok (.iconst 4, 1) := by decide +kernel
theorem dX7_all_186 : decode cX7_all 186 = .ok (.iadd, 1) := by decide +kernel
theorem dX7_all_187 : decode cX7_all 187 = .ok (.aload_n 0, 1) := by decide +kernel
theorem dX7_all_188 : decode cX7_all 188 = .ok (.getfield 158, 3) := by decide +kernel
theorem dX7_all_191 : decode cX7_all 191 = .ok (.iastore, 1) := by decide +kernel
theorem dX7_all_192 : decode cX7_all 192 = .ok (.aload_n 1, 1) := by decide +kernel
theorem dX7_all_193 : decode cX7_all 193 = .ok (.iload_n 3, 1) := by decide +kernel
theorem dX7_all_194 : decode cX7_all 194 = .ok (.iconst 5, 1) := by decide +kernel
theorem dX7_all_195 : decode cX7_all 195 = .ok (.iadd, 1) := by decide +kernel
theorem dX7_all_196 : decode cX7_all 196 = .ok (.aload_n 0, 1) := by decide +kernel
theorem dX7_all_197 : decode cX7_all 197 = .ok (.getfield 161, 3) := by decide +kernel
theorem dX7_all_200 : decode cX7_all 200 = .ok (.iastore, 1) := by decide +kernel
theorem dX7_all_201 : decode cX7_all 201 = .ok (.aload_n 1, 1) := by decide +kernel
theorem dX7_all_202 : decode cX7_all 202 = .ok (.iload_n 3, 1) := by decide +kernel
theorem dX7_all_203 : decode cX7_all 203 = .ok (.bipush 6, 2) := by decide +kernel
theorem dX7_all_205 : decode cX7_all 205 = .ok (.iadd, 1) := by decide +kernel
theorem dX7_all_206 : decode cX7_all 206 = .ok (.aload_n 0, 1) := by decide +kernel
theorem dX7_all_207 : decode cX7_all 207 = .ok (.getfield 164, 3) := by decide +kernel
theorem dX7_all_210 : decode cX7_all 210 = .ok (.iastore, 1) := by decide +kernel
theorem dX7_all_211 : decode cX7_all 211 = .ok (.aload_n 1, 1) := by decide +kernel
theorem dX7_all_212 : decode cX7_all 212 = .ok (.iload_n 3, 1) := by decide +kernel
theorem dX7_all_213 : decode cX7_all 213 = .ok (.bipush 7, 2) := by decide +kernel
theorem dX7_all_215 : decode cX7_all 215 = .ok (.iadd, 1) := by decide +kernel
theorem dX7_all_216 : decode cX7_all 216 = .ok (.aload_n 0, 1) := by decide +kernel
theorem dX7_all_217 : decode cX7_all 217 = .ok (.getfield 19, 3) := by decide +kernel
theorem dX7_all_220 : decode cX7_all 220 = .ok (.iastore, 1) := by decide +kernel
theorem dX7_all_221 : decode cX7_all 221 = .ok (.return_, 1) := by decide +kernel
theorem dX7_table_0 : decode cX7_table 0 = .ok (.aload_n 0, 1) := by decide +kernel
theorem dX7_table_1 : decode cX7_table 1 = .ok (.iload_n 1, 1) := by decide +kernel
theorem dX7_table_2 : decode cX7_table 2 = .ok (.invokevirtual 167, 3) := by decide +kernel
theorem dX7_table_5 : decode cX7_table 5 = .ok (.istore_n 2, 1) := by decide +kernel
theorem dX7_table_6 : decode cX7_table 6 = .ok (.iload_n 2, 1) := by decide +kernel
theorem dX7_table_7 : decode cX7_table 7 = .ok (.ifCond .eq 9, 3) := by decide +kernel
theorem dX7_table_10 : decode cX7_table 10 = .ok (.aload_n 0, 1) := by decide +kernel
theorem dX7_table_11 : decode cX7_table 11 = .ok (.iload_n 2, 1) := by decide +kernel
theorem dX7_table_12 : decode cX7_table 12 = .ok (.invokevirtual 100, 3) := by decide +kernel
theorem dX7_table_15 : decode cX7_table 15 = .ok (.ireturn, 1) := by decide +kernel
theorem dX7_table_16 : decode cX7_table 16 = .ok (.aload_n 0, 1) := by decide +kernel
theorem dX7_table_17 : decode cX7_table 17 = .ok (.aload_n 0, 1) := by decide +kernel
theorem dX7_table_18 : decode cX7_table 18 = .ok (.getfield 69, 3) := by decide +kernel
theorem dX7_table_21 : decode cX7_table 21 = .ok (.iconst 0, 1) := by decide +kernel
theorem dX7_table_22 : decode cX7_table 22 = .ok (.invokevirtual 170, 3) := by decide +kernel
theorem dX7_table_25 : decode cX7_table 25 = .ok (.aload_n 0, 1) := by decide +kernel
theorem dX7_table_26 : decode cX7_table 26 = .ok (.sipush 160, 3) := by decide +kernel
theorem dX7_table_29 : decode cX7_table 29 = .ok (.iload_n 1, 1) := by decide +kernel
theorem dX7_table_30 : decode cX7_table 30 = .ok (.imul, 1) := by decide +kernel
theorem dX7_table_31 : decode cX7_table 31 = .ok (.putfield 125, 3) := by decide +kernel
theorem dX7_table_34 : decode cX7_table 34 = .ok (.aload_n 0, 1) := by decide +kernel
theorem dX7_table_35 : decode cX7_table 35 = .ok (.iconst 0, 1) := by decide +kernel
theorem dX7_table_36 : decode cX7_table 36 = .ok (.putfield 119, 3) := by decide +kernel
theorem dX7_table_39 : decode cX7_table 39 = .ok (.aload_n 0, 1) := by decide +kernel
theorem dX7_table_40 : decode cX7_table 40 = .ok (.aload_n 0, 1) := by decide +kernel
theorem dX7_table_41 : decode cX7_table 41 = .ok (.getfield 50, 3) := by decide +kernel
theorem dX7_table_44 : decode cX7_table 44 = .ok (.iload_n 1, 1) := by decide +kernel
theorem dX7_table_45 : decode cX7_table 45 = .ok (.iaload, 1) := by decide +kernel
theorem dX7_table_46 : decode cX7_table 46 = .ok (.putfield 122, 3) := by decide +kernel
theorem dX7_table_49 : decode cX7_table 49 = .ok (.aload_n 0, 1) := by decide +kernel
theorem dX7_table_50 : decode cX7_table 50 = .ok (.iconst (-1), 1) := by decide +kernel
theorem dX7_table_51 : decode cX7_table 51 = .ok (.putfield 22, 3) := by decide +kernel
theorem dX7_table_54 : decode cX7_table 54 = .ok (.iconst 1, 1) := by decide +kernel
theorem dX7_table_55 : decode cX7_table 55 = .ok (.istore_n 3, 1) := by decide +kernel
theorem dX7_table_56 : decode cX7_table 56 = .ok (.aload_n 0, 1) := by decide +kernel
theorem dX7_table_57 : decode cX7_table 57 = .ok (.invokevirtual 174, 3) := by decide +kernel
theorem dX7_table_60 : decode cX7_table 60 = .ok (.istore 4, 2) := by decide +kernel
theorem dX7_table_62 : decode cX7_table 62 = .ok (.iload 4, 2) := by decide +kernel
theorem dX7_table_64 : decode cX7_table 64 = .ok (.ifCond .eq 69, 3) := by decide +kernel
theorem dX7_table_67 : decode cX7_table 67 = .ok (.aload_n 0, 1) := by decide +kernel
theorem dX7_table_68 : decode cX7_table 68 = .ok (.getfield 119, 3) := by decide +kernel
theorem dX7_table_71 : decode cX7_table 71 = .ok (.aload_n 0, 1) := by decide +kernel
theorem dX7_table_72 : decode cX7_table 72 = .ok (.getfield 122, 3) := by decide +kernel
theorem dX7_table_75 : decode cX7_table 75 = .ok (.if_icmp .ge 58, 3) := by decide +kernel
theorem dX7_table_78 : decode cX7_table 78 = .ok (.aload_n 0, 1) := by decide +kernel
theorem dX7_table_79 : decode cX7_table 79 = .ok (.getfield 56, 3) := by decide +kernel
theorem dX7_table_82 : decode cX7_table 82 = .ok (.aload_n 0, 1) := by decide +kernel
theorem dX7_table_83 : decode cX7_table 83 = .ok (.getfield 125, 3) := by decide +kernel
theorem dX7_table_86 : decode cX7_table 86 = .ok (.aload_n 0, 1) := by decide +kernel
theorem dX7_table_87 : decode cX7_table 87 = .ok (.getfield 119, 3) := by decide +kernel
theorem dX7_table_90 : decode cX7_table 90 = .ok (.iadd, 1) := by decide +kernel
theorem dX7_table_91 : decode cX7_table 91 = .ok (.laload, 1) := by decide +kernel
theorem dX7_table_92 : decode cX7_table 92 = .ok (.l2i, 1) := by decide +kernel
theorem dX7_table_93 : decode cX7_table 93 = .ok (.bipush 59, 2) := by decide +kernel
theorem dX7_table_95 : decode cX7_table 95 = .ok (.if_icmp .eq 16, 3) := by decide +kernel
theorem dX7_table_98 : decode cX7_table 98 = .ok (.aload_n 0, 1) := by decide +kernel
theorem dX7_table_99 : decode cX7_table 99 = .ok (.aload_n 0, 1) := by decide +kernel
theorem dX7_table_100 : decode cX7_table 100 = .ok (.getfield 119, 3) := by decide +kernel
theorem dX7_table_103 : decode cX7_table 103 = .ok (.invokevirtual 135, 3) := by decide +kernel
theorem dX7_table_106 : decode cX7_table 106 = .ok (.istore 4, 2) := by decide +kernel
theorem dX7_table_108 : decode cX7_table 108 = .ok (.goto (-46), 3) := by decide +kernel
theorem dX7_table_111 : decode cX7_table 111 = .ok (.aload_n 0, 1) := by decide +kernel
theorem dX7_table_112 : decode cX7_table 112 = .ok (.dup, 1) := by decide +kernel
theorem dX7_table_113 : decode cX7_table 113 = .ok (.getfield 119, 3) := by decide +kernel
theorem dX7_table_116 : decode cX7_table 116 = .ok (.iconst 1, 1) := by decide +kernel
theorem dX7_table_117 : decode cX7_table 117 = .ok (.iadd, 1) := by decide +kernel
theorem dX7_table_118 : decode cX7_table 118 = .ok (.putfield 119, 3) := by decide +kernel
theorem dX7_table_121 : decode cX7_table 121 = .ok (.iinc 3 1, 3) := by decide +kernel
theorem dX7_table_124 : decode cX7_table 124 = .ok (.aload_n 0, 1) := by decide +kernel
theorem dX7_table_125 : decode cX7_table 125 = .ok (.invokevirtual 174, 3) := by decide +kernel
theorem dX7_table_128 : decode cX7_table 128 = .ok (.istore 4, 2) := by decide +kernel
theorem dX7_table_130 : decode cX7_table 130 = .ok (.goto (-68), 3) := by decide +kernel
theorem dX7_table_133 : decode cX7_table 133 = .ok (.iload 4, 2) := by decide +kernel
theorem dX7_table_135 : decode cX7_table 135 = .ok (.ifCond .eq 5, 3) := by decide +kernel
theorem dX7_table_138 : decode cX7_table 138 = .ok (.iload_n 3, 1) := by decide +kernel
theorem dX7_table_139 : decode cX7_table 139 = .ok (.ireturn, 1) := by decide +kernel
theorem dX7_table_140 : decode cX7_table 140 = .ok (.aload_n 0, 1) := by decide +kernel
theorem dX7_table_141 : decode cX7_table 141 = .ok (.aload_n 0, 1) := by decide +kernel
theorem dX7_table_142 : decode cX7_table 142 = .ok (.getfield 69, 3) := by decide +kernel
theorem dX7_table_145 : decode cX7_table 145 = .ok (.iconst 1, 1) := by decide +kernel
theorem dX7_table_146 : decode cX7_table 146 = .ok (.invokevirtual 170, 3) := by decide +kernel
theorem dX7_table_149 : decode cX7_table 149 = .ok (.aload_n 0, 1) := by decide +kernel
theorem dX7_table_150 : decode cX7_table 150 = .ok (.aload_n 0, 1) := by decide +kernel
theorem dX7_table_151 : decode cX7_table 151 = .ok (.getfield 116, 3) := by decide +kernel
theorem dX7_table_154 : decode cX7_table 154 = .ok (.putfield 22, 3) := by decide +kernel
theorem dX7_table_157 : decode cX7_table 157 = .ok (.aload_n 0, 1) := by decide +kernel
theorem dX7_table_158 : decode cX7_table 158 = .ok (.bipush (-6), 2) := by decide +kernel
theorem dX7_table_160 : decode cX7_table 160 = .ok (.invokevirtual 100, 3) := by decide +kernel
theorem dX7_table_163 : decode cX7_table 163 = .ok (.ireturn, 1) := by decide +kernel
theorem dX7_fault_0 : decode cX7_fault 0 = .ok (.aload_n 0, 1) := by decide +kernel
theorem dX7_fault_1 : decode cX7_fault 1 = .ok (.getfield 22, 3) := by decide +kernel
theorem dX7_fault_4 : decode cX7_fault 4 = .ok (.ireturn, 1) := by decide +kernel
theorem dX7_soakOf_0 : decode cX7_soakOf 0 = .ok (.iconst 1, 1) := by decide +kernel
theorem dX7_soakOf_1 : decode cX7_soakOf 1 = .ok (.aload_n 0, 1) := by decide +kernel
theorem dX7_soakOf_2 : decode cX7_soakOf 2 = .ok (.getfield 32, 3) := by decide +kernel
theorem dX7_soakOf_5 : decode cX7_soakOf 5 = .ok (.iload_n 1, 1) := by decide +kernel
theorem dX7_soakOf_6 : decode cX7_soakOf 6 = .ok (.iaload, 1) := by decide +kernel
theorem dX7_soakOf_7 : decode cX7_soakOf 7 = .ok (.iadd, 1) := by decide +kernel
theorem dX7_soakOf_8 : decode cX7_soakOf 8 = .ok (.iload 4, 2) := by decide +kernel
theorem dX7_soakOf_10 : decode cX7_soakOf 10 = .ok (.bipush 10, 2) := by decide +kernel
theorem dX7_soakOf_12 : decode cX7_soakOf 12 = .ok (.idiv, 1) := by decide +kernel
theorem dX7_soakOf_13 : decode cX7_soakOf 13 = .ok (.iadd, 1) := by decide +kernel
theorem dX7_soakOf_14 : decode cX7_soakOf 14 = .ok (.istore 5, 2) := by decide +kernel
theorem dX7_soakOf_16 : decode cX7_soakOf 16 = .ok (.aload_n 0, 1) := by decide +kernel
theorem dX7_soakOf_17 : decode cX7_soakOf 17 = .ok (.getfield 29, 3) := by decide +kernel
theorem dX7_soakOf_20 : decode cX7_soakOf 20 = .ok (.iload_n 1, 1) := by decide +kernel
theorem dX7_soakOf_21 : decode cX7_soakOf 21 = .ok (.iaload, 1) := by decide +kernel
theorem dX7_soakOf_22 : decode cX7_soakOf 22 = .ok (.istore 6, 2) := by decide +kernel
theorem dX7_soakOf_24 : decode cX7_soakOf 24 = .ok (.iload 6, 2) := by decide +kernel
theorem dX7_soakOf_26 : decode cX7_soakOf 26 = .ok (.iconst 1, 1) := by decide +kernel
theorem dX7_soakOf_27 : decode cX7_soakOf 27 = .ok (.if_icmp .eq 9, 3) := by decide +kernel
theorem dX7_soakOf_30 : decode cX7_soakOf 30 = .ok (.iload 6, 2) := by decide +kernel
theorem dX7_soakOf_32 : decode cX7_soakOf 32 = .ok (.iconst 3, 1) := by decide +kernel
theorem dX7_soakOf_33 : decode cX7_soakOf 33 = .ok (.if_icmp .ne 8, 3) := by decide +kernel
theorem dX7_soakOf_36 : decode cX7_soakOf 36 = .ok (.iload 5, 2) := by decide +kernel
theorem dX7_soakOf_38 : decode cX7_soakOf 38 = .ok (.iconst 2, 1) := by decide +kernel
theorem dX7_soakOf_39 : decode cX7_soakOf 39 = .ok (.idiv, 1) := by decide +kernel
theorem dX7_soakOf_40 : decode cX7_soakOf 40 = .ok (.ireturn, 1) := by decide +kernel
theorem dX7_soakOf_41 : decode cX7_soakOf 41 = .ok (.iload 6, 2) := by decide +kernel
theorem dX7_soakOf_43 : decode cX7_soakOf 43 = .ok (.iconst 4, 1) := by decide +kernel
theorem dX7_soakOf_44 : decode cX7_soakOf 44 = .ok (.if_icmp .eq 29, 3) := by decide +kernel
theorem dX7_soakOf_47 : decode cX7_soakOf 47 = .ok (.iload 6, 2) := by decide +kernel
theorem dX7_soakOf_49 : decode cX7_soakOf 49 = .ok (.bipush 6, 2) := by decide +kernel
theorem dX7_soakOf_51 : decode cX7_soakOf 51 = .ok (.if_icmp .eq 22, 3) := by decide +kernel
theorem dX7_soakOf_54 : decode cX7_soakOf 54 = .ok (.iload 6, 2) := by decide +kernel
theorem dX7_soakOf_56 : decode cX7_soakOf 56 = .ok (.iconst 2, 1) := by decide +kernel
theorem dX7_soakOf_57 : decode cX7_soakOf 57 = .ok (.if_icmp .eq 9, 3) := by decide +kernel
theorem dX7_soakOf_60 : decode cX7_soakOf 60 = .ok (.iload 6, 2) := by decide +kernel
theorem dX7_soakOf_62 : decode cX7_soakOf 62 = .ok (.iconst 5, 1) := by decide +kernel
theorem dX7_soakOf_63 : decode cX7_soakOf 63 = .ok (.if_icmp .ne 15, 3) := by decide +kernel
theorem dX7_soakOf_66 : decode cX7_soakOf 66 = .ok (.iload_n 2, 1) := by decide +kernel
theorem dX7_soakOf_67 : decode cX7_soakOf 67 = .ok (.iload_n 3, 1) := by decide +kernel
theorem dX7_soakOf_68 : decode cX7_soakOf 68 = .ok (.iconst 2, 1) := by decide +kernel
theorem dX7_soakOf_69 : decode cX7_soakOf 69 = .ok (.idiv, 1) := by decide +kernel
theorem dX7_soakOf_70 : decode cX7_soakOf 70 = .ok (.if_icmp .ne 8, 3) := by decide +kernel
theorem dX7_soakOf_73 : decode cX7_soakOf 73 = .ok (.iconst 2, 1) := by decide +kernel
theorem dX7_soakOf_74 : decode cX7_soakOf 74 = .ok (.iload 5, 2) := by decide +kernel
theorem dX7_soakOf_76 : decode cX7_soakOf 76 = .ok (.imul, 1) := by decide +kernel
theorem dX7_soakOf_77 : decode cX7_soakOf 77 = .ok (.ireturn, 1) := by decide +kernel
theorem dX7_soakOf_78 : decode cX7_soakOf 78 = .ok (.iload 5, 2) := by decide +kernel
theorem dX7_soakOf_80 : decode cX7_soakOf 80 = .ok (.ireturn, 1) := by decide +kernel
theorem dX7_lays_0 : decode cX7_lays 0 = .ok (.aload_n 0, 1) := by decide +kernel
theorem dX7_lays_1 : decode cX7_lays 1 = .ok (.aload_n 0, 1) := by decide +kernel
theorem dX7_lays_2 : decode cX7_lays 2 = .ok (.getfield 35, 3) := by decide +kernel
theorem dX7_lays_5 : decode cX7_lays 5 = .ok (.iload_n 1, 1) := by decide +kernel
theorem dX7_lays_6 : decode cX7_lays 6 = .ok (.iaload, 1) := by decide +kernel
theorem dX7_lays_7 : decode cX7_lays 7 = .ok (.putfield 177, 3) := by decide +kernel
theorem dX7_lays_10 : decode cX7_lays 10 = .ok (.iconst 0, 1) := by decide +kernel
theorem dX7_lays_11 : decode cX7_lays 11 = .ok (.istore_n 2, 1) := by decide +kernel
theorem dX7_lays_12 : decode cX7_lays 12 = .ok (.iload_n 2, 1) := by decide +kernel
theorem dX7_lays_13 : decode cX7_lays 13 = .ok (.aload_n 0, 1) := by decide +kernel
theorem dX7_lays_14 : decode cX7_lays 14 = .ok (.getfield 177, 3) := by decide +kernel
theorem dX7_lays_17 : decode cX7_lays 17 = .ok (.if_icmp .ge 26, 3) := by decide +kernel
theorem dX7_lays_20 : decode cX7_lays 20 = .ok (.aload_n 0, 1) := by decide +kernel
theorem dX7_lays_21 : decode cX7_lays 21 = .ok (.getfield 75, 3) := by decide +kernel
theorem dX7_lays_24 : decode cX7_lays 24 = .ok (.iload_n 2, 1) := by decide +kernel
theorem dX7_lays_25 : decode cX7_lays 25 = .ok (.aload_n 0, 1) := by decide +kernel
theorem dX7_lays_26 : decode cX7_lays 26 = .ok (.getfield 38, 3) := by decide +kernel
theorem dX7_lays_29 : decode cX7_lays 29 = .ok (.bipush 12, 2) := by decide +kernel
theorem dX7_lays_31 : decode cX7_lays 31 = .ok (.iload_n 1, 1) := by decide +kernel
theorem dX7_lays_32 : decode cX7_lays 32 = .ok (.imul, 1) := by decide +kernel
theorem dX7_lays_33 : decode cX7_lays 33 = .ok (.iload_n 2, 1) := by decide +kernel
theorem dX7_lays_34 : decode cX7_lays 34 = .ok (.iadd, 1) := by decide +kernel
theorem dX7_lays_35 : decode cX7_lays 35 = .ok (.iaload, 1) := by decide +kernel
theorem dX7_lays_36 : decode cX7_lays 36 = .ok (.iastore, 1) := by decide +kernel
theorem dX7_lays_37 : decode cX7_lays 37 = .ok (.iinc 2 1, 3) := by decide +kernel
theorem dX7_lays_40 : decode cX7_lays 40 = .ok (.goto (-28), 3) := by decide +kernel
theorem dX7_lays_43 : decode cX7_lays 43 = .ok (.aload_n 0, 1) := by decide +kernel
theorem dX7_lays_44 : decode cX7_lays 44 = .ok (.iconst 0, 1) := by decide +kernel
theorem dX7_lays_45 : decode cX7_lays 45 = .ok (.putfield 180, 3) := by decide +kernel
theorem dX7_lays_48 : decode cX7_lays 48 = .ok (.aload_n 0, 1) := by decide +kernel
theorem dX7_lays_49 : decode cX7_lays 49 = .ok (.iconst 0, 1) := by decide +kernel
theorem dX7_lays_50 : decode cX7_lays 50 = .ok (.putfield 183, 3) := by decide +kernel
theorem dX7_lays_53 : decode cX7_lays 53 = .ok (.aload_n 0, 1) := by decide +kernel
theorem dX7_lays_54 : decode cX7_lays 54 = .ok (.iconst (-1), 1) := by decide +kernel
theorem dX7_lays_55 : decode cX7_lays 55 = .ok (.putfield 186, 3) := by decide +kernel
theorem dX7_lays_58 : decode cX7_lays 58 = .ok (.return_, 1) := by decide +kernel
theorem dX7_holdsOf_0 : decode cX7_holdsOf 0 = .ok (.bipush 60, 2) := by decide +kernel
theorem dX7_holdsOf_2 : decode cX7_holdsOf 2 = .ok (.aload_n 0, 1) := by decide +kernel
theorem dX7_holdsOf_3 : decode cX7_holdsOf 3 = .ok (.getfield 75, 3) := by decide +kernel
theorem dX7_holdsOf_6 : decode cX7_holdsOf 6 = .ok (.iload_n 2, 1) := by decide +kernel
theorem dX7_holdsOf_7 : decode cX7_holdsOf 7 = .ok (.iaload, 1) := by decide +kernel
theorem dX7_holdsOf_8 : decode cX7_holdsOf 8 = .ok (.isub, 1) := by decide +kernel
theorem dX7_holdsOf_9 : decode cX7_holdsOf 9 = .ok (.istore_n 3, 1) := by decide +kernel
theorem dX7_holdsOf_10 : decode cX7_holdsOf 10 = .ok (.aload_n 0, 1) := by decide +kernel
theorem dX7_holdsOf_11 : decode cX7_holdsOf 11 = .ok (.getfield 29, 3) := by decide +kernel
theorem dX7_holdsOf_14 : decode cX7_holdsOf 14 = .ok (.iload_n 1, 1) := by decide +kernel
theorem dX7_holdsOf_15 : decode cX7_holdsOf 15 = .ok (.iaload, 1) := by decide +kernel
theorem dX7_holdsOf_16 : decode cX7_holdsOf 16 = .ok (.iconst 5, 1) := by decide +kernel
theorem dX7_holdsOf_17 : decode cX7_holdsOf 17 = .ok (.if_icmp .ne 10, 3) := by decide +kernel
theorem dX7_holdsOf_20 : decode cX7_holdsOf 20 = .ok (.iload_n 3, 1) := by decide +kernel
theorem dX7_holdsOf_21 : decode cX7_holdsOf 21 = .ok (.bipush 40, 2) := by decide +kernel
theorem dX7_holdsOf_23 : decode cX7_holdsOf 23 = .ok (.iadd, 1) := by decide +kernel
theorem dX7_holdsOf_24 : decode cX7_holdsOf 24 = .ok (.goto 26, 3) := by decide +kernel
theorem dX7_holdsOf_27 : decode cX7_holdsOf 27 = .ok (.aload_n 0, 1) := by decide +kernel
theorem dX7_holdsOf_28 : decode cX7_holdsOf 28 = .ok (.getfield 29, 3) := by decide +kernel
theorem dX7_holdsOf_31 : decode cX7_holdsOf 31 = .ok (.iload_n 1, 1) := by decide +kernel
theorem dX7_holdsOf_32 : decode cX7_holdsOf 32 = .ok (.iaload, 1) := by decide +kernel
theorem dX7_holdsOf_33 : decode cX7_holdsOf 33 = .ok (.bipush 6, 2) := by decide +kernel
theorem dX7_holdsOf_35 : decode cX7_holdsOf 35 = .ok (.if_icmp .ne 14, 3) := by decide +kernel
theorem dX7_holdsOf_38 : decode cX7_holdsOf 38 = .ok (.iload_n 3, 1) := by decide +kernel
theorem dX7_holdsOf_39 : decode cX7_holdsOf 39 = .ok (.aload_n 0, 1) := by decide +kernel
theorem dX7_holdsOf_40 : decode cX7_holdsOf 40 = .ok (.getfield 32, 3) := by decide +kernel
theorem dX7_holdsOf_43 : decode cX7_holdsOf 43 = .ok (.iload_n 1, 1) := by decide +kernel
theorem dX7_holdsOf_44 : decode cX7_holdsOf 44 = .ok (.iaload, 1) := by decide +kernel
theorem dX7_holdsOf_45 : decode cX7_holdsOf 45 = .ok (.iadd, 1) := by decide +kernel
theorem dX7_holdsOf_46 : decode cX7_holdsOf 46 = .ok (.goto 4, 3) := by decide +kernel
theorem dX7_holdsOf_49 : decode cX7_holdsOf 49 = .ok (.iload_n 3, 1) := by decide +kernel
theorem dX7_holdsOf_50 : decode cX7_holdsOf 50 = .ok (.ireturn, 1) := by decide +kernel
theorem dX7_hangsOf_0 : decode cX7_hangsOf 0 = .ok (.iconst 0, 1) := by decide +kernel
theorem dX7_hangsOf_1 : decode cX7_hangsOf 1 = .ok (.istore_n 2, 1) := by decide +kernel
theorem dX7_hangsOf_2 : decode cX7_hangsOf 2 = .ok (.iconst 0, 1) := by decide +kernel
theorem dX7_hangsOf_3 : decode cX7_hangsOf 3 = .ok (.istore_n 3, 1) := by decide +kernel
theorem dX7_hangsOf_4 : decode cX7_hangsOf 4 = .ok (.iload_n 3, 1) := by decide +kernel
theorem dX7_hangsOf_5 : decode cX7_hangsOf 5 = .ok (.iload_n 1, 1) := by decide +kernel
theorem dX7_hangsOf_6 : decode cX7_hangsOf 6 = .ok (.if_icmp .ge 23, 3) := by decide +kernel
theorem dX7_hangsOf_9 : decode cX7_hangsOf 9 = .ok (.iload_n 2, 1) := by decide +kernel
theorem dX7_hangsOf_10 : decode cX7_hangsOf 10 = .ok (.iconst 1, 1) := by decide +kernel
theorem dX7_hangsOf_11 : decode cX7_hangsOf 11 = .ok (.aload_n 0, 1) := by decide +kernel
theorem dX7_hangsOf_12 : decode cX7_hangsOf 12 = .ok (.getfield 75, 3) := by decide +kernel
theorem dX7_hangsOf_15 : decode cX7_hangsOf 15 = .ok (.iload_n 3, 1) := by decide +kernel
theorem dX7_hangsOf_16 : decode cX7_hangsOf 16 = .ok (.iaload, 1) := by decide +kernel
theorem dX7_hangsOf_17 : decode cX7_hangsOf 17 = .ok (.bipush 20, 2) := by decide +kernel
theorem dX7_hangsOf_19 : decode cX7_hangsOf 19 = .ok (.idiv, 1) := by decide +kernel
theorem dX7_hangsOf_20 : decode cX7_hangsOf 20 = .ok (.iadd, 1) := by decide +kernel
theorem dX7_hangsOf_21 : decode cX7_hangsOf 21 = .ok (.iadd, 1) := by decide +kernel
theorem dX7_hangsOf_22 : decode cX7_hangsOf 22 = .ok (.istore_n 2, 1) := by decide +kernel
theorem dX7_hangsOf_23 : decode cX7_hangsOf 23 = .ok (.iinc 3 1, 3) := by decide +kernel
theorem dX7_hangsOf_26 : decode cX7_hangsOf 26 = .ok (.goto (-22), 3) := by decide +kernel
theorem dX7_hangsOf_29 : decode cX7_hangsOf 29 = .ok (.iload_n 2, 1) := by decide +kernel
theorem dX7_hangsOf_30 : decode cX7_hangsOf 30 = .ok (.ireturn, 1) := by decide +kernel
theorem dX7_breakOf_0 : decode cX7_breakOf 0 = .ok (.iconst 1, 1) := by decide +kernel
theorem dX7_breakOf_1 : decode cX7_breakOf 1 = .ok (.istore_n 2, 1) := by decide +kernel
theorem dX7_breakOf_2 : decode cX7_breakOf 2 = .ok (.iload_n 2, 1) := by decide +kernel
theorem dX7_breakOf_3 : decode cX7_breakOf 3 = .ok (.aload_n 0, 1) := by decide +kernel
theorem dX7_breakOf_4 : decode cX7_breakOf 4 = .ok (.getfield 177, 3) := by decide +kernel
theorem dX7_breakOf_7 : decode cX7_breakOf 7 = .ok (.if_icmp .ge 25, 3) := by decide +kernel
theorem dX7_breakOf_10 : decode cX7_breakOf 10 = .ok (.aload_n 0, 1) := by decide +kernel
theorem dX7_breakOf_11 : decode cX7_breakOf 11 = .ok (.iload_n 2, 1) := by decide +kernel
theorem dX7_breakOf_12 : decode cX7_breakOf 12 = .ok (.invokevirtual 189, 3) := by decide +kernel
theorem dX7_breakOf_15 : decode cX7_breakOf 15 = .ok (.aload_n 0, 1) := by decide +kernel
theorem dX7_breakOf_16 : decode cX7_breakOf 16 = .ok (.iload_n 1, 1) := by decide +kernel
theorem dX7_breakOf_17 : decode cX7_breakOf 17 = .ok (.iload_n 2, 1) := by decide +kernel
theorem dX7_breakOf_18 : decode cX7_breakOf 18 = .ok (.invokevirtual 192, 3) := by decide +kernel
theorem dX7_breakOf_21 : decode cX7_breakOf 21 = .ok (.if_icmp .le 5, 3) := by decide +kernel
theorem dX7_breakOf_24 : decode cX7_breakOf 24 = .ok (.iload_n 2, 1) := by decide +kernel
theorem dX7_breakOf_25 : decode cX7_breakOf 25 = .ok (.ireturn, 1) := by decide +kernel
theorem dX7_breakOf_26 : decode cX7_breakOf 26 = .ok (.iinc 2 1, 3) := by decide +kernel
theorem dX7_breakOf_29 : decode cX7_breakOf 29 = .ok (.goto (-27), 3) := by decide +kernel
theorem dX7_breakOf_32 : decode cX7_breakOf 32 = .ok (.iconst (-1), 1) := by decide +kernel
theorem dX7_breakOf_33 : decode cX7_breakOf 33 = .ok (.ireturn, 1) := by decide +kernel
theorem dX7_goesBy_0 : decode cX7_goesBy 0 = .ok (.iconst 0, 1) := by decide +kernel
theorem dX7_goesBy_1 : decode cX7_goesBy 1 = .ok (.istore_n 3, 1) := by decide +kernel
theorem dX7_goesBy_2 : decode cX7_goesBy 2 = .ok (.iload_n 3, 1) := by decide +kernel
theorem dX7_goesBy_3 : decode cX7_goesBy 3 = .ok (.aload_n 0, 1) := by decide +kernel
theorem dX7_goesBy_4 : decode cX7_goesBy 4 = .ok (.getfield 177, 3) := by decide +kernel
theorem dX7_goesBy_7 : decode cX7_goesBy 7 = .ok (.if_icmp .ge 184, 3) := by decide +kernel
theorem dX7_goesBy_10 : decode cX7_goesBy 10 = .ok (.iload_n 3, 1) := by decide +kernel
theorem dX7_goesBy_11 : decode cX7_goesBy 11 = .ok (.aload_n 0, 1) := by decide +kernel
theorem dX7_goesBy_12 : decode cX7_goesBy 12 = .ok (.getfield 196, 3) := by decide +kernel
theorem dX7_goesBy_15 : decode cX7_goesBy 15 = .ok (.if_icmp .ge 60, 3) := by decide +kernel
theorem dX7_goesBy_18 : decode cX7_goesBy 18 = .ok (.aload_n 0, 1) := by decide +kernel
theorem dX7_goesBy_19 : decode cX7_goesBy 19 = .ok (.iload_n 1, 1) := by decide +kernel
theorem dX7_goesBy_20 : decode cX7_goesBy 20 = .ok (.iload_n 3, 1) := by decide +kernel
theorem dX7_goesBy_21 : decode cX7_goesBy 21 = .ok (.aload_n 0, 1) := by decide +kernel
theorem dX7_goesBy_22 : decode cX7_goesBy 22 = .ok (.getfield 177, 3) := by decide +kernel
theorem dX7_goesBy_25 : decode cX7_goesBy 25 = .ok (.iload_n 2, 1) := by decide +kernel
theorem dX7_goesBy_26 : decode cX7_goesBy 26 = .ok (.invokevirtual 104, 3) := by decide +kernel
theorem dX7_goesBy_29 : decode cX7_goesBy 29 = .ok (.istore 4, 2) := by decide +kernel
theorem dX7_goesBy_31 : decode cX7_goesBy 31 = .ok (.aload_n 0, 1) := by decide +kernel
theorem dX7_goesBy_32 : decode cX7_goesBy 32 = .ok (.getfield 75, 3) := by decide +kernel
theorem dX7_goesBy_35 : decode cX7_goesBy 35 = .ok (.iload_n 3, 1) := by decide +kernel
theorem dX7_goesBy_36 : decode cX7_goesBy 36 = .ok (.iaload, 1) := by decide +kernel
theorem dX7_goesBy_37 : decode cX7_goesBy 37 = .ok (.iload 4, 2) := by decide +kernel
theorem dX7_goesBy_39 : decode cX7_goesBy 39 = .ok (.iadd, 1) := by decide +kernel
theorem dX7_goesBy_40 : decode cX7_goesBy 40 = .ok (.bipush 99, 2) := by decide +kernel
theorem dX7_goesBy_42 : decode cX7_goesBy 42 = .ok (.if_icmp .le 15, 3) := by decide +kernel
theorem dX7_goesBy_45 : decode cX7_goesBy 45 = .ok (.bipush 99, 2) := by decide +kernel
theorem dX7_goesBy_47 : decode cX7_goesBy 47 = .ok (.aload_n 0, 1) := by decide +kernel
theorem dX7_goesBy_48 : decode cX7_goesBy 48 = .ok (.getfield 75, 3) := by decide +kernel
theorem dX7_goesBy_51 : decode cX7_goesBy 51 = .ok (.iload_n 3, 1) := by decide +kernel
theorem dX7_goesBy_52 : decode cX7_goesBy 52 = .ok (.iaload, 1) := by decide +kernel
theorem dX7_goesBy_53 : decode cX7_goesBy 53 = .ok (.isub, 1) := by decide +kernel
theorem dX7_goesBy_54 : decode cX7_goesBy 54 = .ok (.goto 5, 3) := by decide +kernel
theorem dX7_goesBy_57 : decode cX7_goesBy 57 = .ok (.iload 4, 2) := by decide +kernel
theorem dX7_goesBy_59 : decode cX7_goesBy 59 = .ok (.istore 4, 2) := by decide +kernel
theorem dX7_goesBy_61 : decode cX7_goesBy 61 = .ok (.aload_n 0, 1) := by decide +kernel
theorem dX7_goesBy_62 : decode cX7_goesBy 62 = .ok (.dup, 1) := by decide +kernel
theorem dX7_goesBy_63 : decode cX7_goesBy 63 = .ok (.getfield 180, 3) := by decide +kernel
theorem dX7_goesBy_66 : decode cX7_goesBy 66 = .ok (.iload 4, 2) := by decide +kernel
theorem dX7_goesBy_68 : decode cX7_goesBy 68 = .ok (.iadd, 1) := by decide +kernel
theorem dX7_goesBy_69 : decode cX7_goesBy 69 = .ok (.putfield 180, 3) := by decide +kernel
theorem dX7_goesBy_72 : decode cX7_goesBy 72 = .ok (.goto 98, 3) := by decide +kernel
theorem dX7_goesBy_75 : decode cX7_goesBy 75 = .ok (.iload_n 3, 1) := by decide +kernel
theorem dX7_goesBy_76 : decode cX7_goesBy 76 = .ok (.ifCond .eq 20, 3) := by decide +kernel
theorem dX7_goesBy_79 : decode cX7_goesBy 79 = .ok (.aload_n 0, 1) := by decide +kernel
theorem dX7_goesBy_80 : decode cX7_goesBy 80 = .ok (.getfield 75, 3) := by decide +kernel
theorem dX7_goesBy_83 : decode cX7_goesBy 83 = .ok (.iload_n 3, 1) := by decide +kernel
theorem dX7_goesBy_84 : decode cX7_goesBy 84 = .ok (.iconst 1, 1) := by decide +kernel
theorem dX7_goesBy_85 : decode cX7_goesBy 85 = .ok (.isub, 1) := by decide +kernel
theorem dX7_goesBy_86 : decode cX7_goesBy 86 = .ok (.iaload, 1) := by decide +kernel
theorem dX7_goesBy_87 : decode cX7_goesBy 87 = .ok (.aload_n 0, 1) := by decide +kernel
theorem dX7_goesBy_88 : decode cX7_goesBy 88 = .ok (.getfield 75, 3) := by decide +kernel
theorem dX7_goesBy_91 : decode cX7_goesBy 91 = .ok (.iload_n 3, 1) := by decide +kernel
theorem dX7_goesBy_92 : decode cX7_goesBy 92 = .ok (.iaload, 1) := by decide +kernel
theorem dX7_goesBy_93 : decode cX7_goesBy 93 = .ok (.if_icmp .gt 7, 3) := by decide +kernel
theorem dX7_goesBy_96 : decode cX7_goesBy 96 = .ok (.iconst 0, 1) := by decide +kernel
theorem dX7_goesBy_97 : decode cX7_goesBy 97 = .ok (.goto 18, 3) := by decide +kernel
theorem dX7_goesBy_100 : decode cX7_goesBy 100 = .ok (.aload_n 0, 1) := by decide +kernel
theorem dX7_goesBy_101 : decode cX7_goesBy 101 = .ok (.getfield 75, 3) := by decide +kernel
theorem dX7_goesBy_104 : decode cX7_goesBy 104 = .ok (.iload_n 3, 1) := by decide +kernel
theorem dX7_goesBy_105 : decode cX7_goesBy 105 = .ok (.iconst 1, 1) := by decide +kernel
theorem dX7_goesBy_106 : decode cX7_goesBy 106 = .ok (.isub, 1) := by decide +kernel
theorem dX7_goesBy_107 : decode cX7_goesBy 107 = .ok (.iaload, 1) := by decide +kernel
theorem dX7_goesBy_108 : decode cX7_goesBy 108 = .ok (.aload_n 0, 1) := by decide +kernel
theorem dX7_goesBy_109 : decode cX7_goesBy 109 = .ok (.getfield 75, 3) := by decide +kernel
theorem dX7_goesBy_112 : decode cX7_goesBy 112 = .ok (.iload_n 3, 1) := by decide +kernel
theorem dX7_goesBy_113 : decode cX7_goesBy 113 = .ok (.iaload, 1) := by decide +kernel
theorem dX7_goesBy_114 : decode cX7_goesBy 114 = .ok (.isub, 1) := by decide +kernel
theorem dX7_goesBy_115 : decode cX7_goesBy 115 = .ok (.istore 4, 2) := by decide +kernel
theorem dX7_goesBy_117 : decode cX7_goesBy 117 = .ok (.aload_n 0, 1) := by decide +kernel
theorem dX7_goesBy_118 : decode cX7_goesBy 118 = .ok (.getfield 29, 3) := by decide +kernel
theorem dX7_goesBy_121 : decode cX7_goesBy 121 = .ok (.iload_n 1, 1) := by decide +kernel
theorem dX7_goesBy_122 : decode cX7_goesBy 122 = .ok (.iaload, 1) := by decide +kernel
theorem dX7_goesBy_123 : decode cX7_goesBy 123 = .ok (.iconst 3, 1) := by decide +kernel
theorem dX7_goesBy_124 : decode cX7_goesBy 124 = .ok (.if_icmp .ne 10, 3) := by decide +kernel
theorem dX7_goesBy_127 : decode cX7_goesBy 127 = .ok (.iload 4, 2) := by decide +kernel
theorem dX7_goesBy_129 : decode cX7_goesBy 129 = .ok (.iconst 2, 1) := by decide +kernel
theorem dX7_goesBy_130 : decode cX7_goesBy 130 = .ok (.idiv, 1) := by decide +kernel
theorem dX7_goesBy_131 : decode cX7_goesBy 131 = .ok (.goto 7, 3) := by decide +kernel
theorem dX7_goesBy_134 : decode cX7_goesBy 134 = .ok (.iload 4, 2) := by decide +kernel
theorem dX7_goesBy_136 : decode cX7_goesBy 136 = .ok (.iconst 4, 1) := by decide +kernel
theorem dX7_goesBy_137 : decode cX7_goesBy 137 = .ok (.idiv, 1) := by decide +kernel
theorem dX7_goesBy_138 : decode cX7_goesBy 138 = .ok (.istore 4, 2) := by decide +kernel
theorem dX7_goesBy_140 : decode cX7_goesBy 140 = .ok (.aload_n 0, 1) := by decide +kernel
theorem dX7_goesBy_141 : decode cX7_goesBy 141 = .ok (.getfield 75, 3) := by decide +kernel
theorem dX7_goesBy_144 : decode cX7_goesBy 144 = .ok (.iload_n 3, 1) := by decide +kernel
theorem dX7_goesBy_145 : decode cX7_goesBy 145 = .ok (.iaload, 1) := by decide +kernel
theorem dX7_goesBy_146 : decode cX7_goesBy 146 = .ok (.iload 4, 2) := by decide +kernel
theorem dX7_goesBy_148 : decode cX7_goesBy 148 = .ok (.iadd, 1) := by decide +kernel
theorem dX7_goesBy_149 : decode cX7_goesBy 149 = .ok (.bipush 99, 2) := by decide +kernel
theorem dX7_goesBy_151 : decode cX7_goesBy 151 = .ok (.if_icmp .le 15, 3) := by decide +kernel
theorem dX7_goesBy_154 : decode cX7_goesBy 154 = .ok (.bipush 99, 2) := by decide +kernel
theorem dX7_goesBy_156 : decode cX7_goesBy 156 = .ok (.aload_n 0, 1) := by decide +kernel
theorem dX7_goesBy_157 : decode cX7_goesBy 157 = .ok (.getfield 75, 3) := by decide +kernel
theorem dX7_goesBy_160 : decode cX7_goesBy 160 = .ok (.iload_n 3, 1) := by decide +kernel
theorem dX7_goesBy_161 : decode cX7_goesBy 161 = .ok (.iaload, 1) := by decide +kernel
theorem dX7_goesBy_162 : decode cX7_goesBy 162 = .ok (.isub, 1) := by decide +kernel
theorem dX7_goesBy_163 : decode cX7_goesBy 163 = .ok (.goto 5, 3) := by decide +kernel
theorem dX7_goesBy_166 : decode cX7_goesBy 166 = .ok (.iload 4, 2) := by decide +kernel
theorem dX7_goesBy_168 : decode cX7_goesBy 168 = .ok (.istore 4, 2) := by decide +kernel
theorem dX7_goesBy_170 : decode cX7_goesBy 170 = .ok (.aload_n 0, 1) := by decide +kernel
theorem dX7_goesBy_171 : decode cX7_goesBy 171 = .ok (.getfield 78, 3) := by decide +kernel
theorem dX7_goesBy_174 : decode cX7_goesBy 174 = .ok (.iload_n 3, 1) := by decide +kernel
theorem dX7_goesBy_175 : decode cX7_goesBy 175 = .ok (.aload_n 0, 1) := by decide +kernel
theorem dX7_goesBy_176 : decode cX7_goesBy 176 = .ok (.getfield 75, 3) := by decide +kernel
theorem dX7_goesBy_179 : decode cX7_goesBy 179 = .ok (.iload_n 3, 1) := by decide +kernel
theorem dX7_goesBy_180 : decode cX7_goesBy 180 = .ok (.iaload, 1) := by decide +kernel
theorem dX7_goesBy_181 : decode cX7_goesBy 181 = .ok (.iload 4, 2) := by decide +kernel
theorem dX7_goesBy_183 : decode cX7_goesBy 183 = .ok (.iadd, 1) := by decide +kernel
theorem dX7_goesBy_184 : decode cX7_goesBy 184 = .ok (.iastore, 1) := by decide +kernel
theorem dX7_goesBy_185 : decode cX7_goesBy 185 = .ok (.iinc 3 1, 3) := by decide +kernel
theorem dX7_goesBy_188 : decode cX7_goesBy 188 = .ok (.goto (-186), 3) := by decide +kernel
theorem dX7_goesBy_191 : decode cX7_goesBy 191 = .ok (.iconst 0, 1) := by decide +kernel
theorem dX7_goesBy_192 : decode cX7_goesBy 192 = .ok (.istore_n 3, 1) := by decide +kernel
theorem dX7_goesBy_193 : decode cX7_goesBy 193 = .ok (.iload_n 3, 1) := by decide +kernel
theorem dX7_goesBy_194 : decode cX7_goesBy 194 = .ok (.aload_n 0, 1) := by decide +kernel
theorem dX7_goesBy_195 : decode cX7_goesBy 195 = .ok (.getfield 177, 3) := by decide +kernel
theorem dX7_goesBy_198 : decode cX7_goesBy 198 = .ok (.if_icmp .ge 21, 3) := by decide +kernel
theorem dX7_goesBy_201 : decode cX7_goesBy 201 = .ok (.aload_n 0, 1) := by decide +kernel
theorem dX7_goesBy_202 : decode cX7_goesBy 202 = .ok (.getfield 75, 3) := by decide +kernel
theorem dX7_goesBy_205 : decode cX7_goesBy 205 = .ok (.iload_n 3, 1) := by decide +kernel
theorem dX7_goesBy_206 : decode cX7_goesBy 206 = .ok (.aload_n 0, 1) := by decide +kernel
theorem dX7_goesBy_207 : decode cX7_goesBy 207 = .ok (.getfield 78, 3) := by decide +kernel
theorem dX7_goesBy_210 : decode cX7_goesBy 210 = .ok (.iload_n 3, 1) := by decide +kernel
theorem dX7_goesBy_211 : decode cX7_goesBy 211 = .ok (.iaload, 1) := by decide +kernel
theorem dX7_goesBy_212 : decode cX7_goesBy 212 = .ok (.iastore, 1) := by decide +kernel
theorem dX7_goesBy_213 : decode cX7_goesBy 213 = .ok (.iinc 3 1, 3) := by decide +kernel
theorem dX7_goesBy_216 : decode cX7_goesBy 216 = .ok (.goto (-23), 3) := by decide +kernel
theorem dX7_goesBy_219 : decode cX7_goesBy 219 = .ok (.aload_n 0, 1) := by decide +kernel
theorem dX7_goesBy_220 : decode cX7_goesBy 220 = .ok (.iload_n 1, 1) := by decide +kernel
theorem dX7_goesBy_221 : decode cX7_goesBy 221 = .ok (.invokevirtual 199, 3) := by decide +kernel
theorem dX7_goesBy_224 : decode cX7_goesBy 224 = .ok (.istore_n 3, 1) := by decide +kernel
theorem dX7_goesBy_225 : decode cX7_goesBy 225 = .ok (.iload_n 3, 1) := by decide +kernel
theorem dX7_goesBy_226 : decode cX7_goesBy 226 = .ok (.iconst (-1), 1) := by decide +kernel
theorem dX7_goesBy_227 : decode cX7_goesBy 227 = .ok (.if_icmp .ne 4, 3) := by decide +kernel
theorem dX7_goesBy_230 : decode cX7_goesBy 230 = .ok (.return_, 1) := by decide +kernel
theorem dX7_goesBy_231 : decode cX7_goesBy 231 = .ok (.aload_n 0, 1) := by decide +kernel
theorem dX7_goesBy_232 : decode cX7_goesBy 232 = .ok (.dup, 1) := by decide +kernel
theorem dX7_goesBy_233 : decode cX7_goesBy 233 = .ok (.getfield 177, 3) := by decide +kernel
theorem dX7_goesBy_236 : decode cX7_goesBy 236 = .ok (.iload_n 3, 1) := by decide +kernel
theorem dX7_goesBy_237 : decode cX7_goesBy 237 = .ok (.isub, 1) := by decide +kernel
theorem dX7_goesBy_238 : decode cX7_goesBy 238 = .ok (.putfield 177, 3) := by decide +kernel
theorem dX7_goesBy_241 : decode cX7_goesBy 241 = .ok (.iconst 0, 1) := by decide +kernel
theorem dX7_goesBy_242 : decode cX7_goesBy 242 = .ok (.istore 4, 2) := by decide +kernel
theorem dX7_goesBy_244 : decode cX7_goesBy 244 = .ok (.iload 4, 2) := by decide +kernel
theorem dX7_goesBy_246 : decode cX7_goesBy 246 = .ok (.aload_n 0, 1) := by decide +kernel
theorem dX7_goesBy_247 : decode cX7_goesBy 247 = .ok (.getfield 177, 3) := by decide +kernel
theorem dX7_goesBy_250 : decode cX7_goesBy 250 = .ok (.if_icmp .ge 25, 3) := by decide +kernel
theorem dX7_goesBy_253 : decode cX7_goesBy 253 = .ok (.aload_n 0, 1) := by decide +kernel
theorem dX7_goesBy_254 : decode cX7_goesBy 254 = .ok (.getfield 75, 3) := by decide +kernel
theorem dX7_goesBy_257 : decode cX7_goesBy 257 = .ok (.iload 4, 2) := by decide +kernel
theorem dX7_goesBy_259 : decode cX7_goesBy 259 = .ok (.aload_n 0, 1) := by decide +kernel
theorem dX7_goesBy_260 : decode cX7_goesBy 260 = .ok (.getfield 75, 3) := by decide +kernel
theorem dX7_goesBy_263 : decode cX7_goesBy 263 = .ok (.iload 4, 2) := by decide +kernel
theorem dX7_goesBy_265 : decode cX7_goesBy 265 = .ok (.iload_n 3, 1) := by decide +kernel
theorem dX7_goesBy_266 : decode cX7_goesBy 266 = .ok (.iadd, 1) := by decide +kernel
theorem dX7_goesBy_267 : decode cX7_goesBy 267 = .ok (.iaload, 1) := by decide +kernel
theorem dX7_goesBy_268 : decode cX7_goesBy 268 = .ok (.iastore, 1) := by decide +kernel
theorem dX7_goesBy_269 : decode cX7_goesBy 269 = .ok (.iinc 4 1, 3) := by decide +kernel
theorem dX7_goesBy_272 : decode cX7_goesBy 272 = .ok (.goto (-28), 3) := by decide +kernel
theorem dX7_goesBy_275 : decode cX7_goesBy 275 = .ok (.aload_n 0, 1) := by decide +kernel
theorem dX7_goesBy_276 : decode cX7_goesBy 276 = .ok (.aload_n 0, 1) := by decide +kernel
theorem dX7_goesBy_277 : decode cX7_goesBy 277 = .ok (.getfield 196, 3) := by decide +kernel
theorem dX7_goesBy_280 : decode cX7_goesBy 280 = .ok (.iload_n 3, 1) := by decide +kernel
theorem dX7_goesBy_281 : decode cX7_goesBy 281 = .ok (.if_icmp .le 12, 3) := by decide +kernel
theorem dX7_goesBy_284 : decode cX7_goesBy 284 = .ok (.aload_n 0, 1) := by decide +kernel
theorem dX7_goesBy_285 : decode cX7_goesBy 285 = .ok (.getfield 196, 3) := by decide +kernel
theorem dX7_goesBy_288 : decode cX7_goesBy 288 = .ok (.iload_n 3, 1) := by decide +kernel
theorem dX7_goesBy_289 : decode cX7_goesBy 289 = .ok (.isub, 1) := by decide +kernel
theorem dX7_goesBy_290 : decode cX7_goesBy 290 = .ok (.goto 4, 3) := by decide +kernel
theorem dX7_goesBy_293 : decode cX7_goesBy 293 = .ok (.iconst 0, 1) := by decide +kernel
theorem dX7_goesBy_294 : decode cX7_goesBy 294 = .ok (.putfield 196, 3) := by decide +kernel
theorem dX7_goesBy_297 : decode cX7_goesBy 297 = .ok (.aload_n 0, 1) := by decide +kernel
theorem dX7_goesBy_298 : decode cX7_goesBy 298 = .ok (.dup, 1) := by decide +kernel
theorem dX7_goesBy_299 : decode cX7_goesBy 299 = .ok (.getfield 183, 3) := by decide +kernel
theorem dX7_goesBy_302 : decode cX7_goesBy 302 = .ok (.iload_n 3, 1) := by decide +kernel
theorem dX7_goesBy_303 : decode cX7_goesBy 303 = .ok (.iadd, 1) := by decide +kernel
theorem dX7_goesBy_304 : decode cX7_goesBy 304 = .ok (.putfield 183, 3) := by decide +kernel
theorem dX7_goesBy_307 : decode cX7_goesBy 307 = .ok (.return_, 1) := by decide +kernel
theorem dX7_dunks_0 : decode cX7_dunks 0 = .ok (.aload_n 0, 1) := by decide +kernel
theorem dX7_dunks_1 : decode cX7_dunks 1 = .ok (.iload_n 2, 1) := by decide +kernel
theorem dX7_dunks_2 : decode cX7_dunks 2 = .ok (.aload_n 0, 1) := by decide +kernel
theorem dX7_dunks_3 : decode cX7_dunks 3 = .ok (.getfield 177, 3) := by decide +kernel
theorem dX7_dunks_6 : decode cX7_dunks 6 = .ok (.if_icmp .ge 7, 3) := by decide +kernel
theorem dX7_dunks_9 : decode cX7_dunks 9 = .ok (.iload_n 2, 1) := by decide +kernel
theorem dX7_dunks_10 : decode cX7_dunks 10 = .ok (.goto 7, 3) := by decide +kernel
theorem dX7_dunks_13 : decode cX7_dunks 13 = .ok (.aload_n 0, 1) := by decide +kernel
theorem dX7_dunks_14 : decode cX7_dunks 14 = .ok (.getfield 177, 3) := by decide +kernel
theorem dX7_dunks_17 : decode cX7_dunks 17 = .ok (.putfield 196, 3) := by decide +kernel
theorem dX7_dunks_20 : decode cX7_dunks 20 = .ok (.iconst 1, 1) := by decide +kernel
theorem dX7_dunks_21 : decode cX7_dunks 21 = .ok (.istore 6, 2) := by decide +kernel
theorem dX7_dunks_23 : decode cX7_dunks 23 = .ok (.iload 6, 2) := by decide +kernel
theorem dX7_dunks_25 : decode cX7_dunks 25 = .ok (.iload_n 3, 1) := by decide +kernel
theorem dX7_dunks_26 : decode cX7_dunks 26 = .ok (.if_icmp .gt 40, 3) := by decide +kernel
theorem dX7_dunks_29 : decode cX7_dunks 29 = .ok (.aload_n 0, 1) := by decide +kernel
theorem dX7_dunks_30 : decode cX7_dunks 30 = .ok (.iload_n 1, 1) := by decide +kernel
theorem dX7_dunks_31 : decode cX7_dunks 31 = .ok (.iload 4, 2) := by decide +kernel
theorem dX7_dunks_33 : decode cX7_dunks 33 = .ok (.invokevirtual 202, 3) := by decide +kernel
theorem dX7_dunks_36 : decode cX7_dunks 36 = .ok (.aload_n 0, 1) := by decide +kernel
theorem dX7_dunks_37 : decode cX7_dunks 37 = .ok (.getfield 183, 3) := by decide +kernel
theorem dX7_dunks_40 : decode cX7_dunks 40 = .ok (.ifCond .le 20, 3) := by decide +kernel
theorem dX7_dunks_43 : decode cX7_dunks 43 = .ok (.aload_n 0, 1) := by decide +kernel
theorem dX7_dunks_44 : decode cX7_dunks 44 = .ok (.getfield 186, 3) := by decide +kernel
theorem dX7_dunks_47 : decode cX7_dunks 47 = .ok (.iconst (-1), 1) := by decide +kernel
theorem dX7_dunks_48 : decode cX7_dunks 48 = .ok (.if_icmp .ne 12, 3) := by decide +kernel
theorem dX7_dunks_51 : decode cX7_dunks 51 = .ok (.aload_n 0, 1) := by decide +kernel
theorem dX7_dunks_52 : decode cX7_dunks 52 = .ok (.iload 5, 2) := by decide +kernel
theorem dX7_dunks_54 : decode cX7_dunks 54 = .ok (.iload 6, 2) := by decide +kernel
theorem dX7_dunks_56 : decode cX7_dunks 56 = .ok (.iadd, 1) := by decide +kernel
theorem dX7_dunks_57 : decode cX7_dunks 57 = .ok (.putfield 186, 3) := by decide +kernel
theorem dX7_dunks_60 : decode cX7_dunks 60 = .ok (.iinc 6 1, 3) := by decide +kernel
theorem dX7_dunks_63 : decode cX7_dunks 63 = .ok (.goto (-40), 3) := by decide +kernel
theorem dX7_dunks_66 : decode cX7_dunks 66 = .ok (.return_, 1) := by decide +kernel
theorem dX7_tries_0 : decode cX7_tries 0 = .ok (.aload_n 0, 1) := by decide +kernel
theorem dX7_tries_1 : decode cX7_tries 1 = .ok (.iload_n 1, 1) := by decide +kernel
theorem dX7_tries_2 : decode cX7_tries 2 = .ok (.invokevirtual 206, 3) := by decide +kernel
theorem dX7_tries_5 : decode cX7_tries 5 = .ok (.aload_n 0, 1) := by decide +kernel
theorem dX7_tries_6 : decode cX7_tries 6 = .ok (.iload_n 1, 1) := by decide +kernel
theorem dX7_tries_7 : decode cX7_tries 7 = .ok (.iload_n 2, 1) := by decide +kernel
theorem dX7_tries_8 : decode cX7_tries 8 = .ok (.iload_n 3, 1) := by decide +kernel
theorem dX7_tries_9 : decode cX7_tries 9 = .ok (.iload 5, 2) := by decide +kernel
theorem dX7_tries_11 : decode cX7_tries 11 = .ok (.iconst 0, 1) := by decide +kernel
theorem dX7_tries_12 : decode cX7_tries 12 = .ok (.invokevirtual 210, 3) := by decide +kernel
theorem dX7_tries_15 : decode cX7_tries 15 = .ok (.aload_n 0, 1) := by decide +kernel
theorem dX7_tries_16 : decode cX7_tries 16 = .ok (.iload_n 1, 1) := by decide +kernel
theorem dX7_tries_17 : decode cX7_tries 17 = .ok (.iconst 0, 1) := by decide +kernel
theorem dX7_tries_18 : decode cX7_tries 18 = .ok (.iload 4, 2) := by decide +kernel
theorem dX7_tries_20 : decode cX7_tries 20 = .ok (.iload 5, 2) := by decide +kernel
theorem dX7_tries_22 : decode cX7_tries 22 = .ok (.iload_n 3, 1) := by decide +kernel
theorem dX7_tries_23 : decode cX7_tries 23 = .ok (.invokevirtual 210, 3) := by decide +kernel
theorem dX7_tries_26 : decode cX7_tries 26 = .ok (.return_, 1) := by decide +kernel
theorem dX7_worthNow_0 : decode cX7_worthNow 0 = .ok (.iconst 0, 1) := by decide +kernel
theorem dX7_worthNow_1 : decode cX7_worthNow 1 = .ok (.istore_n 1, 1) := by decide +kernel
theorem dX7_worthNow_2 : decode cX7_worthNow 2 = .ok (.iconst 0, 1) := by decide +kernel
theorem dX7_worthNow_3 : decode cX7_worthNow 3 = .ok (.istore_n 2, 1) := by decide +kernel
theorem dX7_worthNow_4 : decode cX7_worthNow 4 = .ok (.iload_n 2, 1) := by decide +kernel
theorem dX7_worthNow_5 : decode cX7_worthNow 5 = .ok (.aload_n 0, 1) := by decide +kernel
theorem dX7_worthNow_6 : decode cX7_worthNow 6 = .ok (.getfield 177, 3) := by decide +kernel
theorem dX7_worthNow_9 : decode cX7_worthNow 9 = .ok (.if_icmp .ge 26, 3) := by decide +kernel
theorem dX7_worthNow_12 : decode cX7_worthNow 12 = .ok (.iload_n 1, 1) := by decide +kernel
theorem dX7_worthNow_13 : decode cX7_worthNow 13 = .ok (.aload_n 0, 1) := by decide +kernel
theorem dX7_worthNow_14 : decode cX7_worthNow 14 = .ok (.getfield 41, 3) := by decide +kernel
theorem dX7_worthNow_17 : decode cX7_worthNow 17 = .ok (.aload_n 0, 1) := by decide +kernel
theorem dX7_worthNow_18 : decode cX7_worthNow 18 = .ok (.getfield 75, 3) := by decide +kernel
theorem dX7_worthNow_21 : decode cX7_worthNow 21 = .ok (.iload_n 2, 1) := by decide +kernel
theorem dX7_worthNow_22 : decode cX7_worthNow 22 = .ok (.iaload, 1) := by decide +kernel
theorem dX7_worthNow_23 : decode cX7_worthNow 23 = .ok (.bipush 10, 2) := by decide +kernel
theorem dX7_worthNow_25 : decode cX7_worthNow 25 = .ok (.idiv, 1) := by decide +kernel
theorem dX7_worthNow_26 : decode cX7_worthNow 26 = .ok (.iaload, 1) := by decide +kernel
theorem dX7_worthNow_27 : decode cX7_worthNow 27 = .ok (.iadd, 1) := by decide +kernel
theorem dX7_worthNow_28 : decode cX7_worthNow 28 = .ok (.istore_n 1, 1) := by decide +kernel
theorem dX7_worthNow_29 : decode cX7_worthNow 29 = .ok (.iinc 2 1, 3) := by decide +kernel
theorem dX7_worthNow_32 : decode cX7_worthNow 32 = .ok (.goto (-28), 3) := by decide +kernel
theorem dX7_worthNow_35 : decode cX7_worthNow 35 = .ok (.iload_n 1, 1) := by decide +kernel
theorem dX7_worthNow_36 : decode cX7_worthNow 36 = .ok (.ireturn, 1) := by decide +kernel
theorem dX7_soak_0 : decode cX7_soak 0 = .ok (.aload_n 0, 1) := by decide +kernel
theorem dX7_soak_1 : decode cX7_soak 1 = .ok (.iload_n 1, 1) := by decide +kernel
theorem dX7_soak_2 : decode cX7_soak 2 = .ok (.iload_n 2, 1) := by decide +kernel
theorem dX7_soak_3 : decode cX7_soak 3 = .ok (.invokevirtual 112, 3) := by decide +kernel
theorem dX7_soak_6 : decode cX7_soak 6 = .ok (.ifCond .eq 22, 3) := by decide +kernel
theorem dX7_soak_9 : decode cX7_soak 9 = .ok (.aload_n 0, 1) := by decide +kernel
theorem dX7_soak_10 : decode cX7_soak 10 = .ok (.iload_n 1, 1) := by decide +kernel
theorem dX7_soak_11 : decode cX7_soak 11 = .ok (.iload_n 2, 1) := by decide +kernel
theorem dX7_soak_12 : decode cX7_soak 12 = .ok (.aload_n 0, 1) := by decide +kernel
theorem dX7_soak_13 : decode cX7_soak 13 = .ok (.getfield 35, 3) := by decide +kernel
theorem dX7_soak_16 : decode cX7_soak 16 = .ok (.iload_n 1, 1) := by decide +kernel
theorem dX7_soak_17 : decode cX7_soak 17 = .ok (.iaload, 1) := by decide +kernel
theorem dX7_soak_18 : decode cX7_soak 18 = .ok (.aload_n 0, 1) := by decide +kernel
theorem dX7_soak_19 : decode cX7_soak 19 = .ok (.getfield 7, 3) := by decide +kernel
theorem dX7_soak_22 : decode cX7_soak 22 = .ok (.invokevirtual 104, 3) := by decide +kernel
theorem dX7_soak_25 : decode cX7_soak 25 = .ok (.goto 8, 3) := by decide +kernel
theorem dX7_soak_28 : decode cX7_soak 28 = .ok (.aload_n 0, 1) := by decide +kernel
theorem dX7_soak_29 : decode cX7_soak 29 = .ok (.iconst (-1), 1) := by decide +kernel
theorem dX7_soak_30 : decode cX7_soak 30 = .ok (.invokevirtual 100, 3) := by decide +kernel
theorem dX7_soak_33 : decode cX7_soak 33 = .ok (.ireturn, 1) := by decide +kernel
theorem dX7_cellOf_0 : decode cX7_cellOf 0 = .ok (.aload_n 0, 1) := by decide +kernel
theorem dX7_cellOf_1 : decode cX7_cellOf 1 = .ok (.iload_n 1, 1) := by decide +kernel
theorem dX7_cellOf_2 : decode cX7_cellOf 2 = .ok (.iload_n 2, 1) := by decide +kernel
theorem dX7_cellOf_3 : decode cX7_cellOf 3 = .ok (.invokevirtual 112, 3) := by decide +kernel
theorem dX7_cellOf_6 : decode cX7_cellOf 6 = .ok (.ifCond .ne 9, 3) := by decide +kernel
theorem dX7_cellOf_9 : decode cX7_cellOf 9 = .ok (.aload_n 0, 1) := by decide +kernel
theorem dX7_cellOf_10 : decode cX7_cellOf 10 = .ok (.iconst (-1), 1) := by decide +kernel
theorem dX7_cellOf_11 : decode cX7_cellOf 11 = .ok (.invokevirtual 214, 3) := by decide +kernel
theorem dX7_cellOf_14 : decode cX7_cellOf 14 = .ok (.ireturn, 1) := by decide +kernel
theorem dX7_cellOf_15 : decode cX7_cellOf 15 = .ok (.iload_n 3, 1) := by decide +kernel
theorem dX7_cellOf_16 : decode cX7_cellOf 16 = .ok (.ifCond .lt 8, 3) := by decide +kernel
theorem dX7_cellOf_19 : decode cX7_cellOf 19 = .ok (.iload_n 3, 1) := by decide +kernel
theorem dX7_cellOf_20 : decode cX7_cellOf 20 = .ok (.iconst 1, 1) := by decide +kernel
theorem dX7_cellOf_21 : decode cX7_cellOf 21 = .ok (.if_icmp .le 10, 3) := by decide +kernel
theorem dX7_cellOf_24 : decode cX7_cellOf 24 = .ok (.aload_n 0, 1) := by decide +kernel
theorem dX7_cellOf_25 : decode cX7_cellOf 25 = .ok (.bipush (-5), 2) := by decide +kernel
theorem dX7_cellOf_27 : decode cX7_cellOf 27 = .ok (.invokevirtual 214, 3) := by decide +kernel
theorem dX7_cellOf_30 : decode cX7_cellOf 30 = .ok (.ireturn, 1) := by decide +kernel
theorem dX7_cellOf_31 : decode cX7_cellOf 31 = .ok (.aload_n 0, 1) := by decide +kernel
theorem dX7_cellOf_32 : decode cX7_cellOf 32 = .ok (.iload_n 1, 1) := by decide +kernel
theorem dX7_cellOf_33 : decode cX7_cellOf 33 = .ok (.invokevirtual 206, 3) := by decide +kernel
theorem dX7_cellOf_36 : decode cX7_cellOf 36 = .ok (.iload_n 3, 1) := by decide +kernel
theorem dX7_cellOf_37 : decode cX7_cellOf 37 = .ok (.ifCond .ne 12, 3) := by decide +kernel
theorem dX7_cellOf_40 : decode cX7_cellOf 40 = .ok (.aload_n 0, 1) := by decide +kernel
theorem dX7_cellOf_41 : decode cX7_cellOf 41 = .ok (.iload_n 1, 1) := by decide +kernel
theorem dX7_cellOf_42 : decode cX7_cellOf 42 = .ok (.iload_n 2, 1) := by decide +kernel
theorem dX7_cellOf_43 : decode cX7_cellOf 43 = .ok (.invokevirtual 192, 3) := by decide +kernel
theorem dX7_cellOf_46 : decode cX7_cellOf 46 = .ok (.goto 8, 3) := by decide +kernel
theorem dX7_cellOf_49 : decode cX7_cellOf 49 = .ok (.aload_n 0, 1) := by decide +kernel
theorem dX7_cellOf_50 : decode cX7_cellOf 50 = .ok (.iload_n 2, 1) := by decide +kernel
theorem dX7_cellOf_51 : decode cX7_cellOf 51 = .ok (.invokevirtual 189, 3) := by decide +kernel
theorem dX7_cellOf_54 : decode cX7_cellOf 54 = .ok (.ireturn, 1) := by decide +kernel
theorem dX7_breaks_0 : decode cX7_breaks 0 = .ok (.aload_n 0, 1) := by decide +kernel
theorem dX7_breaks_1 : decode cX7_breaks 1 = .ok (.iload_n 1, 1) := by decide +kernel
theorem dX7_breaks_2 : decode cX7_breaks 2 = .ok (.invokevirtual 93, 3) := by decide +kernel
theorem dX7_breaks_5 : decode cX7_breaks 5 = .ok (.ifCond .ne 9, 3) := by decide +kernel
theorem dX7_breaks_8 : decode cX7_breaks 8 = .ok (.aload_n 0, 1) := by decide +kernel
theorem dX7_breaks_9 : decode cX7_breaks 9 = .ok (.iconst (-1), 1) := by decide +kernel
theorem dX7_breaks_10 : decode cX7_breaks 10 = .ok (.invokevirtual 217, 3) := by decide +kernel
theorem dX7_breaks_13 : decode cX7_breaks 13 = .ok (.ireturn, 1) := by decide +kernel
theorem dX7_breaks_14 : decode cX7_breaks 14 = .ok (.aload_n 0, 1) := by decide +kernel
theorem dX7_breaks_15 : decode cX7_breaks 15 = .ok (.iload_n 1, 1) := by decide +kernel
theorem dX7_breaks_16 : decode cX7_breaks 16 = .ok (.invokevirtual 206, 3) := by decide +kernel
theorem dX7_breaks_19 : decode cX7_breaks 19 = .ok (.aload_n 0, 1) := by decide +kernel
theorem dX7_breaks_20 : decode cX7_breaks 20 = .ok (.iload_n 1, 1) := by decide +kernel
theorem dX7_breaks_21 : decode cX7_breaks 21 = .ok (.invokevirtual 199, 3) := by decide +kernel
theorem dX7_breaks_24 : decode cX7_breaks 24 = .ok (.ireturn, 1) := by decide +kernel
theorem dX7_may_0 : decode cX7_may 0 = .ok (.aload_n 0, 1) := by decide +kernel
theorem dX7_may_1 : decode cX7_may 1 = .ok (.iload_n 1, 1) := by decide +kernel
theorem dX7_may_2 : decode cX7_may 2 = .ok (.invokevirtual 220, 3) := by decide +kernel
theorem dX7_may_5 : decode cX7_may 5 = .ok (.ifCond .eq 23, 3) := by decide +kernel
theorem dX7_may_8 : decode cX7_may 8 = .ok (.aload_n 0, 1) := by decide +kernel
theorem dX7_may_9 : decode cX7_may 9 = .ok (.iload_n 2, 1) := by decide +kernel
theorem dX7_may_10 : decode cX7_may 10 = .ok (.invokevirtual 223, 3) := by decide +kernel
theorem dX7_may_13 : decode cX7_may 13 = .ok (.ifCond .eq 15, 3) := by decide +kernel
theorem dX7_may_16 : decode cX7_may 16 = .ok (.aload_n 0, 1) := by decide +kernel
theorem dX7_may_17 : decode cX7_may 17 = .ok (.iload_n 3, 1) := by decide +kernel
theorem dX7_may_18 : decode cX7_may 18 = .ok (.invokevirtual 223, 3) := by decide +kernel
theorem dX7_may_21 : decode cX7_may 21 = .ok (.ifCond .eq 7, 3) := by decide +kernel
theorem dX7_may_24 : decode cX7_may 24 = .ok (.iconst 1, 1) := by decide +kernel
theorem dX7_may_25 : decode cX7_may 25 = .ok (.goto 4, 3) := by decide +kernel
theorem dX7_may_28 : decode cX7_may 28 = .ok (.iconst 0, 1) := by decide +kernel
theorem dX7_may_29 : decode cX7_may 29 = .ok (.ireturn, 1) := by decide +kernel
theorem dX7_left_0 : decode cX7_left 0 = .ok (.aload_n 0, 1) := by decide +kernel
theorem dX7_left_1 : decode cX7_left 1 = .ok (.iload_n 1, 1) := by decide +kernel
theorem dX7_left_2 : decode cX7_left 2 = .ok (.invokevirtual 93, 3) := by decide +kernel
theorem dX7_left_5 : decode cX7_left 5 = .ok (.ifCond .ne 9, 3) := by decide +kernel
theorem dX7_left_8 : decode cX7_left 8 = .ok (.aload_n 0, 1) := by decide +kernel
theorem dX7_left_9 : decode cX7_left 9 = .ok (.iconst (-1), 1) := by decide +kernel
theorem dX7_left_10 : decode cX7_left 10 = .ok (.invokevirtual 100, 3) := by decide +kernel
theorem dX7_left_13 : decode cX7_left 13 = .ok (.ireturn, 1) := by decide +kernel
theorem dX7_left_14 : decode cX7_left 14 = .ok (.aload_n 0, 1) := by decide +kernel
theorem dX7_left_15 : decode cX7_left 15 = .ok (.iload_n 2, 1) := by decide +kernel
theorem dX7_left_16 : decode cX7_left 16 = .ok (.iload_n 3, 1) := by decide +kernel
theorem dX7_left_17 : decode cX7_left 17 = .ok (.iload 4, 2) := by decide +kernel
theorem dX7_left_19 : decode cX7_left 19 = .ok (.invokevirtual 226, 3) := by decide +kernel
theorem dX7_left_22 : decode cX7_left 22 = .ok (.ifCond .ne 10, 3) := by decide +kernel
theorem dX7_left_25 : decode cX7_left 25 = .ok (.aload_n 0, 1) := by decide +kernel
theorem dX7_left_26 : decode cX7_left 26 = .ok (.bipush (-6), 2) := by decide +kernel
theorem dX7_left_28 : decode cX7_left 28 = .ok (.invokevirtual 100, 3) := by decide +kernel
theorem dX7_left_31 : decode cX7_left 31 = .ok (.ireturn, 1) := by decide +kernel
theorem dX7_left_32 : decode cX7_left 32 = .ok (.aload_n 0, 1) := by decide +kernel
theorem dX7_left_33 : decode cX7_left 33 = .ok (.iload_n 1, 1) := by decide +kernel
theorem dX7_left_34 : decode cX7_left 34 = .ok (.iload_n 2, 1) := by decide +kernel
theorem dX7_left_35 : decode cX7_left 35 = .ok (.iload_n 3, 1) := by decide +kernel
theorem dX7_left_36 : decode cX7_left 36 = .ok (.iload 4, 2) := by decide +kernel
theorem dX7_left_38 : decode cX7_left 38 = .ok (.aload_n 0, 1) := by decide +kernel
theorem dX7_left_39 : decode cX7_left 39 = .ok (.getfield 7, 3) := by decide +kernel
theorem dX7_left_42 : decode cX7_left 42 = .ok (.invokevirtual 230, 3) := by decide +kernel
theorem dX7_left_45 : decode cX7_left 45 = .ok (.aload_n 0, 1) := by decide +kernel
theorem dX7_left_46 : decode cX7_left 46 = .ok (.getfield 177, 3) := by decide +kernel
theorem dX7_left_49 : decode cX7_left 49 = .ok (.ireturn, 1) := by decide +kernel
theorem dX7_wetness_0 : decode cX7_wetness 0 = .ok (.aload_n 0, 1) := by decide +kernel
theorem dX7_wetness_1 : decode cX7_wetness 1 = .ok (.iload_n 1, 1) := by decide +kernel
theorem dX7_wetness_2 : decode cX7_wetness 2 = .ok (.invokevirtual 93, 3) := by decide +kernel
theorem dX7_wetness_5 : decode cX7_wetness 5 = .ok (.ifCond .ne 9, 3) := by decide +kernel
theorem dX7_wetness_8 : decode cX7_wetness 8 = .ok (.aload_n 0, 1) := by decide +kernel
theorem dX7_wetness_9 : decode cX7_wetness 9 = .ok (.iconst (-1), 1) := by decide +kernel
theorem dX7_wetness_10 : decode cX7_wetness 10 = .ok (.invokevirtual 100, 3) := by decide +kernel
theorem dX7_wetness_13 : decode cX7_wetness 13 = .ok (.ireturn, 1) := by decide +kernel
theorem dX7_wetness_14 : decode cX7_wetness 14 = .ok (.iload 5, 2) := by decide +kernel
theorem dX7_wetness_16 : decode cX7_wetness 16 = .ok (.ifCond .ge 10, 3) := by decide +kernel
theorem dX7_wetness_19 : decode cX7_wetness 19 = .ok (.aload_n 0, 1) := by decide +kernel
theorem dX7_wetness_20 : decode cX7_wetness 20 = .ok (.bipush (-5), 2) := by decide +kernel
theorem dX7_wetness_22 : decode cX7_wetness 22 = .ok (.invokevirtual 100, 3) := by decide +kernel
theorem dX7_wetness_25 : decode cX7_wetness 25 = .ok (.ireturn, 1) := by decide +kernel
theorem dX7_wetness_26 : decode cX7_wetness 26 = .ok (.aload_n 0, 1) := by decide +kernel
theorem dX7_wetness_27 : decode cX7_wetness 27 = .ok (.iload_n 2, 1) := by decide +kernel
theorem dX7_wetness_28 : decode cX7_wetness 28 = .ok (.iload_n 3, 1) := by decide +kernel
theorem dX7_wetness_29 : decode cX7_wetness 29 = .ok (.iload 4, 2) := by decide +kernel
theorem dX7_wetness_31 : decode cX7_wetness 31 = .ok (.invokevirtual 226, 3) := by decide +kernel
theorem dX7_wetness_34 : decode cX7_wetness 34 = .ok (.ifCond .ne 10, 3) := by decide +kernel
theorem dX7_wetness_37 : decode cX7_wetness 37 = .ok (.aload_n 0, 1) := by decide +kernel
theorem dX7_wetness_38 : decode cX7_wetness 38 = .ok (.bipush (-6), 2) := by decide +kernel
theorem dX7_wetness_40 : decode cX7_wetness 40 = .ok (.invokevirtual 100, 3) := by decide +kernel
theorem dX7_wetness_43 : decode cX7_wetness 43 = .ok (.ireturn, 1) := by decide +kernel
theorem dX7_wetness_44 : decode cX7_wetness 44 = .ok (.aload_n 0, 1) := by decide +kernel
theorem dX7_wetness_45 : decode cX7_wetness 45 = .ok (.iload_n 1, 1) := by decide +kernel
theorem dX7_wetness_46 : decode cX7_wetness 46 = .ok (.iload_n 2, 1) := by decide +kernel
theorem dX7_wetness_47 : decode cX7_wetness 47 = .ok (.iload_n 3, 1) := by decide +kernel
theorem dX7_wetness_48 : decode cX7_wetness 48 = .ok (.iload 4, 2) := by decide +kernel
theorem dX7_wetness_50 : decode cX7_wetness 50 = .ok (.aload_n 0, 1) := by decide +kernel
theorem dX7_wetness_51 : decode cX7_wetness 51 = .ok (.getfield 7, 3) := by decide +kernel
theorem dX7_wetness_54 : decode cX7_wetness 54 = .ok (.invokevirtual 230, 3) := by decide +kernel
theorem dX7_wetness_57 : decode cX7_wetness 57 = .ok (.iload 5, 2) := by decide +kernel
theorem dX7_wetness_59 : decode cX7_wetness 59 = .ok (.aload_n 0, 1) := by decide +kernel
theorem dX7_wetness_60 : decode cX7_wetness 60 = .ok (.getfield 177, 3) := by decide +kernel
theorem dX7_wetness_63 : decode cX7_wetness 63 = .ok (.if_icmp .ge 13, 3) := by decide +kernel
theorem dX7_wetness_66 : decode cX7_wetness 66 = .ok (.aload_n 0, 1) := by decide +kernel
theorem dX7_wetness_67 : decode cX7_wetness 67 = .ok (.getfield 75, 3) := by decide +kernel
theorem dX7_wetness_70 : decode cX7_wetness 70 = .ok (.iload 5, 2) := by decide +kernel
theorem dX7_wetness_72 : decode cX7_wetness 72 = .ok (.iaload, 1) := by decide +kernel
theorem dX7_wetness_73 : decode cX7_wetness 73 = .ok (.goto 9, 3) := by decide +kernel
theorem dX7_wetness_76 : decode cX7_wetness 76 = .ok (.aload_n 0, 1) := by decide +kernel
theorem dX7_wetness_77 : decode cX7_wetness 77 = .ok (.bipush (-5), 2) := by decide +kernel
theorem dX7_wetness_79 : decode cX7_wetness 79 = .ok (.invokevirtual 100, 3) := by decide +kernel
theorem dX7_wetness_82 : decode cX7_wetness 82 = .ok (.ireturn, 1) := by decide +kernel
theorem dX7_when_0 : decode cX7_when 0 = .ok (.aload_n 0, 1) := by decide +kernel
theorem dX7_when_1 : decode cX7_when 1 = .ok (.iload_n 1, 1) := by decide +kernel
theorem dX7_when_2 : decode cX7_when 2 = .ok (.invokevirtual 93, 3) := by decide +kernel
theorem dX7_when_5 : decode cX7_when 5 = .ok (.ifCond .ne 9, 3) := by decide +kernel
theorem dX7_when_8 : decode cX7_when 8 = .ok (.aload_n 0, 1) := by decide +kernel
theorem dX7_when_9 : decode cX7_when 9 = .ok (.iconst (-1), 1) := by decide +kernel
theorem dX7_when_10 : decode cX7_when 10 = .ok (.invokevirtual 217, 3) := by decide +kernel
theorem dX7_when_13 : decode cX7_when 13 = .ok (.ireturn, 1) := by decide +kernel
theorem dX7_when_14 : decode cX7_when 14 = .ok (.aload_n 0, 1) := by decide +kernel
theorem dX7_when_15 : decode cX7_when 15 = .ok (.iload_n 2, 1) := by decide +kernel
theorem dX7_when_16 : decode cX7_when 16 = .ok (.iload_n 3, 1) := by decide +kernel
theorem dX7_when_17 : decode cX7_when 17 = .ok (.iload 4, 2) := by decide +kernel
theorem dX7_when_19 : decode cX7_when 19 = .ok (.invokevirtual 226, 3) := by decide +kernel
theorem dX7_when_22 : decode cX7_when 22 = .ok (.ifCond .ne 10, 3) := by decide +kernel
theorem dX7_when_25 : decode cX7_when 25 = .ok (.aload_n 0, 1) := by decide +kernel
theorem dX7_when_26 : decode cX7_when 26 = .ok (.bipush (-6), 2) := by decide +kernel
theorem dX7_when_28 : decode cX7_when 28 = .ok (.invokevirtual 217, 3) := by decide +kernel
theorem dX7_when_31 : decode cX7_when 31 = .ok (.ireturn, 1) := by decide +kernel
theorem dX7_when_32 : decode cX7_when 32 = .ok (.aload_n 0, 1) := by decide +kernel
theorem dX7_when_33 : decode cX7_when 33 = .ok (.iload_n 1, 1) := by decide +kernel
theorem dX7_when_34 : decode cX7_when 34 = .ok (.iload_n 2, 1) := by decide +kernel
theorem dX7_when_35 : decode cX7_when 35 = .ok (.iload_n 3, 1) := by decide +kernel
theorem dX7_when_36 : decode cX7_when 36 = .ok (.iload 4, 2) := by decide +kernel
theorem dX7_when_38 : decode cX7_when 38 = .ok (.aload_n 0, 1) := by decide +kernel
theorem dX7_when_39 : decode cX7_when 39 = .ok (.getfield 7, 3) := by decide +kernel
theorem dX7_when_42 : decode cX7_when 42 = .ok (.invokevirtual 230, 3) := by decide +kernel
theorem dX7_when_45 : decode cX7_when 45 = .ok (.aload_n 0, 1) := by decide +kernel
theorem dX7_when_46 : decode cX7_when 46 = .ok (.getfield 186, 3) := by decide +kernel
theorem dX7_when_49 : decode cX7_when 49 = .ok (.ireturn, 1) := by decide +kernel
theorem dX7_isWhole_0 : decode cX7_isWhole 0 = .ok (.aload_n 0, 1) := by decide +kernel
theorem dX7_isWhole_1 : decode cX7_isWhole 1 = .ok (.iload_n 1, 1) := by decide +kernel
theorem dX7_isWhole_2 : decode cX7_isWhole 2 = .ok (.iload_n 2, 1) := by decide +kernel
theorem dX7_isWhole_3 : decode cX7_isWhole 3 = .ok (.iload_n 3, 1) := by decide +kernel
theorem dX7_isWhole_4 : decode cX7_isWhole 4 = .ok (.iload 4, 2) := by decide +kernel
theorem dX7_isWhole_6 : decode cX7_isWhole 6 = .ok (.aload_n 0, 1) := by decide +kernel
theorem dX7_isWhole_7 : decode cX7_isWhole 7 = .ok (.getfield 7, 3) := by decide +kernel
theorem dX7_isWhole_10 : decode cX7_isWhole 10 = .ok (.invokevirtual 230, 3) := by decide +kernel
theorem dX7_isWhole_13 : decode cX7_isWhole 13 = .ok (.aload_n 0, 1) := by decide +kernel
theorem dX7_isWhole_14 : decode cX7_isWhole 14 = .ok (.getfield 183, 3) := by decide +kernel
theorem dX7_isWhole_17 : decode cX7_isWhole 17 = .ok (.ifCond .ne 7, 3) := by decide +kernel
theorem dX7_isWhole_20 : decode cX7_isWhole 20 = .ok (.iconst 1, 1) := by decide +kernel
theorem dX7_isWhole_21 : decode cX7_isWhole 21 = .ok (.goto 4, 3) := by decide +kernel
theorem dX7_isWhole_24 : decode cX7_isWhole 24 = .ok (.iconst 0, 1) := by decide +kernel
theorem dX7_isWhole_25 : decode cX7_isWhole 25 = .ok (.ireturn, 1) := by decide +kernel
theorem dX7_longest_0 : decode cX7_longest 0 = .ok (.aload_n 0, 1) := by decide +kernel
theorem dX7_longest_1 : decode cX7_longest 1 = .ok (.iload_n 1, 1) := by decide +kernel
theorem dX7_longest_2 : decode cX7_longest 2 = .ok (.invokevirtual 93, 3) := by decide +kernel
theorem dX7_longest_5 : decode cX7_longest 5 = .ok (.ifCond .ne 9, 3) := by decide +kernel
theorem dX7_longest_8 : decode cX7_longest 8 = .ok (.aload_n 0, 1) := by decide +kernel
theorem dX7_longest_9 : decode cX7_longest 9 = .ok (.iconst (-1), 1) := by decide +kernel
theorem dX7_longest_10 : decode cX7_longest 10 = .ok (.invokevirtual 217, 3) := by decide +kernel
theorem dX7_longest_13 : decode cX7_longest 13 = .ok (.ireturn, 1) := by decide +kernel
theorem dX7_longest_14 : decode cX7_longest 14 = .ok (.aload_n 0, 1) := by decide +kernel
theorem dX7_longest_15 : decode cX7_longest 15 = .ok (.iload_n 2, 1) := by decide +kernel
theorem dX7_longest_16 : decode cX7_longest 16 = .ok (.invokevirtual 220, 3) := by decide +kernel
theorem dX7_longest_19 : decode cX7_longest 19 = .ok (.ifCond .eq 11, 3) := by decide +kernel
theorem dX7_longest_22 : decode cX7_longest 22 = .ok (.aload_n 0, 1) := by decide +kernel
theorem dX7_longest_23 : decode cX7_longest 23 = .ok (.iload_n 3, 1) := by decide +kernel
theorem dX7_longest_24 : decode cX7_longest 24 = .ok (.invokevirtual 223, 3) := by decide +kernel
theorem dX7_longest_27 : decode cX7_longest 27 = .ok (.ifCond .ne 10, 3) := by decide +kernel
theorem dX7_longest_30 : decode cX7_longest 30 = .ok (.aload_n 0, 1) := by decide +kernel
theorem dX7_longest_31 : decode cX7_longest 31 = .ok (.bipush (-6), 2) := by decide +kernel
theorem dX7_longest_33 : decode cX7_longest 33 = .ok (.invokevirtual 217, 3) := by decide +kernel
theorem dX7_longest_36 : decode cX7_longest 36 = .ok (.ireturn, 1) := by decide +kernel
theorem dX7_longest_37 : decode cX7_longest 37 = .ok (.iconst (-1), 1) := by decide +kernel
theorem dX7_longest_38 : decode cX7_longest 38 = .ok (.istore 4, 2) := by decide +kernel
theorem dX7_longest_40 : decode cX7_longest 40 = .ok (.iconst 0, 1) := by decide +kernel
theorem dX7_longest_41 : decode cX7_longest 41 = .ok (.istore 5, 2) := by decide +kernel
theorem dX7_longest_43 : decode cX7_longest 43 = .ok (.iload 5, 2) := by decide +kernel
theorem dX7_longest_45 : decode cX7_longest 45 = .ok (.bipush 60, 2) := by decide +kernel
theorem dX7_longest_47 : decode cX7_longest 47 = .ok (.if_icmp .gt 25, 3) := by decide +kernel
theorem dX7_longest_50 : decode cX7_longest 50 = .ok (.aload_n 0, 1) := by decide +kernel
theorem dX7_longest_51 : decode cX7_longest 51 = .ok (.iload_n 1, 1) := by decide +kernel
theorem dX7_longest_52 : decode cX7_longest 52 = .ok (.iload_n 2, 1) := by decide +kernel
theorem dX7_longest_53 : decode cX7_longest 53 = .ok (.iload 5, 2) := by decide +kernel
theorem dX7_longest_55 : decode cX7_longest 55 = .ok (.iload_n 3, 1) := by decide +kernel
theorem dX7_longest_56 : decode cX7_longest 56 = .ok (.invokevirtual 233, 3) := by decide +kernel
theorem dX7_longest_59 : decode cX7_longest 59 = .ok (.ifCond .eq 13, 3) := by decide +kernel
theorem dX7_longest_62 : decode cX7_longest 62 = .ok (.iload 5, 2) := by decide +kernel
theorem dX7_longest_64 : decode cX7_longest 64 = .ok (.istore 4, 2) := by decide +kernel
theorem dX7_longest_66 : decode cX7_longest 66 = .ok (.iinc 5 1, 3) := by decide +kernel
theorem dX7_longest_69 : decode cX7_longest 69 = .ok (.goto (-26), 3) := by decide +kernel
theorem dX7_longest_72 : decode cX7_longest 72 = .ok (.iload 4, 2) := by decide +kernel
theorem dX7_longest_74 : decode cX7_longest 74 = .ok (.ireturn, 1) := by decide +kernel
theorem dX7_far_0 : decode cX7_far 0 = .ok (.aload_n 0, 1) := by decide +kernel
theorem dX7_far_1 : decode cX7_far 1 = .ok (.iload_n 1, 1) := by decide +kernel
theorem dX7_far_2 : decode cX7_far 2 = .ok (.invokevirtual 93, 3) := by decide +kernel
theorem dX7_far_5 : decode cX7_far 5 = .ok (.ifCond .ne 9, 3) := by decide +kernel
theorem dX7_far_8 : decode cX7_far 8 = .ok (.aload_n 0, 1) := by decide +kernel
theorem dX7_far_9 : decode cX7_far 9 = .ok (.iconst (-1), 1) := by decide +kernel
theorem dX7_far_10 : decode cX7_far 10 = .ok (.invokevirtual 217, 3) := by decide +kernel
theorem dX7_far_13 : decode cX7_far 13 = .ok (.ireturn, 1) := by decide +kernel
theorem dX7_far_14 : decode cX7_far 14 = .ok (.aload_n 0, 1) := by decide +kernel
theorem dX7_far_15 : decode cX7_far 15 = .ok (.iload_n 2, 1) := by decide +kernel
theorem dX7_far_16 : decode cX7_far 16 = .ok (.invokevirtual 220, 3) := by decide +kernel
theorem dX7_far_19 : decode cX7_far 19 = .ok (.ifCond .eq 11, 3) := by decide +kernel
theorem dX7_far_22 : decode cX7_far 22 = .ok (.aload_n 0, 1) := by decide +kernel
theorem dX7_far_23 : decode cX7_far 23 = .ok (.iload_n 3, 1) := by decide +kernel
theorem dX7_far_24 : decode cX7_far 24 = .ok (.invokevirtual 223, 3) := by decide +kernel
theorem dX7_far_27 : decode cX7_far 27 = .ok (.ifCond .ne 10, 3) := by decide +kernel
theorem dX7_far_30 : decode cX7_far 30 = .ok (.aload_n 0, 1) := by decide +kernel
theorem dX7_far_31 : decode cX7_far 31 = .ok (.bipush (-6), 2) := by decide +kernel
theorem dX7_far_33 : decode cX7_far 33 = .ok (.invokevirtual 217, 3) := by decide +kernel
theorem dX7_far_36 : decode cX7_far 36 = .ok (.ireturn, 1) := by decide +kernel
theorem dX7_far_37 : decode cX7_far 37 = .ok (.iconst (-1), 1) := by decide +kernel
theorem dX7_far_38 : decode cX7_far 38 = .ok (.istore 4, 2) := by decide +kernel
theorem dX7_far_40 : decode cX7_far 40 = .ok (.iconst 0, 1) := by decide +kernel
theorem dX7_far_41 : decode cX7_far 41 = .ok (.istore 5, 2) := by decide +kernel
theorem dX7_far_43 : decode cX7_far 43 = .ok (.iload 5, 2) := by decide +kernel
theorem dX7_far_45 : decode cX7_far 45 = .ok (.bipush 60, 2) := by decide +kernel
theorem dX7_far_47 : decode cX7_far 47 = .ok (.if_icmp .gt 25, 3) := by decide +kernel
theorem dX7_far_50 : decode cX7_far 50 = .ok (.aload_n 0, 1) := by decide +kernel
theorem dX7_far_51 : decode cX7_far 51 = .ok (.iload_n 1, 1) := by decide +kernel
theorem dX7_far_52 : decode cX7_far 52 = .ok (.iload_n 2, 1) := by decide +kernel
theorem dX7_far_53 : decode cX7_far 53 = .ok (.iload_n 3, 1) := by decide +kernel
theorem dX7_far_54 : decode cX7_far 54 = .ok (.iload 5, 2) := by decide +kernel
theorem dX7_far_56 : decode cX7_far 56 = .ok (.invokevirtual 233, 3) := by decide +kernel
theorem dX7_far_59 : decode cX7_far 59 = .ok (.ifCond .eq 13, 3) := by decide +kernel
theorem dX7_far_62 : decode cX7_far 62 = .ok (.iload 5, 2) := by decide +kernel
theorem dX7_far_64 : decode cX7_far 64 = .ok (.istore 4, 2) := by decide +kernel
theorem dX7_far_66 : decode cX7_far 66 = .ok (.iinc 5 1, 3) := by decide +kernel
theorem dX7_far_69 : decode cX7_far 69 = .ok (.goto (-26), 3) := by decide +kernel
theorem dX7_far_72 : decode cX7_far 72 = .ok (.iload 4, 2) := by decide +kernel
theorem dX7_far_74 : decode cX7_far 74 = .ok (.ireturn, 1) := by decide +kernel
theorem dX7_worth_0 : decode cX7_worth 0 = .ok (.aload_n 0, 1) := by decide +kernel
theorem dX7_worth_1 : decode cX7_worth 1 = .ok (.iload_n 1, 1) := by decide +kernel
theorem dX7_worth_2 : decode cX7_worth 2 = .ok (.invokevirtual 93, 3) := by decide +kernel
theorem dX7_worth_5 : decode cX7_worth 5 = .ok (.ifCond .ne 9, 3) := by decide +kernel
theorem dX7_worth_8 : decode cX7_worth 8 = .ok (.aload_n 0, 1) := by decide +kernel
theorem dX7_worth_9 : decode cX7_worth 9 = .ok (.iconst (-1), 1) := by decide +kernel
theorem dX7_worth_10 : decode cX7_worth 10 = .ok (.invokevirtual 100, 3) := by decide +kernel
theorem dX7_worth_13 : decode cX7_worth 13 = .ok (.ireturn, 1) := by decide +kernel
theorem dX7_worth_14 : decode cX7_worth 14 = .ok (.aload_n 0, 1) := by decide +kernel
theorem dX7_worth_15 : decode cX7_worth 15 = .ok (.iload_n 2, 1) := by decide +kernel
theorem dX7_worth_16 : decode cX7_worth 16 = .ok (.iload_n 3, 1) := by decide +kernel
theorem dX7_worth_17 : decode cX7_worth 17 = .ok (.iload 4, 2) := by decide +kernel
theorem dX7_worth_19 : decode cX7_worth 19 = .ok (.invokevirtual 226, 3) := by decide +kernel
theorem dX7_worth_22 : decode cX7_worth 22 = .ok (.ifCond .ne 10, 3) := by decide +kernel
theorem dX7_worth_25 : decode cX7_worth 25 = .ok (.aload_n 0, 1) := by decide +kernel
theorem dX7_worth_26 : decode cX7_worth 26 = .ok (.bipush (-6), 2) := by decide +kernel
theorem dX7_worth_28 : decode cX7_worth 28 = .ok (.invokevirtual 100, 3) := by decide +kernel
theorem dX7_worth_31 : decode cX7_worth 31 = .ok (.ireturn, 1) := by decide +kernel
theorem dX7_worth_32 : decode cX7_worth 32 = .ok (.aload_n 0, 1) := by decide +kernel
theorem dX7_worth_33 : decode cX7_worth 33 = .ok (.iload_n 1, 1) := by decide +kernel
theorem dX7_worth_34 : decode cX7_worth 34 = .ok (.iload_n 2, 1) := by decide +kernel
theorem dX7_worth_35 : decode cX7_worth 35 = .ok (.iload_n 3, 1) := by decide +kernel
theorem dX7_worth_36 : decode cX7_worth 36 = .ok (.iload 4, 2) := by decide +kernel
theorem dX7_worth_38 : decode cX7_worth 38 = .ok (.aload_n 0, 1) := by decide +kernel
theorem dX7_worth_39 : decode cX7_worth 39 = .ok (.getfield 7, 3) := by decide +kernel
theorem dX7_worth_42 : decode cX7_worth 42 = .ok (.invokevirtual 230, 3) := by decide +kernel
theorem dX7_worth_45 : decode cX7_worth 45 = .ok (.aload_n 0, 1) := by decide +kernel
theorem dX7_worth_46 : decode cX7_worth 46 = .ok (.invokevirtual 237, 3) := by decide +kernel
theorem dX7_worth_49 : decode cX7_worth 49 = .ok (.ireturn, 1) := by decide +kernel
theorem dX7_turns_0 : decode cX7_turns 0 = .ok (.iconst 0, 1) := by decide +kernel
theorem dX7_turns_1 : decode cX7_turns 1 = .ok (.istore_n 2, 1) := by decide +kernel
theorem dX7_turns_2 : decode cX7_turns 2 = .ok (.aload_n 0, 1) := by decide +kernel
theorem dX7_turns_3 : decode cX7_turns 3 = .ok (.getfield 35, 3) := by decide +kernel
theorem dX7_turns_6 : decode cX7_turns 6 = .ok (.iload_n 1, 1) := by decide +kernel
theorem dX7_turns_7 : decode cX7_turns 7 = .ok (.iaload, 1) := by decide +kernel
theorem dX7_turns_8 : decode cX7_turns 8 = .ok (.iconst 1, 1) := by decide +kernel
theorem dX7_turns_9 : decode cX7_turns 9 = .ok (.isub, 1) := by decide +kernel
theorem dX7_turns_10 : decode cX7_turns 10 = .ok (.istore_n 3, 1) := by decide +kernel
theorem dX7_turns_11 : decode cX7_turns 11 = .ok (.iload_n 2, 1) := by decide +kernel
theorem dX7_turns_12 : decode cX7_turns 12 = .ok (.iload_n 3, 1) := by decide +kernel
theorem dX7_turns_13 : decode cX7_turns 13 = .ok (.if_icmp .ge 60, 3) := by decide +kernel
theorem dX7_turns_16 : decode cX7_turns 16 = .ok (.aload_n 0, 1) := by decide +kernel
theorem dX7_turns_17 : decode cX7_turns 17 = .ok (.getfield 38, 3) := by decide +kernel
theorem dX7_turns_20 : decode cX7_turns 20 = .ok (.bipush 12, 2) := by decide +kernel
theorem dX7_turns_22 : decode cX7_turns 22 = .ok (.iload_n 1, 1) := by decide +kernel
theorem dX7_turns_23 : decode cX7_turns 23 = .ok (.imul, 1) := by decide +kernel
theorem dX7_turns_24 : decode cX7_turns 24 = .ok (.iload_n 2, 1) := by decide +kernel
theorem dX7_turns_25 : decode cX7_turns 25 = .ok (.iadd, 1) := by decide +kernel
theorem dX7_turns_26 : decode cX7_turns 26 = .ok (.iaload, 1) := by decide +kernel
theorem dX7_turns_27 : decode cX7_turns 27 = .ok (.istore 4, 2) := by decide +kernel
theorem dX7_turns_29 : decode cX7_turns 29 = .ok (.aload_n 0, 1) := by decide +kernel
theorem dX7_turns_30 : decode cX7_turns 30 = .ok (.getfield 38, 3) := by decide +kernel
theorem dX7_turns_33 : decode cX7_turns 33 = .ok (.bipush 12, 2) := by decide +kernel
theorem dX7_turns_35 : decode cX7_turns 35 = .ok (.iload_n 1, 1) := by decide +kernel
theorem dX7_turns_36 : decode cX7_turns 36 = .ok (.imul, 1) := by decide +kernel
theorem dX7_turns_37 : decode cX7_turns 37 = .ok (.iload_n 2, 1) := by decide +kernel
theorem dX7_turns_38 : decode cX7_turns 38 = .ok (.iadd, 1) := by decide +kernel
theorem dX7_turns_39 : decode cX7_turns 39 = .ok (.aload_n 0, 1) := by decide +kernel
theorem dX7_turns_40 : decode cX7_turns 40 = .ok (.getfield 38, 3) := by decide +kernel
theorem dX7_turns_43 : decode cX7_turns 43 = .ok (.bipush 12, 2) := by decide +kernel
theorem dX7_turns_45 : decode cX7_turns 45 = .ok (.iload_n 1, 1) := by decide +kernel
theorem dX7_turns_46 : decode cX7_turns 46 = .ok (.imul, 1) := by decide +kernel
theorem dX7_turns_47 : decode cX7_turns 47 = .ok (.iload_n 3, 1) := by decide +kernel
theorem dX7_turns_48 : decode cX7_turns 48 = .ok (.iadd, 1) := by decide +kernel
theorem dX7_turns_49 : decode cX7_turns 49 = .ok (.iaload, 1) := by decide +kernel
theorem dX7_turns_50 : decode cX7_turns 50 = .ok (.iastore, 1) := by decide +kernel
theorem dX7_turns_51 : decode cX7_turns 51 = .ok (.aload_n 0, 1) := by decide +kernel
theorem dX7_turns_52 : decode cX7_turns 52 = .ok (.getfield 38, 3) := by decide +kernel
theorem dX7_turns_55 : decode cX7_turns 55 = .ok (.bipush 12, 2) := by decide +kernel
theorem dX7_turns_57 : decode cX7_turns 57 = .ok (.iload_n 1, 1) := by decide +kernel
theorem dX7_turns_58 : decode cX7_turns 58 = .ok (.imul, 1) := by decide +kernel
theorem dX7_turns_59 : decode cX7_turns 59 = .ok (.iload_n 3, 1) := by decide +kernel
theorem dX7_turns_60 : decode cX7_turns 60 = .ok (.iadd, 1) := by decide +kernel
theorem dX7_turns_61 : decode cX7_turns 61 = .ok (.iload 4, 2) := by decide +kernel
theorem dX7_turns_63 : decode cX7_turns 63 = .ok (.iastore, 1) := by decide +kernel
theorem dX7_turns_64 : decode cX7_turns 64 = .ok (.iinc 2 1, 3) := by decide +kernel
theorem dX7_turns_67 : decode cX7_turns 67 = .ok (.iinc 3 (-1), 3) := by decide +kernel
theorem dX7_turns_70 : decode cX7_turns 70 = .ok (.goto (-59), 3) := by decide +kernel
theorem dX7_turns_73 : decode cX7_turns 73 = .ok (.return_, 1) := by decide +kernel
theorem dX7_turnsRow_0 : decode cX7_turnsRow 0 = .ok (.iconst 0, 1) := by decide +kernel
theorem dX7_turnsRow_1 : decode cX7_turnsRow 1 = .ok (.istore_n 1, 1) := by decide +kernel
theorem dX7_turnsRow_2 : decode cX7_turnsRow 2 = .ok (.aload_n 0, 1) := by decide +kernel
theorem dX7_turnsRow_3 : decode cX7_turnsRow 3 = .ok (.getfield 177, 3) := by decide +kernel
theorem dX7_turnsRow_6 : decode cX7_turnsRow 6 = .ok (.iconst 1, 1) := by decide +kernel
theorem dX7_turnsRow_7 : decode cX7_turnsRow 7 = .ok (.isub, 1) := by decide +kernel
theorem dX7_turnsRow_8 : decode cX7_turnsRow 8 = .ok (.istore_n 2, 1) := by decide +kernel
theorem dX7_turnsRow_9 : decode cX7_turnsRow 9 = .ok (.iload_n 1, 1) := by decide +kernel
theorem dX7_turnsRow_10 : decode cX7_turnsRow 10 = .ok (.iload_n 2, 1) := by decide +kernel
theorem dX7_turnsRow_11 : decode cX7_turnsRow 11 = .ok (.if_icmp .ge 38, 3) := by decide +kernel
theorem dX7_turnsRow_14 : decode cX7_turnsRow 14 = .ok (.aload_n 0, 1) := by decide +kernel
theorem dX7_turnsRow_15 : decode cX7_turnsRow 15 = .ok (.getfield 75, 3) := by decide +kernel
theorem dX7_turnsRow_18 : decode cX7_turnsRow 18 = .ok (.iload_n 1, 1) := by decide +kernel
theorem dX7_turnsRow_19 : decode cX7_turnsRow 19 = .ok (.iaload, 1) := by decide +kernel
theorem dX7_turnsRow_20 : decode cX7_turnsRow 20 = .ok (.istore_n 3, 1) := by decide +kernel
theorem dX7_turnsRow_21 : decode cX7_turnsRow 21 = .ok (.aload_n 0, 1) := by decide +kernel
theorem dX7_turnsRow_22 : decode cX7_turnsRow 22 = .ok (.getfield 75, 3) := by decide +kernel
theorem dX7_turnsRow_25 : decode cX7_turnsRow 25 = .ok (.iload_n 1, 1) := by decide +kernel
theorem dX7_turnsRow_26 : decode cX7_turnsRow 26 = .ok (.aload_n 0, 1) := by decide +kernel
theorem dX7_turnsRow_27 : decode cX7_turnsRow 27 = .ok (.getfield 75, 3) := by decide +kernel
theorem dX7_turnsRow_30 : decode cX7_turnsRow 30 = .ok (.iload_n 2, 1) := by decide +kernel
theorem dX7_turnsRow_31 : decode cX7_turnsRow 31 = .ok (.iaload, 1) := by decide +kernel
theorem dX7_turnsRow_32 : decode cX7_turnsRow 32 = .ok (.iastore, 1) := by decide +kernel
theorem dX7_turnsRow_33 : decode cX7_turnsRow 33 = .ok (.aload_n 0, 1) := by decide +kernel
theorem dX7_turnsRow_34 : decode cX7_turnsRow 34 = .ok (.getfield 75, 3) := by decide +kernel
theorem dX7_turnsRow_37 : decode cX7_turnsRow 37 = .ok (.iload_n 2, 1) := by decide +kernel
theorem dX7_turnsRow_38 : decode cX7_turnsRow 38 = .ok (.iload_n 3, 1) := by decide +kernel
theorem dX7_turnsRow_39 : decode cX7_turnsRow 39 = .ok (.iastore, 1) := by decide +kernel
theorem dX7_turnsRow_40 : decode cX7_turnsRow 40 = .ok (.iinc 1 1, 3) := by decide +kernel
theorem dX7_turnsRow_43 : decode cX7_turnsRow 43 = .ok (.iinc 2 (-1), 3) := by decide +kernel
theorem dX7_turnsRow_46 : decode cX7_turnsRow 46 = .ok (.goto (-37), 3) := by decide +kernel
theorem dX7_turnsRow_49 : decode cX7_turnsRow 49 = .ok (.return_, 1) := by decide +kernel
theorem dX7_best_0 : decode cX7_best 0 = .ok (.aload_n 0, 1) := by decide +kernel
theorem dX7_best_1 : decode cX7_best 1 = .ok (.iload_n 1, 1) := by decide +kernel
theorem dX7_best_2 : decode cX7_best 2 = .ok (.invokevirtual 93, 3) := by decide +kernel
theorem dX7_best_5 : decode cX7_best 5 = .ok (.ifCond .ne 9, 3) := by decide +kernel
theorem dX7_best_8 : decode cX7_best 8 = .ok (.aload_n 0, 1) := by decide +kernel
theorem dX7_best_9 : decode cX7_best 9 = .ok (.iconst (-1), 1) := by decide +kernel
theorem dX7_best_10 : decode cX7_best 10 = .ok (.invokevirtual 100, 3) := by decide +kernel
theorem dX7_best_13 : decode cX7_best 13 = .ok (.ireturn, 1) := by decide +kernel
theorem dX7_best_14 : decode cX7_best 14 = .ok (.iload_n 3, 1) := by decide +kernel
theorem dX7_best_15 : decode cX7_best 15 = .ok (.ifCond .lt 8, 3) := by decide +kernel
theorem dX7_best_18 : decode cX7_best 18 = .ok (.iload_n 3, 1) := by decide +kernel
theorem dX7_best_19 : decode cX7_best 19 = .ok (.iconst 1, 1) := by decide +kernel
theorem dX7_best_20 : decode cX7_best 20 = .ok (.if_icmp .le 10, 3) := by decide +kernel
theorem dX7_best_23 : decode cX7_best 23 = .ok (.aload_n 0, 1) := by decide +kernel
theorem dX7_best_24 : decode cX7_best 24 = .ok (.bipush (-5), 2) := by decide +kernel
theorem dX7_best_26 : decode cX7_best 26 = .ok (.invokevirtual 100, 3) := by decide +kernel
theorem dX7_best_29 : decode cX7_best 29 = .ok (.ireturn, 1) := by decide +kernel
theorem dX7_best_30 : decode cX7_best 30 = .ok (.aload_n 0, 1) := by decide +kernel
theorem dX7_best_31 : decode cX7_best 31 = .ok (.iload_n 2, 1) := by decide +kernel
theorem dX7_best_32 : decode cX7_best 32 = .ok (.invokevirtual 223, 3) := by decide +kernel
theorem dX7_best_35 : decode cX7_best 35 = .ok (.ifCond .ne 10, 3) := by decide +kernel
theorem dX7_best_38 : decode cX7_best 38 = .ok (.aload_n 0, 1) := by decide +kernel
theorem dX7_best_39 : decode cX7_best 39 = .ok (.bipush (-6), 2) := by decide +kernel
theorem dX7_best_41 : decode cX7_best 41 = .ok (.invokevirtual 100, 3) := by decide +kernel
theorem dX7_best_44 : decode cX7_best 44 = .ok (.ireturn, 1) := by decide +kernel
theorem dX7_best_45 : decode cX7_best 45 = .ok (.iconst 0, 1) := by decide +kernel
theorem dX7_best_46 : decode cX7_best 46 = .ok (.istore 4, 2) := by decide +kernel
theorem dX7_best_48 : decode cX7_best 48 = .ok (.iconst (-1), 1) := by decide +kernel
theorem dX7_best_49 : decode cX7_best 49 = .ok (.istore 5, 2) := by decide +kernel
theorem dX7_best_51 : decode cX7_best 51 = .ok (.iconst 0, 1) := by decide +kernel
theorem dX7_best_52 : decode cX7_best 52 = .ok (.istore 6, 2) := by decide +kernel
theorem dX7_best_54 : decode cX7_best 54 = .ok (.iload 6, 2) := by decide +kernel
theorem dX7_best_56 : decode cX7_best 56 = .ok (.aload_n 0, 1) := by decide +kernel
theorem dX7_best_57 : decode cX7_best 57 = .ok (.getfield 35, 3) := by decide +kernel
theorem dX7_best_60 : decode cX7_best 60 = .ok (.iload_n 1, 1) := by decide +kernel
theorem dX7_best_61 : decode cX7_best 61 = .ok (.iaload, 1) := by decide +kernel
theorem dX7_best_62 : decode cX7_best 62 = .ok (.if_icmp .gt 96, 3) := by decide +kernel
theorem dX7_best_65 : decode cX7_best 65 = .ok (.iconst 0, 1) := by decide +kernel
theorem dX7_best_66 : decode cX7_best 66 = .ok (.istore 7, 2) := by decide +kernel
theorem dX7_best_68 : decode cX7_best 68 = .ok (.iload 7, 2) := by decide +kernel
theorem dX7_best_70 : decode cX7_best 70 = .ok (.bipush 30, 2) := by decide +kernel
theorem dX7_best_72 : decode cX7_best 72 = .ok (.if_icmp .gt 80, 3) := by decide +kernel
theorem dX7_best_75 : decode cX7_best 75 = .ok (.aload_n 0, 1) := by decide +kernel
theorem dX7_best_76 : decode cX7_best 76 = .ok (.iload_n 1, 1) := by decide +kernel
theorem dX7_best_77 : decode cX7_best 77 = .ok (.invokevirtual 206, 3) := by decide +kernel
theorem dX7_best_80 : decode cX7_best 80 = .ok (.iload_n 3, 1) := by decide +kernel
theorem dX7_best_81 : decode cX7_best 81 = .ok (.iconst 1, 1) := by decide +kernel
theorem dX7_best_82 : decode cX7_best 82 = .ok (.if_icmp .ne 7, 3) := by decide +kernel
theorem dX7_best_85 : decode cX7_best 85 = .ok (.aload_n 0, 1) := by decide +kernel
theorem dX7_best_86 : decode cX7_best 86 = .ok (.invokevirtual 240, 3) := by decide +kernel
theorem dX7_best_89 : decode cX7_best 89 = .ok (.aload_n 0, 1) := by decide +kernel
theorem dX7_best_90 : decode cX7_best 90 = .ok (.iload_n 1, 1) := by decide +kernel
theorem dX7_best_91 : decode cX7_best 91 = .ok (.iload 6, 2) := by decide +kernel
theorem dX7_best_93 : decode cX7_best 93 = .ok (.iload 7, 2) := by decide +kernel
theorem dX7_best_95 : decode cX7_best 95 = .ok (.aload_n 0, 1) := by decide +kernel
theorem dX7_best_96 : decode cX7_best 96 = .ok (.getfield 7, 3) := by decide +kernel
theorem dX7_best_99 : decode cX7_best 99 = .ok (.iconst 0, 1) := by decide +kernel
theorem dX7_best_100 : decode cX7_best 100 = .ok (.invokevirtual 210, 3) := by decide +kernel
theorem dX7_best_103 : decode cX7_best 103 = .ok (.aload_n 0, 1) := by decide +kernel
theorem dX7_best_104 : decode cX7_best 104 = .ok (.iload_n 1, 1) := by decide +kernel
theorem dX7_best_105 : decode cX7_best 105 = .ok (.iconst 0, 1) := by decide +kernel
theorem dX7_best_106 : decode cX7_best 106 = .ok (.iload_n 2, 1) := by decide +kernel
theorem dX7_best_107 : decode cX7_best 107 = .ok (.aload_n 0, 1) := by decide +kernel
theorem dX7_best_108 : decode cX7_best 108 = .ok (.getfield 7, 3) := by decide +kernel
theorem dX7_best_111 : decode cX7_best 111 = .ok (.iload 7, 2) := by decide +kernel
theorem dX7_best_113 : decode cX7_best 113 = .ok (.invokevirtual 210, 3) := by decide +kernel
theorem dX7_best_116 : decode cX7_best 116 = .ok (.aload_n 0, 1) := by decide +kernel
theorem dX7_best_117 : decode cX7_best 117 = .ok (.invokevirtual 237, 3) := by decide +kernel
theorem dX7_best_120 : decode cX7_best 120 = .ok (.istore 8, 2) := by decide +kernel
theorem dX7_best_122 : decode cX7_best 122 = .ok (.iload 8, 2) := by decide +kernel
theorem dX7_best_124 : decode cX7_best 124 = .ok (.iload 5, 2) := by decide +kernel
theorem dX7_best_126 : decode cX7_best 126 = .ok (.if_icmp .gt 6, 3) := by decide +kernel
theorem dX7_best_129 : decode cX7_best 129 = .ok (.goto 17, 3) := by decide +kernel
theorem dX7_best_132 : decode cX7_best 132 = .ok (.bipush 100, 2) := by decide +kernel
theorem dX7_best_134 : decode cX7_best 134 = .ok (.iload 6, 2) := by decide +kernel
theorem dX7_best_136 : decode cX7_best 136 = .ok (.imul, 1) := by decide +kernel
theorem dX7_best_137 : decode cX7_best 137 = .ok (.iload 7, 2) := by decide +kernel
theorem dX7_best_139 : decode cX7_best 139 = .ok (.iadd, 1) := by decide +kernel
theorem dX7_best_140 : decode cX7_best 140 = .ok (.istore 4, 2) := by decide +kernel
theorem dX7_best_142 : decode cX7_best 142 = .ok (.iload 8, 2) := by decide +kernel
theorem dX7_best_144 : decode cX7_best 144 = .ok (.istore 5, 2) := by decide +kernel
theorem dX7_best_146 : decode cX7_best 146 = .ok (.iinc 7 1, 3) := by decide +kernel
theorem dX7_best_149 : decode cX7_best 149 = .ok (.goto (-81), 3) := by decide +kernel
theorem dX7_best_152 : decode cX7_best 152 = .ok (.iinc 6 1, 3) := by decide +kernel
theorem dX7_best_155 : decode cX7_best 155 = .ok (.goto (-101), 3) := by decide +kernel
theorem dX7_best_158 : decode cX7_best 158 = .ok (.iload 4, 2) := by decide +kernel
theorem dX7_best_160 : decode cX7_best 160 = .ok (.ireturn, 1) := by decide +kernel
theorem dX7_twice_0 : decode cX7_twice 0 = .ok (.aload_n 0, 1) := by decide +kernel
theorem dX7_twice_1 : decode cX7_twice 1 = .ok (.iload_n 1, 1) := by decide +kernel
theorem dX7_twice_2 : decode cX7_twice 2 = .ok (.invokevirtual 93, 3) := by decide +kernel
theorem dX7_twice_5 : decode cX7_twice 5 = .ok (.ifCond .ne 9, 3) := by decide +kernel
theorem dX7_twice_8 : decode cX7_twice 8 = .ok (.aload_n 0, 1) := by decide +kernel
theorem dX7_twice_9 : decode cX7_twice 9 = .ok (.iconst (-1), 1) := by decide +kernel
theorem dX7_twice_10 : decode cX7_twice 10 = .ok (.invokevirtual 100, 3) := by decide +kernel
theorem dX7_twice_13 : decode cX7_twice 13 = .ok (.ireturn, 1) := by decide +kernel
theorem dX7_twice_14 : decode cX7_twice 14 = .ok (.aload_n 0, 1) := by decide +kernel
theorem dX7_twice_15 : decode cX7_twice 15 = .ok (.iload_n 2, 1) := by decide +kernel
theorem dX7_twice_16 : decode cX7_twice 16 = .ok (.iload_n 3, 1) := by decide +kernel
theorem dX7_twice_17 : decode cX7_twice 17 = .ok (.iconst 0, 1) := by decide +kernel
theorem dX7_twice_18 : decode cX7_twice 18 = .ok (.invokevirtual 226, 3) := by decide +kernel
theorem dX7_twice_21 : decode cX7_twice 21 = .ok (.ifCond .eq 15, 3) := by decide +kernel
theorem dX7_twice_24 : decode cX7_twice 24 = .ok (.aload_n 0, 1) := by decide +kernel
theorem dX7_twice_25 : decode cX7_twice 25 = .ok (.iload 4, 2) := by decide +kernel
theorem dX7_twice_27 : decode cX7_twice 27 = .ok (.iload 5, 2) := by decide +kernel
theorem dX7_twice_29 : decode cX7_twice 29 = .ok (.iconst 0, 1) := by decide +kernel
theorem dX7_twice_30 : decode cX7_twice 30 = .ok (.invokevirtual 226, 3) := by decide +kernel
theorem dX7_twice_33 : decode cX7_twice 33 = .ok (.ifCond .ne 10, 3) := by decide +kernel
theorem dX7_twice_36 : decode cX7_twice 36 = .ok (.aload_n 0, 1) := by decide +kernel
theorem dX7_twice_37 : decode cX7_twice 37 = .ok (.bipush (-6), 2) := by decide +kernel
theorem dX7_twice_39 : decode cX7_twice 39 = .ok (.invokevirtual 100, 3) := by decide +kernel
theorem dX7_twice_42 : decode cX7_twice 42 = .ok (.ireturn, 1) := by decide +kernel
theorem dX7_twice_43 : decode cX7_twice 43 = .ok (.aload_n 0, 1) := by decide +kernel
theorem dX7_twice_44 : decode cX7_twice 44 = .ok (.iload_n 1, 1) := by decide +kernel
theorem dX7_twice_45 : decode cX7_twice 45 = .ok (.invokevirtual 206, 3) := by decide +kernel
theorem dX7_twice_48 : decode cX7_twice 48 = .ok (.aload_n 0, 1) := by decide +kernel
theorem dX7_twice_49 : decode cX7_twice 49 = .ok (.iload_n 1, 1) := by decide +kernel
theorem dX7_twice_50 : decode cX7_twice 50 = .ok (.iload_n 2, 1) := by decide +kernel
theorem dX7_twice_51 : decode cX7_twice 51 = .ok (.iload_n 3, 1) := by decide +kernel
theorem dX7_twice_52 : decode cX7_twice 52 = .ok (.aload_n 0, 1) := by decide +kernel
theorem dX7_twice_53 : decode cX7_twice 53 = .ok (.getfield 7, 3) := by decide +kernel
theorem dX7_twice_56 : decode cX7_twice 56 = .ok (.iconst 0, 1) := by decide +kernel
theorem dX7_twice_57 : decode cX7_twice 57 = .ok (.invokevirtual 210, 3) := by decide +kernel
theorem dX7_twice_60 : decode cX7_twice 60 = .ok (.aload_n 0, 1) := by decide +kernel
theorem dX7_twice_61 : decode cX7_twice 61 = .ok (.invokevirtual 240, 3) := by decide +kernel
theorem dX7_twice_64 : decode cX7_twice 64 = .ok (.aload_n 0, 1) := by decide +kernel
theorem dX7_twice_65 : decode cX7_twice 65 = .ok (.iload_n 1, 1) := by decide +kernel
theorem dX7_twice_66 : decode cX7_twice 66 = .ok (.iload 4, 2) := by decide +kernel
theorem dX7_twice_68 : decode cX7_twice 68 = .ok (.iload 5, 2) := by decide +kernel
theorem dX7_twice_70 : decode cX7_twice 70 = .ok (.aload_n 0, 1) := by decide +kernel
theorem dX7_twice_71 : decode cX7_twice 71 = .ok (.getfield 7, 3) := by decide +kernel
theorem dX7_twice_74 : decode cX7_twice 74 = .ok (.iload_n 3, 1) := by decide +kernel
theorem dX7_twice_75 : decode cX7_twice 75 = .ok (.invokevirtual 210, 3) := by decide +kernel
theorem dX7_twice_78 : decode cX7_twice 78 = .ok (.aload_n 0, 1) := by decide +kernel
theorem dX7_twice_79 : decode cX7_twice 79 = .ok (.invokevirtual 237, 3) := by decide +kernel
theorem dX7_twice_82 : decode cX7_twice 82 = .ok (.ireturn, 1) := by decide +kernel
theorem dX7_goes_0 : decode cX7_goes 0 = .ok (.aload_n 0, 1) := by decide +kernel
theorem dX7_goes_1 : decode cX7_goes 1 = .ok (.iload_n 1, 1) := by decide +kernel
theorem dX7_goes_2 : decode cX7_goes 2 = .ok (.invokevirtual 93, 3) := by decide +kernel
theorem dX7_goes_5 : decode cX7_goes 5 = .ok (.ifCond .ne 9, 3) := by decide +kernel
theorem dX7_goes_8 : decode cX7_goes 8 = .ok (.aload_n 0, 1) := by decide +kernel
theorem dX7_goes_9 : decode cX7_goes 9 = .ok (.iconst (-1), 1) := by decide +kernel
theorem dX7_goes_10 : decode cX7_goes 10 = .ok (.invokevirtual 100, 3) := by decide +kernel
theorem dX7_goes_13 : decode cX7_goes 13 = .ok (.ireturn, 1) := by decide +kernel
theorem dX7_goes_14 : decode cX7_goes 14 = .ok (.aload_n 0, 1) := by decide +kernel
theorem dX7_goes_15 : decode cX7_goes 15 = .ok (.iload_n 2, 1) := by decide +kernel
theorem dX7_goes_16 : decode cX7_goes 16 = .ok (.iload_n 3, 1) := by decide +kernel
theorem dX7_goes_17 : decode cX7_goes 17 = .ok (.iconst 0, 1) := by decide +kernel
theorem dX7_goes_18 : decode cX7_goes 18 = .ok (.invokevirtual 226, 3) := by decide +kernel
theorem dX7_goes_21 : decode cX7_goes 21 = .ok (.ifCond .ne 10, 3) := by decide +kernel
theorem dX7_goes_24 : decode cX7_goes 24 = .ok (.aload_n 0, 1) := by decide +kernel
theorem dX7_goes_25 : decode cX7_goes 25 = .ok (.bipush (-6), 2) := by decide +kernel
theorem dX7_goes_27 : decode cX7_goes 27 = .ok (.invokevirtual 100, 3) := by decide +kernel
theorem dX7_goes_30 : decode cX7_goes 30 = .ok (.ireturn, 1) := by decide +kernel
theorem dX7_goes_31 : decode cX7_goes 31 = .ok (.aload_n 0, 1) := by decide +kernel
theorem dX7_goes_32 : decode cX7_goes 32 = .ok (.iload_n 1, 1) := by decide +kernel
theorem dX7_goes_33 : decode cX7_goes 33 = .ok (.iload_n 2, 1) := by decide +kernel
theorem dX7_goes_34 : decode cX7_goes 34 = .ok (.iload_n 3, 1) := by decide +kernel
theorem dX7_goes_35 : decode cX7_goes 35 = .ok (.iconst 0, 1) := by decide +kernel
theorem dX7_goes_36 : decode cX7_goes 36 = .ok (.aload_n 0, 1) := by decide +kernel
theorem dX7_goes_37 : decode cX7_goes 37 = .ok (.getfield 7, 3) := by decide +kernel
theorem dX7_goes_40 : decode cX7_goes 40 = .ok (.invokevirtual 230, 3) := by decide +kernel
theorem dX7_goes_43 : decode cX7_goes 43 = .ok (.aload_n 0, 1) := by decide +kernel
theorem dX7_goes_44 : decode cX7_goes 44 = .ok (.getfield 180, 3) := by decide +kernel
theorem dX7_goes_47 : decode cX7_goes 47 = .ok (.ireturn, 1) := by decide +kernel
theorem dX7_heatBehind_0 : decode cX7_heatBehind 0 = .ok (.aload_n 0, 1) := by decide +kernel
theorem dX7_heatBehind_1 : decode cX7_heatBehind 1 = .ok (.getfield 7, 3) := by decide +kernel
theorem dX7_heatBehind_4 : decode cX7_heatBehind 4 = .ok (.aload_n 0, 1) := by decide +kernel
theorem dX7_heatBehind_5 : decode cX7_heatBehind 5 = .ok (.getfield 164, 3) := by decide +kernel
theorem dX7_heatBehind_8 : decode cX7_heatBehind 8 = .ok (.iload_n 1, 1) := by decide +kernel
theorem dX7_heatBehind_9 : decode cX7_heatBehind 9 = .ok (.iadd, 1) := by decide +kernel
theorem dX7_heatBehind_10 : decode cX7_heatBehind 10 = .ok (.aload_n 0, 1) := by decide +kernel
theorem dX7_heatBehind_11 : decode cX7_heatBehind 11 = .ok (.getfield 13, 3) := by decide +kernel
theorem dX7_heatBehind_14 : decode cX7_heatBehind 14 = .ok (.idiv, 1) := by decide +kernel
theorem dX7_heatBehind_15 : decode cX7_heatBehind 15 = .ok (.aload_n 0, 1) := by decide +kernel
theorem dX7_heatBehind_16 : decode cX7_heatBehind 16 = .ok (.getfield 164, 3) := by decide +kernel
theorem dX7_heatBehind_19 : decode cX7_heatBehind 19 = .ok (.aload_n 0, 1) := by decide +kernel
theorem dX7_heatBehind_20 : decode cX7_heatBehind 20 = .ok (.getfield 13, 3) := by decide +kernel
theorem dX7_heatBehind_23 : decode cX7_heatBehind 23 = .ok (.idiv, 1) := by decide +kernel
theorem dX7_heatBehind_24 : decode cX7_heatBehind 24 = .ok (.isub, 1) := by decide +kernel
theorem dX7_heatBehind_25 : decode cX7_heatBehind 25 = .ok (.isub, 1) := by decide +kernel
theorem dX7_heatBehind_26 : decode cX7_heatBehind 26 = .ok (.istore_n 2, 1) := by decide +kernel
theorem dX7_heatBehind_27 : decode cX7_heatBehind 27 = .ok (.iload_n 2, 1) := by decide +kernel
theorem dX7_heatBehind_28 : decode cX7_heatBehind 28 = .ok (.ifCond .ge 7, 3) := by decide +kernel
theorem dX7_heatBehind_31 : decode cX7_heatBehind 31 = .ok (.iconst 0, 1) := by decide +kernel
theorem dX7_heatBehind_32 : decode cX7_heatBehind 32 = .ok (.goto 4, 3) := by decide +kernel
theorem dX7_heatBehind_35 : decode cX7_heatBehind 35 = .ok (.iload_n 2, 1) := by decide +kernel
theorem dX7_heatBehind_36 : decode cX7_heatBehind 36 = .ok (.ireturn, 1) := by decide +kernel
theorem dX7_plates_0 : decode cX7_plates 0 = .ok (.iload_n 1, 1) := by decide +kernel
theorem dX7_plates_1 : decode cX7_plates 1 = .ok (.aload_n 0, 1) := by decide +kernel
theorem dX7_plates_2 : decode cX7_plates 2 = .ok (.getfield 90, 3) := by decide +kernel
theorem dX7_plates_5 : decode cX7_plates 5 = .ok (.if_icmp .ne 50, 3) := by decide +kernel
theorem dX7_plates_8 : decode cX7_plates 8 = .ok (.iload_n 3, 1) := by decide +kernel
theorem dX7_plates_9 : decode cX7_plates 9 = .ok (.aload_n 0, 1) := by decide +kernel
theorem dX7_plates_10 : decode cX7_plates 10 = .ok (.getfield 243, 3) := by decide +kernel
theorem dX7_plates_13 : decode cX7_plates 13 = .ok (.if_icmp .gt 4, 3) := by decide +kernel
theorem dX7_plates_16 : decode cX7_plates 16 = .ok (.return_, 1) := by decide +kernel
theorem dX7_plates_17 : decode cX7_plates 17 = .ok (.aload_n 0, 1) := by decide +kernel
theorem dX7_plates_18 : decode cX7_plates 18 = .ok (.iload_n 3, 1) := by decide +kernel
theorem dX7_plates_19 : decode cX7_plates 19 = .ok (.putfield 243, 3) := by decide +kernel
theorem dX7_plates_22 : decode cX7_plates 22 = .ok (.iconst 0, 1) := by decide +kernel
theorem dX7_plates_23 : decode cX7_plates 23 = .ok (.istore 7, 2) := by decide +kernel
theorem dX7_plates_25 : decode cX7_plates 25 = .ok (.iload 7, 2) := by decide +kernel
theorem dX7_plates_27 : decode cX7_plates 27 = .ok (.aload_n 0, 1) := by decide +kernel
theorem dX7_plates_28 : decode cX7_plates 28 = .ok (.getfield 90, 3) := by decide +kernel
theorem dX7_plates_31 : decode cX7_plates 31 = .ok (.if_icmp .ge 23, 3) := by decide +kernel
theorem dX7_plates_34 : decode cX7_plates 34 = .ok (.aload_n 0, 1) := by decide +kernel
theorem dX7_plates_35 : decode cX7_plates 35 = .ok (.getfield 84, 3) := by decide +kernel
theorem dX7_plates_38 : decode cX7_plates 38 = .ok (.iload 7, 2) := by decide +kernel
theorem dX7_plates_40 : decode cX7_plates 40 = .ok (.aload_n 0, 1) := by decide +kernel
theorem dX7_plates_41 : decode cX7_plates 41 = .ok (.getfield 81, 3) := by decide +kernel
theorem dX7_plates_44 : decode cX7_plates 44 = .ok (.iload 7, 2) := by decide +kernel
theorem dX7_plates_46 : decode cX7_plates 46 = .ok (.iaload, 1) := by decide +kernel
theorem dX7_plates_47 : decode cX7_plates 47 = .ok (.iastore, 1) := by decide +kernel
theorem dX7_plates_48 : decode cX7_plates 48 = .ok (.iinc 7 1, 3) := by decide +kernel
theorem dX7_plates_51 : decode cX7_plates 51 = .ok (.goto (-26), 3) := by decide +kernel
theorem dX7_plates_54 : decode cX7_plates 54 = .ok (.return_, 1) := by decide +kernel
theorem dX7_plates_55 : decode cX7_plates 55 = .ok (.aload_n 0, 1) := by decide +kernel
theorem dX7_plates_56 : decode cX7_plates 56 = .ok (.iload_n 1, 1) := by decide +kernel
theorem dX7_plates_57 : decode cX7_plates 57 = .ok (.iload 5, 2) := by decide +kernel
theorem dX7_plates_59 : decode cX7_plates 59 = .ok (.iload 6, 2) := by decide +kernel
theorem dX7_plates_61 : decode cX7_plates 61 = .ok (.iadd, 1) := by decide +kernel
theorem dX7_plates_62 : decode cX7_plates 62 = .ok (.imul, 1) := by decide +kernel
theorem dX7_plates_63 : decode cX7_plates 63 = .ok (.invokevirtual 246, 3) := by decide +kernel
theorem dX7_plates_66 : decode cX7_plates 66 = .ok (.istore 7, 2) := by decide +kernel
theorem dX7_plates_68 : decode cX7_plates 68 = .ok (.iconst 0, 1) := by decide +kernel
theorem dX7_plates_69 : decode cX7_plates 69 = .ok (.istore 8, 2) := by decide +kernel
theorem dX7_plates_71 : decode cX7_plates 71 = .ok (.iload 8, 2) := by decide +kernel
theorem dX7_plates_73 : decode cX7_plates 73 = .ok (.aload_n 0, 1) := by decide +kernel
theorem dX7_plates_74 : decode cX7_plates 74 = .ok (.getfield 90, 3) := by decide +kernel
theorem dX7_plates_77 : decode cX7_plates 77 = .ok (.if_icmp .ge 69, 3) := by decide +kernel
theorem dX7_plates_80 : decode cX7_plates 80 = .ok (.iload_n 2, 1) := by decide +kernel
theorem dX7_plates_81 : decode cX7_plates 81 = .ok (.iload 8, 2) := by decide +kernel
theorem dX7_plates_83 : decode cX7_plates 83 = .ok (.ishr, 1) := by decide +kernel
theorem dX7_plates_84 : decode cX7_plates 84 = .ok (.iconst 1, 1) := by decide +kernel
theorem dX7_plates_85 : decode cX7_plates 85 = .ok (.iand, 1) := by decide +kernel
theorem dX7_plates_86 : decode cX7_plates 86 = .ok (.iconst 1, 1) := by decide +kernel
theorem dX7_plates_87 : decode cX7_plates 87 = .ok (.if_icmp .ne 6, 3) := by decide +kernel
theorem dX7_plates_90 : decode cX7_plates 90 = .ok (.goto 50, 3) := by decide +kernel
theorem dX7_plates_93 : decode cX7_plates 93 = .ok (.aload_n 0, 1) := by decide +kernel
theorem dX7_plates_94 : decode cX7_plates 94 = .ok (.getfield 81, 3) := by decide +kernel
theorem dX7_plates_97 : decode cX7_plates 97 = .ok (.iload_n 1, 1) := by decide +kernel
theorem dX7_plates_98 : decode cX7_plates 98 = .ok (.iload 8, 2) := by decide +kernel
theorem dX7_plates_100 : decode cX7_plates 100 = .ok (.iastore, 1) := by decide +kernel
theorem dX7_plates_101 : decode cX7_plates 101 = .ok (.aload_n 0, 1) := by decide +kernel
theorem dX7_plates_102 : decode cX7_plates 102 = .ok (.iload 8, 2) := by decide +kernel
theorem dX7_plates_104 : decode cX7_plates 104 = .ok (.iload 4, 2) := by decide +kernel
theorem dX7_plates_106 : decode cX7_plates 106 = .ok (.iload 5, 2) := by decide +kernel
theorem dX7_plates_108 : decode cX7_plates 108 = .ok (.iload 6, 2) := by decide +kernel
theorem dX7_plates_110 : decode cX7_plates 110 = .ok (.iload 7, 2) := by decide +kernel
theorem dX7_plates_112 : decode cX7_plates 112 = .ok (.invokevirtual 230, 3) := by decide +kernel
theorem dX7_plates_115 : decode cX7_plates 115 = .ok (.aload_n 0, 1) := by decide +kernel
theorem dX7_plates_116 : decode cX7_plates 116 = .ok (.iload_n 1, 1) := by decide +kernel
theorem dX7_plates_117 : decode cX7_plates 117 = .ok (.iconst 1, 1) := by decide +kernel
theorem dX7_plates_118 : decode cX7_plates 118 = .ok (.iadd, 1) := by decide +kernel
theorem dX7_plates_119 : decode cX7_plates 119 = .ok (.iload_n 2, 1) := by decide +kernel
theorem dX7_plates_120 : decode cX7_plates 120 = .ok (.iconst 1, 1) := by decide +kernel
theorem dX7_plates_121 : decode cX7_plates 121 = .ok (.iload 8, 2) := by decide +kernel
theorem dX7_plates_123 : decode cX7_plates 123 = .ok (.ishl, 1) := by decide +kernel
theorem dX7_plates_124 : decode cX7_plates 124 = .ok (.ior, 1) := by decide +kernel
theorem dX7_plates_125 : decode cX7_plates 125 = .ok (.iload_n 3, 1) := by decide +kernel
theorem dX7_plates_126 : decode cX7_plates 126 = .ok (.aload_n 0, 1) := by decide +kernel
theorem dX7_plates_127 : decode cX7_plates 127 = .ok (.invokevirtual 237, 3) := by decide +kernel
theorem dX7_plates_130 : decode cX7_plates 130 = .ok (.iadd, 1) := by decide +kernel
theorem dX7_plates_131 : decode cX7_plates 131 = .ok (.iload 4, 2) := by decide +kernel
theorem dX7_plates_133 : decode cX7_plates 133 = .ok (.iload 5, 2) := by decide +kernel
theorem dX7_plates_135 : decode cX7_plates 135 = .ok (.iload 6, 2) := by decide +kernel
theorem dX7_plates_137 : decode cX7_plates 137 = .ok (.invokevirtual 249, 3) := by decide +kernel
theorem dX7_plates_140 : decode cX7_plates 140 = .ok (.iinc 8 1, 3) := by decide +kernel
theorem dX7_plates_143 : decode cX7_plates 143 = .ok (.goto (-72), 3) := by decide +kernel
theorem dX7_plates_146 : decode cX7_plates 146 = .ok (.return_, 1) := by decide +kernel
theorem dX7_plate_0 : decode cX7_plate 0 = .ok (.iload 4, 2) := by decide +kernel
theorem dX7_plate_2 : decode cX7_plate 2 = .ok (.iconst (-1), 1) := by decide +kernel
theorem dX7_plate_3 : decode cX7_plate 3 = .ok (.if_icmp .lt 12, 3) := by decide +kernel
theorem dX7_plate_6 : decode cX7_plate 6 = .ok (.iload 4, 2) := by decide +kernel
theorem dX7_plate_8 : decode cX7_plate 8 = .ok (.aload_n 0, 1) := by decide +kernel
theorem dX7_plate_9 : decode cX7_plate 9 = .ok (.getfield 90, 3) := by decide +kernel
theorem dX7_plate_12 : decode cX7_plate 12 = .ok (.if_icmp .lt 10, 3) := by decide +kernel
theorem dX7_plate_15 : decode cX7_plate 15 = .ok (.aload_n 0, 1) := by decide +kernel
theorem dX7_plate_16 : decode cX7_plate 16 = .ok (.bipush (-5), 2) := by decide +kernel
theorem dX7_plate_18 : decode cX7_plate 18 = .ok (.invokevirtual 100, 3) := by decide +kernel
theorem dX7_plate_21 : decode cX7_plate 21 = .ok (.ireturn, 1) := by decide +kernel
theorem dX7_plate_22 : decode cX7_plate 22 = .ok (.aload_n 0, 1) := by decide +kernel
theorem dX7_plate_23 : decode cX7_plate 23 = .ok (.iload_n 1, 1) := by decide +kernel
theorem dX7_plate_24 : decode cX7_plate 24 = .ok (.iload_n 2, 1) := by decide +kernel
theorem dX7_plate_25 : decode cX7_plate 25 = .ok (.iload_n 3, 1) := by decide +kernel
theorem dX7_plate_26 : decode cX7_plate 26 = .ok (.invokevirtual 226, 3) := by decide +kernel
theorem dX7_plate_29 : decode cX7_plate 29 = .ok (.ifCond .eq 11, 3) := by decide +kernel
theorem dX7_plate_32 : decode cX7_plate 32 = .ok (.aload_n 0, 1) := by decide +kernel
theorem dX7_plate_33 : decode cX7_plate 33 = .ok (.getfield 90, 3) := by decide +kernel
theorem dX7_plate_36 : decode cX7_plate 36 = .ok (.iconst 5, 1) := by decide +kernel
theorem dX7_plate_37 : decode cX7_plate 37 = .ok (.if_icmp .le 10, 3) := by decide +kernel
theorem dX7_plate_40 : decode cX7_plate 40 = .ok (.aload_n 0, 1) := by decide +kernel
theorem dX7_plate_41 : decode cX7_plate 41 = .ok (.bipush (-6), 2) := by decide +kernel
theorem dX7_plate_43 : decode cX7_plate 43 = .ok (.invokevirtual 100, 3) := by decide +kernel
theorem dX7_plate_46 : decode cX7_plate 46 = .ok (.ireturn, 1) := by decide +kernel
theorem dX7_plate_47 : decode cX7_plate 47 = .ok (.aload_n 0, 1) := by decide +kernel
theorem dX7_plate_48 : decode cX7_plate 48 = .ok (.iconst (-1), 1) := by decide +kernel
theorem dX7_plate_49 : decode cX7_plate 49 = .ok (.putfield 243, 3) := by decide +kernel
theorem dX7_plate_52 : decode cX7_plate 52 = .ok (.aload_n 0, 1) := by decide +kernel
theorem dX7_plate_53 : decode cX7_plate 53 = .ok (.iconst 0, 1) := by decide +kernel
theorem dX7_plate_54 : decode cX7_plate 54 = .ok (.iconst 0, 1) := by decide +kernel
theorem dX7_plate_55 : decode cX7_plate 55 = .ok (.iconst 0, 1) := by decide +kernel
theorem dX7_plate_56 : decode cX7_plate 56 = .ok (.iload_n 1, 1) := by decide +kernel
theorem dX7_plate_57 : decode cX7_plate 57 = .ok (.iload_n 2, 1) := by decide +kernel
theorem dX7_plate_58 : decode cX7_plate 58 = .ok (.iload_n 3, 1) := by decide +kernel
theorem dX7_plate_59 : decode cX7_plate 59 = .ok (.invokevirtual 249, 3) := by decide +kernel
theorem dX7_plate_62 : decode cX7_plate 62 = .ok (.iload 4, 2) := by decide +kernel
theorem dX7_plate_64 : decode cX7_plate 64 = .ok (.iconst (-1), 1) := by decide +kernel
theorem dX7_plate_65 : decode cX7_plate 65 = .ok (.if_icmp .ne 10, 3) := by decide +kernel
theorem dX7_plate_68 : decode cX7_plate 68 = .ok (.aload_n 0, 1) := by decide +kernel
theorem dX7_plate_69 : decode cX7_plate 69 = .ok (.getfield 243, 3) := by decide +kernel
theorem dX7_plate_72 : decode cX7_plate 72 = .ok (.goto 10, 3) := by decide +kernel
theorem dX7_plate_75 : decode cX7_plate 75 = .ok (.aload_n 0, 1) := by decide +kernel
theorem dX7_plate_76 : decode cX7_plate 76 = .ok (.getfield 84, 3) := by decide +kernel
theorem dX7_plate_79 : decode cX7_plate 79 = .ok (.iload 4, 2) := by decide +kernel
theorem dX7_plate_81 : decode cX7_plate 81 = .ok (.iaload, 1) := by decide +kernel
theorem dX7_plate_82 : decode cX7_plate 82 = .ok (.ireturn, 1) := by decide +kernel
theorem dX7_rule_0 : decode cX7_rule 0 = .ok (.iload_n 1, 1) := by decide +kernel
theorem dX7_rule_1 : decode cX7_rule 1 = .ok (.ifCond .lt 31, 3) := by decide +kernel
theorem dX7_rule_4 : decode cX7_rule 4 = .ok (.iload_n 1, 1) := by decide +kernel
theorem dX7_rule_5 : decode cX7_rule 5 = .ok (.bipush 99, 2) := by decide +kernel
theorem dX7_rule_7 : decode cX7_rule 7 = .ok (.if_icmp .gt 25, 3) := by decide +kernel
theorem dX7_rule_10 : decode cX7_rule 10 = .ok (.iload_n 2, 1) := by decide +kernel
theorem dX7_rule_11 : decode cX7_rule 11 = .ok (.iconst 1, 1) := by decide +kernel
theorem dX7_rule_12 : decode cX7_rule 12 = .ok (.if_icmp .lt 20, 3) := by decide +kernel
theorem dX7_rule_15 : decode cX7_rule 15 = .ok (.iload_n 2, 1) := by decide +kernel
theorem dX7_rule_16 : decode cX7_rule 16 = .ok (.bipush 99, 2) := by decide +kernel
theorem dX7_rule_18 : decode cX7_rule 18 = .ok (.if_icmp .gt 14, 3) := by decide +kernel
theorem dX7_rule_21 : decode cX7_rule 21 = .ok (.aload_n 0, 1) := by decide +kernel
theorem dX7_rule_22 : decode cX7_rule 22 = .ok (.iload_n 3, 1) := by decide +kernel
theorem dX7_rule_23 : decode cX7_rule 23 = .ok (.iconst 0, 1) := by decide +kernel
theorem dX7_rule_24 : decode cX7_rule 24 = .ok (.iload 4, 2) := by decide +kernel
theorem dX7_rule_26 : decode cX7_rule 26 = .ok (.invokevirtual 226, 3) := by decide +kernel
theorem dX7_rule_29 : decode cX7_rule 29 = .ok (.ifCond .ne 10, 3) := by decide +kernel
theorem dX7_rule_32 : decode cX7_rule 32 = .ok (.aload_n 0, 1) := by decide +kernel
theorem dX7_rule_33 : decode cX7_rule 33 = .ok (.bipush (-6), 2) := by decide +kernel
theorem dX7_rule_35 : decode cX7_rule 35 = .ok (.invokevirtual 100, 3) := by decide +kernel
theorem dX7_rule_38 : decode cX7_rule 38 = .ok (.ireturn, 1) := by decide +kernel
theorem dX7_rule_39 : decode cX7_rule 39 = .ok (.iload_n 1, 1) := by decide +kernel
theorem dX7_rule_40 : decode cX7_rule 40 = .ok (.aload_n 0, 1) := by decide +kernel
theorem dX7_rule_41 : decode cX7_rule 41 = .ok (.getfield 7, 3) := by decide +kernel
theorem dX7_rule_44 : decode cX7_rule 44 = .ok (.iload_n 2, 1) := by decide +kernel
theorem dX7_rule_45 : decode cX7_rule 45 = .ok (.idiv, 1) := by decide +kernel
theorem dX7_rule_46 : decode cX7_rule 46 = .ok (.isub, 1) := by decide +kernel
theorem dX7_rule_47 : decode cX7_rule 47 = .ok (.istore 5, 2) := by decide +kernel
theorem dX7_rule_49 : decode cX7_rule 49 = .ok (.iconst 0, 1) := by decide +kernel
theorem dX7_rule_50 : decode cX7_rule 50 = .ok (.istore 6, 2) := by decide +kernel
theorem dX7_rule_52 : decode cX7_rule 52 = .ok (.iload 5, 2) := by decide +kernel
theorem dX7_rule_54 : decode cX7_rule 54 = .ok (.ifCond .ge 7, 3) := by decide +kernel
theorem dX7_rule_57 : decode cX7_rule 57 = .ok (.iconst 0, 1) := by decide +kernel
theorem dX7_rule_58 : decode cX7_rule 58 = .ok (.goto 17, 3) := by decide +kernel
theorem dX7_rule_61 : decode cX7_rule 61 = .ok (.iload 5, 2) := by decide +kernel
theorem dX7_rule_63 : decode cX7_rule 63 = .ok (.bipush 60, 2) := by decide +kernel
theorem dX7_rule_65 : decode cX7_rule 65 = .ok (.if_icmp .le 8, 3) := by decide +kernel
theorem dX7_rule_68 : decode cX7_rule 68 = .ok (.bipush 60, 2) := by decide +kernel
theorem dX7_rule_70 : decode cX7_rule 70 = .ok (.goto 5, 3) := by decide +kernel
theorem dX7_rule_73 : decode cX7_rule 73 = .ok (.iload 5, 2) := by decide +kernel
theorem dX7_rule_75 : decode cX7_rule 75 = .ok (.istore 5, 2) := by decide +kernel
theorem dX7_rule_77 : decode cX7_rule 77 = .ok (.iconst 0, 1) := by decide +kernel
theorem dX7_rule_78 : decode cX7_rule 78 = .ok (.istore 7, 2) := by decide +kernel
theorem dX7_rule_80 : decode cX7_rule 80 = .ok (.iload 7, 2) := by decide +kernel
theorem dX7_rule_82 : decode cX7_rule 82 = .ok (.aload_n 0, 1) := by decide +kernel
theorem dX7_rule_83 : decode cX7_rule 83 = .ok (.getfield 90, 3) := by decide +kernel
theorem dX7_rule_86 : decode cX7_rule 86 = .ok (.if_icmp .ge 33, 3) := by decide +kernel
theorem dX7_rule_89 : decode cX7_rule 89 = .ok (.aload_n 0, 1) := by decide +kernel
theorem dX7_rule_90 : decode cX7_rule 90 = .ok (.iload 7, 2) := by decide +kernel
theorem dX7_rule_92 : decode cX7_rule 92 = .ok (.iload_n 3, 1) := by decide +kernel
theorem dX7_rule_93 : decode cX7_rule 93 = .ok (.iload 5, 2) := by decide +kernel
theorem dX7_rule_95 : decode cX7_rule 95 = .ok (.iload 4, 2) := by decide +kernel
theorem dX7_rule_97 : decode cX7_rule 97 = .ok (.aload_n 0, 1) := by decide +kernel
theorem dX7_rule_98 : decode cX7_rule 98 = .ok (.getfield 7, 3) := by decide +kernel
theorem dX7_rule_101 : decode cX7_rule 101 = .ok (.invokevirtual 230, 3) := by decide +kernel
theorem dX7_rule_104 : decode cX7_rule 104 = .ok (.iload 6, 2) := by decide +kernel
theorem dX7_rule_106 : decode cX7_rule 106 = .ok (.aload_n 0, 1) := by decide +kernel
theorem dX7_rule_107 : decode cX7_rule 107 = .ok (.invokevirtual 237, 3) := by decide +kernel
theorem dX7_rule_110 : decode cX7_rule 110 = .ok (.iadd, 1) := by decide +kernel
theorem dX7_rule_111 : decode cX7_rule 111 = .ok (.istore 6, 2) := by decide +kernel
theorem dX7_rule_113 : decode cX7_rule 113 = .ok (.iinc 7 1, 3) := by decide +kernel
theorem dX7_rule_116 : decode cX7_rule 116 = .ok (.goto (-36), 3) := by decide +kernel
theorem dX7_rule_119 : decode cX7_rule 119 = .ok (.iload 6, 2) := by decide +kernel
theorem dX7_rule_121 : decode cX7_rule 121 = .ok (.ireturn, 1) := by decide +kernel
theorem dX7_isBack_0 : decode cX7_isBack 0 = .ok (.aload_n 0, 1) := by decide +kernel
theorem dX7_isBack_1 : decode cX7_isBack 1 = .ok (.aload_n 0, 1) := by decide +kernel
theorem dX7_isBack_2 : decode cX7_isBack 2 = .ok (.getfield 35, 3) := by decide +kernel
theorem dX7_isBack_5 : decode cX7_isBack 5 = .ok (.iload_n 1, 1) := by decide +kernel
theorem dX7_isBack_6 : decode cX7_isBack 6 = .ok (.iaload, 1) := by decide +kernel
theorem dX7_isBack_7 : decode cX7_isBack 7 = .ok (.putfield 177, 3) := by decide +kernel
theorem dX7_isBack_10 : decode cX7_isBack 10 = .ok (.iconst 0, 1) := by decide +kernel
theorem dX7_isBack_11 : decode cX7_isBack 11 = .ok (.istore 6, 2) := by decide +kernel
theorem dX7_isBack_13 : decode cX7_isBack 13 = .ok (.iload 6, 2) := by decide +kernel
theorem dX7_isBack_15 : decode cX7_isBack 15 = .ok (.aload_n 0, 1) := by decide +kernel
theorem dX7_isBack_16 : decode cX7_isBack 16 = .ok (.getfield 177, 3) := by decide +kernel
theorem dX7_isBack_19 : decode cX7_isBack 19 = .ok (.if_icmp .ge 17, 3) := by decide +kernel
theorem dX7_isBack_22 : decode cX7_isBack 22 = .ok (.aload_n 0, 1) := by decide +kernel
theorem dX7_isBack_23 : decode cX7_isBack 23 = .ok (.getfield 75, 3) := by decide +kernel
theorem dX7_isBack_26 : decode cX7_isBack 26 = .ok (.iload 6, 2) := by decide +kernel
theorem dX7_isBack_28 : decode cX7_isBack 28 = .ok (.iconst 0, 1) := by decide +kernel
theorem dX7_isBack_29 : decode cX7_isBack 29 = .ok (.iastore, 1) := by decide +kernel
theorem dX7_isBack_30 : decode cX7_isBack 30 = .ok (.iinc 6 1, 3) := by decide +kernel
theorem dX7_isBack_33 : decode cX7_isBack 33 = .ok (.goto (-20), 3) := by decide +kernel
theorem dX7_isBack_36 : decode cX7_isBack 36 = .ok (.aload_n 0, 1) := by decide +kernel
theorem dX7_isBack_37 : decode cX7_isBack 37 = .ok (.iconst 0, 1) := by decide +kernel
theorem dX7_isBack_38 : decode cX7_isBack 38 = .ok (.putfield 183, 3) := by decide +kernel
theorem dX7_isBack_41 : decode cX7_isBack 41 = .ok (.aload_n 0, 1) := by decide +kernel
theorem dX7_isBack_42 : decode cX7_isBack 42 = .ok (.iload_n 1, 1) := by decide +kernel
theorem dX7_isBack_43 : decode cX7_isBack 43 = .ok (.iload_n 3, 1) := by decide +kernel
theorem dX7_isBack_44 : decode cX7_isBack 44 = .ok (.iload 4, 2) := by decide +kernel
theorem dX7_isBack_46 : decode cX7_isBack 46 = .ok (.iload 5, 2) := by decide +kernel
theorem dX7_isBack_48 : decode cX7_isBack 48 = .ok (.iconst 0, 1) := by decide +kernel
theorem dX7_isBack_49 : decode cX7_isBack 49 = .ok (.invokevirtual 210, 3) := by decide +kernel
theorem dX7_isBack_52 : decode cX7_isBack 52 = .ok (.aload_n 0, 1) := by decide +kernel
theorem dX7_isBack_53 : decode cX7_isBack 53 = .ok (.getfield 183, 3) := by decide +kernel
theorem dX7_isBack_56 : decode cX7_isBack 56 = .ok (.ifCond .le 5, 3) := by decide +kernel
theorem dX7_isBack_59 : decode cX7_isBack 59 = .ok (.iconst 0, 1) := by decide +kernel
theorem dX7_isBack_60 : decode cX7_isBack 60 = .ok (.ireturn, 1) := by decide +kernel
theorem dX7_isBack_61 : decode cX7_isBack 61 = .ok (.iconst 0, 1) := by decide +kernel
theorem dX7_isBack_62 : decode cX7_isBack 62 = .ok (.istore 6, 2) := by decide +kernel
theorem dX7_isBack_64 : decode cX7_isBack 64 = .ok (.iload 6, 2) := by decide +kernel
theorem dX7_isBack_66 : decode cX7_isBack 66 = .ok (.aload_n 0, 1) := by decide +kernel
theorem dX7_isBack_67 : decode cX7_isBack 67 = .ok (.getfield 177, 3) := by decide +kernel
theorem dX7_isBack_70 : decode cX7_isBack 70 = .ok (.if_icmp .ge 35, 3) := by decide +kernel
theorem dX7_isBack_73 : decode cX7_isBack 73 = .ok (.aload_n 0, 1) := by decide +kernel
theorem dX7_isBack_74 : decode cX7_isBack 74 = .ok (.getfield 56, 3) := by decide +kernel
theorem dX7_isBack_77 : decode cX7_isBack 77 = .ok (.sipush 160, 3) := by decide +kernel
theorem dX7_isBack_80 : decode cX7_isBack 80 = .ok (.iload_n 2, 1) := by decide +kernel
theorem dX7_isBack_81 : decode cX7_isBack 81 = .ok (.imul, 1) := by decide +kernel
theorem dX7_isBack_82 : decode cX7_isBack 82 = .ok (.iload 6, 2) := by decide +kernel
theorem dX7_isBack_84 : decode cX7_isBack 84 = .ok (.iadd, 1) := by decide +kernel
theorem dX7_isBack_85 : decode cX7_isBack 85 = .ok (.laload, 1) := by decide +kernel
theorem dX7_isBack_86 : decode cX7_isBack 86 = .ok (.l2i, 1) := by decide +kernel
theorem dX7_isBack_87 : decode cX7_isBack 87 = .ok (.aload_n 0, 1) := by decide +kernel
theorem dX7_isBack_88 : decode cX7_isBack 88 = .ok (.getfield 75, 3) := by decide +kernel
theorem dX7_isBack_91 : decode cX7_isBack 91 = .ok (.iload 6, 2) := by decide +kernel
theorem dX7_isBack_93 : decode cX7_isBack 93 = .ok (.iaload, 1) := by decide +kernel
theorem dX7_isBack_94 : decode cX7_isBack 94 = .ok (.if_icmp .eq 5, 3) := by decide +kernel
theorem dX7_isBack_97 : decode cX7_isBack 97 = .ok (.iconst 0, 1) := by decide +kernel
theorem dX7_isBack_98 : decode cX7_isBack 98 = .ok (.ireturn, 1) := by decide +kernel
theorem dX7_isBack_99 : decode cX7_isBack 99 = .ok (.iinc 6 1, 3) := by decide +kernel
theorem dX7_isBack_102 : decode cX7_isBack 102 = .ok (.goto (-38), 3) := by decide +kernel
theorem dX7_isBack_105 : decode cX7_isBack 105 = .ok (.iconst 1, 1) := by decide +kernel
theorem dX7_isBack_106 : decode cX7_isBack 106 = .ok (.ireturn, 1) := by decide +kernel
theorem dX7_bars_0 : decode cX7_bars 0 = .ok (.aload_n 0, 1) := by decide +kernel
theorem dX7_bars_1 : decode cX7_bars 1 = .ok (.iload_n 2, 1) := by decide +kernel
theorem dX7_bars_2 : decode cX7_bars 2 = .ok (.invokevirtual 97, 3) := by decide +kernel
theorem dX7_bars_5 : decode cX7_bars 5 = .ok (.ifCond .eq 15, 3) := by decide +kernel
theorem dX7_bars_8 : decode cX7_bars 8 = .ok (.aload_n 0, 1) := by decide +kernel
theorem dX7_bars_9 : decode cX7_bars 9 = .ok (.iload_n 1, 1) := by decide +kernel
theorem dX7_bars_10 : decode cX7_bars 10 = .ok (.invokevirtual 93, 3) := by decide +kernel
theorem dX7_bars_13 : decode cX7_bars 13 = .ok (.ifCond .ne 7, 3) := by decide +kernel
theorem dX7_bars_16 : decode cX7_bars 16 = .ok (.iconst (-1), 1) := by decide +kernel
theorem dX7_bars_17 : decode cX7_bars 17 = .ok (.goto 8, 3) := by decide +kernel
theorem dX7_bars_20 : decode cX7_bars 20 = .ok (.aload_n 0, 1) := by decide +kernel
theorem dX7_bars_21 : decode cX7_bars 21 = .ok (.iload_n 2, 1) := by decide +kernel
theorem dX7_bars_22 : decode cX7_bars 22 = .ok (.invokevirtual 167, 3) := by decide +kernel
theorem dX7_bars_25 : decode cX7_bars 25 = .ok (.istore_n 3, 1) := by decide +kernel
theorem dX7_bars_26 : decode cX7_bars 26 = .ok (.iload_n 3, 1) := by decide +kernel
theorem dX7_bars_27 : decode cX7_bars 27 = .ok (.ifCond .eq 7, 3) := by decide +kernel
theorem dX7_bars_30 : decode cX7_bars 30 = .ok (.iload_n 3, 1) := by decide +kernel
theorem dX7_bars_31 : decode cX7_bars 31 = .ok (.goto 24, 3) := by decide +kernel
theorem dX7_bars_34 : decode cX7_bars 34 = .ok (.aload_n 0, 1) := by decide +kernel
theorem dX7_bars_35 : decode cX7_bars 35 = .ok (.getfield 35, 3) := by decide +kernel
theorem dX7_bars_38 : decode cX7_bars 38 = .ok (.iload_n 1, 1) := by decide +kernel
theorem dX7_bars_39 : decode cX7_bars 39 = .ok (.iaload, 1) := by decide +kernel
theorem dX7_bars_40 : decode cX7_bars 40 = .ok (.aload_n 0, 1) := by decide +kernel
theorem dX7_bars_41 : decode cX7_bars 41 = .ok (.getfield 50, 3) := by decide +kernel
theorem dX7_bars_44 : decode cX7_bars 44 = .ok (.iload_n 2, 1) := by decide +kernel
theorem dX7_bars_45 : decode cX7_bars 45 = .ok (.iaload, 1) := by decide +kernel
theorem dX7_bars_46 : decode cX7_bars 46 = .ok (.if_icmp .le 8, 3) := by decide +kernel
theorem dX7_bars_49 : decode cX7_bars 49 = .ok (.bipush (-5), 2) := by decide +kernel
theorem dX7_bars_51 : decode cX7_bars 51 = .ok (.goto 4, 3) := by decide +kernel
theorem dX7_bars_54 : decode cX7_bars 54 = .ok (.iconst 0, 1) := by decide +kernel
theorem dX7_bars_55 : decode cX7_bars 55 = .ok (.ireturn, 1) := by decide +kernel
theorem dX7_back_0 : decode cX7_back 0 = .ok (.aload_n 0, 1) := by decide +kernel
theorem dX7_back_1 : decode cX7_back 1 = .ok (.iload_n 1, 1) := by decide +kernel
theorem dX7_back_2 : decode cX7_back 2 = .ok (.iload_n 2, 1) := by decide +kernel
theorem dX7_back_3 : decode cX7_back 3 = .ok (.invokevirtual 253, 3) := by decide +kernel
theorem dX7_back_6 : decode cX7_back 6 = .ok (.istore 4, 2) := by decide +kernel
theorem dX7_back_8 : decode cX7_back 8 = .ok (.iload 4, 2) := by decide +kernel
theorem dX7_back_10 : decode cX7_back 10 = .ok (.ifCond .ne 15, 3) := by decide +kernel
theorem dX7_back_13 : decode cX7_back 13 = .ok (.aload_n 0, 1) := by decide +kernel
theorem dX7_back_14 : decode cX7_back 14 = .ok (.iload_n 3, 1) := by decide +kernel
theorem dX7_back_15 : decode cX7_back 15 = .ok (.invokevirtual 220, 3) := by decide +kernel
theorem dX7_back_18 : decode cX7_back 18 = .ok (.ifCond .ne 7, 3) := by decide +kernel
theorem dX7_back_21 : decode cX7_back 21 = .ok (.bipush (-6), 2) := by decide +kernel
theorem dX7_back_23 : decode cX7_back 23 = .ok (.istore 4, 2) := by decide +kernel
theorem dX7_back_25 : decode cX7_back 25 = .ok (.iload 4, 2) := by decide +kernel
theorem dX7_back_27 : decode cX7_back 27 = .ok (.ifCond .eq 11, 3) := by decide +kernel
theorem dX7_back_30 : decode cX7_back 30 = .ok (.aload_n 0, 1) := by decide +kernel
theorem dX7_back_31 : decode cX7_back 31 = .ok (.iload 4, 2) := by decide +kernel
theorem dX7_back_33 : decode cX7_back 33 = .ok (.invokevirtual 100, 3) := by decide +kernel
theorem dX7_back_36 : decode cX7_back 36 = .ok (.i2l, 1) := by decide +kernel
theorem dX7_back_37 : decode cX7_back 37 = .ok (.lreturn, 1) := by decide +kernel
theorem dX7_back_38 : decode cX7_back 38 = .ok (.lconst 0, 1) := by decide +kernel
theorem dX7_back_39 : decode cX7_back 39 = .ok (.lstore 5, 2) := by decide +kernel
theorem dX7_back_41 : decode cX7_back 41 = .ok (.iconst 0, 1) := by decide +kernel
theorem dX7_back_42 : decode cX7_back 42 = .ok (.istore 7, 2) := by decide +kernel
theorem dX7_back_44 : decode cX7_back 44 = .ok (.iload 7, 2) := by decide +kernel
theorem dX7_back_46 : decode cX7_back 46 = .ok (.bipush 60, 2) := by decide +kernel
theorem dX7_back_48 : decode cX7_back 48 = .ok (.if_icmp .gt 34, 3) := by decide +kernel
theorem dX7_back_51 : decode cX7_back 51 = .ok (.aload_n 0, 1) := by decide +kernel
theorem dX7_back_52 : decode cX7_back 52 = .ok (.iload_n 1, 1) := by decide +kernel
theorem dX7_back_53 : decode cX7_back 53 = .ok (.iload_n 2, 1) := by decide +kernel
theorem dX7_back_54 : decode cX7_back 54 = .ok (.iload_n 3, 1) := by decide +kernel
theorem dX7_back_55 : decode cX7_back 55 = .ok (.iload 7, 2) := by decide +kernel
theorem dX7_back_57 : decode cX7_back 57 = .ok (.aload_n 0, 1) := by decide +kernel
theorem dX7_back_58 : decode cX7_back 58 = .ok (.getfield 7, 3) := by decide +kernel
theorem dX7_back_61 : decode cX7_back 61 = .ok (.invokevirtual 256, 3) := by decide +kernel
theorem dX7_back_64 : decode cX7_back 64 = .ok (.ifCond .eq 12, 3) := by decide +kernel
theorem dX7_back_67 : decode cX7_back 67 = .ok (.lload 5, 2) := by decide +kernel
theorem dX7_back_69 : decode cX7_back 69 = .ok (.lconst 1, 1) := by decide +kernel
theorem dX7_back_70 : decode cX7_back 70 = .ok (.iload 7, 2) := by decide +kernel
theorem dX7_back_72 : decode cX7_back 72 = .ok (.lshl, 1) := by decide +kernel
theorem dX7_back_73 : decode cX7_back 73 = .ok (.lor, 1) := by decide +kernel
theorem dX7_back_74 : decode cX7_back 74 = .ok (.lstore 5, 2) := by decide +kernel
theorem dX7_back_76 : decode cX7_back 76 = .ok (.iinc 7 1, 3) := by decide +kernel
theorem dX7_back_79 : decode cX7_back 79 = .ok (.goto (-35), 3) := by decide +kernel
theorem dX7_back_82 : decode cX7_back 82 = .ok (.lload 5, 2) := by decide +kernel
theorem dX7_back_84 : decode cX7_back 84 = .ok (.lreturn, 1) := by decide +kernel
theorem dX7_heats_0 : decode cX7_heats 0 = .ok (.aload_n 0, 1) := by decide +kernel
theorem dX7_heats_1 : decode cX7_heats 1 = .ok (.iload_n 1, 1) := by decide +kernel
theorem dX7_heats_2 : decode cX7_heats 2 = .ok (.iload_n 2, 1) := by decide +kernel
theorem dX7_heats_3 : decode cX7_heats 3 = .ok (.invokevirtual 253, 3) := by decide +kernel
theorem dX7_heats_6 : decode cX7_heats 6 = .ok (.istore 5, 2) := by decide +kernel
theorem dX7_heats_8 : decode cX7_heats 8 = .ok (.iload 5, 2) := by decide +kernel
theorem dX7_heats_10 : decode cX7_heats 10 = .ok (.ifCond .ne 18, 3) := by decide +kernel
theorem dX7_heats_13 : decode cX7_heats 13 = .ok (.aload_n 0, 1) := by decide +kernel
theorem dX7_heats_14 : decode cX7_heats 14 = .ok (.iload_n 3, 1) := by decide +kernel
theorem dX7_heats_15 : decode cX7_heats 15 = .ok (.iload 4, 2) := by decide +kernel
theorem dX7_heats_17 : decode cX7_heats 17 = .ok (.iconst 0, 1) := by decide +kernel
theorem dX7_heats_18 : decode cX7_heats 18 = .ok (.invokevirtual 226, 3) := by decide +kernel
theorem dX7_heats_21 : decode cX7_heats 21 = .ok (.ifCond .ne 7, 3) := by decide +kernel
theorem dX7_heats_24 : decode cX7_heats 24 = .ok (.bipush (-6), 2) := by decide +kernel
theorem dX7_heats_26 : decode cX7_heats 26 = .ok (.istore 5, 2) := by decide +kernel
theorem dX7_heats_28 : decode cX7_heats 28 = .ok (.iload 5, 2) := by decide +kernel
theorem dX7_heats_30 : decode cX7_heats 30 = .ok (.ifCond .eq 10, 3) := by decide +kernel
theorem dX7_heats_33 : decode cX7_heats 33 = .ok (.aload_n 0, 1) := by decide +kernel
theorem dX7_heats_34 : decode cX7_heats 34 = .ok (.iload 5, 2) := by decide +kernel
theorem dX7_heats_36 : decode cX7_heats 36 = .ok (.invokevirtual 217, 3) := by decide +kernel
theorem dX7_heats_39 : decode cX7_heats 39 = .ok (.ireturn, 1) := by decide +kernel
theorem dX7_heats_40 : decode cX7_heats 40 = .ok (.iconst 0, 1) := by decide +kernel
theorem dX7_heats_41 : decode cX7_heats 41 = .ok (.istore 6, 2) := by decide +kernel
theorem dX7_heats_43 : decode cX7_heats 43 = .ok (.iload 6, 2) := by decide +kernel
theorem dX7_heats_45 : decode cX7_heats 45 = .ok (.bipush 99, 2) := by decide +kernel
theorem dX7_heats_47 : decode cX7_heats 47 = .ok (.if_icmp .gt 26, 3) := by decide +kernel
theorem dX7_heats_50 : decode cX7_heats 50 = .ok (.aload_n 0, 1) := by decide +kernel
theorem dX7_heats_51 : decode cX7_heats 51 = .ok (.iload_n 1, 1) := by decide +kernel
theorem dX7_heats_52 : decode cX7_heats 52 = .ok (.iload_n 2, 1) := by decide +kernel
theorem dX7_heats_53 : decode cX7_heats 53 = .ok (.iload_n 3, 1) := by decide +kernel
theorem dX7_heats_54 : decode cX7_heats 54 = .ok (.iload 4, 2) := by decide +kernel
theorem dX7_heats_56 : decode cX7_heats 56 = .ok (.iload 6, 2) := by decide +kernel
theorem dX7_heats_58 : decode cX7_heats 58 = .ok (.invokevirtual 256, 3) := by decide +kernel
theorem dX7_heats_61 : decode cX7_heats 61 = .ok (.ifCond .eq 6, 3) := by decide +kernel
theorem dX7_heats_64 : decode cX7_heats 64 = .ok (.iload 6, 2) := by decide +kernel
theorem dX7_heats_66 : decode cX7_heats 66 = .ok (.ireturn, 1) := by decide +kernel
theorem dX7_heats_67 : decode cX7_heats 67 = .ok (.iinc 6 1, 3) := by decide +kernel
theorem dX7_heats_70 : decode cX7_heats 70 = .ok (.goto (-27), 3) := by decide +kernel
theorem dX7_heats_73 : decode cX7_heats 73 = .ok (.iconst (-1), 1) := by decide +kernel
theorem dX7_heats_74 : decode cX7_heats 74 = .ok (.ireturn, 1) := by decide +kernel
theorem dX7_fetch_0 : decode cX7_fetch 0 = .ok (.iload_n 1, 1) := by decide +kernel
theorem dX7_fetch_1 : decode cX7_fetch 1 = .ok (.iconst 1, 1) := by decide +kernel
theorem dX7_fetch_2 : decode cX7_fetch 2 = .ok (.if_icmp .lt 17, 3) := by decide +kernel
theorem dX7_fetch_5 : decode cX7_fetch 5 = .ok (.iload_n 1, 1) := by decide +kernel
theorem dX7_fetch_6 : decode cX7_fetch 6 = .ok (.bipush 12, 2) := by decide +kernel
theorem dX7_fetch_8 : decode cX7_fetch 8 = .ok (.if_icmp .gt 11, 3) := by decide +kernel
theorem dX7_fetch_11 : decode cX7_fetch 11 = .ok (.aload_n 0, 1) := by decide +kernel
theorem dX7_fetch_12 : decode cX7_fetch 12 = .ok (.iload_n 2, 1) := by decide +kernel
theorem dX7_fetch_13 : decode cX7_fetch 13 = .ok (.invokevirtual 223, 3) := by decide +kernel
theorem dX7_fetch_16 : decode cX7_fetch 16 = .ok (.ifCond .ne 10, 3) := by decide +kernel
theorem dX7_fetch_19 : decode cX7_fetch 19 = .ok (.aload_n 0, 1) := by decide +kernel
theorem dX7_fetch_20 : decode cX7_fetch 20 = .ok (.bipush (-6), 2) := by decide +kernel
theorem dX7_fetch_22 : decode cX7_fetch 22 = .ok (.invokevirtual 100, 3) := by decide +kernel
theorem dX7_fetch_25 : decode cX7_fetch 25 = .ok (.ireturn, 1) := by decide +kernel
theorem dX7_fetch_26 : decode cX7_fetch 26 = .ok (.iconst 0, 1) := by decide +kernel
theorem dX7_fetch_27 : decode cX7_fetch 27 = .ok (.istore_n 3, 1) := by decide +kernel
theorem dX7_fetch_28 : decode cX7_fetch 28 = .ok (.iconst 0, 1) := by decide +kernel
theorem dX7_fetch_29 : decode cX7_fetch 29 = .ok (.istore 4, 2) := by decide +kernel
theorem dX7_fetch_31 : decode cX7_fetch 31 = .ok (.iload 4, 2) := by decide +kernel
theorem dX7_fetch_33 : decode cX7_fetch 33 = .ok (.aload_n 0, 1) := by decide +kernel
theorem dX7_fetch_34 : decode cX7_fetch 34 = .ok (.getfield 90, 3) := by decide +kernel
theorem dX7_fetch_37 : decode cX7_fetch 37 = .ok (.if_icmp .ge 39, 3) := by decide +kernel
theorem dX7_fetch_40 : decode cX7_fetch 40 = .ok (.aload_n 0, 1) := by decide +kernel
theorem dX7_fetch_41 : decode cX7_fetch 41 = .ok (.getfield 35, 3) := by decide +kernel
theorem dX7_fetch_44 : decode cX7_fetch 44 = .ok (.iload 4, 2) := by decide +kernel
theorem dX7_fetch_46 : decode cX7_fetch 46 = .ok (.iaload, 1) := by decide +kernel
theorem dX7_fetch_47 : decode cX7_fetch 47 = .ok (.iload_n 1, 1) := by decide +kernel
theorem dX7_fetch_48 : decode cX7_fetch 48 = .ok (.if_icmp .lt 22, 3) := by decide +kernel
theorem dX7_fetch_51 : decode cX7_fetch 51 = .ok (.aload_n 0, 1) := by decide +kernel
theorem dX7_fetch_52 : decode cX7_fetch 52 = .ok (.iload 4, 2) := by decide +kernel
theorem dX7_fetch_54 : decode cX7_fetch 54 = .ok (.iload_n 1, 1) := by decide +kernel
theorem dX7_fetch_55 : decode cX7_fetch 55 = .ok (.iload_n 2, 1) := by decide +kernel
theorem dX7_fetch_56 : decode cX7_fetch 56 = .ok (.iconst 0, 1) := by decide +kernel
theorem dX7_fetch_57 : decode cX7_fetch 57 = .ok (.invokevirtual 233, 3) := by decide +kernel
theorem dX7_fetch_60 : decode cX7_fetch 60 = .ok (.ifCond .eq 10, 3) := by decide +kernel
theorem dX7_fetch_63 : decode cX7_fetch 63 = .ok (.iload_n 3, 1) := by decide +kernel
theorem dX7_fetch_64 : decode cX7_fetch 64 = .ok (.iconst 1, 1) := by decide +kernel
theorem dX7_fetch_65 : decode cX7_fetch 65 = .ok (.iload 4, 2) := by decide +kernel
theorem dX7_fetch_67 : decode cX7_fetch 67 = .ok (.ishl, 1) := by decide +kernel
theorem dX7_fetch_68 : decode cX7_fetch 68 = .ok (.ior, 1) := by decide +kernel
theorem dX7_fetch_69 : decode cX7_fetch 69 = .ok (.istore_n 3, 1) := by decide +kernel
theorem dX7_fetch_70 : decode cX7_fetch 70 = .ok (.iinc 4 1, 3) := by decide +kernel
theorem dX7_fetch_73 : decode cX7_fetch 73 = .ok (.goto (-42), 3) := by decide +kernel
theorem dX7_fetch_76 : decode cX7_fetch 76 = .ok (.iload_n 3, 1) := by decide +kernel
theorem dX7_fetch_77 : decode cX7_fetch 77 = .ok (.ireturn, 1) := by decide +kernel
theorem dX7_passes_0 : decode cX7_passes 0 = .ok (.aload_n 0, 1) := by decide +kernel
theorem dX7_passes_1 : decode cX7_passes 1 = .ok (.aload_n 0, 1) := by decide +kernel
theorem dX7_passes_2 : decode cX7_passes 2 = .ok (.iload_n 1, 1) := by decide +kernel
theorem dX7_passes_3 : decode cX7_passes 3 = .ok (.invokevirtual 246, 3) := by decide +kernel
theorem dX7_passes_6 : decode cX7_passes 6 = .ok (.putfield 7, 3) := by decide +kernel
theorem dX7_passes_9 : decode cX7_passes 9 = .ok (.aload_n 0, 1) := by decide +kernel
theorem dX7_passes_10 : decode cX7_passes 10 = .ok (.dup, 1) := by decide +kernel
theorem dX7_passes_11 : decode cX7_passes 11 = .ok (.getfield 164, 3) := by decide +kernel
theorem dX7_passes_14 : decode cX7_passes 14 = .ok (.iload_n 1, 1) := by decide +kernel
theorem dX7_passes_15 : decode cX7_passes 15 = .ok (.iadd, 1) := by decide +kernel
theorem dX7_passes_16 : decode cX7_passes 16 = .ok (.putfield 164, 3) := by decide +kernel
theorem dX7_passes_19 : decode cX7_passes 19 = .ok (.return_, 1) := by decide +kernel
theorem dX7_stays_0 : decode cX7_stays 0 = .ok (.aload_n 0, 1) := by decide +kernel
theorem dX7_stays_1 : decode cX7_stays 1 = .ok (.getfield 35, 3) := by decide +kernel
theorem dX7_stays_4 : decode cX7_stays 4 = .ok (.iload_n 1, 1) := by decide +kernel
theorem dX7_stays_5 : decode cX7_stays 5 = .ok (.aload_n 0, 1) := by decide +kernel
theorem dX7_stays_6 : decode cX7_stays 6 = .ok (.getfield 177, 3) := by decide +kernel
theorem dX7_stays_9 : decode cX7_stays 9 = .ok (.iastore, 1) := by decide +kernel
theorem dX7_stays_10 : decode cX7_stays 10 = .ok (.iconst 0, 1) := by decide +kernel
theorem dX7_stays_11 : decode cX7_stays 11 = .ok (.istore_n 2, 1) := by decide +kernel
theorem dX7_stays_12 : decode cX7_stays 12 = .ok (.iload_n 2, 1) := by decide +kernel
theorem dX7_stays_13 : decode cX7_stays 13 = .ok (.aload_n 0, 1) := by decide +kernel
theorem dX7_stays_14 : decode cX7_stays 14 = .ok (.getfield 177, 3) := by decide +kernel
theorem dX7_stays_17 : decode cX7_stays 17 = .ok (.if_icmp .ge 26, 3) := by decide +kernel
theorem dX7_stays_20 : decode cX7_stays 20 = .ok (.aload_n 0, 1) := by decide +kernel
theorem dX7_stays_21 : decode cX7_stays 21 = .ok (.getfield 38, 3) := by decide +kernel
theorem dX7_stays_24 : decode cX7_stays 24 = .ok (.bipush 12, 2) := by decide +kernel
theorem dX7_stays_26 : decode cX7_stays 26 = .ok (.iload_n 1, 1) := by decide +kernel
theorem dX7_stays_27 : decode cX7_stays 27 = .ok (.imul, 1) := by decide +kernel
theorem dX7_stays_28 : decode cX7_stays 28 = .ok (.iload_n 2, 1) := by decide +kernel
theorem dX7_stays_29 : decode cX7_stays 29 = .ok (.iadd, 1) := by decide +kernel
theorem dX7_stays_30 : decode cX7_stays 30 = .ok (.aload_n 0, 1) := by decide +kernel
theorem dX7_stays_31 : decode cX7_stays 31 = .ok (.getfield 75, 3) := by decide +kernel
theorem dX7_stays_34 : decode cX7_stays 34 = .ok (.iload_n 2, 1) := by decide +kernel
theorem dX7_stays_35 : decode cX7_stays 35 = .ok (.iaload, 1) := by decide +kernel
theorem dX7_stays_36 : decode cX7_stays 36 = .ok (.iastore, 1) := by decide +kernel
theorem dX7_stays_37 : decode cX7_stays 37 = .ok (.iinc 2 1, 3) := by decide +kernel
theorem dX7_stays_40 : decode cX7_stays 40 = .ok (.goto (-28), 3) := by decide +kernel
theorem dX7_stays_43 : decode cX7_stays 43 = .ok (.return_, 1) := by decide +kernel
theorem dX7_dips_0 : decode cX7_dips 0 = .ok (.aload_n 0, 1) := by decide +kernel
theorem dX7_dips_1 : decode cX7_dips 1 = .ok (.iload_n 1, 1) := by decide +kernel
theorem dX7_dips_2 : decode cX7_dips 2 = .ok (.iload_n 2, 1) := by decide +kernel
theorem dX7_dips_3 : decode cX7_dips 3 = .ok (.iload_n 3, 1) := by decide +kernel
theorem dX7_dips_4 : decode cX7_dips 4 = .ok (.iconst 0, 1) := by decide +kernel
theorem dX7_dips_5 : decode cX7_dips 5 = .ok (.aload_n 0, 1) := by decide +kernel
theorem dX7_dips_6 : decode cX7_dips 6 = .ok (.getfield 7, 3) := by decide +kernel
theorem dX7_dips_9 : decode cX7_dips 9 = .ok (.invokevirtual 230, 3) := by decide +kernel
theorem dX7_dips_12 : decode cX7_dips 12 = .ok (.aload_n 0, 1) := by decide +kernel
theorem dX7_dips_13 : decode cX7_dips 13 = .ok (.iload_n 1, 1) := by decide +kernel
theorem dX7_dips_14 : decode cX7_dips 14 = .ok (.invokevirtual 260, 3) := by decide +kernel
theorem dX7_dips_17 : decode cX7_dips 17 = .ok (.aload_n 0, 1) := by decide +kernel
theorem dX7_dips_18 : decode cX7_dips 18 = .ok (.aload_n 0, 1) := by decide +kernel
theorem dX7_dips_19 : decode cX7_dips 19 = .ok (.getfield 16, 3) := by decide +kernel
theorem dX7_dips_22 : decode cX7_dips 22 = .ok (.aload_n 0, 1) := by decide +kernel
theorem dX7_dips_23 : decode cX7_dips 23 = .ok (.getfield 180, 3) := by decide +kernel
theorem dX7_dips_26 : decode cX7_dips 26 = .ok (.if_icmp .le 15, 3) := by decide +kernel
theorem dX7_dips_29 : decode cX7_dips 29 = .ok (.aload_n 0, 1) := by decide +kernel
theorem dX7_dips_30 : decode cX7_dips 30 = .ok (.getfield 16, 3) := by decide +kernel
theorem dX7_dips_33 : decode cX7_dips 33 = .ok (.aload_n 0, 1) := by decide +kernel
theorem dX7_dips_34 : decode cX7_dips 34 = .ok (.getfield 180, 3) := by decide +kernel
theorem dX7_dips_37 : decode cX7_dips 37 = .ok (.isub, 1) := by decide +kernel
theorem dX7_dips_38 : decode cX7_dips 38 = .ok (.goto 4, 3) := by decide +kernel
theorem dX7_dips_41 : decode cX7_dips 41 = .ok (.iconst 0, 1) := by decide +kernel
theorem dX7_dips_42 : decode cX7_dips 42 = .ok (.putfield 16, 3) := by decide +kernel
theorem dX7_dips_45 : decode cX7_dips 45 = .ok (.aload_n 0, 1) := by decide +kernel
theorem dX7_dips_46 : decode cX7_dips 46 = .ok (.dup, 1) := by decide +kernel
theorem dX7_dips_47 : decode cX7_dips 47 = .ok (.getfield 158, 3) := by decide +kernel
theorem dX7_dips_50 : decode cX7_dips 50 = .ok (.aload_n 0, 1) := by decide +kernel
theorem dX7_dips_51 : decode cX7_dips 51 = .ok (.getfield 183, 3) := by decide +kernel
theorem dX7_dips_54 : decode cX7_dips 54 = .ok (.iadd, 1) := by decide +kernel
theorem dX7_dips_55 : decode cX7_dips 55 = .ok (.putfield 158, 3) := by decide +kernel
theorem dX7_dips_58 : decode cX7_dips 58 = .ok (.aload_n 0, 1) := by decide +kernel
theorem dX7_dips_59 : decode cX7_dips 59 = .ok (.iload_n 3, 1) := by decide +kernel
theorem dX7_dips_60 : decode cX7_dips 60 = .ok (.invokevirtual 263, 3) := by decide +kernel
theorem dX7_dips_63 : decode cX7_dips 63 = .ok (.aload_n 0, 1) := by decide +kernel
theorem dX7_dips_64 : decode cX7_dips 64 = .ok (.getfield 183, 3) := by decide +kernel
theorem dX7_dips_67 : decode cX7_dips 67 = .ok (.ireturn, 1) := by decide +kernel
theorem dX7_dip_0 : decode cX7_dip 0 = .ok (.aload_n 0, 1) := by decide +kernel
theorem dX7_dip_1 : decode cX7_dip 1 = .ok (.iload_n 1, 1) := by decide +kernel
theorem dX7_dip_2 : decode cX7_dip 2 = .ok (.invokevirtual 93, 3) := by decide +kernel
theorem dX7_dip_5 : decode cX7_dip 5 = .ok (.ifCond .ne 9, 3) := by decide +kernel
theorem dX7_dip_8 : decode cX7_dip 8 = .ok (.aload_n 0, 1) := by decide +kernel
theorem dX7_dip_9 : decode cX7_dip 9 = .ok (.iconst (-1), 1) := by decide +kernel
theorem dX7_dip_10 : decode cX7_dip 10 = .ok (.invokevirtual 100, 3) := by decide +kernel
theorem dX7_dip_13 : decode cX7_dip 13 = .ok (.ireturn, 1) := by decide +kernel
theorem dX7_dip_14 : decode cX7_dip 14 = .ok (.aload_n 0, 1) := by decide +kernel
theorem dX7_dip_15 : decode cX7_dip 15 = .ok (.iload_n 2, 1) := by decide +kernel
theorem dX7_dip_16 : decode cX7_dip 16 = .ok (.iload_n 3, 1) := by decide +kernel
theorem dX7_dip_17 : decode cX7_dip 17 = .ok (.iconst 0, 1) := by decide +kernel
theorem dX7_dip_18 : decode cX7_dip 18 = .ok (.invokevirtual 226, 3) := by decide +kernel
theorem dX7_dip_21 : decode cX7_dip 21 = .ok (.ifCond .eq 22, 3) := by decide +kernel
theorem dX7_dip_24 : decode cX7_dip 24 = .ok (.aload_n 0, 1) := by decide +kernel
theorem dX7_dip_25 : decode cX7_dip 25 = .ok (.getfield 35, 3) := by decide +kernel
theorem dX7_dip_28 : decode cX7_dip 28 = .ok (.iload_n 1, 1) := by decide +kernel
theorem dX7_dip_29 : decode cX7_dip 29 = .ok (.iaload, 1) := by decide +kernel
theorem dX7_dip_30 : decode cX7_dip 30 = .ok (.ifCond .le 13, 3) := by decide +kernel
theorem dX7_dip_33 : decode cX7_dip 33 = .ok (.aload_n 0, 1) := by decide +kernel
theorem dX7_dip_34 : decode cX7_dip 34 = .ok (.iload_n 1, 1) := by decide +kernel
theorem dX7_dip_35 : decode cX7_dip 35 = .ok (.iload_n 2, 1) := by decide +kernel
theorem dX7_dip_36 : decode cX7_dip 36 = .ok (.iload_n 3, 1) := by decide +kernel
theorem dX7_dip_37 : decode cX7_dip 37 = .ok (.invokevirtual 151, 3) := by decide +kernel
theorem dX7_dip_40 : decode cX7_dip 40 = .ok (.goto 9, 3) := by decide +kernel
theorem dX7_dip_43 : decode cX7_dip 43 = .ok (.aload_n 0, 1) := by decide +kernel
theorem dX7_dip_44 : decode cX7_dip 44 = .ok (.bipush (-6), 2) := by decide +kernel
theorem dX7_dip_46 : decode cX7_dip 46 = .ok (.invokevirtual 100, 3) := by decide +kernel
theorem dX7_dip_49 : decode cX7_dip 49 = .ok (.ireturn, 1) := by decide +kernel
theorem dX7_carriesOff_0 : decode cX7_carriesOff 0 = .ok (.aload_n 0, 1) := by decide +kernel
theorem dX7_carriesOff_1 : decode cX7_carriesOff 1 = .ok (.iload_n 1, 1) := by decide +kernel
theorem dX7_carriesOff_2 : decode cX7_carriesOff 2 = .ok (.iconst 0, 1) := by decide +kernel
theorem dX7_carriesOff_3 : decode cX7_carriesOff 3 = .ok (.iconst 0, 1) := by decide +kernel
theorem dX7_carriesOff_4 : decode cX7_carriesOff 4 = .ok (.iload_n 2, 1) := by decide +kernel
theorem dX7_carriesOff_5 : decode cX7_carriesOff 5 = .ok (.aload_n 0, 1) := by decide +kernel
theorem dX7_carriesOff_6 : decode cX7_carriesOff 6 = .ok (.getfield 7, 3) := by decide +kernel
theorem dX7_carriesOff_9 : decode cX7_carriesOff 9 = .ok (.invokevirtual 230, 3) := by decide +kernel
theorem dX7_carriesOff_12 : decode cX7_carriesOff 12 = .ok (.aload_n 0, 1) := by decide +kernel
theorem dX7_carriesOff_13 : decode cX7_carriesOff 13 = .ok (.iload_n 1, 1) := by decide +kernel
theorem dX7_carriesOff_14 : decode cX7_carriesOff 14 = .ok (.invokevirtual 260, 3) := by decide +kernel
theorem dX7_carriesOff_17 : decode cX7_carriesOff 17 = .ok (.aload_n 0, 1) := by decide +kernel
theorem dX7_carriesOff_18 : decode cX7_carriesOff 18 = .ok (.iload_n 2, 1) := by decide +kernel
theorem dX7_carriesOff_19 : decode cX7_carriesOff 19 = .ok (.invokevirtual 263, 3) := by decide +kernel
theorem dX7_carriesOff_22 : decode cX7_carriesOff 22 = .ok (.aload_n 0, 1) := by decide +kernel
theorem dX7_carriesOff_23 : decode cX7_carriesOff 23 = .ok (.getfield 183, 3) := by decide +kernel
theorem dX7_carriesOff_26 : decode cX7_carriesOff 26 = .ok (.ireturn, 1) := by decide +kernel
theorem dX7_carry_0 : decode cX7_carry 0 = .ok (.aload_n 0, 1) := by decide +kernel
theorem dX7_carry_1 : decode cX7_carry 1 = .ok (.iload_n 1, 1) := by decide +kernel
theorem dX7_carry_2 : decode cX7_carry 2 = .ok (.invokevirtual 93, 3) := by decide +kernel
theorem dX7_carry_5 : decode cX7_carry 5 = .ok (.ifCond .ne 9, 3) := by decide +kernel
theorem dX7_carry_8 : decode cX7_carry 8 = .ok (.aload_n 0, 1) := by decide +kernel
theorem dX7_carry_9 : decode cX7_carry 9 = .ok (.iconst (-1), 1) := by decide +kernel
theorem dX7_carry_10 : decode cX7_carry 10 = .ok (.invokevirtual 100, 3) := by decide +kernel
theorem dX7_carry_13 : decode cX7_carry 13 = .ok (.ireturn, 1) := by decide +kernel
theorem dX7_carry_14 : decode cX7_carry 14 = .ok (.aload_n 0, 1) := by decide +kernel
theorem dX7_carry_15 : decode cX7_carry 15 = .ok (.iload_n 2, 1) := by decide +kernel
theorem dX7_carry_16 : decode cX7_carry 16 = .ok (.invokevirtual 223, 3) := by decide +kernel
theorem dX7_carry_19 : decode cX7_carry 19 = .ok (.ifCond .eq 21, 3) := by decide +kernel
theorem dX7_carry_22 : decode cX7_carry 22 = .ok (.aload_n 0, 1) := by decide +kernel
theorem dX7_carry_23 : decode cX7_carry 23 = .ok (.getfield 35, 3) := by decide +kernel
theorem dX7_carry_26 : decode cX7_carry 26 = .ok (.iload_n 1, 1) := by decide +kernel
theorem dX7_carry_27 : decode cX7_carry 27 = .ok (.iaload, 1) := by decide +kernel
theorem dX7_carry_28 : decode cX7_carry 28 = .ok (.ifCond .le 12, 3) := by decide +kernel
theorem dX7_carry_31 : decode cX7_carry 31 = .ok (.aload_n 0, 1) := by decide +kernel
theorem dX7_carry_32 : decode cX7_carry 32 = .ok (.iload_n 1, 1) := by decide +kernel
theorem dX7_carry_33 : decode cX7_carry 33 = .ok (.iload_n 2, 1) := by decide +kernel
theorem dX7_carry_34 : decode cX7_carry 34 = .ok (.invokevirtual 266, 3) := by decide +kernel
theorem dX7_carry_37 : decode cX7_carry 37 = .ok (.goto 9, 3) := by decide +kernel
theorem dX7_carry_40 : decode cX7_carry 40 = .ok (.aload_n 0, 1) := by decide +kernel
theorem dX7_carry_41 : decode cX7_carry 41 = .ok (.bipush (-6), 2) := by decide +kernel
theorem dX7_carry_43 : decode cX7_carry 43 = .ok (.invokevirtual 100, 3) := by decide +kernel
theorem dX7_carry_46 : decode cX7_carry 46 = .ok (.ireturn, 1) := by decide +kernel
theorem dX7_turn_0 : decode cX7_turn 0 = .ok (.aload_n 0, 1) := by decide +kernel
theorem dX7_turn_1 : decode cX7_turn 1 = .ok (.iload_n 1, 1) := by decide +kernel
theorem dX7_turn_2 : decode cX7_turn 2 = .ok (.invokevirtual 93, 3) := by decide +kernel
theorem dX7_turn_5 : decode cX7_turn 5 = .ok (.ifCond .ne 9, 3) := by decide +kernel
theorem dX7_turn_8 : decode cX7_turn 8 = .ok (.aload_n 0, 1) := by decide +kernel
theorem dX7_turn_9 : decode cX7_turn 9 = .ok (.iconst (-1), 1) := by decide +kernel
theorem dX7_turn_10 : decode cX7_turn 10 = .ok (.invokevirtual 100, 3) := by decide +kernel
theorem dX7_turn_13 : decode cX7_turn 13 = .ok (.ireturn, 1) := by decide +kernel
theorem dX7_turn_14 : decode cX7_turn 14 = .ok (.aload_n 0, 1) := by decide +kernel
theorem dX7_turn_15 : decode cX7_turn 15 = .ok (.iload_n 1, 1) := by decide +kernel
theorem dX7_turn_16 : decode cX7_turn 16 = .ok (.invokevirtual 269, 3) := by decide +kernel
theorem dX7_turn_19 : decode cX7_turn 19 = .ok (.aload_n 0, 1) := by decide +kernel
theorem dX7_turn_20 : decode cX7_turn 20 = .ok (.getfield 35, 3) := by decide +kernel
theorem dX7_turn_23 : decode cX7_turn 23 = .ok (.iload_n 1, 1) := by decide +kernel
theorem dX7_turn_24 : decode cX7_turn 24 = .ok (.iaload, 1) := by decide +kernel
theorem dX7_turn_25 : decode cX7_turn 25 = .ok (.ireturn, 1) := by decide +kernel
theorem dX7_eaten_0 : decode cX7_eaten 0 = .ok (.aload_n 0, 1) := by decide +kernel
theorem dX7_eaten_1 : decode cX7_eaten 1 = .ok (.iload_n 1, 1) := by decide +kernel
theorem dX7_eaten_2 : decode cX7_eaten 2 = .ok (.invokevirtual 206, 3) := by decide +kernel
theorem dX7_eaten_5 : decode cX7_eaten 5 = .ok (.aload_n 0, 1) := by decide +kernel
theorem dX7_eaten_6 : decode cX7_eaten 6 = .ok (.invokevirtual 237, 3) := by decide +kernel
theorem dX7_eaten_9 : decode cX7_eaten 9 = .ok (.istore_n 2, 1) := by decide +kernel
theorem dX7_eaten_10 : decode cX7_eaten 10 = .ok (.aload_n 0, 1) := by decide +kernel
theorem dX7_eaten_11 : decode cX7_eaten 11 = .ok (.dup, 1) := by decide +kernel
theorem dX7_eaten_12 : decode cX7_eaten 12 = .ok (.getfield 161, 3) := by decide +kernel
theorem dX7_eaten_15 : decode cX7_eaten 15 = .ok (.iload_n 2, 1) := by decide +kernel
theorem dX7_eaten_16 : decode cX7_eaten 16 = .ok (.iadd, 1) := by decide +kernel
theorem dX7_eaten_17 : decode cX7_eaten 17 = .ok (.putfield 161, 3) := by decide +kernel
theorem dX7_eaten_20 : decode cX7_eaten 20 = .ok (.aload_n 0, 1) := by decide +kernel
theorem dX7_eaten_21 : decode cX7_eaten 21 = .ok (.getfield 35, 3) := by decide +kernel
theorem dX7_eaten_24 : decode cX7_eaten 24 = .ok (.iload_n 1, 1) := by decide +kernel
theorem dX7_eaten_25 : decode cX7_eaten 25 = .ok (.iconst 0, 1) := by decide +kernel
theorem dX7_eaten_26 : decode cX7_eaten 26 = .ok (.iastore, 1) := by decide +kernel
theorem dX7_eaten_27 : decode cX7_eaten 27 = .ok (.iload_n 2, 1) := by decide +kernel
theorem dX7_eaten_28 : decode cX7_eaten 28 = .ok (.ireturn, 1) := by decide +kernel
theorem dX7_eats_0 : decode cX7_eats 0 = .ok (.aload_n 0, 1) := by decide +kernel
theorem dX7_eats_1 : decode cX7_eats 1 = .ok (.iload_n 1, 1) := by decide +kernel
theorem dX7_eats_2 : decode cX7_eats 2 = .ok (.invokevirtual 93, 3) := by decide +kernel
theorem dX7_eats_5 : decode cX7_eats 5 = .ok (.ifCond .ne 9, 3) := by decide +kernel
theorem dX7_eats_8 : decode cX7_eats 8 = .ok (.aload_n 0, 1) := by decide +kernel
theorem dX7_eats_9 : decode cX7_eats 9 = .ok (.iconst (-1), 1) := by decide +kernel
theorem dX7_eats_10 : decode cX7_eats 10 = .ok (.invokevirtual 100, 3) := by decide +kernel
theorem dX7_eats_13 : decode cX7_eats 13 = .ok (.ireturn, 1) := by decide +kernel
theorem dX7_eats_14 : decode cX7_eats 14 = .ok (.aload_n 0, 1) := by decide +kernel
theorem dX7_eats_15 : decode cX7_eats 15 = .ok (.getfield 35, 3) := by decide +kernel
theorem dX7_eats_18 : decode cX7_eats 18 = .ok (.iload_n 1, 1) := by decide +kernel
theorem dX7_eats_19 : decode cX7_eats 19 = .ok (.iaload, 1) := by decide +kernel
theorem dX7_eats_20 : decode cX7_eats 20 = .ok (.ifCond .le 11, 3) := by decide +kernel
theorem dX7_eats_23 : decode cX7_eats 23 = .ok (.aload_n 0, 1) := by decide +kernel
theorem dX7_eats_24 : decode cX7_eats 24 = .ok (.iload_n 1, 1) := by decide +kernel
theorem dX7_eats_25 : decode cX7_eats 25 = .ok (.invokevirtual 272, 3) := by decide +kernel
theorem dX7_eats_28 : decode cX7_eats 28 = .ok (.goto 9, 3) := by decide +kernel
theorem dX7_eats_31 : decode cX7_eats 31 = .ok (.aload_n 0, 1) := by decide +kernel
theorem dX7_eats_32 : decode cX7_eats 32 = .ok (.bipush (-6), 2) := by decide +kernel
theorem dX7_eats_34 : decode cX7_eats 34 = .ok (.invokevirtual 100, 3) := by decide +kernel
theorem dX7_eats_37 : decode cX7_eats 37 = .ok (.ireturn, 1) := by decide +kernel
theorem dX7_draw_0 : decode cX7_draw 0 = .ok (.aload_n 0, 1) := by decide +kernel
theorem dX7_draw_1 : decode cX7_draw 1 = .ok (.aload_n 0, 1) := by decide +kernel
theorem dX7_draw_2 : decode cX7_draw 2 = .ok (.getfield 19, 3) := by decide +kernel
theorem dX7_draw_5 : decode cX7_draw 5 = .ok (.ldc_w 275, 3) := by decide +kernel
theorem dX7_draw_8 : decode cX7_draw 8 = .ok (.imul, 1) := by decide +kernel
theorem dX7_draw_9 : decode cX7_draw 9 = .ok (.sipush 12345, 3) := by decide +kernel
theorem dX7_draw_12 : decode cX7_draw 12 = .ok (.iadd, 1) := by decide +kernel
theorem dX7_draw_13 : decode cX7_draw 13 = .ok (.putfield 19, 3) := by decide +kernel
theorem dX7_draw_16 : decode cX7_draw 16 = .ok (.aload_n 0, 1) := by decide +kernel
theorem dX7_draw_17 : decode cX7_draw 17 = .ok (.getfield 19, 3) := by decide +kernel
theorem dX7_draw_20 : decode cX7_draw 20 = .ok (.bipush 16, 2) := by decide +kernel
theorem dX7_draw_22 : decode cX7_draw 22 = .ok (.iushr, 1) := by decide +kernel
theorem dX7_draw_23 : decode cX7_draw 23 = .ok (.iload_n 1, 1) := by decide +kernel
theorem dX7_draw_24 : decode cX7_draw 24 = .ok (.irem, 1) := by decide +kernel
theorem dX7_draw_25 : decode cX7_draw 25 = .ok (.ireturn, 1) := by decide +kernel
theorem dX7_teas_0 : decode cX7_teas 0 = .ok (.aload_n 0, 1) := by decide +kernel
theorem dX7_teas_1 : decode cX7_teas 1 = .ok (.getfield 90, 3) := by decide +kernel
theorem dX7_teas_4 : decode cX7_teas 4 = .ok (.ifCond .ne 10, 3) := by decide +kernel
theorem dX7_teas_7 : decode cX7_teas 7 = .ok (.aload_n 0, 1) := by decide +kernel
theorem dX7_teas_8 : decode cX7_teas 8 = .ok (.bipush (-5), 2) := by decide +kernel
theorem dX7_teas_10 : decode cX7_teas 10 = .ok (.invokevirtual 100, 3) := by decide +kernel
theorem dX7_teas_13 : decode cX7_teas 13 = .ok (.ireturn, 1) := by decide +kernel
theorem dX7_teas_14 : decode cX7_teas 14 = .ok (.iload_n 1, 1) := by decide +kernel
theorem dX7_teas_15 : decode cX7_teas 15 = .ok (.iconst 1, 1) := by decide +kernel
theorem dX7_teas_16 : decode cX7_teas 16 = .ok (.if_icmp .lt 9, 3) := by decide +kernel
theorem dX7_teas_19 : decode cX7_teas 19 = .ok (.iload_n 1, 1) := by decide +kernel
theorem dX7_teas_20 : decode cX7_teas 20 = .ok (.bipush 20, 2) := by decide +kernel
theorem dX7_teas_22 : decode cX7_teas 22 = .ok (.if_icmp .le 10, 3) := by decide +kernel
theorem dX7_teas_25 : decode cX7_teas 25 = .ok (.aload_n 0, 1) := by decide +kernel
theorem dX7_teas_26 : decode cX7_teas 26 = .ok (.bipush (-6), 2) := by decide +kernel
theorem dX7_teas_28 : decode cX7_teas 28 = .ok (.invokevirtual 100, 3) := by decide +kernel
theorem dX7_teas_31 : decode cX7_teas 31 = .ok (.ireturn, 1) := by decide +kernel
theorem dX7_teas_32 : decode cX7_teas 32 = .ok (.aload_n 0, 1) := by decide +kernel
theorem dX7_teas_33 : decode cX7_teas 33 = .ok (.getfield 161, 3) := by decide +kernel
theorem dX7_teas_36 : decode cX7_teas 36 = .ok (.istore_n 2, 1) := by decide +kernel
theorem dX7_teas_37 : decode cX7_teas 37 = .ok (.iconst 0, 1) := by decide +kernel
theorem dX7_teas_38 : decode cX7_teas 38 = .ok (.istore_n 3, 1) := by decide +kernel
theorem dX7_teas_39 : decode cX7_teas 39 = .ok (.iload_n 3, 1) := by decide +kernel
theorem dX7_teas_40 : decode cX7_teas 40 = .ok (.iload_n 1, 1) := by decide +kernel
theorem dX7_teas_41 : decode cX7_teas 41 = .ok (.if_icmp .ge 82, 3) := by decide +kernel
theorem dX7_teas_44 : decode cX7_teas 44 = .ok (.aload_n 0, 1) := by decide +kernel
theorem dX7_teas_45 : decode cX7_teas 45 = .ok (.aload_n 0, 1) := by decide +kernel
theorem dX7_teas_46 : decode cX7_teas 46 = .ok (.getfield 90, 3) := by decide +kernel
theorem dX7_teas_49 : decode cX7_teas 49 = .ok (.invokevirtual 276, 3) := by decide +kernel
theorem dX7_teas_52 : decode cX7_teas 52 = .ok (.istore 4, 2) := by decide +kernel
theorem dX7_teas_54 : decode cX7_teas 54 = .ok (.aload_n 0, 1) := by decide +kernel
theorem dX7_teas_55 : decode cX7_teas 55 = .ok (.getfield 35, 3) := by decide +kernel
theorem dX7_teas_58 : decode cX7_teas 58 = .ok (.iload 4, 2) := by decide +kernel
theorem dX7_teas_60 : decode cX7_teas 60 = .ok (.iaload, 1) := by decide +kernel
theorem dX7_teas_61 : decode cX7_teas 61 = .ok (.ifCond .ne 6, 3) := by decide +kernel
theorem dX7_teas_64 : decode cX7_teas 64 = .ok (.goto 53, 3) := by decide +kernel
theorem dX7_teas_67 : decode cX7_teas 67 = .ok (.aload_n 0, 1) := by decide +kernel
theorem dX7_teas_68 : decode cX7_teas 68 = .ok (.aload_n 0, 1) := by decide +kernel
theorem dX7_teas_69 : decode cX7_teas 69 = .ok (.getfield 35, 3) := by decide +kernel
theorem dX7_teas_72 : decode cX7_teas 72 = .ok (.iload 4, 2) := by decide +kernel
theorem dX7_teas_74 : decode cX7_teas 74 = .ok (.iaload, 1) := by decide +kernel
theorem dX7_teas_75 : decode cX7_teas 75 = .ok (.iconst 1, 1) := by decide +kernel
theorem dX7_teas_76 : decode cX7_teas 76 = .ok (.iadd, 1) := by decide +kernel
theorem dX7_teas_77 : decode cX7_teas 77 = .ok (.invokevirtual 276, 3) := by decide +kernel
theorem dX7_teas_80 : decode cX7_teas 80 = .ok (.istore 5, 2) := by decide +kernel
theorem dX7_teas_82 : decode cX7_teas 82 = .ok (.aload_n 0, 1) := by decide +kernel
theorem dX7_teas_83 : decode cX7_teas 83 = .ok (.iload 4, 2) := by decide +kernel
theorem dX7_teas_85 : decode cX7_teas 85 = .ok (.iload 5, 2) := by decide +kernel
theorem dX7_teas_87 : decode cX7_teas 87 = .ok (.aload_n 0, 1) := by decide +kernel
theorem dX7_teas_88 : decode cX7_teas 88 = .ok (.bipush 10, 2) := by decide +kernel
theorem dX7_teas_90 : decode cX7_teas 90 = .ok (.invokevirtual 276, 3) := by decide +kernel
theorem dX7_teas_93 : decode cX7_teas 93 = .ok (.invokevirtual 151, 3) := by decide +kernel
theorem dX7_teas_96 : decode cX7_teas 96 = .ok (.pop, 1) := by decide +kernel
theorem dX7_teas_97 : decode cX7_teas 97 = .ok (.aload_n 0, 1) := by decide +kernel
theorem dX7_teas_98 : decode cX7_teas 98 = .ok (.iload 4, 2) := by decide +kernel
theorem dX7_teas_100 : decode cX7_teas 100 = .ok (.aload_n 0, 1) := by decide +kernel
theorem dX7_teas_101 : decode cX7_teas 101 = .ok (.bipush 6, 2) := by decide +kernel
theorem dX7_teas_103 : decode cX7_teas 103 = .ok (.invokevirtual 276, 3) := by decide +kernel
theorem dX7_teas_106 : decode cX7_teas 106 = .ok (.invokevirtual 266, 3) := by decide +kernel
theorem dX7_teas_109 : decode cX7_teas 109 = .ok (.pop, 1) := by decide +kernel
theorem dX7_teas_110 : decode cX7_teas 110 = .ok (.aload_n 0, 1) := by decide +kernel
theorem dX7_teas_111 : decode cX7_teas 111 = .ok (.iload 4, 2) := by decide +kernel
theorem dX7_teas_113 : decode cX7_teas 113 = .ok (.invokevirtual 272, 3) := by decide +kernel
theorem dX7_teas_116 : decode cX7_teas 116 = .ok (.pop, 1) := by decide +kernel
theorem dX7_teas_117 : decode cX7_teas 117 = .ok (.iinc 3 1, 3) := by decide +kernel
theorem dX7_teas_120 : decode cX7_teas 120 = .ok (.goto (-81), 3) := by decide +kernel
theorem dX7_teas_123 : decode cX7_teas 123 = .ok (.aload_n 0, 1) := by decide +kernel
theorem dX7_teas_124 : decode cX7_teas 124 = .ok (.getfield 161, 3) := by decide +kernel
theorem dX7_teas_127 : decode cX7_teas 127 = .ok (.iload_n 2, 1) := by decide +kernel
theorem dX7_teas_128 : decode cX7_teas 128 = .ok (.isub, 1) := by decide +kernel
theorem dX7_teas_129 : decode cX7_teas 129 = .ok (.ireturn, 1) := by decide +kernel
theorem dX7_seed_0 : decode cX7_seed 0 = .ok (.aload_n 0, 1) := by decide +kernel
theorem dX7_seed_1 : decode cX7_seed 1 = .ok (.getfield 19, 3) := by decide +kernel
theorem dX7_seed_4 : decode cX7_seed 4 = .ok (.istore_n 2, 1) := by decide +kernel
theorem dX7_seed_5 : decode cX7_seed 5 = .ok (.aload_n 0, 1) := by decide +kernel
theorem dX7_seed_6 : decode cX7_seed 6 = .ok (.iload_n 1, 1) := by decide +kernel
theorem dX7_seed_7 : decode cX7_seed 7 = .ok (.putfield 19, 3) := by decide +kernel
theorem dX7_seed_10 : decode cX7_seed 10 = .ok (.iload_n 2, 1) := by decide +kernel
theorem dX7_seed_11 : decode cX7_seed 11 = .ok (.ireturn, 1) := by decide +kernel
theorem dX7_body_0 : decode cX7_body 0 = .ok (.aload_n 0, 1) := by decide +kernel
theorem dX7_body_1 : decode cX7_body 1 = .ok (.getfield 279, 3) := by decide +kernel
theorem dX7_body_4 : decode cX7_body 4 = .ok (.bipush 20, 2) := by decide +kernel
theorem dX7_body_6 : decode cX7_body 6 = .ok (.if_icmp .ge 13, 3) := by decide +kernel
theorem dX7_body_9 : decode cX7_body 9 = .ok (.aload_n 0, 1) := by decide +kernel
theorem dX7_body_10 : decode cX7_body 10 = .ok (.getfield 87, 3) := by decide +kernel
theorem dX7_body_13 : decode cX7_body 13 = .ok (.aload_n 0, 1) := by decide +kernel
theorem dX7_body_14 : decode cX7_body 14 = .ok (.getfield 279, 3) := by decide +kernel
theorem dX7_body_17 : decode cX7_body 17 = .ok (.iload_n 1, 1) := by decide +kernel
theorem dX7_body_18 : decode cX7_body 18 = .ok (.iastore, 1) := by decide +kernel
theorem dX7_body_19 : decode cX7_body 19 = .ok (.aload_n 0, 1) := by decide +kernel
theorem dX7_body_20 : decode cX7_body 20 = .ok (.dup, 1) := by decide +kernel
theorem dX7_body_21 : decode cX7_body 21 = .ok (.getfield 279, 3) := by decide +kernel
theorem dX7_body_24 : decode cX7_body 24 = .ok (.iconst 1, 1) := by decide +kernel
theorem dX7_body_25 : decode cX7_body 25 = .ok (.iadd, 1) := by decide +kernel
theorem dX7_body_26 : decode cX7_body 26 = .ok (.putfield 279, 3) := by decide +kernel
theorem dX7_body_29 : decode cX7_body 29 = .ok (.return_, 1) := by decide +kernel
theorem dX7_soaking_0 : decode cX7_soaking 0 = .ok (.aload_n 0, 1) := by decide +kernel
theorem dX7_soaking_1 : decode cX7_soaking 1 = .ok (.getfield 29, 3) := by decide +kernel
theorem dX7_soaking_4 : decode cX7_soaking 4 = .ok (.iload_n 1, 1) := by decide +kernel
theorem dX7_soaking_5 : decode cX7_soaking 5 = .ok (.iaload, 1) := by decide +kernel
theorem dX7_soaking_6 : decode cX7_soaking 6 = .ok (.istore_n 3, 1) := by decide +kernel
theorem dX7_soaking_7 : decode cX7_soaking 7 = .ok (.iload_n 3, 1) := by decide +kernel
theorem dX7_soaking_8 : decode cX7_soaking 8 = .ok (.bipush 6, 2) := by decide +kernel
theorem dX7_soaking_10 : decode cX7_soaking 10 = .ok (.if_icmp .ne 9, 3) := by decide +kernel
theorem dX7_soaking_13 : decode cX7_soaking 13 = .ok (.aload_n 0, 1) := by decide +kernel
theorem dX7_soaking_14 : decode cX7_soaking 14 = .ok (.bipush 70, 2) := by decide +kernel
theorem dX7_soaking_16 : decode cX7_soaking 16 = .ok (.invokevirtual 282, 3) := by decide +kernel
theorem dX7_soaking_19 : decode cX7_soaking 19 = .ok (.iload_n 3, 1) := by decide +kernel
theorem dX7_soaking_20 : decode cX7_soaking 20 = .ok (.iconst 4, 1) := by decide +kernel
theorem dX7_soaking_21 : decode cX7_soaking 21 = .ok (.if_icmp .eq 9, 3) := by decide +kernel
theorem dX7_soaking_24 : decode cX7_soaking 24 = .ok (.iload_n 3, 1) := by decide +kernel
theorem dX7_soaking_25 : decode cX7_soaking 25 = .ok (.bipush 6, 2) := by decide +kernel
theorem dX7_soaking_27 : decode cX7_soaking 27 = .ok (.if_icmp .ne 9, 3) := by decide +kernel
theorem dX7_soaking_30 : decode cX7_soaking 30 = .ok (.aload_n 0, 1) := by decide +kernel
theorem dX7_soaking_31 : decode cX7_soaking 31 = .ok (.bipush 51, 2) := by decide +kernel
theorem dX7_soaking_33 : decode cX7_soaking 33 = .ok (.invokevirtual 282, 3) := by decide +kernel
theorem dX7_soaking_36 : decode cX7_soaking 36 = .ok (.iload_n 3, 1) := by decide +kernel
theorem dX7_soaking_37 : decode cX7_soaking 37 = .ok (.iconst 1, 1) := by decide +kernel
theorem dX7_soaking_38 : decode cX7_soaking 38 = .ok (.if_icmp .eq 8, 3) := by decide +kernel
theorem dX7_soaking_41 : decode cX7_soaking 41 = .ok (.iload_n 3, 1) := by decide +kernel
theorem dX7_soaking_42 : decode cX7_soaking 42 = .ok (.iconst 3, 1) := by decide +kernel
theorem dX7_soaking_43 : decode cX7_soaking 43 = .ok (.if_icmp .ne 9, 3) := by decide +kernel
theorem dX7_soaking_46 : decode cX7_soaking 46 = .ok (.aload_n 0, 1) := by decide +kernel
theorem dX7_soaking_47 : decode cX7_soaking 47 = .ok (.bipush 20, 2) := by decide +kernel
theorem dX7_soaking_49 : decode cX7_soaking 49 = .ok (.invokevirtual 282, 3) := by decide +kernel
theorem dX7_soaking_52 : decode cX7_soaking 52 = .ok (.aload_n 0, 1) := by decide +kernel
theorem dX7_soaking_53 : decode cX7_soaking 53 = .ok (.bipush 10, 2) := by decide +kernel
theorem dX7_soaking_55 : decode cX7_soaking 55 = .ok (.invokevirtual 282, 3) := by decide +kernel
theorem dX7_soaking_58 : decode cX7_soaking 58 = .ok (.iload_n 2, 1) := by decide +kernel
theorem dX7_soaking_59 : decode cX7_soaking 59 = .ok (.iload_n 1, 1) := by decide +kernel
theorem dX7_soaking_60 : decode cX7_soaking 60 = .ok (.iadd, 1) := by decide +kernel
theorem dX7_soaking_61 : decode cX7_soaking 61 = .ok (.istore 4, 2) := by decide +kernel
theorem dX7_soaking_63 : decode cX7_soaking 63 = .ok (.iload_n 3, 1) := by decide +kernel
theorem dX7_soaking_64 : decode cX7_soaking 64 = .ok (.iconst 1, 1) := by decide +kernel
theorem dX7_soaking_65 : decode cX7_soaking 65 = .ok (.if_icmp .eq 8, 3) := by decide +kernel
theorem dX7_soaking_68 : decode cX7_soaking 68 = .ok (.iload_n 3, 1) := by decide +kernel
theorem dX7_soaking_69 : decode cX7_soaking 69 = .ok (.iconst 3, 1) := by decide +kernel
theorem dX7_soaking_70 : decode cX7_soaking 70 = .ok (.if_icmp .ne 14, 3) := by decide +kernel
theorem dX7_soaking_73 : decode cX7_soaking 73 = .ok (.iload 4, 2) := by decide +kernel
theorem dX7_soaking_75 : decode cX7_soaking 75 = .ok (.aload_n 0, 1) := by decide +kernel
theorem dX7_soaking_76 : decode cX7_soaking 76 = .ok (.getfield 32, 3) := by decide +kernel
theorem dX7_soaking_79 : decode cX7_soaking 79 = .ok (.iload_n 1, 1) := by decide +kernel
theorem dX7_soaking_80 : decode cX7_soaking 80 = .ok (.iaload, 1) := by decide +kernel
theorem dX7_soaking_81 : decode cX7_soaking 81 = .ok (.iadd, 1) := by decide +kernel
theorem dX7_soaking_82 : decode cX7_soaking 82 = .ok (.istore 4, 2) := by decide +kernel
theorem dX7_soaking_84 : decode cX7_soaking 84 = .ok (.iload_n 3, 1) := by decide +kernel
theorem dX7_soaking_85 : decode cX7_soaking 85 = .ok (.iconst 4, 1) := by decide +kernel
theorem dX7_soaking_86 : decode cX7_soaking 86 = .ok (.if_icmp .eq 9, 3) := by decide +kernel
theorem dX7_soaking_89 : decode cX7_soaking 89 = .ok (.iload_n 3, 1) := by decide +kernel
theorem dX7_soaking_90 : decode cX7_soaking 90 = .ok (.bipush 6, 2) := by decide +kernel
theorem dX7_soaking_92 : decode cX7_soaking 92 = .ok (.if_icmp .ne 9, 3) := by decide +kernel
theorem dX7_soaking_95 : decode cX7_soaking 95 = .ok (.iload 4, 2) := by decide +kernel
theorem dX7_soaking_97 : decode cX7_soaking 97 = .ok (.iload_n 1, 1) := by decide +kernel
theorem dX7_soaking_98 : decode cX7_soaking 98 = .ok (.isub, 1) := by decide +kernel
theorem dX7_soaking_99 : decode cX7_soaking 99 = .ok (.istore 4, 2) := by decide +kernel
theorem dX7_soaking_101 : decode cX7_soaking 101 = .ok (.iload_n 3, 1) := by decide +kernel
theorem dX7_soaking_102 : decode cX7_soaking 102 = .ok (.bipush 6, 2) := by decide +kernel
theorem dX7_soaking_104 : decode cX7_soaking 104 = .ok (.if_icmp .ne 10, 3) := by decide +kernel
theorem dX7_soaking_107 : decode cX7_soaking 107 = .ok (.iload 4, 2) := by decide +kernel
theorem dX7_soaking_109 : decode cX7_soaking 109 = .ok (.iconst 2, 1) := by decide +kernel
theorem dX7_soaking_110 : decode cX7_soaking 110 = .ok (.imul, 1) := by decide +kernel
theorem dX7_soaking_111 : decode cX7_soaking 111 = .ok (.goto 5, 3) := by decide +kernel
theorem dX7_soaking_114 : decode cX7_soaking 114 = .ok (.iload 4, 2) := by decide +kernel
theorem dX7_soaking_116 : decode cX7_soaking 116 = .ok (.ireturn, 1) := by decide +kernel
theorem dX7_creeping_0 : decode cX7_creeping 0 = .ok (.aload_n 0, 1) := by decide +kernel
theorem dX7_creeping_1 : decode cX7_creeping 1 = .ok (.getfield 29, 3) := by decide +kernel
theorem dX7_creeping_4 : decode cX7_creeping 4 = .ok (.iload_n 1, 1) := by decide +kernel
theorem dX7_creeping_5 : decode cX7_creeping 5 = .ok (.iaload, 1) := by decide +kernel
theorem dX7_creeping_6 : decode cX7_creeping 6 = .ok (.istore_n 3, 1) := by decide +kernel
theorem dX7_creeping_7 : decode cX7_creeping 7 = .ok (.iload_n 2, 1) := by decide +kernel
theorem dX7_creeping_8 : decode cX7_creeping 8 = .ok (.istore 4, 2) := by decide +kernel
theorem dX7_creeping_10 : decode cX7_creeping 10 = .ok (.iload_n 3, 1) := by decide +kernel
theorem dX7_creeping_11 : decode cX7_creeping 11 = .ok (.bipush 6, 2) := by decide +kernel
theorem dX7_creeping_13 : decode cX7_creeping 13 = .ok (.if_icmp .ne 19, 3) := by decide +kernel
theorem dX7_creeping_16 : decode cX7_creeping 16 = .ok (.aload_n 0, 1) := by decide +kernel
theorem dX7_creeping_17 : decode cX7_creeping 17 = .ok (.bipush 71, 2) := by decide +kernel
theorem dX7_creeping_19 : decode cX7_creeping 19 = .ok (.invokevirtual 282, 3) := by decide +kernel
theorem dX7_creeping_22 : decode cX7_creeping 22 = .ok (.iload_n 2, 1) := by decide +kernel
theorem dX7_creeping_23 : decode cX7_creeping 23 = .ok (.aload_n 0, 1) := by decide +kernel
theorem dX7_creeping_24 : decode cX7_creeping 24 = .ok (.getfield 32, 3) := by decide +kernel
theorem dX7_creeping_27 : decode cX7_creeping 27 = .ok (.iload_n 1, 1) := by decide +kernel
theorem dX7_creeping_28 : decode cX7_creeping 28 = .ok (.iaload, 1) := by decide +kernel
theorem dX7_creeping_29 : decode cX7_creeping 29 = .ok (.isub, 1) := by decide +kernel
theorem dX7_creeping_30 : decode cX7_creeping 30 = .ok (.istore 4, 2) := by decide +kernel
theorem dX7_creeping_32 : decode cX7_creeping 32 = .ok (.iload_n 3, 1) := by decide +kernel
theorem dX7_creeping_33 : decode cX7_creeping 33 = .ok (.iconst 3, 1) := by decide +kernel
theorem dX7_creeping_34 : decode cX7_creeping 34 = .ok (.if_icmp .ne 14, 3) := by decide +kernel
theorem dX7_creeping_37 : decode cX7_creeping 37 = .ok (.aload_n 0, 1) := by decide +kernel
theorem dX7_creeping_38 : decode cX7_creeping 38 = .ok (.bipush 40, 2) := by decide +kernel
theorem dX7_creeping_40 : decode cX7_creeping 40 = .ok (.invokevirtual 282, 3) := by decide +kernel
theorem dX7_creeping_43 : decode cX7_creeping 43 = .ok (.iload_n 2, 1) := by decide +kernel
theorem dX7_creeping_44 : decode cX7_creeping 44 = .ok (.iconst 1, 1) := by decide +kernel
theorem dX7_creeping_45 : decode cX7_creeping 45 = .ok (.iadd, 1) := by decide +kernel
theorem dX7_creeping_46 : decode cX7_creeping 46 = .ok (.istore 4, 2) := by decide +kernel
theorem dX7_creeping_48 : decode cX7_creeping 48 = .ok (.iload_n 3, 1) := by decide +kernel
theorem dX7_creeping_49 : decode cX7_creeping 49 = .ok (.iconst 2, 1) := by decide +kernel
theorem dX7_creeping_50 : decode cX7_creeping 50 = .ok (.if_icmp .eq 8, 3) := by decide +kernel
theorem dX7_creeping_53 : decode cX7_creeping 53 = .ok (.iload_n 3, 1) := by decide +kernel
theorem dX7_creeping_54 : decode cX7_creeping 54 = .ok (.iconst 5, 1) := by decide +kernel
theorem dX7_creeping_55 : decode cX7_creeping 55 = .ok (.if_icmp .ne 7, 3) := by decide +kernel
theorem dX7_creeping_58 : decode cX7_creeping 58 = .ok (.iconst 1, 1) := by decide +kernel
theorem dX7_creeping_59 : decode cX7_creeping 59 = .ok (.goto 4, 3) := by decide +kernel
theorem dX7_creeping_62 : decode cX7_creeping 62 = .ok (.iconst 0, 1) := by decide +kernel
theorem dX7_creeping_63 : decode cX7_creeping 63 = .ok (.istore 5, 2) := by decide +kernel
theorem dX7_creeping_65 : decode cX7_creeping 65 = .ok (.iload 5, 2) := by decide +kernel
theorem dX7_creeping_67 : decode cX7_creeping 67 = .ok (.ifCond .eq 9, 3) := by decide +kernel
theorem dX7_creeping_70 : decode cX7_creeping 70 = .ok (.aload_n 0, 1) := by decide +kernel
theorem dX7_creeping_71 : decode cX7_creeping 71 = .ok (.bipush 30, 2) := by decide +kernel
theorem dX7_creeping_73 : decode cX7_creeping 73 = .ok (.invokevirtual 282, 3) := by decide +kernel
theorem dX7_creeping_76 : decode cX7_creeping 76 = .ok (.aload_n 0, 1) := by decide +kernel
theorem dX7_creeping_77 : decode cX7_creeping 77 = .ok (.bipush 11, 2) := by decide +kernel
theorem dX7_creeping_79 : decode cX7_creeping 79 = .ok (.invokevirtual 282, 3) := by decide +kernel
theorem dX7_creeping_82 : decode cX7_creeping 82 = .ok (.aload_n 0, 1) := by decide +kernel
theorem dX7_creeping_83 : decode cX7_creeping 83 = .ok (.iload_n 1, 1) := by decide +kernel
theorem dX7_creeping_84 : decode cX7_creeping 84 = .ok (.iload 4, 2) := by decide +kernel
theorem dX7_creeping_86 : decode cX7_creeping 86 = .ok (.invokevirtual 285, 3) := by decide +kernel
theorem dX7_creeping_89 : decode cX7_creeping 89 = .ok (.iconst 2, 1) := by decide +kernel
theorem dX7_creeping_90 : decode cX7_creeping 90 = .ok (.imul, 1) := by decide +kernel
theorem dX7_creeping_91 : decode cX7_creeping 91 = .ok (.istore 6, 2) := by decide +kernel
theorem dX7_creeping_93 : decode cX7_creeping 93 = .ok (.iload 5, 2) := by decide +kernel
theorem dX7_creeping_95 : decode cX7_creeping 95 = .ok (.ifCond .eq 10, 3) := by decide +kernel
theorem dX7_creeping_98 : decode cX7_creeping 98 = .ok (.iload 6, 2) := by decide +kernel
theorem dX7_creeping_100 : decode cX7_creeping 100 = .ok (.iconst 3, 1) := by decide +kernel
theorem dX7_creeping_101 : decode cX7_creeping 101 = .ok (.imul, 1) := by decide +kernel
theorem dX7_creeping_102 : decode cX7_creeping 102 = .ok (.goto 5, 3) := by decide +kernel
theorem dX7_creeping_105 : decode cX7_creeping 105 = .ok (.iload 6, 2) := by decide +kernel
theorem dX7_creeping_107 : decode cX7_creeping 107 = .ok (.ireturn, 1) := by decide +kernel
theorem dX7_breaking_0 : decode cX7_breaking 0 = .ok (.aload_n 0, 1) := by decide +kernel
theorem dX7_breaking_1 : decode cX7_breaking 1 = .ok (.getfield 29, 3) := by decide +kernel
theorem dX7_breaking_4 : decode cX7_breaking 4 = .ok (.iload_n 1, 1) := by decide +kernel
theorem dX7_breaking_5 : decode cX7_breaking 5 = .ok (.iaload, 1) := by decide +kernel
theorem dX7_breaking_6 : decode cX7_breaking 6 = .ok (.istore_n 3, 1) := by decide +kernel
theorem dX7_breaking_7 : decode cX7_breaking 7 = .ok (.iload_n 3, 1) := by decide +kernel
theorem dX7_breaking_8 : decode cX7_breaking 8 = .ok (.iconst 4, 1) := by decide +kernel
theorem dX7_breaking_9 : decode cX7_breaking 9 = .ok (.if_icmp .eq 9, 3) := by decide +kernel
theorem dX7_breaking_12 : decode cX7_breaking 12 = .ok (.iload_n 3, 1) := by decide +kernel
theorem dX7_breaking_13 : decode cX7_breaking 13 = .ok (.bipush 6, 2) := by decide +kernel
theorem dX7_breaking_15 : decode cX7_breaking 15 = .ok (.if_icmp .ne 9, 3) := by decide +kernel
theorem dX7_breaking_18 : decode cX7_breaking 18 = .ok (.aload_n 0, 1) := by decide +kernel
theorem dX7_breaking_19 : decode cX7_breaking 19 = .ok (.bipush 50, 2) := by decide +kernel
theorem dX7_breaking_21 : decode cX7_breaking 21 = .ok (.invokevirtual 282, 3) := by decide +kernel
theorem dX7_breaking_24 : decode cX7_breaking 24 = .ok (.iload_n 3, 1) := by decide +kernel
theorem dX7_breaking_25 : decode cX7_breaking 25 = .ok (.iconst 5, 1) := by decide +kernel
theorem dX7_breaking_26 : decode cX7_breaking 26 = .ok (.if_icmp .ne 9, 3) := by decide +kernel
theorem dX7_breaking_29 : decode cX7_breaking 29 = .ok (.aload_n 0, 1) := by decide +kernel
theorem dX7_breaking_30 : decode cX7_breaking 30 = .ok (.bipush 60, 2) := by decide +kernel
theorem dX7_breaking_32 : decode cX7_breaking 32 = .ok (.invokevirtual 282, 3) := by decide +kernel
theorem dX7_breaking_35 : decode cX7_breaking 35 = .ok (.aload_n 0, 1) := by decide +kernel
theorem dX7_breaking_36 : decode cX7_breaking 36 = .ok (.bipush 12, 2) := by decide +kernel
theorem dX7_breaking_38 : decode cX7_breaking 38 = .ok (.invokevirtual 282, 3) := by decide +kernel
theorem dX7_breaking_41 : decode cX7_breaking 41 = .ok (.aload_n 0, 1) := by decide +kernel
theorem dX7_breaking_42 : decode cX7_breaking 42 = .ok (.iload_n 1, 1) := by decide +kernel
theorem dX7_breaking_43 : decode cX7_breaking 43 = .ok (.iload_n 2, 1) := by decide +kernel
theorem dX7_breaking_44 : decode cX7_breaking 44 = .ok (.invokevirtual 288, 3) := by decide +kernel
theorem dX7_breaking_47 : decode cX7_breaking 47 = .ok (.istore 4, 2) := by decide +kernel
theorem dX7_breaking_49 : decode cX7_breaking 49 = .ok (.iload 4, 2) := by decide +kernel
theorem dX7_breaking_51 : decode cX7_breaking 51 = .ok (.aload_n 0, 1) := by decide +kernel
theorem dX7_breaking_52 : decode cX7_breaking 52 = .ok (.iload_n 1, 1) := by decide +kernel
theorem dX7_breaking_53 : decode cX7_breaking 53 = .ok (.iload_n 2, 1) := by decide +kernel
theorem dX7_breaking_54 : decode cX7_breaking 54 = .ok (.aload_n 0, 1) := by decide +kernel
theorem dX7_breaking_55 : decode cX7_breaking 55 = .ok (.getfield 32, 3) := by decide +kernel
theorem dX7_breaking_58 : decode cX7_breaking 58 = .ok (.iload_n 1, 1) := by decide +kernel
theorem dX7_breaking_59 : decode cX7_breaking 59 = .ok (.iaload, 1) := by decide +kernel
theorem dX7_breaking_60 : decode cX7_breaking 60 = .ok (.isub, 1) := by decide +kernel
theorem dX7_breaking_61 : decode cX7_breaking 61 = .ok (.invokevirtual 285, 3) := by decide +kernel
theorem dX7_breaking_64 : decode cX7_breaking 64 = .ok (.ixor, 1) := by decide +kernel
theorem dX7_breaking_65 : decode cX7_breaking 65 = .ok (.istore 4, 2) := by decide +kernel
theorem dX7_breaking_67 : decode cX7_breaking 67 = .ok (.iload_n 3, 1) := by decide +kernel
theorem dX7_breaking_68 : decode cX7_breaking 68 = .ok (.iconst 4, 1) := by decide +kernel
theorem dX7_breaking_69 : decode cX7_breaking 69 = .ok (.if_icmp .eq 9, 3) := by decide +kernel
theorem dX7_breaking_72 : decode cX7_breaking 72 = .ok (.iload_n 3, 1) := by decide +kernel
theorem dX7_breaking_73 : decode cX7_breaking 73 = .ok (.bipush 6, 2) := by decide +kernel
theorem dX7_breaking_75 : decode cX7_breaking 75 = .ok (.if_icmp .ne 9, 3) := by decide +kernel
theorem dX7_breaking_78 : decode cX7_breaking 78 = .ok (.iload 4, 2) := by decide +kernel
theorem dX7_breaking_80 : decode cX7_breaking 80 = .ok (.ineg, 1) := by decide +kernel
theorem dX7_breaking_81 : decode cX7_breaking 81 = .ok (.goto 17, 3) := by decide +kernel
theorem dX7_breaking_84 : decode cX7_breaking 84 = .ok (.iload_n 3, 1) := by decide +kernel
theorem dX7_breaking_85 : decode cX7_breaking 85 = .ok (.iconst 5, 1) := by decide +kernel
theorem dX7_breaking_86 : decode cX7_breaking 86 = .ok (.if_icmp .ne 10, 3) := by decide +kernel
theorem dX7_breaking_89 : decode cX7_breaking 89 = .ok (.iload 4, 2) := by decide +kernel
theorem dX7_breaking_91 : decode cX7_breaking 91 = .ok (.iconst 5, 1) := by decide +kernel
theorem dX7_breaking_92 : decode cX7_breaking 92 = .ok (.ixor, 1) := by decide +kernel
theorem dX7_breaking_93 : decode cX7_breaking 93 = .ok (.goto 5, 3) := by decide +kernel
theorem dX7_breaking_96 : decode cX7_breaking 96 = .ok (.iload 4, 2) := by decide +kernel
theorem dX7_breaking_98 : decode cX7_breaking 98 = .ok (.ireturn, 1) := by decide +kernel
theorem dX7_act_0 : decode cX7_act 0 = .ok (.aload_n 0, 1) := by decide +kernel
theorem dX7_act_1 : decode cX7_act 1 = .ok (.iconst 0, 1) := by decide +kernel
theorem dX7_act_2 : decode cX7_act 2 = .ok (.putfield 279, 3) := by decide +kernel
theorem dX7_act_5 : decode cX7_act 5 = .ok (.aload_n 0, 1) := by decide +kernel
theorem dX7_act_6 : decode cX7_act 6 = .ok (.iload_n 1, 1) := by decide +kernel
theorem dX7_act_7 : decode cX7_act 7 = .ok (.invokevirtual 93, 3) := by decide +kernel
theorem dX7_act_10 : decode cX7_act 10 = .ok (.ifCond .eq 12, 3) := by decide +kernel
theorem dX7_act_13 : decode cX7_act 13 = .ok (.iload_n 2, 1) := by decide +kernel
theorem dX7_act_14 : decode cX7_act 14 = .ok (.ifCond .lt 8, 3) := by decide +kernel
theorem dX7_act_17 : decode cX7_act 17 = .ok (.iload_n 2, 1) := by decide +kernel
theorem dX7_act_18 : decode cX7_act 18 = .ok (.iconst 2, 1) := by decide +kernel
theorem dX7_act_19 : decode cX7_act 19 = .ok (.if_icmp .le 5, 3) := by decide +kernel
theorem dX7_act_22 : decode cX7_act 22 = .ok (.iconst 0, 1) := by decide +kernel
theorem dX7_act_23 : decode cX7_act 23 = .ok (.ireturn, 1) := by decide +kernel
theorem dX7_act_24 : decode cX7_act 24 = .ok (.iload_n 2, 1) := by decide +kernel
theorem dX7_act_25 : decode cX7_act 25 = .ok (.ifCond .ne 12, 3) := by decide +kernel
theorem dX7_act_28 : decode cX7_act 28 = .ok (.aload_n 0, 1) := by decide +kernel
theorem dX7_act_29 : decode cX7_act 29 = .ok (.iload_n 1, 1) := by decide +kernel
theorem dX7_act_30 : decode cX7_act 30 = .ok (.iload_n 3, 1) := by decide +kernel
theorem dX7_act_31 : decode cX7_act 31 = .ok (.invokevirtual 285, 3) := by decide +kernel
theorem dX7_act_34 : decode cX7_act 34 = .ok (.goto 23, 3) := by decide +kernel
theorem dX7_act_37 : decode cX7_act 37 = .ok (.iload_n 2, 1) := by decide +kernel
theorem dX7_act_38 : decode cX7_act 38 = .ok (.iconst 1, 1) := by decide +kernel
theorem dX7_act_39 : decode cX7_act 39 = .ok (.if_icmp .ne 12, 3) := by decide +kernel
theorem dX7_act_42 : decode cX7_act 42 = .ok (.aload_n 0, 1) := by decide +kernel
theorem dX7_act_43 : decode cX7_act 43 = .ok (.iload_n 1, 1) := by decide +kernel
theorem dX7_act_44 : decode cX7_act 44 = .ok (.iload_n 3, 1) := by decide +kernel
theorem dX7_act_45 : decode cX7_act 45 = .ok (.invokevirtual 288, 3) := by decide +kernel
theorem dX7_act_48 : decode cX7_act 48 = .ok (.goto 9, 3) := by decide +kernel
theorem dX7_act_51 : decode cX7_act 51 = .ok (.aload_n 0, 1) := by decide +kernel
theorem dX7_act_52 : decode cX7_act 52 = .ok (.iload_n 1, 1) := by decide +kernel
theorem dX7_act_53 : decode cX7_act 53 = .ok (.iload_n 3, 1) := by decide +kernel
theorem dX7_act_54 : decode cX7_act 54 = .ok (.invokevirtual 291, 3) := by decide +kernel
theorem dX7_act_57 : decode cX7_act 57 = .ok (.ireturn, 1) := by decide +kernel
theorem dX7_trace_0 : decode cX7_trace 0 = .ok (.iload_n 1, 1) := by decide +kernel
theorem dX7_trace_1 : decode cX7_trace 1 = .ok (.ifCond .lt 26, 3) := by decide +kernel
theorem dX7_trace_4 : decode cX7_trace 4 = .ok (.iload_n 1, 1) := by decide +kernel
theorem dX7_trace_5 : decode cX7_trace 5 = .ok (.bipush 20, 2) := by decide +kernel
theorem dX7_trace_7 : decode cX7_trace 7 = .ok (.if_icmp .ge 20, 3) := by decide +kernel
theorem dX7_trace_10 : decode cX7_trace 10 = .ok (.iload_n 1, 1) := by decide +kernel
theorem dX7_trace_11 : decode cX7_trace 11 = .ok (.aload_n 0, 1) := by decide +kernel
theorem dX7_trace_12 : decode cX7_trace 12 = .ok (.getfield 279, 3) := by decide +kernel
theorem dX7_trace_15 : decode cX7_trace 15 = .ok (.if_icmp .ge 12, 3) := by decide +kernel
theorem dX7_trace_18 : decode cX7_trace 18 = .ok (.aload_n 0, 1) := by decide +kernel
theorem dX7_trace_19 : decode cX7_trace 19 = .ok (.getfield 87, 3) := by decide +kernel
theorem dX7_trace_22 : decode cX7_trace 22 = .ok (.iload_n 1, 1) := by decide +kernel
theorem dX7_trace_23 : decode cX7_trace 23 = .ok (.iaload, 1) := by decide +kernel
theorem dX7_trace_24 : decode cX7_trace 24 = .ok (.goto 4, 3) := by decide +kernel
theorem dX7_trace_27 : decode cX7_trace 27 = .ok (.iconst (-1), 1) := by decide +kernel
theorem dX7_trace_28 : decode cX7_trace 28 = .ok (.ireturn, 1) := by decide +kernel
theorem dX7_image_0 : decode cX7_image 0 = .ok (.aload_n 0, 1) := by decide +kernel
theorem dX7_image_1 : decode cX7_image 1 = .ok (.iconst 1, 1) := by decide +kernel
theorem dX7_image_2 : decode cX7_image 2 = .ok (.putfield 294, 3) := by decide +kernel
theorem dX7_image_5 : decode cX7_image 5 = .ok (.aload_n 0, 1) := by decide +kernel
theorem dX7_image_6 : decode cX7_image 6 = .ok (.aload_n 0, 1) := by decide +kernel
theorem dX7_image_7 : decode cX7_image 7 = .ok (.getfield 72, 3) := by decide +kernel
theorem dX7_image_10 : decode cX7_image 10 = .ok (.iconst 0, 1) := by decide +kernel
theorem dX7_image_11 : decode cX7_image 11 = .ok (.invokevirtual 170, 3) := by decide +kernel
theorem dX7_image_14 : decode cX7_image 14 = .ok (.aload_n 0, 1) := by decide +kernel
theorem dX7_image_15 : decode cX7_image 15 = .ok (.getfield 90, 3) := by decide +kernel
theorem dX7_image_18 : decode cX7_image 18 = .ok (.ireturn, 1) := by decide +kernel
theorem dX7_restore_0 : decode cX7_restore 0 = .ok (.aload_n 0, 1) := by decide +kernel
theorem dX7_restore_1 : decode cX7_restore 1 = .ok (.getfield 294, 3) := by decide +kernel
theorem dX7_restore_4 : decode cX7_restore 4 = .ok (.ifCond .ne 10, 3) := by decide +kernel
theorem dX7_restore_7 : decode cX7_restore 7 = .ok (.aload_n 0, 1) := by decide +kernel
theorem dX7_restore_8 : decode cX7_restore 8 = .ok (.bipush (-6), 2) := by decide +kernel
theorem dX7_restore_10 : decode cX7_restore 10 = .ok (.invokevirtual 100, 3) := by decide +kernel
theorem dX7_restore_13 : decode cX7_restore 13 = .ok (.ireturn, 1) := by decide +kernel
theorem dX7_restore_14 : decode cX7_restore 14 = .ok (.aload_n 0, 1) := by decide +kernel
theorem dX7_restore_15 : decode cX7_restore 15 = .ok (.aload_n 0, 1) := by decide +kernel
theorem dX7_restore_16 : decode cX7_restore 16 = .ok (.getfield 72, 3) := by decide +kernel
theorem dX7_restore_19 : decode cX7_restore 19 = .ok (.iconst 1, 1) := by decide +kernel
theorem dX7_restore_20 : decode cX7_restore 20 = .ok (.invokevirtual 170, 3) := by decide +kernel
theorem dX7_restore_23 : decode cX7_restore 23 = .ok (.iconst 0, 1) := by decide +kernel
theorem dX7_restore_24 : decode cX7_restore 24 = .ok (.istore_n 1, 1) := by decide +kernel
theorem dX7_restore_25 : decode cX7_restore 25 = .ok (.iload_n 1, 1) := by decide +kernel
theorem dX7_restore_26 : decode cX7_restore 26 = .ok (.bipush 8, 2) := by decide +kernel
theorem dX7_restore_28 : decode cX7_restore 28 = .ok (.if_icmp .ge 39, 3) := by decide +kernel
theorem dX7_restore_31 : decode cX7_restore 31 = .ok (.aload_n 0, 1) := by decide +kernel
theorem dX7_restore_32 : decode cX7_restore 32 = .ok (.getfield 44, 3) := by decide +kernel
theorem dX7_restore_35 : decode cX7_restore 35 = .ok (.iload_n 1, 1) := by decide +kernel
theorem dX7_restore_36 : decode cX7_restore 36 = .ok (.iaload, 1) := by decide +kernel
theorem dX7_restore_37 : decode cX7_restore 37 = .ok (.iconst 2, 1) := by decide +kernel
theorem dX7_restore_38 : decode cX7_restore 38 = .ok (.if_icmp .ne 23, 3) := by decide +kernel
theorem dX7_restore_41 : decode cX7_restore 41 = .ok (.aload_n 0, 1) := by decide +kernel
theorem dX7_restore_42 : decode cX7_restore 42 = .ok (.getfield 53, 3) := by decide +kernel
theorem dX7_restore_45 : decode cX7_restore 45 = .ok (.iload_n 1, 1) := by decide +kernel
theorem dX7_restore_46 : decode cX7_restore 46 = .ok (.iaload, 1) := by decide +kernel
theorem dX7_restore_47 : decode cX7_restore 47 = .ok (.aload_n 0, 1) := by decide +kernel
theorem dX7_restore_48 : decode cX7_restore 48 = .ok (.getfield 90, 3) := by decide +kernel
theorem dX7_restore_51 : decode cX7_restore 51 = .ok (.if_icmp .lt 10, 3) := by decide +kernel
theorem dX7_restore_54 : decode cX7_restore 54 = .ok (.aload_n 0, 1) := by decide +kernel
theorem dX7_restore_55 : decode cX7_restore 55 = .ok (.getfield 44, 3) := by decide +kernel
theorem dX7_restore_58 : decode cX7_restore 58 = .ok (.iload_n 1, 1) := by decide +kernel
theorem dX7_restore_59 : decode cX7_restore 59 = .ok (.iconst 0, 1) := by decide +kernel
theorem dX7_restore_60 : decode cX7_restore 60 = .ok (.iastore, 1) := by decide +kernel
theorem dX7_restore_61 : decode cX7_restore 61 = .ok (.iinc 1 1, 3) := by decide +kernel
theorem dX7_restore_64 : decode cX7_restore 64 = .ok (.goto (-39), 3) := by decide +kernel
theorem dX7_restore_67 : decode cX7_restore 67 = .ok (.aload_n 0, 1) := by decide +kernel
theorem dX7_restore_68 : decode cX7_restore 68 = .ok (.getfield 90, 3) := by decide +kernel
theorem dX7_restore_71 : decode cX7_restore 71 = .ok (.ireturn, 1) := by decide +kernel
theorem dX7_status_0 : decode cX7_status 0 = .ok (.iload_n 1, 1) := by decide +kernel
theorem dX7_status_1 : decode cX7_status 1 = .ok (.bipush 11, 2) := by decide +kernel
theorem dX7_status_3 : decode cX7_status 3 = .ok (.if_icmp .lt 19, 3) := by decide +kernel
theorem dX7_status_6 : decode cX7_status 6 = .ok (.iload_n 1, 1) := by decide +kernel
theorem dX7_status_7 : decode cX7_status 7 = .ok (.bipush 17, 2) := by decide +kernel
theorem dX7_status_9 : decode cX7_status 9 = .ok (.if_icmp .gt 13, 3) := by decide +kernel
theorem dX7_status_12 : decode cX7_status 12 = .ok (.aload_n 0, 1) := by decide +kernel
theorem dX7_status_13 : decode cX7_status 13 = .ok (.getfield 25, 3) := by decide +kernel
theorem dX7_status_16 : decode cX7_status 16 = .ok (.iload_n 1, 1) := by decide +kernel
theorem dX7_status_17 : decode cX7_status 17 = .ok (.bipush 10, 2) := by decide +kernel
theorem dX7_status_19 : decode cX7_status 19 = .ok (.isub, 1) := by decide +kernel
theorem dX7_status_20 : decode cX7_status 20 = .ok (.iaload, 1) := by decide +kernel
theorem dX7_status_21 : decode cX7_status 21 = .ok (.ireturn, 1) := by decide +kernel
theorem dX7_status_22 : decode cX7_status 22 = .ok (.iconst 0, 1) := by decide +kernel
theorem dX7_status_23 : decode cX7_status 23 = .ok (.istore_n 2, 1) := by decide +kernel
theorem dX7_status_24 : decode cX7_status 24 = .ok (.iload_n 1, 1) := by decide +kernel
theorem dX7_status_25 : decode cX7_status 25 = .ok (.tableswitch 127 0 9 #[55, 60, 87, 92, 97, 102, 107, 112, 117, 122], 55) := by decide +kernel
theorem dX7_status_80 : decode cX7_status 80 = .ok (.aload_n 0, 1) := by decide +kernel
theorem dX7_status_81 : decode cX7_status 81 = .ok (.getfield 90, 3) := by decide +kernel
theorem dX7_status_84 : decode cX7_status 84 = .ok (.ireturn, 1) := by decide +kernel
theorem dX7_status_85 : decode cX7_status 85 = .ok (.iconst 0, 1) := by decide +kernel
theorem dX7_status_86 : decode cX7_status 86 = .ok (.istore_n 3, 1) := by decide +kernel
theorem dX7_status_87 : decode cX7_status 87 = .ok (.iload_n 3, 1) := by decide +kernel
theorem dX7_status_88 : decode cX7_status 88 = .ok (.aload_n 0, 1) := by decide +kernel
theorem dX7_status_89 : decode cX7_status 89 = .ok (.getfield 90, 3) := by decide +kernel
theorem dX7_status_92 : decode cX7_status 92 = .ok (.if_icmp .ge 18, 3) := by decide +kernel
theorem dX7_status_95 : decode cX7_status 95 = .ok (.iload_n 2, 1) := by decide +kernel
theorem dX7_status_96 : decode cX7_status 96 = .ok (.aload_n 0, 1) := by decide +kernel
theorem dX7_status_97 : decode cX7_status 97 = .ok (.getfield 35, 3) := by decide +kernel
theorem dX7_status_100 : decode cX7_status 100 = .ok (.iload_n 3, 1) := by decide +kernel
theorem dX7_status_101 : decode cX7_status 101 = .ok (.iaload, 1) := by decide +kernel
theorem dX7_status_102 : decode cX7_status 102 = .ok (.iadd, 1) := by decide +kernel
theorem dX7_status_103 : decode cX7_status 103 = .ok (.istore_n 2, 1) := by decide +kernel
theorem dX7_status_104 : decode cX7_status 104 = .ok (.iinc 3 1, 3) := by decide +kernel
theorem dX7_status_107 : decode cX7_status 107 = .ok (.goto (-20), 3) := by decide +kernel
theorem dX7_status_110 : decode cX7_status 110 = .ok (.iload_n 2, 1) := by decide +kernel
theorem dX7_status_111 : decode cX7_status 111 = .ok (.ireturn, 1) := by decide +kernel
theorem dX7_status_112 : decode cX7_status 112 = .ok (.aload_n 0, 1) := by decide +kernel
theorem dX7_status_113 : decode cX7_status 113 = .ok (.getfield 7, 3) := by decide +kernel
theorem dX7_status_116 : decode cX7_status 116 = .ok (.ireturn, 1) := by decide +kernel
theorem dX7_status_117 : decode cX7_status 117 = .ok (.aload_n 0, 1) := by decide +kernel
theorem dX7_status_118 : decode cX7_status 118 = .ok (.getfield 13, 3) := by decide +kernel
theorem dX7_status_121 : decode cX7_status 121 = .ok (.ireturn, 1) := by decide +kernel
theorem dX7_status_122 : decode cX7_status 122 = .ok (.aload_n 0, 1) := by decide +kernel
theorem dX7_status_123 : decode cX7_status 123 = .ok (.getfield 16, 3) := by decide +kernel
theorem dX7_status_126 : decode cX7_status 126 = .ok (.ireturn, 1) := by decide +kernel
theorem dX7_status_127 : decode cX7_status 127 = .ok (.aload_n 0, 1) := by decide +kernel
theorem dX7_status_128 : decode cX7_status 128 = .ok (.getfield 158, 3) := by decide +kernel
theorem dX7_status_131 : decode cX7_status 131 = .ok (.ireturn, 1) := by decide +kernel
theorem dX7_status_132 : decode cX7_status 132 = .ok (.aload_n 0, 1) := by decide +kernel
theorem dX7_status_133 : decode cX7_status 133 = .ok (.getfield 161, 3) := by decide +kernel
theorem dX7_status_136 : decode cX7_status 136 = .ok (.ireturn, 1) := by decide +kernel
theorem dX7_status_137 : decode cX7_status 137 = .ok (.aload_n 0, 1) := by decide +kernel
theorem dX7_status_138 : decode cX7_status 138 = .ok (.getfield 164, 3) := by decide +kernel
theorem dX7_status_141 : decode cX7_status 141 = .ok (.ireturn, 1) := by decide +kernel
theorem dX7_status_142 : decode cX7_status 142 = .ok (.aload_n 0, 1) := by decide +kernel
theorem dX7_status_143 : decode cX7_status 143 = .ok (.getfield 19, 3) := by decide +kernel
theorem dX7_status_146 : decode cX7_status 146 = .ok (.ireturn, 1) := by decide +kernel
theorem dX7_status_147 : decode cX7_status 147 = .ok (.aload_n 0, 1) := by decide +kernel
theorem dX7_status_148 : decode cX7_status 148 = .ok (.getfield 279, 3) := by decide +kernel
theorem dX7_status_151 : decode cX7_status 151 = .ok (.ireturn, 1) := by decide +kernel
theorem dX7_status_152 : decode cX7_status 152 = .ok (.iconst (-1), 1) := by decide +kernel
theorem dX7_status_153 : decode cX7_status 153 = .ok (.ireturn, 1) := by decide +kernel
