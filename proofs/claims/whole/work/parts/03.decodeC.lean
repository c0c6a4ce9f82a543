theorem dX0_init_0 : decode cX0_init 0 = .ok (.aload_n 0, 1) := by decide +kernel
theorem dX0_init_1 : decode cX0_init 1 = .ok (.invokespecial 3, 3) := by decide +kernel
theorem dX0_init_4 : decode cX0_init 4 = .ok (.aload_n 0, 1) := by decide +kernel
theorem dX0_init_5 : decode cX0_init 5 = .ok (.bipush 20, 2) := by decide +kernel
theorem dX0_init_7 : decode cX0_init 7 = .ok (.newarray .int, 2) := by decide +kernel
theorem dX0_init_9 : decode cX0_init 9 = .ok (.putfield 9, 3) := by decide +kernel
theorem dX0_init_12 : decode cX0_init 12 = .ok (.return_, 1) := by decide +kernel
theorem dX0_run_0 : decode cX0_run 0 = .ok (.iload_n 1, 1) := by decide +kernel
theorem dX0_run_1 : decode cX0_run 1 = .ok (.iload_n 2, 1) := by decide +kernel
theorem dX0_run_2 : decode cX0_run 2 = .ok (.invokestatic 15, 3) := by decide +kernel
theorem dX0_run_5 : decode cX0_run 5 = .ok (.istore 5, 2) := by decide +kernel
theorem dX0_run_7 : decode cX0_run 7 = .ok (.iload 5, 2) := by decide +kernel
theorem dX0_run_9 : decode cX0_run 9 = .ok (.iconst (-1), 1) := by decide +kernel
theorem dX0_run_10 : decode cX0_run 10 = .ok (.if_icmp .eq 10, 3) := by decide +kernel
theorem dX0_run_13 : decode cX0_run 13 = .ok (.iload 4, 2) := by decide +kernel
theorem dX0_run_15 : decode cX0_run 15 = .ok (.bipush 40, 2) := by decide +kernel
theorem dX0_run_17 : decode cX0_run 17 = .ok (.if_icmp .le 5, 3) := by decide +kernel
theorem dX0_run_20 : decode cX0_run 20 = .ok (.iconst 0, 1) := by decide +kernel
theorem dX0_run_21 : decode cX0_run 21 = .ok (.ireturn, 1) := by decide +kernel
theorem dX0_run_22 : decode cX0_run 22 = .ok (.getstatic 19, 3) := by decide +kernel
theorem dX0_run_25 : decode cX0_run 25 = .ok (.iload 5, 2) := by decide +kernel
theorem dX0_run_27 : decode cX0_run 27 = .ok (.iconst 3, 1) := by decide +kernel
theorem dX0_run_28 : decode cX0_run 28 = .ok (.imul, 1) := by decide +kernel
theorem dX0_run_29 : decode cX0_run 29 = .ok (.iload_n 1, 1) := by decide +kernel
theorem dX0_run_30 : decode cX0_run 30 = .ok (.iadd, 1) := by decide +kernel
theorem dX0_run_31 : decode cX0_run 31 = .ok (.iaload, 1) := by decide +kernel
theorem dX0_run_32 : decode cX0_run 32 = .ok (.istore 6, 2) := by decide +kernel
theorem dX0_run_34 : decode cX0_run 34 = .ok (.aload_n 0, 1) := by decide +kernel
theorem dX0_run_35 : decode cX0_run 35 = .ok (.iload 6, 2) := by decide +kernel
theorem dX0_run_37 : decode cX0_run 37 = .ok (.invokevirtual 22, 3) := by decide +kernel
theorem dX0_run_40 : decode cX0_run 40 = .ok (.getstatic 26, 3) := by decide +kernel
theorem dX0_run_43 : decode cX0_run 43 = .ok (.iload 5, 2) := by decide +kernel
theorem dX0_run_45 : decode cX0_run 45 = .ok (.iaload, 1) := by decide +kernel
theorem dX0_run_46 : decode cX0_run 46 = .ok (.istore 7, 2) := by decide +kernel
theorem dX0_run_48 : decode cX0_run 48 = .ok (.iload 4, 2) := by decide +kernel
theorem dX0_run_50 : decode cX0_run 50 = .ok (.iconst 1, 1) := by decide +kernel
theorem dX0_run_51 : decode cX0_run 51 = .ok (.iadd, 1) := by decide +kernel
theorem dX0_run_52 : decode cX0_run 52 = .ok (.istore 8, 2) := by decide +kernel
theorem dX0_run_54 : decode cX0_run 54 = .ok (.iload 6, 2) := by decide +kernel
theorem dX0_run_56 : decode cX0_run 56 = .ok (.lookupswitch 265 #[(10, 100), (11, 107), (12, 122), (20, 153), (30, 169), (40, 182), (50, 195), (51, 207), (60, 223), (70, 236), (71, 249)], 100) := by decide +kernel
theorem dX0_run_156 : decode cX0_run 156 = .ok (.iload_n 3, 1) := by decide +kernel
theorem dX0_run_157 : decode cX0_run 157 = .ok (.aload_n 0, 1) := by decide +kernel
theorem dX0_run_158 : decode cX0_run 158 = .ok (.getfield 29, 3) := by decide +kernel
theorem dX0_run_161 : decode cX0_run 161 = .ok (.iadd, 1) := by decide +kernel
theorem dX0_run_162 : decode cX0_run 162 = .ok (.ireturn, 1) := by decide +kernel
theorem dX0_run_163 : decode cX0_run 163 = .ok (.aload_n 0, 1) := by decide +kernel
theorem dX0_run_164 : decode cX0_run 164 = .ok (.iconst 0, 1) := by decide +kernel
theorem dX0_run_165 : decode cX0_run 165 = .ok (.aload_n 0, 1) := by decide +kernel
theorem dX0_run_166 : decode cX0_run 166 = .ok (.getfield 33, 3) := by decide +kernel
theorem dX0_run_169 : decode cX0_run 169 = .ok (.iload_n 3, 1) := by decide +kernel
theorem dX0_run_170 : decode cX0_run 170 = .ok (.iload 8, 2) := by decide +kernel
theorem dX0_run_172 : decode cX0_run 172 = .ok (.invokestatic 36, 3) := by decide +kernel
theorem dX0_run_175 : decode cX0_run 175 = .ok (.iconst 2, 1) := by decide +kernel
theorem dX0_run_176 : decode cX0_run 176 = .ok (.imul, 1) := by decide +kernel
theorem dX0_run_177 : decode cX0_run 177 = .ok (.ireturn, 1) := by decide +kernel
theorem dX0_run_178 : decode cX0_run 178 = .ok (.aload_n 0, 1) := by decide +kernel
theorem dX0_run_179 : decode cX0_run 179 = .ok (.iconst 1, 1) := by decide +kernel
theorem dX0_run_180 : decode cX0_run 180 = .ok (.aload_n 0, 1) := by decide +kernel
theorem dX0_run_181 : decode cX0_run 181 = .ok (.getfield 33, 3) := by decide +kernel
theorem dX0_run_184 : decode cX0_run 184 = .ok (.iload_n 3, 1) := by decide +kernel
theorem dX0_run_185 : decode cX0_run 185 = .ok (.iload 8, 2) := by decide +kernel
theorem dX0_run_187 : decode cX0_run 187 = .ok (.invokestatic 36, 3) := by decide +kernel
theorem dX0_run_190 : decode cX0_run 190 = .ok (.aload_n 0, 1) := by decide +kernel
theorem dX0_run_191 : decode cX0_run 191 = .ok (.iconst 0, 1) := by decide +kernel
theorem dX0_run_192 : decode cX0_run 192 = .ok (.aload_n 0, 1) := by decide +kernel
theorem dX0_run_193 : decode cX0_run 193 = .ok (.getfield 33, 3) := by decide +kernel
theorem dX0_run_196 : decode cX0_run 196 = .ok (.iload_n 3, 1) := by decide +kernel
theorem dX0_run_197 : decode cX0_run 197 = .ok (.aload_n 0, 1) := by decide +kernel
theorem dX0_run_198 : decode cX0_run 198 = .ok (.getfield 40, 3) := by decide +kernel
theorem dX0_run_201 : decode cX0_run 201 = .ok (.isub, 1) := by decide +kernel
theorem dX0_run_202 : decode cX0_run 202 = .ok (.iload 8, 2) := by decide +kernel
theorem dX0_run_204 : decode cX0_run 204 = .ok (.invokestatic 36, 3) := by decide +kernel
theorem dX0_run_207 : decode cX0_run 207 = .ok (.ixor, 1) := by decide +kernel
theorem dX0_run_208 : decode cX0_run 208 = .ok (.ireturn, 1) := by decide +kernel
theorem dX0_run_209 : decode cX0_run 209 = .ok (.aload_n 0, 1) := by decide +kernel
theorem dX0_run_210 : decode cX0_run 210 = .ok (.iconst 0, 1) := by decide +kernel
theorem dX0_run_211 : decode cX0_run 211 = .ok (.iload 7, 2) := by decide +kernel
theorem dX0_run_213 : decode cX0_run 213 = .ok (.iload_n 3, 1) := by decide +kernel
theorem dX0_run_214 : decode cX0_run 214 = .ok (.iload 8, 2) := by decide +kernel
theorem dX0_run_216 : decode cX0_run 216 = .ok (.invokestatic 36, 3) := by decide +kernel
theorem dX0_run_219 : decode cX0_run 219 = .ok (.aload_n 0, 1) := by decide +kernel
theorem dX0_run_220 : decode cX0_run 220 = .ok (.getfield 40, 3) := by decide +kernel
theorem dX0_run_223 : decode cX0_run 223 = .ok (.iadd, 1) := by decide +kernel
theorem dX0_run_224 : decode cX0_run 224 = .ok (.ireturn, 1) := by decide +kernel
theorem dX0_run_225 : decode cX0_run 225 = .ok (.aload_n 0, 1) := by decide +kernel
theorem dX0_run_226 : decode cX0_run 226 = .ok (.iconst 1, 1) := by decide +kernel
theorem dX0_run_227 : decode cX0_run 227 = .ok (.iload 7, 2) := by decide +kernel
theorem dX0_run_229 : decode cX0_run 229 = .ok (.iload_n 3, 1) := by decide +kernel
theorem dX0_run_230 : decode cX0_run 230 = .ok (.iload 8, 2) := by decide +kernel
theorem dX0_run_232 : decode cX0_run 232 = .ok (.invokestatic 36, 3) := by decide +kernel
theorem dX0_run_235 : decode cX0_run 235 = .ok (.iconst 3, 1) := by decide +kernel
theorem dX0_run_236 : decode cX0_run 236 = .ok (.imul, 1) := by decide +kernel
theorem dX0_run_237 : decode cX0_run 237 = .ok (.ireturn, 1) := by decide +kernel
theorem dX0_run_238 : decode cX0_run 238 = .ok (.aload_n 0, 1) := by decide +kernel
theorem dX0_run_239 : decode cX0_run 239 = .ok (.iconst 1, 1) := by decide +kernel
theorem dX0_run_240 : decode cX0_run 240 = .ok (.iload 7, 2) := by decide +kernel
theorem dX0_run_242 : decode cX0_run 242 = .ok (.iload_n 3, 1) := by decide +kernel
theorem dX0_run_243 : decode cX0_run 243 = .ok (.iconst 1, 1) := by decide +kernel
theorem dX0_run_244 : decode cX0_run 244 = .ok (.iadd, 1) := by decide +kernel
theorem dX0_run_245 : decode cX0_run 245 = .ok (.iload 8, 2) := by decide +kernel
theorem dX0_run_247 : decode cX0_run 247 = .ok (.invokestatic 36, 3) := by decide +kernel
theorem dX0_run_250 : decode cX0_run 250 = .ok (.ireturn, 1) := by decide +kernel
theorem dX0_run_251 : decode cX0_run 251 = .ok (.aload_n 0, 1) := by decide +kernel
theorem dX0_run_252 : decode cX0_run 252 = .ok (.iconst 2, 1) := by decide +kernel
theorem dX0_run_253 : decode cX0_run 253 = .ok (.iload 7, 2) := by decide +kernel
theorem dX0_run_255 : decode cX0_run 255 = .ok (.iload_n 3, 1) := by decide +kernel
theorem dX0_run_256 : decode cX0_run 256 = .ok (.iload 8, 2) := by decide +kernel
theorem dX0_run_258 : decode cX0_run 258 = .ok (.invokestatic 36, 3) := by decide +kernel
theorem dX0_run_261 : decode cX0_run 261 = .ok (.ineg, 1) := by decide +kernel
theorem dX0_run_262 : decode cX0_run 262 = .ok (.ireturn, 1) := by decide +kernel
theorem dX0_run_263 : decode cX0_run 263 = .ok (.aload_n 0, 1) := by decide +kernel
theorem dX0_run_264 : decode cX0_run 264 = .ok (.iconst 0, 1) := by decide +kernel
theorem dX0_run_265 : decode cX0_run 265 = .ok (.iload 7, 2) := by decide +kernel
theorem dX0_run_267 : decode cX0_run 267 = .ok (.iload_n 3, 1) := by decide +kernel
theorem dX0_run_268 : decode cX0_run 268 = .ok (.iload 8, 2) := by decide +kernel
theorem dX0_run_270 : decode cX0_run 270 = .ok (.invokestatic 36, 3) := by decide +kernel
theorem dX0_run_273 : decode cX0_run 273 = .ok (.aload_n 0, 1) := by decide +kernel
theorem dX0_run_274 : decode cX0_run 274 = .ok (.getfield 29, 3) := by decide +kernel
theorem dX0_run_277 : decode cX0_run 277 = .ok (.isub, 1) := by decide +kernel
theorem dX0_run_278 : decode cX0_run 278 = .ok (.ireturn, 1) := by decide +kernel
theorem dX0_run_279 : decode cX0_run 279 = .ok (.aload_n 0, 1) := by decide +kernel
theorem dX0_run_280 : decode cX0_run 280 = .ok (.iconst 2, 1) := by decide +kernel
theorem dX0_run_281 : decode cX0_run 281 = .ok (.iload 7, 2) := by decide +kernel
theorem dX0_run_283 : decode cX0_run 283 = .ok (.iload_n 3, 1) := by decide +kernel
theorem dX0_run_284 : decode cX0_run 284 = .ok (.iload 8, 2) := by decide +kernel
theorem dX0_run_286 : decode cX0_run 286 = .ok (.invokestatic 36, 3) := by decide +kernel
theorem dX0_run_289 : decode cX0_run 289 = .ok (.iconst 5, 1) := by decide +kernel
theorem dX0_run_290 : decode cX0_run 290 = .ok (.ixor, 1) := by decide +kernel
theorem dX0_run_291 : decode cX0_run 291 = .ok (.ireturn, 1) := by decide +kernel
theorem dX0_run_292 : decode cX0_run 292 = .ok (.aload_n 0, 1) := by decide +kernel
theorem dX0_run_293 : decode cX0_run 293 = .ok (.iconst 0, 1) := by decide +kernel
theorem dX0_run_294 : decode cX0_run 294 = .ok (.iload 7, 2) := by decide +kernel
theorem dX0_run_296 : decode cX0_run 296 = .ok (.iload_n 3, 1) := by decide +kernel
theorem dX0_run_297 : decode cX0_run 297 = .ok (.iload 8, 2) := by decide +kernel
theorem dX0_run_299 : decode cX0_run 299 = .ok (.invokestatic 36, 3) := by decide +kernel
theorem dX0_run_302 : decode cX0_run 302 = .ok (.iconst 2, 1) := by decide +kernel
theorem dX0_run_303 : decode cX0_run 303 = .ok (.imul, 1) := by decide +kernel
theorem dX0_run_304 : decode cX0_run 304 = .ok (.ireturn, 1) := by decide +kernel
theorem dX0_run_305 : decode cX0_run 305 = .ok (.aload_n 0, 1) := by decide +kernel
theorem dX0_run_306 : decode cX0_run 306 = .ok (.iconst 1, 1) := by decide +kernel
theorem dX0_run_307 : decode cX0_run 307 = .ok (.iload 7, 2) := by decide +kernel
theorem dX0_run_309 : decode cX0_run 309 = .ok (.iload_n 3, 1) := by decide +kernel
theorem dX0_run_310 : decode cX0_run 310 = .ok (.aload_n 0, 1) := by decide +kernel
theorem dX0_run_311 : decode cX0_run 311 = .ok (.getfield 40, 3) := by decide +kernel
theorem dX0_run_314 : decode cX0_run 314 = .ok (.isub, 1) := by decide +kernel
theorem dX0_run_315 : decode cX0_run 315 = .ok (.iload 8, 2) := by decide +kernel
theorem dX0_run_317 : decode cX0_run 317 = .ok (.invokestatic 36, 3) := by decide +kernel
theorem dX0_run_320 : decode cX0_run 320 = .ok (.ireturn, 1) := by decide +kernel
theorem dX0_run_321 : decode cX0_run 321 = .ok (.iconst 0, 1) := by decide +kernel
theorem dX0_run_322 : decode cX0_run 322 = .ok (.ireturn, 1) := by decide +kernel
theorem dX0_ownerOf_0 : decode cX0_ownerOf 0 = .ok (.iload_n 1, 1) := by decide +kernel
theorem dX0_ownerOf_1 : decode cX0_ownerOf 1 = .ok (.istore_n 2, 1) := by decide +kernel
theorem dX0_ownerOf_2 : decode cX0_ownerOf 2 = .ok (.iconst 0, 1) := by decide +kernel
theorem dX0_ownerOf_3 : decode cX0_ownerOf 3 = .ok (.istore_n 3, 1) := by decide +kernel
theorem dX0_ownerOf_4 : decode cX0_ownerOf 4 = .ok (.iload_n 3, 1) := by decide +kernel
theorem dX0_ownerOf_5 : decode cX0_ownerOf 5 = .ok (.bipush 7, 2) := by decide +kernel
theorem dX0_ownerOf_7 : decode cX0_ownerOf 7 = .ok (.if_icmp .ge 48, 3) := by decide +kernel
theorem dX0_ownerOf_10 : decode cX0_ownerOf 10 = .ok (.iload_n 2, 1) := by decide +kernel
theorem dX0_ownerOf_11 : decode cX0_ownerOf 11 = .ok (.iconst 0, 1) := by decide +kernel
theorem dX0_ownerOf_12 : decode cX0_ownerOf 12 = .ok (.bipush 6, 2) := by decide +kernel
theorem dX0_ownerOf_14 : decode cX0_ownerOf 14 = .ok (.invokestatic 43, 3) := by decide +kernel
theorem dX0_ownerOf_17 : decode cX0_ownerOf 17 = .ok (.ifCond .eq 38, 3) := by decide +kernel
theorem dX0_ownerOf_20 : decode cX0_ownerOf 20 = .ok (.iload_n 0, 1) := by decide +kernel
theorem dX0_ownerOf_21 : decode cX0_ownerOf 21 = .ok (.iconst 0, 1) := by decide +kernel
theorem dX0_ownerOf_22 : decode cX0_ownerOf 22 = .ok (.iconst 2, 1) := by decide +kernel
theorem dX0_ownerOf_23 : decode cX0_ownerOf 23 = .ok (.invokestatic 43, 3) := by decide +kernel
theorem dX0_ownerOf_26 : decode cX0_ownerOf 26 = .ok (.ifCond .eq 29, 3) := by decide +kernel
theorem dX0_ownerOf_29 : decode cX0_ownerOf 29 = .ok (.getstatic 19, 3) := by decide +kernel
theorem dX0_ownerOf_32 : decode cX0_ownerOf 32 = .ok (.iload_n 2, 1) := by decide +kernel
theorem dX0_ownerOf_33 : decode cX0_ownerOf 33 = .ok (.iconst 3, 1) := by decide +kernel
theorem dX0_ownerOf_34 : decode cX0_ownerOf 34 = .ok (.imul, 1) := by decide +kernel
theorem dX0_ownerOf_35 : decode cX0_ownerOf 35 = .ok (.iload_n 0, 1) := by decide +kernel
theorem dX0_ownerOf_36 : decode cX0_ownerOf 36 = .ok (.iadd, 1) := by decide +kernel
theorem dX0_ownerOf_37 : decode cX0_ownerOf 37 = .ok (.iaload, 1) := by decide +kernel
theorem dX0_ownerOf_38 : decode cX0_ownerOf 38 = .ok (.ifCond .eq 5, 3) := by decide +kernel
theorem dX0_ownerOf_41 : decode cX0_ownerOf 41 = .ok (.iload_n 2, 1) := by decide +kernel
theorem dX0_ownerOf_42 : decode cX0_ownerOf 42 = .ok (.ireturn, 1) := by decide +kernel
theorem dX0_ownerOf_43 : decode cX0_ownerOf 43 = .ok (.getstatic 26, 3) := by decide +kernel
theorem dX0_ownerOf_46 : decode cX0_ownerOf 46 = .ok (.iload_n 2, 1) := by decide +kernel
theorem dX0_ownerOf_47 : decode cX0_ownerOf 47 = .ok (.iaload, 1) := by decide +kernel
theorem dX0_ownerOf_48 : decode cX0_ownerOf 48 = .ok (.istore_n 2, 1) := by decide +kernel
theorem dX0_ownerOf_49 : decode cX0_ownerOf 49 = .ok (.iinc 3 1, 3) := by decide +kernel
theorem dX0_ownerOf_52 : decode cX0_ownerOf 52 = .ok (.goto (-48), 3) := by decide +kernel
theorem dX0_ownerOf_55 : decode cX0_ownerOf 55 = .ok (.iconst (-1), 1) := by decide +kernel
theorem dX0_ownerOf_56 : decode cX0_ownerOf 56 = .ok (.ireturn, 1) := by decide +kernel
theorem dX0_begins_0 : decode cX0_begins 0 = .ok (.aload_n 0, 1) := by decide +kernel
theorem dX0_begins_1 : decode cX0_begins 1 = .ok (.getfield 47, 3) := by decide +kernel
theorem dX0_begins_4 : decode cX0_begins 4 = .ok (.bipush 20, 2) := by decide +kernel
theorem dX0_begins_6 : decode cX0_begins 6 = .ok (.if_icmp .ge 13, 3) := by decide +kernel
theorem dX0_begins_9 : decode cX0_begins 9 = .ok (.aload_n 0, 1) := by decide +kernel
theorem dX0_begins_10 : decode cX0_begins 10 = .ok (.getfield 9, 3) := by decide +kernel
theorem dX0_begins_13 : decode cX0_begins 13 = .ok (.aload_n 0, 1) := by decide +kernel
theorem dX0_begins_14 : decode cX0_begins 14 = .ok (.getfield 47, 3) := by decide +kernel
theorem dX0_begins_17 : decode cX0_begins 17 = .ok (.iload_n 1, 1) := by decide +kernel
theorem dX0_begins_18 : decode cX0_begins 18 = .ok (.iastore, 1) := by decide +kernel
theorem dX0_begins_19 : decode cX0_begins 19 = .ok (.aload_n 0, 1) := by decide +kernel
theorem dX0_begins_20 : decode cX0_begins 20 = .ok (.dup, 1) := by decide +kernel
theorem dX0_begins_21 : decode cX0_begins 21 = .ok (.getfield 47, 3) := by decide +kernel
theorem dX0_begins_24 : decode cX0_begins 24 = .ok (.iconst 1, 1) := by decide +kernel
theorem dX0_begins_25 : decode cX0_begins 25 = .ok (.iadd, 1) := by decide +kernel
theorem dX0_begins_26 : decode cX0_begins 26 = .ok (.putfield 47, 3) := by decide +kernel
theorem dX0_begins_29 : decode cX0_begins 29 = .ok (.return_, 1) := by decide +kernel
theorem dX1_init_0 : decode cX1_init 0 = .ok (.aload_n 0, 1) := by decide +kernel
theorem dX1_init_1 : decode cX1_init 1 = .ok (.invokespecial 3, 3) := by decide +kernel
theorem dX1_init_4 : decode cX1_init 4 = .ok (.aload_n 0, 1) := by decide +kernel
theorem dX1_init_5 : decode cX1_init 5 = .ok (.bipush 12, 2) := by decide +kernel
theorem dX1_init_7 : decode cX1_init 7 = .ok (.newarray .int, 2) := by decide +kernel
theorem dX1_init_9 : decode cX1_init 9 = .ok (.putfield 9, 3) := by decide +kernel
theorem dX1_init_12 : decode cX1_init 12 = .ok (.return_, 1) := by decide +kernel
theorem dX1_become_0 : decode cX1_become 0 = .ok (.aload_n 0, 1) := by decide +kernel
theorem dX1_become_1 : decode cX1_become 1 = .ok (.aload_n 1, 1) := by decide +kernel
theorem dX1_become_2 : decode cX1_become 2 = .ok (.getfield 15, 3) := by decide +kernel
theorem dX1_become_5 : decode cX1_become 5 = .ok (.putfield 15, 3) := by decide +kernel
theorem dX1_become_8 : decode cX1_become 8 = .ok (.aload_n 0, 1) := by decide +kernel
theorem dX1_become_9 : decode cX1_become 9 = .ok (.aload_n 1, 1) := by decide +kernel
theorem dX1_become_10 : decode cX1_become 10 = .ok (.getfield 19, 3) := by decide +kernel
theorem dX1_become_13 : decode cX1_become 13 = .ok (.putfield 19, 3) := by decide +kernel
theorem dX1_become_16 : decode cX1_become 16 = .ok (.aload_n 0, 1) := by decide +kernel
theorem dX1_become_17 : decode cX1_become 17 = .ok (.aload_n 1, 1) := by decide +kernel
theorem dX1_become_18 : decode cX1_become 18 = .ok (.getfield 22, 3) := by decide +kernel
theorem dX1_become_21 : decode cX1_become 21 = .ok (.putfield 22, 3) := by decide +kernel
theorem dX1_become_24 : decode cX1_become 24 = .ok (.aload_n 1, 1) := by decide +kernel
theorem dX1_become_25 : decode cX1_become 25 = .ok (.getfield 9, 3) := by decide +kernel
theorem dX1_become_28 : decode cX1_become 28 = .ok (.iconst 0, 1) := by decide +kernel
theorem dX1_become_29 : decode cX1_become 29 = .ok (.aload_n 0, 1) := by decide +kernel
theorem dX1_become_30 : decode cX1_become 30 = .ok (.getfield 9, 3) := by decide +kernel
theorem dX1_become_33 : decode cX1_become 33 = .ok (.iconst 0, 1) := by decide +kernel
theorem dX1_become_34 : decode cX1_become 34 = .ok (.bipush 12, 2) := by decide +kernel
theorem dX1_become_36 : decode cX1_become 36 = .ok (.invokestatic 25, 3) := by decide +kernel
theorem dX1_become_39 : decode cX1_become 39 = .ok (.return_, 1) := by decide +kernel
theorem dX1_becomeNew_0 : decode cX1_becomeNew 0 = .ok (.aload_n 0, 1) := by decide +kernel
theorem dX1_becomeNew_1 : decode cX1_becomeNew 1 = .ok (.iload_n 1, 1) := by decide +kernel
theorem dX1_becomeNew_2 : decode cX1_becomeNew 2 = .ok (.putfield 15, 3) := by decide +kernel
theorem dX1_becomeNew_5 : decode cX1_becomeNew 5 = .ok (.aload_n 0, 1) := by decide +kernel
theorem dX1_becomeNew_6 : decode cX1_becomeNew 6 = .ok (.iload_n 3, 1) := by decide +kernel
theorem dX1_becomeNew_7 : decode cX1_becomeNew 7 = .ok (.putfield 19, 3) := by decide +kernel
theorem dX1_becomeNew_10 : decode cX1_becomeNew 10 = .ok (.aload_n 0, 1) := by decide +kernel
theorem dX1_becomeNew_11 : decode cX1_becomeNew 11 = .ok (.iload_n 2, 1) := by decide +kernel
theorem dX1_becomeNew_12 : decode cX1_becomeNew 12 = .ok (.putfield 22, 3) := by decide +kernel
theorem dX1_becomeNew_15 : decode cX1_becomeNew 15 = .ok (.aload_n 0, 1) := by decide +kernel
theorem dX1_becomeNew_16 : decode cX1_becomeNew 16 = .ok (.invokevirtual 31, 3) := by decide +kernel
theorem dX1_becomeNew_19 : decode cX1_becomeNew 19 = .ok (.return_, 1) := by decide +kernel
theorem dX1_dry_0 : decode cX1_dry 0 = .ok (.iconst 0, 1) := by decide +kernel
theorem dX1_dry_1 : decode cX1_dry 1 = .ok (.istore_n 1, 1) := by decide +kernel
theorem dX1_dry_2 : decode cX1_dry 2 = .ok (.iload_n 1, 1) := by decide +kernel
theorem dX1_dry_3 : decode cX1_dry 3 = .ok (.bipush 12, 2) := by decide +kernel
theorem dX1_dry_5 : decode cX1_dry 5 = .ok (.if_icmp .ge 16, 3) := by decide +kernel
theorem dX1_dry_8 : decode cX1_dry 8 = .ok (.aload_n 0, 1) := by decide +kernel
theorem dX1_dry_9 : decode cX1_dry 9 = .ok (.getfield 9, 3) := by decide +kernel
theorem dX1_dry_12 : decode cX1_dry 12 = .ok (.iload_n 1, 1) := by decide +kernel
theorem dX1_dry_13 : decode cX1_dry 13 = .ok (.iconst 0, 1) := by decide +kernel
theorem dX1_dry_14 : decode cX1_dry 14 = .ok (.iastore, 1) := by decide +kernel
theorem dX1_dry_15 : decode cX1_dry 15 = .ok (.iinc 1 1, 3) := by decide +kernel
theorem dX1_dry_18 : decode cX1_dry 18 = .ok (.goto (-16), 3) := by decide +kernel
theorem dX1_dry_21 : decode cX1_dry 21 = .ok (.return_, 1) := by decide +kernel
theorem dX1_hasCell_0 : decode cX1_hasCell 0 = .ok (.iload_n 1, 1) := by decide +kernel
theorem dX1_hasCell_1 : decode cX1_hasCell 1 = .ok (.ifCond .lt 15, 3) := by decide +kernel
theorem dX1_hasCell_4 : decode cX1_hasCell 4 = .ok (.iload_n 1, 1) := by decide +kernel
theorem dX1_hasCell_5 : decode cX1_hasCell 5 = .ok (.aload_n 0, 1) := by decide +kernel
theorem dX1_hasCell_6 : decode cX1_hasCell 6 = .ok (.getfield 22, 3) := by decide +kernel
theorem dX1_hasCell_9 : decode cX1_hasCell 9 = .ok (.if_icmp .ge 7, 3) := by decide +kernel
theorem dX1_hasCell_12 : decode cX1_hasCell 12 = .ok (.iconst 1, 1) := by decide +kernel
theorem dX1_hasCell_13 : decode cX1_hasCell 13 = .ok (.goto 4, 3) := by decide +kernel
theorem dX1_hasCell_16 : decode cX1_hasCell 16 = .ok (.iconst 0, 1) := by decide +kernel
theorem dX1_hasCell_17 : decode cX1_hasCell 17 = .ok (.ireturn, 1) := by decide +kernel
theorem dX1_isOf_0 : decode cX1_isOf 0 = .ok (.aload_n 0, 1) := by decide +kernel
theorem dX1_isOf_1 : decode cX1_isOf 1 = .ok (.getfield 15, 3) := by decide +kernel
theorem dX1_isOf_4 : decode cX1_isOf 4 = .ok (.istore_n 2, 1) := by decide +kernel
theorem dX1_isOf_5 : decode cX1_isOf 5 = .ok (.iconst 0, 1) := by decide +kernel
theorem dX1_isOf_6 : decode cX1_isOf 6 = .ok (.istore_n 3, 1) := by decide +kernel
theorem dX1_isOf_7 : decode cX1_isOf 7 = .ok (.iload_n 3, 1) := by decide +kernel
theorem dX1_isOf_8 : decode cX1_isOf 8 = .ok (.bipush 7, 2) := by decide +kernel
theorem dX1_isOf_10 : decode cX1_isOf 10 = .ok (.if_icmp .ge 32, 3) := by decide +kernel
theorem dX1_isOf_13 : decode cX1_isOf 13 = .ok (.iload_n 2, 1) := by decide +kernel
theorem dX1_isOf_14 : decode cX1_isOf 14 = .ok (.ifCond .lt 28, 3) := by decide +kernel
theorem dX1_isOf_17 : decode cX1_isOf 17 = .ok (.iload_n 2, 1) := by decide +kernel
theorem dX1_isOf_18 : decode cX1_isOf 18 = .ok (.bipush 7, 2) := by decide +kernel
theorem dX1_isOf_20 : decode cX1_isOf 20 = .ok (.if_icmp .ge 22, 3) := by decide +kernel
theorem dX1_isOf_23 : decode cX1_isOf 23 = .ok (.iload_n 2, 1) := by decide +kernel
theorem dX1_isOf_24 : decode cX1_isOf 24 = .ok (.iload_n 1, 1) := by decide +kernel
theorem dX1_isOf_25 : decode cX1_isOf 25 = .ok (.if_icmp .ne 5, 3) := by decide +kernel
theorem dX1_isOf_28 : decode cX1_isOf 28 = .ok (.iconst 1, 1) := by decide +kernel
theorem dX1_isOf_29 : decode cX1_isOf 29 = .ok (.ireturn, 1) := by decide +kernel
theorem dX1_isOf_30 : decode cX1_isOf 30 = .ok (.getstatic 34, 3) := by decide +kernel
theorem dX1_isOf_33 : decode cX1_isOf 33 = .ok (.iload_n 2, 1) := by decide +kernel
theorem dX1_isOf_34 : decode cX1_isOf 34 = .ok (.iaload, 1) := by decide +kernel
theorem dX1_isOf_35 : decode cX1_isOf 35 = .ok (.istore_n 2, 1) := by decide +kernel
theorem dX1_isOf_36 : decode cX1_isOf 36 = .ok (.iinc 3 1, 3) := by decide +kernel
theorem dX1_isOf_39 : decode cX1_isOf 39 = .ok (.goto (-32), 3) := by decide +kernel
theorem dX1_isOf_42 : decode cX1_isOf 42 = .ok (.iconst 0, 1) := by decide +kernel
theorem dX1_isOf_43 : decode cX1_isOf 43 = .ok (.ireturn, 1) := by decide +kernel
theorem dX1_wetOfAll_0 : decode cX1_wetOfAll 0 = .ok (.iconst 0, 1) := by decide +kernel
theorem dX1_wetOfAll_1 : decode cX1_wetOfAll 1 = .ok (.istore_n 1, 1) := by decide +kernel
theorem dX1_wetOfAll_2 : decode cX1_wetOfAll 2 = .ok (.iconst 0, 1) := by decide +kernel
theorem dX1_wetOfAll_3 : decode cX1_wetOfAll 3 = .ok (.istore_n 2, 1) := by decide +kernel
theorem dX1_wetOfAll_4 : decode cX1_wetOfAll 4 = .ok (.iload_n 2, 1) := by decide +kernel
theorem dX1_wetOfAll_5 : decode cX1_wetOfAll 5 = .ok (.aload_n 0, 1) := by decide +kernel
theorem dX1_wetOfAll_6 : decode cX1_wetOfAll 6 = .ok (.getfield 22, 3) := by decide +kernel
theorem dX1_wetOfAll_9 : decode cX1_wetOfAll 9 = .ok (.if_icmp .ge 18, 3) := by decide +kernel
theorem dX1_wetOfAll_12 : decode cX1_wetOfAll 12 = .ok (.iload_n 1, 1) := by decide +kernel
theorem dX1_wetOfAll_13 : decode cX1_wetOfAll 13 = .ok (.aload_n 0, 1) := by decide +kernel
theorem dX1_wetOfAll_14 : decode cX1_wetOfAll 14 = .ok (.getfield 9, 3) := by decide +kernel
theorem dX1_wetOfAll_17 : decode cX1_wetOfAll 17 = .ok (.iload_n 2, 1) := by decide +kernel
theorem dX1_wetOfAll_18 : decode cX1_wetOfAll 18 = .ok (.iaload, 1) := by decide +kernel
theorem dX1_wetOfAll_19 : decode cX1_wetOfAll 19 = .ok (.iadd, 1) := by decide +kernel
theorem dX1_wetOfAll_20 : decode cX1_wetOfAll 20 = .ok (.istore_n 1, 1) := by decide +kernel
theorem dX1_wetOfAll_21 : decode cX1_wetOfAll 21 = .ok (.iinc 2 1, 3) := by decide +kernel
theorem dX1_wetOfAll_24 : decode cX1_wetOfAll 24 = .ok (.goto (-20), 3) := by decide +kernel
theorem dX1_wetOfAll_27 : decode cX1_wetOfAll 27 = .ok (.iload_n 1, 1) := by decide +kernel
theorem dX1_wetOfAll_28 : decode cX1_wetOfAll 28 = .ok (.ireturn, 1) := by decide +kernel
theorem dX1_soakOf_0 : decode cX1_soakOf 0 = .ok (.iconst 1, 1) := by decide +kernel
theorem dX1_soakOf_1 : decode cX1_soakOf 1 = .ok (.aload_n 0, 1) := by decide +kernel
theorem dX1_soakOf_2 : decode cX1_soakOf 2 = .ok (.getfield 19, 3) := by decide +kernel
theorem dX1_soakOf_5 : decode cX1_soakOf 5 = .ok (.iadd, 1) := by decide +kernel
theorem dX1_soakOf_6 : decode cX1_soakOf 6 = .ok (.iload_n 2, 1) := by decide +kernel
theorem dX1_soakOf_7 : decode cX1_soakOf 7 = .ok (.bipush 10, 2) := by decide +kernel
theorem dX1_soakOf_9 : decode cX1_soakOf 9 = .ok (.idiv, 1) := by decide +kernel
theorem dX1_soakOf_10 : decode cX1_soakOf 10 = .ok (.iadd, 1) := by decide +kernel
theorem dX1_soakOf_11 : decode cX1_soakOf 11 = .ok (.istore_n 3, 1) := by decide +kernel
theorem dX1_soakOf_12 : decode cX1_soakOf 12 = .ok (.aload_n 0, 1) := by decide +kernel
theorem dX1_soakOf_13 : decode cX1_soakOf 13 = .ok (.getfield 15, 3) := by decide +kernel
theorem dX1_soakOf_16 : decode cX1_soakOf 16 = .ok (.tableswitch 66 1 6 #[40, 44, 40, 62, 44, 62], 40) := by decide +kernel
theorem dX1_soakOf_56 : decode cX1_soakOf 56 = .ok (.iload_n 3, 1) := by decide +kernel
theorem dX1_soakOf_57 : decode cX1_soakOf 57 = .ok (.iconst 2, 1) := by decide +kernel
theorem dX1_soakOf_58 : decode cX1_soakOf 58 = .ok (.idiv, 1) := by decide +kernel
theorem dX1_soakOf_59 : decode cX1_soakOf 59 = .ok (.ireturn, 1) := by decide +kernel
theorem dX1_soakOf_60 : decode cX1_soakOf 60 = .ok (.iload_n 1, 1) := by decide +kernel
theorem dX1_soakOf_61 : decode cX1_soakOf 61 = .ok (.aload_n 0, 1) := by decide +kernel
theorem dX1_soakOf_62 : decode cX1_soakOf 62 = .ok (.getfield 22, 3) := by decide +kernel
theorem dX1_soakOf_65 : decode cX1_soakOf 65 = .ok (.iconst 2, 1) := by decide +kernel
theorem dX1_soakOf_66 : decode cX1_soakOf 66 = .ok (.idiv, 1) := by decide +kernel
theorem dX1_soakOf_67 : decode cX1_soakOf 67 = .ok (.if_icmp .ne 9, 3) := by decide +kernel
theorem dX1_soakOf_70 : decode cX1_soakOf 70 = .ok (.iload_n 3, 1) := by decide +kernel
theorem dX1_soakOf_71 : decode cX1_soakOf 71 = .ok (.iconst 2, 1) := by decide +kernel
theorem dX1_soakOf_72 : decode cX1_soakOf 72 = .ok (.imul, 1) := by decide +kernel
theorem dX1_soakOf_73 : decode cX1_soakOf 73 = .ok (.goto 4, 3) := by decide +kernel
theorem dX1_soakOf_76 : decode cX1_soakOf 76 = .ok (.iload_n 3, 1) := by decide +kernel
theorem dX1_soakOf_77 : decode cX1_soakOf 77 = .ok (.ireturn, 1) := by decide +kernel
theorem dX1_soakOf_78 : decode cX1_soakOf 78 = .ok (.iload_n 3, 1) := by decide +kernel
theorem dX1_soakOf_79 : decode cX1_soakOf 79 = .ok (.iconst 2, 1) := by decide +kernel
theorem dX1_soakOf_80 : decode cX1_soakOf 80 = .ok (.imul, 1) := by decide +kernel
theorem dX1_soakOf_81 : decode cX1_soakOf 81 = .ok (.ireturn, 1) := by decide +kernel
theorem dX1_soakOf_82 : decode cX1_soakOf 82 = .ok (.iload_n 3, 1) := by decide +kernel
theorem dX1_soakOf_83 : decode cX1_soakOf 83 = .ok (.ireturn, 1) := by decide +kernel
theorem dX1_creepInto_0 : decode cX1_creepInto 0 = .ok (.iload_n 1, 1) := by decide +kernel
theorem dX1_creepInto_1 : decode cX1_creepInto 1 = .ok (.iconst 1, 1) := by decide +kernel
theorem dX1_creepInto_2 : decode cX1_creepInto 2 = .ok (.if_icmp .lt 11, 3) := by decide +kernel
theorem dX1_creepInto_5 : decode cX1_creepInto 5 = .ok (.iload_n 1, 1) := by decide +kernel
theorem dX1_creepInto_6 : decode cX1_creepInto 6 = .ok (.aload_n 0, 1) := by decide +kernel
theorem dX1_creepInto_7 : decode cX1_creepInto 7 = .ok (.getfield 22, 3) := by decide +kernel
theorem dX1_creepInto_10 : decode cX1_creepInto 10 = .ok (.if_icmp .lt 5, 3) := by decide +kernel
theorem dX1_creepInto_13 : decode cX1_creepInto 13 = .ok (.iconst 0, 1) := by decide +kernel
theorem dX1_creepInto_14 : decode cX1_creepInto 14 = .ok (.ireturn, 1) := by decide +kernel
theorem dX1_creepInto_15 : decode cX1_creepInto 15 = .ok (.aload_n 0, 1) := by decide +kernel
theorem dX1_creepInto_16 : decode cX1_creepInto 16 = .ok (.getfield 9, 3) := by decide +kernel
theorem dX1_creepInto_19 : decode cX1_creepInto 19 = .ok (.iload_n 1, 1) := by decide +kernel
theorem dX1_creepInto_20 : decode cX1_creepInto 20 = .ok (.iconst 1, 1) := by decide +kernel
theorem dX1_creepInto_21 : decode cX1_creepInto 21 = .ok (.isub, 1) := by decide +kernel
theorem dX1_creepInto_22 : decode cX1_creepInto 22 = .ok (.iaload, 1) := by decide +kernel
theorem dX1_creepInto_23 : decode cX1_creepInto 23 = .ok (.aload_n 0, 1) := by decide +kernel
theorem dX1_creepInto_24 : decode cX1_creepInto 24 = .ok (.getfield 9, 3) := by decide +kernel
theorem dX1_creepInto_27 : decode cX1_creepInto 27 = .ok (.iload_n 1, 1) := by decide +kernel
theorem dX1_creepInto_28 : decode cX1_creepInto 28 = .ok (.iaload, 1) := by decide +kernel
theorem dX1_creepInto_29 : decode cX1_creepInto 29 = .ok (.isub, 1) := by decide +kernel
theorem dX1_creepInto_30 : decode cX1_creepInto 30 = .ok (.istore_n 2, 1) := by decide +kernel
theorem dX1_creepInto_31 : decode cX1_creepInto 31 = .ok (.iload_n 2, 1) := by decide +kernel
theorem dX1_creepInto_32 : decode cX1_creepInto 32 = .ok (.ifCond .gt 5, 3) := by decide +kernel
theorem dX1_creepInto_35 : decode cX1_creepInto 35 = .ok (.iconst 0, 1) := by decide +kernel
theorem dX1_creepInto_36 : decode cX1_creepInto 36 = .ok (.ireturn, 1) := by decide +kernel
theorem dX1_creepInto_37 : decode cX1_creepInto 37 = .ok (.aload_n 0, 1) := by decide +kernel
theorem dX1_creepInto_38 : decode cX1_creepInto 38 = .ok (.getfield 15, 3) := by decide +kernel
theorem dX1_creepInto_41 : decode cX1_creepInto 41 = .ok (.iconst 3, 1) := by decide +kernel
theorem dX1_creepInto_42 : decode cX1_creepInto 42 = .ok (.if_icmp .ne 9, 3) := by decide +kernel
theorem dX1_creepInto_45 : decode cX1_creepInto 45 = .ok (.iload_n 2, 1) := by decide +kernel
theorem dX1_creepInto_46 : decode cX1_creepInto 46 = .ok (.iconst 2, 1) := by decide +kernel
theorem dX1_creepInto_47 : decode cX1_creepInto 47 = .ok (.idiv, 1) := by decide +kernel
theorem dX1_creepInto_48 : decode cX1_creepInto 48 = .ok (.goto 6, 3) := by decide +kernel
theorem dX1_creepInto_51 : decode cX1_creepInto 51 = .ok (.iload_n 2, 1) := by decide +kernel
theorem dX1_creepInto_52 : decode cX1_creepInto 52 = .ok (.iconst 4, 1) := by decide +kernel
theorem dX1_creepInto_53 : decode cX1_creepInto 53 = .ok (.idiv, 1) := by decide +kernel
theorem dX1_creepInto_54 : decode cX1_creepInto 54 = .ok (.ireturn, 1) := by decide +kernel
theorem dX1_holdsSoWet_0 : decode cX1_holdsSoWet 0 = .ok (.bipush 60, 2) := by decide +kernel
theorem dX1_holdsSoWet_2 : decode cX1_holdsSoWet 2 = .ok (.istore_n 2, 1) := by decide +kernel
theorem dX1_holdsSoWet_3 : decode cX1_holdsSoWet 3 = .ok (.aload_n 0, 1) := by decide +kernel
theorem dX1_holdsSoWet_4 : decode cX1_holdsSoWet 4 = .ok (.getfield 15, 3) := by decide +kernel
theorem dX1_holdsSoWet_7 : decode cX1_holdsSoWet 7 = .ok (.iconst 5, 1) := by decide +kernel
theorem dX1_holdsSoWet_8 : decode cX1_holdsSoWet 8 = .ok (.if_icmp .ne 9, 3) := by decide +kernel
theorem dX1_holdsSoWet_11 : decode cX1_holdsSoWet 11 = .ok (.iinc 2 40, 3) := by decide +kernel
theorem dX1_holdsSoWet_14 : decode cX1_holdsSoWet 14 = .ok (.goto 19, 3) := by decide +kernel
theorem dX1_holdsSoWet_17 : decode cX1_holdsSoWet 17 = .ok (.aload_n 0, 1) := by decide +kernel
theorem dX1_holdsSoWet_18 : decode cX1_holdsSoWet 18 = .ok (.getfield 15, 3) := by decide +kernel
theorem dX1_holdsSoWet_21 : decode cX1_holdsSoWet 21 = .ok (.bipush 6, 2) := by decide +kernel
theorem dX1_holdsSoWet_23 : decode cX1_holdsSoWet 23 = .ok (.if_icmp .ne 10, 3) := by decide +kernel
theorem dX1_holdsSoWet_26 : decode cX1_holdsSoWet 26 = .ok (.iload_n 2, 1) := by decide +kernel
theorem dX1_holdsSoWet_27 : decode cX1_holdsSoWet 27 = .ok (.aload_n 0, 1) := by decide +kernel
theorem dX1_holdsSoWet_28 : decode cX1_holdsSoWet 28 = .ok (.getfield 19, 3) := by decide +kernel
theorem dX1_holdsSoWet_31 : decode cX1_holdsSoWet 31 = .ok (.iadd, 1) := by decide +kernel
theorem dX1_holdsSoWet_32 : decode cX1_holdsSoWet 32 = .ok (.istore_n 2, 1) := by decide +kernel
theorem dX1_holdsSoWet_33 : decode cX1_holdsSoWet 33 = .ok (.iload_n 2, 1) := by decide +kernel
theorem dX1_holdsSoWet_34 : decode cX1_holdsSoWet 34 = .ok (.iload_n 1, 1) := by decide +kernel
theorem dX1_holdsSoWet_35 : decode cX1_holdsSoWet 35 = .ok (.isub, 1) := by decide +kernel
theorem dX1_holdsSoWet_36 : decode cX1_holdsSoWet 36 = .ok (.ireturn, 1) := by decide +kernel
theorem dX1_holdsAt_0 : decode cX1_holdsAt 0 = .ok (.aload_n 0, 1) := by decide +kernel
theorem dX1_holdsAt_1 : decode cX1_holdsAt 1 = .ok (.iload_n 1, 1) := by decide +kernel
theorem dX1_holdsAt_2 : decode cX1_holdsAt 2 = .ok (.invokevirtual 37, 3) := by decide +kernel
theorem dX1_holdsAt_5 : decode cX1_holdsAt 5 = .ok (.ifCond .eq 16, 3) := by decide +kernel
theorem dX1_holdsAt_8 : decode cX1_holdsAt 8 = .ok (.aload_n 0, 1) := by decide +kernel
theorem dX1_holdsAt_9 : decode cX1_holdsAt 9 = .ok (.aload_n 0, 1) := by decide +kernel
theorem dX1_holdsAt_10 : decode cX1_holdsAt 10 = .ok (.getfield 9, 3) := by decide +kernel
theorem dX1_holdsAt_13 : decode cX1_holdsAt 13 = .ok (.iload_n 1, 1) := by decide +kernel
theorem dX1_holdsAt_14 : decode cX1_holdsAt 14 = .ok (.iaload, 1) := by decide +kernel
theorem dX1_holdsAt_15 : decode cX1_holdsAt 15 = .ok (.invokevirtual 41, 3) := by decide +kernel
theorem dX1_holdsAt_18 : decode cX1_holdsAt 18 = .ok (.goto 4, 3) := by decide +kernel
theorem dX1_holdsAt_21 : decode cX1_holdsAt 21 = .ok (.iconst 0, 1) := by decide +kernel
theorem dX1_holdsAt_22 : decode cX1_holdsAt 22 = .ok (.ireturn, 1) := by decide +kernel
theorem dX1_hangsOn_0 : decode cX1_hangsOn 0 = .ok (.iconst 0, 1) := by decide +kernel
theorem dX1_hangsOn_1 : decode cX1_hangsOn 1 = .ok (.istore_n 2, 1) := by decide +kernel
theorem dX1_hangsOn_2 : decode cX1_hangsOn 2 = .ok (.iconst 0, 1) := by decide +kernel
theorem dX1_hangsOn_3 : decode cX1_hangsOn 3 = .ok (.istore_n 3, 1) := by decide +kernel
theorem dX1_hangsOn_4 : decode cX1_hangsOn 4 = .ok (.iload_n 3, 1) := by decide +kernel
theorem dX1_hangsOn_5 : decode cX1_hangsOn 5 = .ok (.iload_n 1, 1) := by decide +kernel
theorem dX1_hangsOn_6 : decode cX1_hangsOn 6 = .ok (.if_icmp .ge 31, 3) := by decide +kernel
theorem dX1_hangsOn_9 : decode cX1_hangsOn 9 = .ok (.iload_n 3, 1) := by decide +kernel
theorem dX1_hangsOn_10 : decode cX1_hangsOn 10 = .ok (.aload_n 0, 1) := by decide +kernel
theorem dX1_hangsOn_11 : decode cX1_hangsOn 11 = .ok (.getfield 22, 3) := by decide +kernel
theorem dX1_hangsOn_14 : decode cX1_hangsOn 14 = .ok (.if_icmp .ge 23, 3) := by decide +kernel
theorem dX1_hangsOn_17 : decode cX1_hangsOn 17 = .ok (.iload_n 2, 1) := by decide +kernel
theorem dX1_hangsOn_18 : decode cX1_hangsOn 18 = .ok (.iconst 1, 1) := by decide +kernel
theorem dX1_hangsOn_19 : decode cX1_hangsOn 19 = .ok (.aload_n 0, 1) := by decide +kernel
theorem dX1_hangsOn_20 : decode cX1_hangsOn 20 = .ok (.getfield 9, 3) := by decide +kernel
theorem dX1_hangsOn_23 : decode cX1_hangsOn 23 = .ok (.iload_n 3, 1) := by decide +kernel
theorem dX1_hangsOn_24 : decode cX1_hangsOn 24 = .ok (.iaload, 1) := by decide +kernel
theorem dX1_hangsOn_25 : decode cX1_hangsOn 25 = .ok (.bipush 20, 2) := by decide +kernel
theorem dX1_hangsOn_27 : decode cX1_hangsOn 27 = .ok (.idiv, 1) := by decide +kernel
theorem dX1_hangsOn_28 : decode cX1_hangsOn 28 = .ok (.iadd, 1) := by decide +kernel
theorem dX1_hangsOn_29 : decode cX1_hangsOn 29 = .ok (.iadd, 1) := by decide +kernel
theorem dX1_hangsOn_30 : decode cX1_hangsOn 30 = .ok (.istore_n 2, 1) := by decide +kernel
theorem dX1_hangsOn_31 : decode cX1_hangsOn 31 = .ok (.iinc 3 1, 3) := by decide +kernel
theorem dX1_hangsOn_34 : decode cX1_hangsOn 34 = .ok (.goto (-30), 3) := by decide +kernel
theorem dX1_hangsOn_37 : decode cX1_hangsOn 37 = .ok (.iload_n 2, 1) := by decide +kernel
theorem dX1_hangsOn_38 : decode cX1_hangsOn 38 = .ok (.ireturn, 1) := by decide +kernel
theorem dX1_breakingCell_0 : decode cX1_breakingCell 0 = .ok (.iconst 0, 1) := by decide +kernel
theorem dX1_breakingCell_1 : decode cX1_breakingCell 1 = .ok (.istore_n 1, 1) := by decide +kernel
theorem dX1_breakingCell_2 : decode cX1_breakingCell 2 = .ok (.iconst 1, 1) := by decide +kernel
theorem dX1_breakingCell_3 : decode cX1_breakingCell 3 = .ok (.istore_n 2, 1) := by decide +kernel
theorem dX1_breakingCell_4 : decode cX1_breakingCell 4 = .ok (.iload_n 2, 1) := by decide +kernel
theorem dX1_breakingCell_5 : decode cX1_breakingCell 5 = .ok (.aload_n 0, 1) := by decide +kernel
theorem dX1_breakingCell_6 : decode cX1_breakingCell 6 = .ok (.getfield 22, 3) := by decide +kernel
theorem dX1_breakingCell_9 : decode cX1_breakingCell 9 = .ok (.if_icmp .ge 41, 3) := by decide +kernel
theorem dX1_breakingCell_12 : decode cX1_breakingCell 12 = .ok (.iload_n 1, 1) := by decide +kernel
theorem dX1_breakingCell_13 : decode cX1_breakingCell 13 = .ok (.iconst 1, 1) := by decide +kernel
theorem dX1_breakingCell_14 : decode cX1_breakingCell 14 = .ok (.aload_n 0, 1) := by decide +kernel
theorem dX1_breakingCell_15 : decode cX1_breakingCell 15 = .ok (.getfield 9, 3) := by decide +kernel
theorem dX1_breakingCell_18 : decode cX1_breakingCell 18 = .ok (.iload_n 2, 1) := by decide +kernel
theorem dX1_breakingCell_19 : decode cX1_breakingCell 19 = .ok (.iconst 1, 1) := by decide +kernel
theorem dX1_breakingCell_20 : decode cX1_breakingCell 20 = .ok (.isub, 1) := by decide +kernel
theorem dX1_breakingCell_21 : decode cX1_breakingCell 21 = .ok (.iaload, 1) := by decide +kernel
theorem dX1_breakingCell_22 : decode cX1_breakingCell 22 = .ok (.bipush 20, 2) := by decide +kernel
theorem dX1_breakingCell_24 : decode cX1_breakingCell 24 = .ok (.idiv, 1) := by decide +kernel
theorem dX1_breakingCell_25 : decode cX1_breakingCell 25 = .ok (.iadd, 1) := by decide +kernel
theorem dX1_breakingCell_26 : decode cX1_breakingCell 26 = .ok (.iadd, 1) := by decide +kernel
theorem dX1_breakingCell_27 : decode cX1_breakingCell 27 = .ok (.istore_n 1, 1) := by decide +kernel
theorem dX1_breakingCell_28 : decode cX1_breakingCell 28 = .ok (.iload_n 1, 1) := by decide +kernel
theorem dX1_breakingCell_29 : decode cX1_breakingCell 29 = .ok (.aload_n 0, 1) := by decide +kernel
theorem dX1_breakingCell_30 : decode cX1_breakingCell 30 = .ok (.aload_n 0, 1) := by decide +kernel
theorem dX1_breakingCell_31 : decode cX1_breakingCell 31 = .ok (.getfield 9, 3) := by decide +kernel
theorem dX1_breakingCell_34 : decode cX1_breakingCell 34 = .ok (.iload_n 2, 1) := by decide +kernel
theorem dX1_breakingCell_35 : decode cX1_breakingCell 35 = .ok (.iaload, 1) := by decide +kernel
theorem dX1_breakingCell_36 : decode cX1_breakingCell 36 = .ok (.invokevirtual 41, 3) := by decide +kernel
theorem dX1_breakingCell_39 : decode cX1_breakingCell 39 = .ok (.if_icmp .le 5, 3) := by decide +kernel
theorem dX1_breakingCell_42 : decode cX1_breakingCell 42 = .ok (.iload_n 2, 1) := by decide +kernel
theorem dX1_breakingCell_43 : decode cX1_breakingCell 43 = .ok (.ireturn, 1) := by decide +kernel
theorem dX1_breakingCell_44 : decode cX1_breakingCell 44 = .ok (.iinc 2 1, 3) := by decide +kernel
theorem dX1_breakingCell_47 : decode cX1_breakingCell 47 = .ok (.goto (-43), 3) := by decide +kernel
theorem dX1_breakingCell_50 : decode cX1_breakingCell 50 = .ok (.iconst (-1), 1) := by decide +kernel
theorem dX1_breakingCell_51 : decode cX1_breakingCell 51 = .ok (.ireturn, 1) := by decide +kernel
theorem dX1_loseBelow_0 : decode cX1_loseBelow 0 = .ok (.aload_n 0, 1) := by decide +kernel
theorem dX1_loseBelow_1 : decode cX1_loseBelow 1 = .ok (.iload_n 1, 1) := by decide +kernel
theorem dX1_loseBelow_2 : decode cX1_loseBelow 2 = .ok (.invokevirtual 37, 3) := by decide +kernel
theorem dX1_loseBelow_5 : decode cX1_loseBelow 5 = .ok (.ifCond .ne 4, 3) := by decide +kernel
theorem dX1_loseBelow_8 : decode cX1_loseBelow 8 = .ok (.return_, 1) := by decide +kernel
theorem dX1_loseBelow_9 : decode cX1_loseBelow 9 = .ok (.aload_n 0, 1) := by decide +kernel
theorem dX1_loseBelow_10 : decode cX1_loseBelow 10 = .ok (.dup, 1) := by decide +kernel
theorem dX1_loseBelow_11 : decode cX1_loseBelow 11 = .ok (.getfield 22, 3) := by decide +kernel
theorem dX1_loseBelow_14 : decode cX1_loseBelow 14 = .ok (.iload_n 1, 1) := by decide +kernel
theorem dX1_loseBelow_15 : decode cX1_loseBelow 15 = .ok (.isub, 1) := by decide +kernel
theorem dX1_loseBelow_16 : decode cX1_loseBelow 16 = .ok (.putfield 22, 3) := by decide +kernel
theorem dX1_loseBelow_19 : decode cX1_loseBelow 19 = .ok (.aload_n 0, 1) := by decide +kernel
theorem dX1_loseBelow_20 : decode cX1_loseBelow 20 = .ok (.getfield 9, 3) := by decide +kernel
theorem dX1_loseBelow_23 : decode cX1_loseBelow 23 = .ok (.iload_n 1, 1) := by decide +kernel
theorem dX1_loseBelow_24 : decode cX1_loseBelow 24 = .ok (.aload_n 0, 1) := by decide +kernel
theorem dX1_loseBelow_25 : decode cX1_loseBelow 25 = .ok (.getfield 9, 3) := by decide +kernel
theorem dX1_loseBelow_28 : decode cX1_loseBelow 28 = .ok (.iconst 0, 1) := by decide +kernel
theorem dX1_loseBelow_29 : decode cX1_loseBelow 29 = .ok (.aload_n 0, 1) := by decide +kernel
theorem dX1_loseBelow_30 : decode cX1_loseBelow 30 = .ok (.getfield 22, 3) := by decide +kernel
theorem dX1_loseBelow_33 : decode cX1_loseBelow 33 = .ok (.invokestatic 25, 3) := by decide +kernel
theorem dX1_loseBelow_36 : decode cX1_loseBelow 36 = .ok (.return_, 1) := by decide +kernel
theorem dX1_turnAbout_0 : decode cX1_turnAbout 0 = .ok (.iconst 0, 1) := by decide +kernel
theorem dX1_turnAbout_1 : decode cX1_turnAbout 1 = .ok (.istore_n 1, 1) := by decide +kernel
theorem dX1_turnAbout_2 : decode cX1_turnAbout 2 = .ok (.iload_n 1, 1) := by decide +kernel
theorem dX1_turnAbout_3 : decode cX1_turnAbout 3 = .ok (.aload_n 0, 1) := by decide +kernel
theorem dX1_turnAbout_4 : decode cX1_turnAbout 4 = .ok (.getfield 22, 3) := by decide +kernel
theorem dX1_turnAbout_7 : decode cX1_turnAbout 7 = .ok (.iconst 2, 1) := by decide +kernel
theorem dX1_turnAbout_8 : decode cX1_turnAbout 8 = .ok (.idiv, 1) := by decide +kernel
theorem dX1_turnAbout_9 : decode cX1_turnAbout 9 = .ok (.if_icmp .ge 44, 3) := by decide +kernel
theorem dX1_turnAbout_12 : decode cX1_turnAbout 12 = .ok (.aload_n 0, 1) := by decide +kernel
theorem dX1_turnAbout_13 : decode cX1_turnAbout 13 = .ok (.getfield 22, 3) := by decide +kernel
theorem dX1_turnAbout_16 : decode cX1_turnAbout 16 = .ok (.iconst 1, 1) := by decide +kernel
theorem dX1_turnAbout_17 : decode cX1_turnAbout 17 = .ok (.isub, 1) := by decide +kernel
theorem dX1_turnAbout_18 : decode cX1_turnAbout 18 = .ok (.iload_n 1, 1) := by decide +kernel
theorem dX1_turnAbout_19 : decode cX1_turnAbout 19 = .ok (.isub, 1) := by decide +kernel
theorem dX1_turnAbout_20 : decode cX1_turnAbout 20 = .ok (.istore_n 2, 1) := by decide +kernel
theorem dX1_turnAbout_21 : decode cX1_turnAbout 21 = .ok (.aload_n 0, 1) := by decide +kernel
theorem dX1_turnAbout_22 : decode cX1_turnAbout 22 = .ok (.getfield 9, 3) := by decide +kernel
theorem dX1_turnAbout_25 : decode cX1_turnAbout 25 = .ok (.iload_n 1, 1) := by decide +kernel
theorem dX1_turnAbout_26 : decode cX1_turnAbout 26 = .ok (.iaload, 1) := by decide +kernel
theorem dX1_turnAbout_27 : decode cX1_turnAbout 27 = .ok (.istore_n 3, 1) := by decide +kernel
theorem dX1_turnAbout_28 : decode cX1_turnAbout 28 = .ok (.aload_n 0, 1) := by decide +kernel
theorem dX1_turnAbout_29 : decode cX1_turnAbout 29 = .ok (.getfield 9, 3) := by decide +kernel
theorem dX1_turnAbout_32 : decode cX1_turnAbout 32 = .ok (.iload_n 1, 1) := by decide +kernel
theorem dX1_turnAbout_33 : decode cX1_turnAbout 33 = .ok (.aload_n 0, 1) := by decide +kernel
theorem dX1_turnAbout_34 : decode cX1_turnAbout 34 = .ok (.getfield 9, 3) := by decide +kernel
theorem dX1_turnAbout_37 : decode cX1_turnAbout 37 = .ok (.iload_n 2, 1) := by decide +kernel
theorem dX1_turnAbout_38 : decode cX1_turnAbout 38 = .ok (.iaload, 1) := by decide +kernel
theorem dX1_turnAbout_39 : decode cX1_turnAbout 39 = .ok (.iastore, 1) := by decide +kernel
theorem dX1_turnAbout_40 : decode cX1_turnAbout 40 = .ok (.aload_n 0, 1) := by decide +kernel
theorem dX1_turnAbout_41 : decode cX1_turnAbout 41 = .ok (.getfield 9, 3) := by decide +kernel
theorem dX1_turnAbout_44 : decode cX1_turnAbout 44 = .ok (.iload_n 2, 1) := by decide +kernel
theorem dX1_turnAbout_45 : decode cX1_turnAbout 45 = .ok (.iload_n 3, 1) := by decide +kernel
theorem dX1_turnAbout_46 : decode cX1_turnAbout 46 = .ok (.iastore, 1) := by decide +kernel
theorem dX1_turnAbout_47 : decode cX1_turnAbout 47 = .ok (.iinc 1 1, 3) := by decide +kernel
theorem dX1_turnAbout_50 : decode cX1_turnAbout 50 = .ok (.goto (-48), 3) := by decide +kernel
theorem dX1_turnAbout_53 : decode cX1_turnAbout 53 = .ok (.return_, 1) := by decide +kernel
theorem dX2_init_0 : decode cX2_init 0 = .ok (.aload_n 0, 1) := by decide +kernel
theorem dX2_init_1 : decode cX2_init 1 = .ok (.invokespecial 3, 3) := by decide +kernel
theorem dX2_init_4 : decode cX2_init 4 = .ok (.aload_n 0, 1) := by decide +kernel
theorem dX2_init_5 : decode cX2_init 5 = .ok (.new 9, 3) := by decide +kernel
theorem dX2_init_8 : decode cX2_init 8 = .ok (.dup, 1) := by decide +kernel
theorem dX2_init_9 : decode cX2_init 9 = .ok (.invokespecial 11, 3) := by decide +kernel
theorem dX2_init_12 : decode cX2_init 12 = .ok (.putfield 12, 3) := by decide +kernel
theorem dX2_init_15 : decode cX2_init 15 = .ok (.return_, 1) := by decide +kernel
theorem dX2_begin_0 : decode cX2_begin 0 = .ok (.aload_n 0, 1) := by decide +kernel
theorem dX2_begin_1 : decode cX2_begin 1 = .ok (.getfield 12, 3) := by decide +kernel
theorem dX2_begin_4 : decode cX2_begin 4 = .ok (.aload_n 1, 1) := by decide +kernel
theorem dX2_begin_5 : decode cX2_begin 5 = .ok (.invokevirtual 18, 3) := by decide +kernel
theorem dX2_begin_8 : decode cX2_begin 8 = .ok (.aload_n 0, 1) := by decide +kernel
theorem dX2_begin_9 : decode cX2_begin 9 = .ok (.iload_n 2, 1) := by decide +kernel
theorem dX2_begin_10 : decode cX2_begin 10 = .ok (.putfield 22, 3) := by decide +kernel
theorem dX2_begin_13 : decode cX2_begin 13 = .ok (.aload_n 0, 1) := by decide +kernel
theorem dX2_begin_14 : decode cX2_begin 14 = .ok (.iconst 0, 1) := by decide +kernel
theorem dX2_begin_15 : decode cX2_begin 15 = .ok (.putfield 26, 3) := by decide +kernel
theorem dX2_begin_18 : decode cX2_begin 18 = .ok (.aload_n 0, 1) := by decide +kernel
theorem dX2_begin_19 : decode cX2_begin 19 = .ok (.iconst 0, 1) := by decide +kernel
theorem dX2_begin_20 : decode cX2_begin 20 = .ok (.putfield 29, 3) := by decide +kernel
theorem dX2_begin_23 : decode cX2_begin 23 = .ok (.aload_n 0, 1) := by decide +kernel
theorem dX2_begin_24 : decode cX2_begin 24 = .ok (.iconst (-1), 1) := by decide +kernel
theorem dX2_begin_25 : decode cX2_begin 25 = .ok (.putfield 32, 3) := by decide +kernel
theorem dX2_begin_28 : decode cX2_begin 28 = .ok (.aload_n 0, 1) := by decide +kernel
theorem dX2_begin_29 : decode cX2_begin 29 = .ok (.iconst 0, 1) := by decide +kernel
theorem dX2_begin_30 : decode cX2_begin 30 = .ok (.putfield 35, 3) := by decide +kernel
theorem dX2_begin_33 : decode cX2_begin 33 = .ok (.aload_n 0, 1) := by decide +kernel
theorem dX2_begin_34 : decode cX2_begin 34 = .ok (.iconst 0, 1) := by decide +kernel
theorem dX2_begin_35 : decode cX2_begin 35 = .ok (.putfield 38, 3) := by decide +kernel
theorem dX2_begin_38 : decode cX2_begin 38 = .ok (.return_, 1) := by decide +kernel
theorem dX2_beginDry_0 : decode cX2_beginDry 0 = .ok (.aload_n 0, 1) := by decide +kernel
theorem dX2_beginDry_1 : decode cX2_beginDry 1 = .ok (.aload_n 1, 1) := by decide +kernel
theorem dX2_beginDry_2 : decode cX2_beginDry 2 = .ok (.iload_n 2, 1) := by decide +kernel
theorem dX2_beginDry_3 : decode cX2_beginDry 3 = .ok (.invokevirtual 41, 3) := by decide +kernel
theorem dX2_beginDry_6 : decode cX2_beginDry 6 = .ok (.aload_n 0, 1) := by decide +kernel
theorem dX2_beginDry_7 : decode cX2_beginDry 7 = .ok (.getfield 12, 3) := by decide +kernel
theorem dX2_beginDry_10 : decode cX2_beginDry 10 = .ok (.invokevirtual 45, 3) := by decide +kernel
theorem dX2_beginDry_13 : decode cX2_beginDry 13 = .ok (.return_, 1) := by decide +kernel
theorem dX2_goOnFrom_0 : decode cX2_goOnFrom 0 = .ok (.aload_n 0, 1) := by decide +kernel
theorem dX2_goOnFrom_1 : decode cX2_goOnFrom 1 = .ok (.getfield 12, 3) := by decide +kernel
theorem dX2_goOnFrom_4 : decode cX2_goOnFrom 4 = .ok (.aload_n 1, 1) := by decide +kernel
theorem dX2_goOnFrom_5 : decode cX2_goOnFrom 5 = .ok (.getfield 12, 3) := by decide +kernel
theorem dX2_goOnFrom_8 : decode cX2_goOnFrom 8 = .ok (.invokevirtual 18, 3) := by decide +kernel
theorem dX2_goOnFrom_11 : decode cX2_goOnFrom 11 = .ok (.aload_n 0, 1) := by decide +kernel
theorem dX2_goOnFrom_12 : decode cX2_goOnFrom 12 = .ok (.aload_n 1, 1) := by decide +kernel
theorem dX2_goOnFrom_13 : decode cX2_goOnFrom 13 = .ok (.getfield 22, 3) := by decide +kernel
theorem dX2_goOnFrom_16 : decode cX2_goOnFrom 16 = .ok (.putfield 22, 3) := by decide +kernel
theorem dX2_goOnFrom_19 : decode cX2_goOnFrom 19 = .ok (.aload_n 0, 1) := by decide +kernel
theorem dX2_goOnFrom_20 : decode cX2_goOnFrom 20 = .ok (.aload_n 1, 1) := by decide +kernel
theorem dX2_goOnFrom_21 : decode cX2_goOnFrom 21 = .ok (.getfield 26, 3) := by decide +kernel
theorem dX2_goOnFrom_24 : decode cX2_goOnFrom 24 = .ok (.putfield 26, 3) := by decide +kernel
theorem dX2_goOnFrom_27 : decode cX2_goOnFrom 27 = .ok (.aload_n 0, 1) := by decide +kernel
theorem dX2_goOnFrom_28 : decode cX2_goOnFrom 28 = .ok (.aload_n 1, 1) := by decide +kernel
theorem dX2_goOnFrom_29 : decode cX2_goOnFrom 29 = .ok (.getfield 29, 3) := by decide +kernel
theorem dX2_goOnFrom_32 : decode cX2_goOnFrom 32 = .ok (.putfield 29, 3) := by decide +kernel
theorem dX2_goOnFrom_35 : decode cX2_goOnFrom 35 = .ok (.aload_n 0, 1) := by decide +kernel
theorem dX2_goOnFrom_36 : decode cX2_goOnFrom 36 = .ok (.aload_n 1, 1) := by decide +kernel
theorem dX2_goOnFrom_37 : decode cX2_goOnFrom 37 = .ok (.getfield 32, 3) := by decide +kernel
theorem dX2_goOnFrom_40 : decode cX2_goOnFrom 40 = .ok (.putfield 32, 3) := by decide +kernel
theorem dX2_goOnFrom_43 : decode cX2_goOnFrom 43 = .ok (.aload_n 0, 1) := by decide +kernel
theorem dX2_goOnFrom_44 : decode cX2_goOnFrom 44 = .ok (.aload_n 1, 1) := by decide +kernel
theorem dX2_goOnFrom_45 : decode cX2_goOnFrom 45 = .ok (.getfield 35, 3) := by decide +kernel
theorem dX2_goOnFrom_48 : decode cX2_goOnFrom 48 = .ok (.putfield 35, 3) := by decide +kernel
theorem dX2_goOnFrom_51 : decode cX2_goOnFrom 51 = .ok (.aload_n 0, 1) := by decide +kernel
theorem dX2_goOnFrom_52 : decode cX2_goOnFrom 52 = .ok (.aload_n 1, 1) := by decide +kernel
theorem dX2_goOnFrom_53 : decode cX2_goOnFrom 53 = .ok (.getfield 38, 3) := by decide +kernel
theorem dX2_goOnFrom_56 : decode cX2_goOnFrom 56 = .ok (.putfield 38, 3) := by decide +kernel
theorem dX2_goOnFrom_59 : decode cX2_goOnFrom 59 = .ok (.return_, 1) := by decide +kernel
theorem dX2_isWhole_0 : decode cX2_isWhole 0 = .ok (.aload_n 0, 1) := by decide +kernel
theorem dX2_isWhole_1 : decode cX2_isWhole 1 = .ok (.getfield 35, 3) := by decide +kernel
theorem dX2_isWhole_4 : decode cX2_isWhole 4 = .ok (.ifCond .ne 7, 3) := by decide +kernel
theorem dX2_isWhole_7 : decode cX2_isWhole 7 = .ok (.iconst 1, 1) := by decide +kernel
theorem dX2_isWhole_8 : decode cX2_isWhole 8 = .ok (.goto 4, 3) := by decide +kernel
theorem dX2_isWhole_11 : decode cX2_isWhole 11 = .ok (.iconst 0, 1) := by decide +kernel
theorem dX2_isWhole_12 : decode cX2_isWhole 12 = .ok (.ireturn, 1) := by decide +kernel
theorem dX2_enter_0 : decode cX2_enter 0 = .ok (.aload_n 0, 1) := by decide +kernel
theorem dX2_enter_1 : decode cX2_enter 1 = .ok (.iload_n 1, 1) := by decide +kernel
theorem dX2_enter_2 : decode cX2_enter 2 = .ok (.aload_n 0, 1) := by decide +kernel
theorem dX2_enter_3 : decode cX2_enter 3 = .ok (.getfield 12, 3) := by decide +kernel
theorem dX2_enter_6 : decode cX2_enter 6 = .ok (.getfield 48, 3) := by decide +kernel
theorem dX2_enter_9 : decode cX2_enter 9 = .ok (.invokestatic 51, 3) := by decide +kernel
theorem dX2_enter_12 : decode cX2_enter 12 = .ok (.putfield 26, 3) := by decide +kernel
theorem dX2_enter_15 : decode cX2_enter 15 = .ok (.return_, 1) := by decide +kernel
theorem dX2_stay_0 : decode cX2_stay 0 = .ok (.aload_n 0, 1) := by decide +kernel
theorem dX2_stay_1 : decode cX2_stay 1 = .ok (.iload_n 1, 1) := by decide +kernel
theorem dX2_stay_2 : decode cX2_stay 2 = .ok (.invokevirtual 57, 3) := by decide +kernel
theorem dX2_stay_5 : decode cX2_stay 5 = .ok (.aload_n 0, 1) := by decide +kernel
theorem dX2_stay_6 : decode cX2_stay 6 = .ok (.getfield 29, 3) := by decide +kernel
theorem dX2_stay_9 : decode cX2_stay 9 = .ok (.iload_n 2, 1) := by decide +kernel
theorem dX2_stay_10 : decode cX2_stay 10 = .ok (.iadd, 1) := by decide +kernel
theorem dX2_stay_11 : decode cX2_stay 11 = .ok (.istore_n 3, 1) := by decide +kernel
theorem dX2_stay_12 : decode cX2_stay 12 = .ok (.iconst 1, 1) := by decide +kernel
theorem dX2_stay_13 : decode cX2_stay 13 = .ok (.istore 4, 2) := by decide +kernel
theorem dX2_stay_15 : decode cX2_stay 15 = .ok (.iconst 0, 1) := by decide +kernel
theorem dX2_stay_16 : decode cX2_stay 16 = .ok (.istore 5, 2) := by decide +kernel
theorem dX2_stay_18 : decode cX2_stay 18 = .ok (.iload 5, 2) := by decide +kernel
theorem dX2_stay_20 : decode cX2_stay 20 = .ok (.iload_n 2, 1) := by decide +kernel
theorem dX2_stay_21 : decode cX2_stay 21 = .ok (.if_icmp .ge 20, 3) := by decide +kernel
theorem dX2_stay_24 : decode cX2_stay 24 = .ok (.iload 4, 2) := by decide +kernel
theorem dX2_stay_26 : decode cX2_stay 26 = .ok (.ifCond .eq 15, 3) := by decide +kernel
theorem dX2_stay_29 : decode cX2_stay 29 = .ok (.aload_n 0, 1) := by decide +kernel
theorem dX2_stay_30 : decode cX2_stay 30 = .ok (.invokevirtual 61, 3) := by decide +kernel
theorem dX2_stay_33 : decode cX2_stay 33 = .ok (.istore 4, 2) := by decide +kernel
theorem dX2_stay_35 : decode cX2_stay 35 = .ok (.iinc 5 1, 3) := by decide +kernel
theorem dX2_stay_38 : decode cX2_stay 38 = .ok (.goto (-20), 3) := by decide +kernel
theorem dX2_stay_41 : decode cX2_stay 41 = .ok (.aload_n 0, 1) := by decide +kernel
theorem dX2_stay_42 : decode cX2_stay 42 = .ok (.iload_n 3, 1) := by decide +kernel
theorem dX2_stay_43 : decode cX2_stay 43 = .ok (.putfield 29, 3) := by decide +kernel
theorem dX2_stay_46 : decode cX2_stay 46 = .ok (.return_, 1) := by decide +kernel
theorem dX2_second_0 : decode cX2_second 0 = .ok (.iconst 0, 1) := by decide +kernel
theorem dX2_second_1 : decode cX2_second 1 = .ok (.istore_n 1, 1) := by decide +kernel
theorem dX2_second_2 : decode cX2_second 2 = .ok (.aload_n 0, 1) := by decide +kernel
theorem dX2_second_3 : decode cX2_second 3 = .ok (.getfield 12, 3) := by decide +kernel
theorem dX2_second_6 : decode cX2_second 6 = .ok (.getfield 48, 3) := by decide +kernel
theorem dX2_second_9 : decode cX2_second 9 = .ok (.iconst 1, 1) := by decide +kernel
theorem dX2_second_10 : decode cX2_second 10 = .ok (.isub, 1) := by decide +kernel
theorem dX2_second_11 : decode cX2_second 11 = .ok (.istore_n 2, 1) := by decide +kernel
theorem dX2_second_12 : decode cX2_second 12 = .ok (.iload_n 2, 1) := by decide +kernel
theorem dX2_second_13 : decode cX2_second 13 = .ok (.ifCond .lt 112, 3) := by decide +kernel
theorem dX2_second_16 : decode cX2_second 16 = .ok (.aload_n 0, 1) := by decide +kernel
theorem dX2_second_17 : decode cX2_second 17 = .ok (.getfield 12, 3) := by decide +kernel
theorem dX2_second_20 : decode cX2_second 20 = .ok (.getfield 65, 3) := by decide +kernel
theorem dX2_second_23 : decode cX2_second 23 = .ok (.iload_n 2, 1) := by decide +kernel
theorem dX2_second_24 : decode cX2_second 24 = .ok (.iaload, 1) := by decide +kernel
theorem dX2_second_25 : decode cX2_second 25 = .ok (.istore_n 3, 1) := by decide +kernel
theorem dX2_second_26 : decode cX2_second 26 = .ok (.iload_n 2, 1) := by decide +kernel
theorem dX2_second_27 : decode cX2_second 27 = .ok (.aload_n 0, 1) := by decide +kernel
theorem dX2_second_28 : decode cX2_second 28 = .ok (.getfield 26, 3) := by decide +kernel
theorem dX2_second_31 : decode cX2_second 31 = .ok (.if_icmp .ge 7, 3) := by decide +kernel
theorem dX2_second_34 : decode cX2_second 34 = .ok (.iconst 1, 1) := by decide +kernel
theorem dX2_second_35 : decode cX2_second 35 = .ok (.goto 4, 3) := by decide +kernel
theorem dX2_second_38 : decode cX2_second 38 = .ok (.iconst 0, 1) := by decide +kernel
theorem dX2_second_39 : decode cX2_second 39 = .ok (.istore 4, 2) := by decide +kernel
theorem dX2_second_41 : decode cX2_second 41 = .ok (.iload 4, 2) := by decide +kernel
theorem dX2_second_43 : decode cX2_second 43 = .ok (.ifCond .eq 18, 3) := by decide +kernel
theorem dX2_second_46 : decode cX2_second 46 = .ok (.aload_n 0, 1) := by decide +kernel
theorem dX2_second_47 : decode cX2_second 47 = .ok (.getfield 12, 3) := by decide +kernel
theorem dX2_second_50 : decode cX2_second 50 = .ok (.iload_n 2, 1) := by decide +kernel
theorem dX2_second_51 : decode cX2_second 51 = .ok (.aload_n 0, 1) := by decide +kernel
theorem dX2_second_52 : decode cX2_second 52 = .ok (.getfield 22, 3) := by decide +kernel
theorem dX2_second_55 : decode cX2_second 55 = .ok (.invokevirtual 69, 3) := by decide +kernel
theorem dX2_second_58 : decode cX2_second 58 = .ok (.goto 11, 3) := by decide +kernel
theorem dX2_second_61 : decode cX2_second 61 = .ok (.aload_n 0, 1) := by decide +kernel
theorem dX2_second_62 : decode cX2_second 62 = .ok (.getfield 12, 3) := by decide +kernel
theorem dX2_second_65 : decode cX2_second 65 = .ok (.iload_n 2, 1) := by decide +kernel
theorem dX2_second_66 : decode cX2_second 66 = .ok (.invokevirtual 72, 3) := by decide +kernel
theorem dX2_second_69 : decode cX2_second 69 = .ok (.istore 5, 2) := by decide +kernel
theorem dX2_second_71 : decode cX2_second 71 = .ok (.bipush 99, 2) := by decide +kernel
theorem dX2_second_73 : decode cX2_second 73 = .ok (.iload_n 3, 1) := by decide +kernel
theorem dX2_second_74 : decode cX2_second 74 = .ok (.iload 5, 2) := by decide +kernel
theorem dX2_second_76 : decode cX2_second 76 = .ok (.iadd, 1) := by decide +kernel
theorem dX2_second_77 : decode cX2_second 77 = .ok (.invokestatic 51, 3) := by decide +kernel
theorem dX2_second_80 : decode cX2_second 80 = .ok (.istore 6, 2) := by decide +kernel
theorem dX2_second_82 : decode cX2_second 82 = .ok (.iload 4, 2) := by decide +kernel
theorem dX2_second_84 : decode cX2_second 84 = .ok (.ifCond .eq 16, 3) := by decide +kernel
theorem dX2_second_87 : decode cX2_second 87 = .ok (.aload_n 0, 1) := by decide +kernel
theorem dX2_second_88 : decode cX2_second 88 = .ok (.dup, 1) := by decide +kernel
theorem dX2_second_89 : decode cX2_second 89 = .ok (.getfield 38, 3) := by decide +kernel
theorem dX2_second_92 : decode cX2_second 92 = .ok (.iload 6, 2) := by decide +kernel
theorem dX2_second_94 : decode cX2_second 94 = .ok (.iload_n 3, 1) := by decide +kernel
theorem dX2_second_95 : decode cX2_second 95 = .ok (.isub, 1) := by decide +kernel
theorem dX2_second_96 : decode cX2_second 96 = .ok (.iadd, 1) := by decide +kernel
theorem dX2_second_97 : decode cX2_second 97 = .ok (.putfield 38, 3) := by decide +kernel
theorem dX2_second_100 : decode cX2_second 100 = .ok (.iload 6, 2) := by decide +kernel
theorem dX2_second_102 : decode cX2_second 102 = .ok (.iload_n 3, 1) := by decide +kernel
theorem dX2_second_103 : decode cX2_second 103 = .ok (.if_icmp .eq 5, 3) := by decide +kernel
theorem dX2_second_106 : decode cX2_second 106 = .ok (.iconst 1, 1) := by decide +kernel
theorem dX2_second_107 : decode cX2_second 107 = .ok (.istore_n 1, 1) := by decide +kernel
theorem dX2_second_108 : decode cX2_second 108 = .ok (.aload_n 0, 1) := by decide +kernel
theorem dX2_second_109 : decode cX2_second 109 = .ok (.getfield 12, 3) := by decide +kernel
theorem dX2_second_112 : decode cX2_second 112 = .ok (.getfield 65, 3) := by decide +kernel
theorem dX2_second_115 : decode cX2_second 115 = .ok (.iload_n 2, 1) := by decide +kernel
theorem dX2_second_116 : decode cX2_second 116 = .ok (.iload 6, 2) := by decide +kernel
theorem dX2_second_118 : decode cX2_second 118 = .ok (.iastore, 1) := by decide +kernel
theorem dX2_second_119 : decode cX2_second 119 = .ok (.iinc 2 (-1), 3) := by decide +kernel
theorem dX2_second_122 : decode cX2_second 122 = .ok (.goto (-110), 3) := by decide +kernel
theorem dX2_second_125 : decode cX2_second 125 = .ok (.aload_n 0, 1) := by decide +kernel
theorem dX2_second_126 : decode cX2_second 126 = .ok (.dup, 1) := by decide +kernel
theorem dX2_second_127 : decode cX2_second 127 = .ok (.getfield 29, 3) := by decide +kernel
theorem dX2_second_130 : decode cX2_second 130 = .ok (.iconst 1, 1) := by decide +kernel
theorem dX2_second_131 : decode cX2_second 131 = .ok (.iadd, 1) := by decide +kernel
theorem dX2_second_132 : decode cX2_second 132 = .ok (.putfield 29, 3) := by decide +kernel
theorem dX2_second_135 : decode cX2_second 135 = .ok (.aload_n 0, 1) := by decide +kernel
theorem dX2_second_136 : decode cX2_second 136 = .ok (.getfield 12, 3) := by decide +kernel
theorem dX2_second_139 : decode cX2_second 139 = .ok (.invokevirtual 76, 3) := by decide +kernel
theorem dX2_second_142 : decode cX2_second 142 = .ok (.istore_n 2, 1) := by decide +kernel
theorem dX2_second_143 : decode cX2_second 143 = .ok (.iload_n 2, 1) := by decide +kernel
theorem dX2_second_144 : decode cX2_second 144 = .ok (.iconst (-1), 1) := by decide +kernel
theorem dX2_second_145 : decode cX2_second 145 = .ok (.if_icmp .ne 5, 3) := by decide +kernel
theorem dX2_second_148 : decode cX2_second 148 = .ok (.iload_n 1, 1) := by decide +kernel
theorem dX2_second_149 : decode cX2_second 149 = .ok (.ireturn, 1) := by decide +kernel
theorem dX2_second_150 : decode cX2_second 150 = .ok (.aload_n 0, 1) := by decide +kernel
theorem dX2_second_151 : decode cX2_second 151 = .ok (.getfield 12, 3) := by decide +kernel
theorem dX2_second_154 : decode cX2_second 154 = .ok (.iload_n 2, 1) := by decide +kernel
theorem dX2_second_155 : decode cX2_second 155 = .ok (.invokevirtual 80, 3) := by decide +kernel
theorem dX2_second_158 : decode cX2_second 158 = .ok (.aload_n 0, 1) := by decide +kernel
theorem dX2_second_159 : decode cX2_second 159 = .ok (.iconst 0, 1) := by decide +kernel
theorem dX2_second_160 : decode cX2_second 160 = .ok (.aload_n 0, 1) := by decide +kernel
theorem dX2_second_161 : decode cX2_second 161 = .ok (.getfield 26, 3) := by decide +kernel
theorem dX2_second_164 : decode cX2_second 164 = .ok (.iload_n 2, 1) := by decide +kernel
theorem dX2_second_165 : decode cX2_second 165 = .ok (.isub, 1) := by decide +kernel
theorem dX2_second_166 : decode cX2_second 166 = .ok (.invokestatic 83, 3) := by decide +kernel
theorem dX2_second_169 : decode cX2_second 169 = .ok (.putfield 26, 3) := by decide +kernel
theorem dX2_second_172 : decode cX2_second 172 = .ok (.aload_n 0, 1) := by decide +kernel
theorem dX2_second_173 : decode cX2_second 173 = .ok (.dup, 1) := by decide +kernel
theorem dX2_second_174 : decode cX2_second 174 = .ok (.getfield 35, 3) := by decide +kernel
theorem dX2_second_177 : decode cX2_second 177 = .ok (.iload_n 2, 1) := by decide +kernel
theorem dX2_second_178 : decode cX2_second 178 = .ok (.iadd, 1) := by decide +kernel
theorem dX2_second_179 : decode cX2_second 179 = .ok (.putfield 35, 3) := by decide +kernel
theorem dX2_second_182 : decode cX2_second 182 = .ok (.aload_n 0, 1) := by decide +kernel
theorem dX2_second_183 : decode cX2_second 183 = .ok (.getfield 32, 3) := by decide +kernel
theorem dX2_second_186 : decode cX2_second 186 = .ok (.iconst (-1), 1) := by decide +kernel
theorem dX2_second_187 : decode cX2_second 187 = .ok (.if_icmp .ne 11, 3) := by decide +kernel
theorem dX2_second_190 : decode cX2_second 190 = .ok (.aload_n 0, 1) := by decide +kernel
theorem dX2_second_191 : decode cX2_second 191 = .ok (.aload_n 0, 1) := by decide +kernel
theorem dX2_second_192 : decode cX2_second 192 = .ok (.getfield 29, 3) := by decide +kernel
theorem dX2_second_195 : decode cX2_second 195 = .ok (.putfield 32, 3) := by decide +kernel
theorem dX2_second_198 : decode cX2_second 198 = .ok (.iconst 1, 1) := by decide +kernel
theorem dX2_second_199 : decode cX2_second 199 = .ok (.ireturn, 1) := by decide +kernel
theorem dX3_init_0 : decode cX3_init 0 = .ok (.aload_n 0, 1) := by decide +kernel
theorem dX3_init_1 : decode cX3_init 1 = .ok (.invokespecial 3, 3) := by decide +kernel
theorem dX3_init_4 : decode cX3_init 4 = .ok (.aload_n 0, 1) := by decide +kernel
theorem dX3_init_5 : decode cX3_init 5 = .ok (.sipush 160, 3) := by decide +kernel
theorem dX3_init_8 : decode cX3_init 8 = .ok (.newarray .int, 2) := by decide +kernel
theorem dX3_init_10 : decode cX3_init 10 = .ok (.putfield 9, 3) := by decide +kernel
theorem dX3_init_13 : decode cX3_init 13 = .ok (.aload_n 0, 1) := by decide +kernel
theorem dX3_init_14 : decode cX3_init 14 = .ok (.iconst 3, 1) := by decide +kernel
theorem dX3_init_15 : decode cX3_init 15 = .ok (.newarray .int, 2) := by decide +kernel
theorem dX3_init_17 : decode cX3_init 17 = .ok (.putfield 15, 3) := by decide +kernel
theorem dX3_init_20 : decode cX3_init 20 = .ok (.aload_n 0, 1) := by decide +kernel
theorem dX3_init_21 : decode cX3_init 21 = .ok (.iconst (-1), 1) := by decide +kernel
theorem dX3_init_22 : decode cX3_init 22 = .ok (.putfield 18, 3) := by decide +kernel
theorem dX3_init_25 : decode cX3_init 25 = .ok (.aload_n 0, 1) := by decide +kernel
theorem dX3_init_26 : decode cX3_init 26 = .ok (.aload_n 1, 1) := by decide +kernel
theorem dX3_init_27 : decode cX3_init 27 = .ok (.putfield 22, 3) := by decide +kernel
theorem dX3_init_30 : decode cX3_init 30 = .ok (.aload_n 0, 1) := by decide +kernel
theorem dX3_init_31 : decode cX3_init 31 = .ok (.aload_n 2, 1) := by decide +kernel
theorem dX3_init_32 : decode cX3_init 32 = .ok (.putfield 26, 3) := by decide +kernel
theorem dX3_init_35 : decode cX3_init 35 = .ok (.return_, 1) := by decide +kernel
theorem dX3_read_0 : decode cX3_read 0 = .ok (.iconst 0, 1) := by decide +kernel
theorem dX3_read_1 : decode cX3_read 1 = .ok (.istore_n 2, 1) := by decide +kernel
theorem dX3_read_2 : decode cX3_read 2 = .ok (.iload_n 2, 1) := by decide +kernel
theorem dX3_read_3 : decode cX3_read 3 = .ok (.sipush 160, 3) := by decide +kernel
theorem dX3_read_6 : decode cX3_read 6 = .ok (.if_icmp .ge 21, 3) := by decide +kernel
theorem dX3_read_9 : decode cX3_read 9 = .ok (.aload_n 0, 1) := by decide +kernel
theorem dX3_read_10 : decode cX3_read 10 = .ok (.getfield 9, 3) := by decide +kernel
theorem dX3_read_13 : decode cX3_read 13 = .ok (.iload_n 2, 1) := by decide +kernel
theorem dX3_read_14 : decode cX3_read 14 = .ok (.aload_n 1, 1) := by decide +kernel
theorem dX3_read_15 : decode cX3_read 15 = .ok (.iload_n 2, 1) := by decide +kernel
theorem dX3_read_16 : decode cX3_read 16 = .ok (.invokevirtual 30, 3) := by decide +kernel
theorem dX3_read_19 : decode cX3_read 19 = .ok (.l2i, 1) := by decide +kernel
theorem dX3_read_20 : decode cX3_read 20 = .ok (.iastore, 1) := by decide +kernel
theorem dX3_read_21 : decode cX3_read 21 = .ok (.iinc 2 1, 3) := by decide +kernel
theorem dX3_read_24 : decode cX3_read 24 = .ok (.goto (-22), 3) := by decide +kernel
theorem dX3_read_27 : decode cX3_read 27 = .ok (.aload_n 0, 1) := by decide +kernel
theorem dX3_read_28 : decode cX3_read 28 = .ok (.aload_n 1, 1) := by decide +kernel
theorem dX3_read_29 : decode cX3_read 29 = .ok (.getfield 36, 3) := by decide +kernel
theorem dX3_read_32 : decode cX3_read 32 = .ok (.putfield 39, 3) := by decide +kernel
theorem dX3_read_35 : decode cX3_read 35 = .ok (.aload_n 0, 1) := by decide +kernel
theorem dX3_read_36 : decode cX3_read 36 = .ok (.iconst 0, 1) := by decide +kernel
theorem dX3_read_37 : decode cX3_read 37 = .ok (.putfield 40, 3) := by decide +kernel
theorem dX3_read_40 : decode cX3_read 40 = .ok (.aload_n 0, 1) := by decide +kernel
theorem dX3_read_41 : decode cX3_read 41 = .ok (.iconst (-1), 1) := by decide +kernel
theorem dX3_read_42 : decode cX3_read 42 = .ok (.putfield 18, 3) := by decide +kernel
theorem dX3_read_45 : decode cX3_read 45 = .ok (.iconst 0, 1) := by decide +kernel
theorem dX3_read_46 : decode cX3_read 46 = .ok (.istore_n 2, 1) := by decide +kernel
theorem dX3_read_47 : decode cX3_read 47 = .ok (.iconst 1, 1) := by decide +kernel
theorem dX3_read_48 : decode cX3_read 48 = .ok (.istore_n 3, 1) := by decide +kernel
theorem dX3_read_49 : decode cX3_read 49 = .ok (.iconst 0, 1) := by decide +kernel
theorem dX3_read_50 : decode cX3_read 50 = .ok (.istore 4, 2) := by decide +kernel
theorem dX3_read_52 : decode cX3_read 52 = .ok (.iload 4, 2) := by decide +kernel
theorem dX3_read_54 : decode cX3_read 54 = .ok (.sipush 160, 3) := by decide +kernel
theorem dX3_read_57 : decode cX3_read 57 = .ok (.if_icmp .ge 105, 3) := by decide +kernel
theorem dX3_read_60 : decode cX3_read 60 = .ok (.iload_n 3, 1) := by decide +kernel
theorem dX3_read_61 : decode cX3_read 61 = .ok (.ifCond .eq 101, 3) := by decide +kernel
theorem dX3_read_64 : decode cX3_read 64 = .ok (.aload_n 0, 1) := by decide +kernel
theorem dX3_read_65 : decode cX3_read 65 = .ok (.invokevirtual 43, 3) := by decide +kernel
theorem dX3_read_68 : decode cX3_read 68 = .ok (.istore 5, 2) := by decide +kernel
theorem dX3_read_70 : decode cX3_read 70 = .ok (.aload_n 0, 1) := by decide +kernel
theorem dX3_read_71 : decode cX3_read 71 = .ok (.iload 5, 2) := by decide +kernel
theorem dX3_read_73 : decode cX3_read 73 = .ok (.invokevirtual 47, 3) := by decide +kernel
theorem dX3_read_76 : decode cX3_read 76 = .ok (.ifCond .ne 5, 3) := by decide +kernel
theorem dX3_read_79 : decode cX3_read 79 = .ok (.iload_n 2, 1) := by decide +kernel
theorem dX3_read_80 : decode cX3_read 80 = .ok (.ireturn, 1) := by decide +kernel
theorem dX3_read_81 : decode cX3_read 81 = .ok (.iload 5, 2) := by decide +kernel
theorem dX3_read_83 : decode cX3_read 83 = .ok (.bipush 6, 2) := by decide +kernel
theorem dX3_read_85 : decode cX3_read 85 = .ok (.if_icmp .ne 36, 3) := by decide +kernel
theorem dX3_read_88 : decode cX3_read 88 = .ok (.aload_n 0, 1) := by decide +kernel
theorem dX3_read_89 : decode cX3_read 89 = .ok (.getfield 22, 3) := by decide +kernel
theorem dX3_read_92 : decode cX3_read 92 = .ok (.aload_n 0, 1) := by decide +kernel
theorem dX3_read_93 : decode cX3_read 93 = .ok (.getfield 15, 3) := by decide +kernel
theorem dX3_read_96 : decode cX3_read 96 = .ok (.iconst 0, 1) := by decide +kernel
theorem dX3_read_97 : decode cX3_read 97 = .ok (.iaload, 1) := by decide +kernel
theorem dX3_read_98 : decode cX3_read 98 = .ok (.aload_n 0, 1) := by decide +kernel
theorem dX3_read_99 : decode cX3_read 99 = .ok (.getfield 15, 3) := by decide +kernel
theorem dX3_read_102 : decode cX3_read 102 = .ok (.iconst 1, 1) := by decide +kernel
theorem dX3_read_103 : decode cX3_read 103 = .ok (.iaload, 1) := by decide +kernel
theorem dX3_read_104 : decode cX3_read 104 = .ok (.aload_n 0, 1) := by decide +kernel
theorem dX3_read_105 : decode cX3_read 105 = .ok (.getfield 15, 3) := by decide +kernel
theorem dX3_read_108 : decode cX3_read 108 = .ok (.iconst 2, 1) := by decide +kernel
theorem dX3_read_109 : decode cX3_read 109 = .ok (.iaload, 1) := by decide +kernel
theorem dX3_read_110 : decode cX3_read 110 = .ok (.aload_n 0, 1) := by decide +kernel
theorem dX3_read_111 : decode cX3_read 111 = .ok (.getfield 26, 3) := by decide +kernel
theorem dX3_read_114 : decode cX3_read 114 = .ok (.invokevirtual 51, 3) := by decide +kernel
theorem dX3_read_117 : decode cX3_read 117 = .ok (.pop, 1) := by decide +kernel
theorem dX3_read_118 : decode cX3_read 118 = .ok (.goto 9, 3) := by decide +kernel
theorem dX3_read_121 : decode cX3_read 121 = .ok (.aload_n 0, 1) := by decide +kernel
theorem dX3_read_122 : decode cX3_read 122 = .ok (.iload 5, 2) := by decide +kernel
theorem dX3_read_124 : decode cX3_read 124 = .ok (.invokevirtual 57, 3) := by decide +kernel
theorem dX3_read_127 : decode cX3_read 127 = .ok (.iinc 2 1, 3) := by decide +kernel
theorem dX3_read_130 : decode cX3_read 130 = .ok (.aload_n 0, 1) := by decide +kernel
theorem dX3_read_131 : decode cX3_read 131 = .ok (.getfield 40, 3) := by decide +kernel
theorem dX3_read_134 : decode cX3_read 134 = .ok (.aload_n 0, 1) := by decide +kernel
theorem dX3_read_135 : decode cX3_read 135 = .ok (.getfield 39, 3) := by decide +kernel
theorem dX3_read_138 : decode cX3_read 138 = .ok (.if_icmp .ge 16, 3) := by decide +kernel
theorem dX3_read_141 : decode cX3_read 141 = .ok (.aload_n 0, 1) := by decide +kernel
theorem dX3_read_142 : decode cX3_read 142 = .ok (.bipush 59, 2) := by decide +kernel
theorem dX3_read_144 : decode cX3_read 144 = .ok (.invokevirtual 61, 3) := by decide +kernel
theorem dX3_read_147 : decode cX3_read 147 = .ok (.ifCond .eq 7, 3) := by decide +kernel
theorem dX3_read_150 : decode cX3_read 150 = .ok (.iconst 1, 1) := by decide +kernel
theorem dX3_read_151 : decode cX3_read 151 = .ok (.goto 4, 3) := by decide +kernel
theorem dX3_read_154 : decode cX3_read 154 = .ok (.iconst 0, 1) := by decide +kernel
theorem dX3_read_155 : decode cX3_read 155 = .ok (.istore_n 3, 1) := by decide +kernel
theorem dX3_read_156 : decode cX3_read 156 = .ok (.iinc 4 1, 3) := by decide +kernel
theorem dX3_read_159 : decode cX3_read 159 = .ok (.goto (-107), 3) := by decide +kernel
theorem dX3_read_162 : decode cX3_read 162 = .ok (.iload_n 2, 1) := by decide +kernel
theorem dX3_read_163 : decode cX3_read 163 = .ok (.ireturn, 1) := by decide +kernel
theorem dX3_letter_0 : decode cX3_letter 0 = .ok (.iload_n 1, 1) := by decide +kernel
theorem dX3_letter_1 : decode cX3_letter 1 = .ok (.ifCond .lt 27, 3) := by decide +kernel
theorem dX3_letter_4 : decode cX3_letter 4 = .ok (.iload_n 1, 1) := by decide +kernel
theorem dX3_letter_5 : decode cX3_letter 5 = .ok (.aload_n 0, 1) := by decide +kernel
theorem dX3_letter_6 : decode cX3_letter 6 = .ok (.getfield 39, 3) := by decide +kernel
theorem dX3_letter_9 : decode cX3_letter 9 = .ok (.if_icmp .ge 19, 3) := by decide +kernel
theorem dX3_letter_12 : decode cX3_letter 12 = .ok (.iload_n 1, 1) := by decide +kernel
theorem dX3_letter_13 : decode cX3_letter 13 = .ok (.sipush 160, 3) := by decide +kernel
theorem dX3_letter_16 : decode cX3_letter 16 = .ok (.if_icmp .ge 12, 3) := by decide +kernel
theorem dX3_letter_19 : decode cX3_letter 19 = .ok (.aload_n 0, 1) := by decide +kernel
theorem dX3_letter_20 : decode cX3_letter 20 = .ok (.getfield 9, 3) := by decide +kernel
theorem dX3_letter_23 : decode cX3_letter 23 = .ok (.iload_n 1, 1) := by decide +kernel
theorem dX3_letter_24 : decode cX3_letter 24 = .ok (.iaload, 1) := by decide +kernel
theorem dX3_letter_25 : decode cX3_letter 25 = .ok (.goto 4, 3) := by decide +kernel
theorem dX3_letter_28 : decode cX3_letter 28 = .ok (.iconst (-1), 1) := by decide +kernel
theorem dX3_letter_29 : decode cX3_letter 29 = .ok (.ireturn, 1) := by decide +kernel
theorem dX3_takes_0 : decode cX3_takes 0 = .ok (.aload_n 0, 1) := by decide +kernel
theorem dX3_takes_1 : decode cX3_takes 1 = .ok (.aload_n 0, 1) := by decide +kernel
theorem dX3_takes_2 : decode cX3_takes 2 = .ok (.getfield 40, 3) := by decide +kernel
theorem dX3_takes_5 : decode cX3_takes 5 = .ok (.invokevirtual 65, 3) := by decide +kernel
theorem dX3_takes_8 : decode cX3_takes 8 = .ok (.iload_n 1, 1) := by decide +kernel
theorem dX3_takes_9 : decode cX3_takes 9 = .ok (.if_icmp .eq 13, 3) := by decide +kernel
theorem dX3_takes_12 : decode cX3_takes 12 = .ok (.aload_n 0, 1) := by decide +kernel
theorem dX3_takes_13 : decode cX3_takes 13 = .ok (.aload_n 0, 1) := by decide +kernel
theorem dX3_takes_14 : decode cX3_takes 14 = .ok (.getfield 40, 3) := by decide +kernel
theorem dX3_takes_17 : decode cX3_takes 17 = .ok (.putfield 18, 3) := by decide +kernel
theorem dX3_takes_20 : decode cX3_takes 20 = .ok (.iconst 0, 1) := by decide +kernel
theorem dX3_takes_21 : decode cX3_takes 21 = .ok (.ireturn, 1) := by decide +kernel
theorem dX3_takes_22 : decode cX3_takes 22 = .ok (.aload_n 0, 1) := by decide +kernel
theorem dX3_takes_23 : decode cX3_takes 23 = .ok (.dup, 1) := by decide +kernel
theorem dX3_takes_24 : decode cX3_takes 24 = .ok (.getfield 40, 3) := by decide +kernel
theorem dX3_takes_27 : decode cX3_takes 27 = .ok (.iconst 1, 1) := by decide +kernel
theorem dX3_takes_28 : decode cX3_takes 28 = .ok (.iadd, 1) := by decide +kernel
theorem dX3_takes_29 : decode cX3_takes 29 = .ok (.putfield 40, 3) := by decide +kernel
theorem dX3_takes_32 : decode cX3_takes 32 = .ok (.iconst 1, 1) := by decide +kernel
theorem dX3_takes_33 : decode cX3_takes 33 = .ok (.ireturn, 1) := by decide +kernel
theorem dX3_readWord_0 : decode cX3_readWord 0 = .ok (.iconst 0, 1) := by decide +kernel
theorem dX3_readWord_1 : decode cX3_readWord 1 = .ok (.istore_n 1, 1) := by decide +kernel
theorem dX3_readWord_2 : decode cX3_readWord 2 = .ok (.iconst 0, 1) := by decide +kernel
theorem dX3_readWord_3 : decode cX3_readWord 3 = .ok (.istore_n 2, 1) := by decide +kernel
theorem dX3_readWord_4 : decode cX3_readWord 4 = .ok (.iload_n 2, 1) := by decide +kernel
theorem dX3_readWord_5 : decode cX3_readWord 5 = .ok (.bipush 7, 2) := by decide +kernel
theorem dX3_readWord_7 : decode cX3_readWord 7 = .ok (.if_icmp .ge 76, 3) := by decide +kernel
theorem dX3_readWord_10 : decode cX3_readWord 10 = .ok (.iload_n 2, 1) := by decide +kernel
theorem dX3_readWord_11 : decode cX3_readWord 11 = .ok (.invokestatic 69, 3) := by decide +kernel
theorem dX3_readWord_14 : decode cX3_readWord 14 = .ok (.astore_n 3, 1) := by decide +kernel
theorem dX3_readWord_15 : decode cX3_readWord 15 = .ok (.iconst 0, 1) := by decide +kernel
theorem dX3_readWord_16 : decode cX3_readWord 16 = .ok (.istore 4, 2) := by decide +kernel
theorem dX3_readWord_18 : decode cX3_readWord 18 = .ok (.iload 4, 2) := by decide +kernel
theorem dX3_readWord_20 : decode cX3_readWord 20 = .ok (.aload_n 3, 1) := by decide +kernel
theorem dX3_readWord_21 : decode cX3_readWord 21 = .ok (.invokevirtual 73, 3) := by decide +kernel
theorem dX3_readWord_24 : decode cX3_readWord 24 = .ok (.if_icmp .ge 29, 3) := by decide +kernel
theorem dX3_readWord_27 : decode cX3_readWord 27 = .ok (.aload_n 0, 1) := by decide +kernel
theorem dX3_readWord_28 : decode cX3_readWord 28 = .ok (.aload_n 0, 1) := by decide +kernel
theorem dX3_readWord_29 : decode cX3_readWord 29 = .ok (.getfield 40, 3) := by decide +kernel
theorem dX3_readWord_32 : decode cX3_readWord 32 = .ok (.iload 4, 2) := by decide +kernel
theorem dX3_readWord_34 : decode cX3_readWord 34 = .ok (.iadd, 1) := by decide +kernel
theorem dX3_readWord_35 : decode cX3_readWord 35 = .ok (.invokevirtual 65, 3) := by decide +kernel
theorem dX3_readWord_38 : decode cX3_readWord 38 = .ok (.aload_n 3, 1) := by decide +kernel
theorem dX3_readWord_39 : decode cX3_readWord 39 = .ok (.iload 4, 2) := by decide +kernel
theorem dX3_readWord_41 : decode cX3_readWord 41 = .ok (.invokevirtual 77, 3) := by decide +kernel
theorem dX3_readWord_44 : decode cX3_readWord 44 = .ok (.if_icmp .ne 9, 3) := by decide +kernel
theorem dX3_readWord_47 : decode cX3_readWord 47 = .ok (.iinc 4 1, 3) := by decide +kernel
theorem dX3_readWord_50 : decode cX3_readWord 50 = .ok (.goto (-32), 3) := by decide +kernel
theorem dX3_readWord_53 : decode cX3_readWord 53 = .ok (.iload 4, 2) := by decide +kernel
theorem dX3_readWord_55 : decode cX3_readWord 55 = .ok (.aload_n 3, 1) := by decide +kernel
theorem dX3_readWord_56 : decode cX3_readWord 56 = .ok (.invokevirtual 73, 3) := by decide +kernel
theorem dX3_readWord_59 : decode cX3_readWord 59 = .ok (.if_icmp .ne 11, 3) := by decide +kernel
theorem dX3_readWord_62 : decode cX3_readWord 62 = .ok (.aload_n 0, 1) := by decide +kernel
theorem dX3_readWord_63 : decode cX3_readWord 63 = .ok (.iload_n 2, 1) := by decide +kernel
theorem dX3_readWord_64 : decode cX3_readWord 64 = .ok (.iload 4, 2) := by decide +kernel
theorem dX3_readWord_66 : decode cX3_readWord 66 = .ok (.invokevirtual 81, 3) := by decide +kernel
theorem dX3_readWord_69 : decode cX3_readWord 69 = .ok (.ireturn, 1) := by decide +kernel
theorem dX3_readWord_70 : decode cX3_readWord 70 = .ok (.iload_n 1, 1) := by decide +kernel
theorem dX3_readWord_71 : decode cX3_readWord 71 = .ok (.iload 4, 2) := by decide +kernel
theorem dX3_readWord_73 : decode cX3_readWord 73 = .ok (.invokestatic 85, 3) := by decide +kernel
theorem dX3_readWord_76 : decode cX3_readWord 76 = .ok (.istore_n 1, 1) := by decide +kernel
theorem dX3_readWord_77 : decode cX3_readWord 77 = .ok (.iinc 2 1, 3) := by decide +kernel
theorem dX3_readWord_80 : decode cX3_readWord 80 = .ok (.goto (-76), 3) := by decide +kernel
theorem dX3_readWord_83 : decode cX3_readWord 83 = .ok (.aload_n 0, 1) := by decide +kernel
theorem dX3_readWord_84 : decode cX3_readWord 84 = .ok (.aload_n 0, 1) := by decide +kernel
theorem dX3_readWord_85 : decode cX3_readWord 85 = .ok (.getfield 40, 3) := by decide +kernel
theorem dX3_readWord_88 : decode cX3_readWord 88 = .ok (.iload_n 1, 1) := by decide +kernel
theorem dX3_readWord_89 : decode cX3_readWord 89 = .ok (.iadd, 1) := by decide +kernel
theorem dX3_readWord_90 : decode cX3_readWord 90 = .ok (.putfield 18, 3) := by decide +kernel
theorem dX3_readWord_93 : decode cX3_readWord 93 = .ok (.iconst (-1), 1) := by decide +kernel
theorem dX3_readWord_94 : decode cX3_readWord 94 = .ok (.ireturn, 1) := by decide +kernel
theorem dX3_standsWhole_0 : decode cX3_standsWhole 0 = .ok (.iload_n 1, 1) := by decide +kernel
theorem dX3_standsWhole_1 : decode cX3_standsWhole 1 = .ok (.ifCond .ne 23, 3) := by decide +kernel
theorem dX3_standsWhole_4 : decode cX3_standsWhole 4 = .ok (.aload_n 0, 1) := by decide +kernel
theorem dX3_standsWhole_5 : decode cX3_standsWhole 5 = .ok (.getfield 22, 3) := by decide +kernel
theorem dX3_standsWhole_8 : decode cX3_standsWhole 8 = .ok (.invokevirtual 90, 3) := by decide +kernel
theorem dX3_standsWhole_11 : decode cX3_standsWhole 11 = .ok (.ifCond .ne 13, 3) := by decide +kernel
theorem dX3_standsWhole_14 : decode cX3_standsWhole 14 = .ok (.aload_n 0, 1) := by decide +kernel
theorem dX3_standsWhole_15 : decode cX3_standsWhole 15 = .ok (.aload_n 0, 1) := by decide +kernel
theorem dX3_standsWhole_16 : decode cX3_standsWhole 16 = .ok (.getfield 40, 3) := by decide +kernel
theorem dX3_standsWhole_19 : decode cX3_standsWhole 19 = .ok (.putfield 18, 3) := by decide +kernel
theorem dX3_standsWhole_22 : decode cX3_standsWhole 22 = .ok (.iconst (-1), 1) := by decide +kernel
theorem dX3_standsWhole_23 : decode cX3_standsWhole 23 = .ok (.ireturn, 1) := by decide +kernel
theorem dX3_standsWhole_24 : decode cX3_standsWhole 24 = .ok (.aload_n 0, 1) := by decide +kernel
theorem dX3_standsWhole_25 : decode cX3_standsWhole 25 = .ok (.dup, 1) := by decide +kernel
theorem dX3_standsWhole_26 : decode cX3_standsWhole 26 = .ok (.getfield 40, 3) := by decide +kernel
theorem dX3_standsWhole_29 : decode cX3_standsWhole 29 = .ok (.iload_n 2, 1) := by decide +kernel
theorem dX3_standsWhole_30 : decode cX3_standsWhole 30 = .ok (.iadd, 1) := by decide +kernel
theorem dX3_standsWhole_31 : decode cX3_standsWhole 31 = .ok (.putfield 40, 3) := by decide +kernel
theorem dX3_standsWhole_34 : decode cX3_standsWhole 34 = .ok (.iload_n 1, 1) := by decide +kernel
theorem dX3_standsWhole_35 : decode cX3_standsWhole 35 = .ok (.ireturn, 1) := by decide +kernel
theorem dX3_readNumbers_0 : decode cX3_readNumbers 0 = .ok (.iload_n 1, 1) := by decide +kernel
theorem dX3_readNumbers_1 : decode cX3_readNumbers 1 = .ok (.iconst (-1), 1) := by decide +kernel
theorem dX3_readNumbers_2 : decode cX3_readNumbers 2 = .ok (.if_icmp .ne 5, 3) := by decide +kernel
theorem dX3_readNumbers_5 : decode cX3_readNumbers 5 = .ok (.iconst 0, 1) := by decide +kernel
theorem dX3_readNumbers_6 : decode cX3_readNumbers 6 = .ok (.ireturn, 1) := by decide +kernel
theorem dX3_readNumbers_7 : decode cX3_readNumbers 7 = .ok (.iload_n 1, 1) := by decide +kernel
theorem dX3_readNumbers_8 : decode cX3_readNumbers 8 = .ok (.invokestatic 94, 3) := by decide +kernel
theorem dX3_readNumbers_11 : decode cX3_readNumbers 11 = .ok (.istore_n 2, 1) := by decide +kernel
theorem dX3_readNumbers_12 : decode cX3_readNumbers 12 = .ok (.iconst 0, 1) := by decide +kernel
theorem dX3_readNumbers_13 : decode cX3_readNumbers 13 = .ok (.istore_n 3, 1) := by decide +kernel
theorem dX3_readNumbers_14 : decode cX3_readNumbers 14 = .ok (.iload_n 3, 1) := by decide +kernel
theorem dX3_readNumbers_15 : decode cX3_readNumbers 15 = .ok (.iload_n 2, 1) := by decide +kernel
theorem dX3_readNumbers_16 : decode cX3_readNumbers 16 = .ok (.if_icmp .ge 34, 3) := by decide +kernel
theorem dX3_readNumbers_19 : decode cX3_readNumbers 19 = .ok (.iload_n 3, 1) := by decide +kernel
theorem dX3_readNumbers_20 : decode cX3_readNumbers 20 = .ok (.iconst 3, 1) := by decide +kernel
theorem dX3_readNumbers_21 : decode cX3_readNumbers 21 = .ok (.if_icmp .ge 29, 3) := by decide +kernel
theorem dX3_readNumbers_24 : decode cX3_readNumbers 24 = .ok (.aload_n 0, 1) := by decide +kernel
theorem dX3_readNumbers_25 : decode cX3_readNumbers 25 = .ok (.bipush 32, 2) := by decide +kernel
theorem dX3_readNumbers_27 : decode cX3_readNumbers 27 = .ok (.invokevirtual 61, 3) := by decide +kernel
theorem dX3_readNumbers_30 : decode cX3_readNumbers 30 = .ok (.ifCond .eq 12, 3) := by decide +kernel
theorem dX3_readNumbers_33 : decode cX3_readNumbers 33 = .ok (.aload_n 0, 1) := by decide +kernel
theorem dX3_readNumbers_34 : decode cX3_readNumbers 34 = .ok (.iload_n 1, 1) := by decide +kernel
theorem dX3_readNumbers_35 : decode cX3_readNumbers 35 = .ok (.iload_n 3, 1) := by decide +kernel
theorem dX3_readNumbers_36 : decode cX3_readNumbers 36 = .ok (.invokevirtual 97, 3) := by decide +kernel
theorem dX3_readNumbers_39 : decode cX3_readNumbers 39 = .ok (.ifCond .ne 5, 3) := by decide +kernel
theorem dX3_readNumbers_42 : decode cX3_readNumbers 42 = .ok (.iconst 0, 1) := by decide +kernel
theorem dX3_readNumbers_43 : decode cX3_readNumbers 43 = .ok (.ireturn, 1) := by decide +kernel
theorem dX3_readNumbers_44 : decode cX3_readNumbers 44 = .ok (.iinc 3 1, 3) := by decide +kernel
theorem dX3_readNumbers_47 : decode cX3_readNumbers 47 = .ok (.goto (-33), 3) := by decide +kernel
theorem dX3_readNumbers_50 : decode cX3_readNumbers 50 = .ok (.iconst 1, 1) := by decide +kernel
theorem dX3_readNumbers_51 : decode cX3_readNumbers 51 = .ok (.ireturn, 1) := by decide +kernel
theorem dX3_readNumber_0 : decode cX3_readNumber 0 = .ok (.aload_n 0, 1) := by decide +kernel
theorem dX3_readNumber_1 : decode cX3_readNumber 1 = .ok (.getfield 40, 3) := by decide +kernel
theorem dX3_readNumber_4 : decode cX3_readNumber 4 = .ok (.istore_n 3, 1) := by decide +kernel
theorem dX3_readNumber_5 : decode cX3_readNumber 5 = .ok (.iconst 0, 1) := by decide +kernel
theorem dX3_readNumber_6 : decode cX3_readNumber 6 = .ok (.istore 4, 2) := by decide +kernel
theorem dX3_readNumber_8 : decode cX3_readNumber 8 = .ok (.iconst 0, 1) := by decide +kernel
theorem dX3_readNumber_9 : decode cX3_readNumber 9 = .ok (.istore 5, 2) := by decide +kernel
theorem dX3_readNumber_11 : decode cX3_readNumber 11 = .ok (.iload 5, 2) := by decide +kernel
theorem dX3_readNumber_13 : decode cX3_readNumber 13 = .ok (.iconst 4, 1) := by decide +kernel
theorem dX3_readNumber_14 : decode cX3_readNumber 14 = .ok (.if_icmp .ge 56, 3) := by decide +kernel
theorem dX3_readNumber_17 : decode cX3_readNumber 17 = .ok (.aload_n 0, 1) := by decide +kernel
theorem dX3_readNumber_18 : decode cX3_readNumber 18 = .ok (.aload_n 0, 1) := by decide +kernel
theorem dX3_readNumber_19 : decode cX3_readNumber 19 = .ok (.getfield 40, 3) := by decide +kernel
theorem dX3_readNumber_22 : decode cX3_readNumber 22 = .ok (.invokevirtual 65, 3) := by decide +kernel
theorem dX3_readNumber_25 : decode cX3_readNumber 25 = .ok (.bipush 48, 2) := by decide +kernel
theorem dX3_readNumber_27 : decode cX3_readNumber 27 = .ok (.bipush 57, 2) := by decide +kernel
theorem dX3_readNumber_29 : decode cX3_readNumber 29 = .ok (.invokestatic 101, 3) := by decide +kernel
theorem dX3_readNumber_32 : decode cX3_readNumber 32 = .ok (.ifCond .eq 38, 3) := by decide +kernel
theorem dX3_readNumber_35 : decode cX3_readNumber 35 = .ok (.iload 4, 2) := by decide +kernel
theorem dX3_readNumber_37 : decode cX3_readNumber 37 = .ok (.bipush 10, 2) := by decide +kernel
theorem dX3_readNumber_39 : decode cX3_readNumber 39 = .ok (.imul, 1) := by decide +kernel
theorem dX3_readNumber_40 : decode cX3_readNumber 40 = .ok (.aload_n 0, 1) := by decide +kernel
theorem dX3_readNumber_41 : decode cX3_readNumber 41 = .ok (.aload_n 0, 1) := by decide +kernel
theorem dX3_readNumber_42 : decode cX3_readNumber 42 = .ok (.getfield 40, 3) := by decide +kernel
theorem dX3_readNumber_45 : decode cX3_readNumber 45 = .ok (.invokevirtual 65, 3) := by decide +kernel
theorem dX3_readNumber_48 : decode cX3_readNumber 48 = .ok (.iadd, 1) := by decide +kernel
theorem dX3_readNumber_49 : decode cX3_readNumber 49 = .ok (.bipush 48, 2) := by decide +kernel
theorem dX3_readNumber_51 : decode cX3_readNumber 51 = .ok (.isub, 1) := by decide +kernel
theorem dX3_readNumber_52 : decode cX3_readNumber 52 = .ok (.istore 4, 2) := by decide +kernel
theorem dX3_readNumber_54 : decode cX3_readNumber 54 = .ok (.iinc 5 1, 3) := by decide +kernel
theorem dX3_readNumber_57 : decode cX3_readNumber 57 = .ok (.aload_n 0, 1) := by decide +kernel
theorem dX3_readNumber_58 : decode cX3_readNumber 58 = .ok (.dup, 1) := by decide +kernel
theorem dX3_readNumber_59 : decode cX3_readNumber 59 = .ok (.getfield 40, 3) := by decide +kernel
theorem dX3_readNumber_62 : decode cX3_readNumber 62 = .ok (.iconst 1, 1) := by decide +kernel
theorem dX3_readNumber_63 : decode cX3_readNumber 63 = .ok (.iadd, 1) := by decide +kernel
theorem dX3_readNumber_64 : decode cX3_readNumber 64 = .ok (.putfield 40, 3) := by decide +kernel
theorem dX3_readNumber_67 : decode cX3_readNumber 67 = .ok (.goto (-56), 3) := by decide +kernel
theorem dX3_readNumber_70 : decode cX3_readNumber 70 = .ok (.aload_n 0, 1) := by decide +kernel
theorem dX3_readNumber_71 : decode cX3_readNumber 71 = .ok (.getfield 15, 3) := by decide +kernel
theorem dX3_readNumber_74 : decode cX3_readNumber 74 = .ok (.iload_n 2, 1) := by decide +kernel
theorem dX3_readNumber_75 : decode cX3_readNumber 75 = .ok (.iload 4, 2) := by decide +kernel
theorem dX3_readNumber_77 : decode cX3_readNumber 77 = .ok (.iastore, 1) := by decide +kernel
theorem dX3_readNumber_78 : decode cX3_readNumber 78 = .ok (.iload 5, 2) := by decide +kernel
theorem dX3_readNumber_80 : decode cX3_readNumber 80 = .ok (.ifCond .eq 14, 3) := by decide +kernel
theorem dX3_readNumber_83 : decode cX3_readNumber 83 = .ok (.aload_n 0, 1) := by decide +kernel
theorem dX3_readNumber_84 : decode cX3_readNumber 84 = .ok (.iload_n 1, 1) := by decide +kernel
theorem dX3_readNumber_85 : decode cX3_readNumber 85 = .ok (.iload_n 2, 1) := by decide +kernel
theorem dX3_readNumber_86 : decode cX3_readNumber 86 = .ok (.iload 4, 2) := by decide +kernel
theorem dX3_readNumber_88 : decode cX3_readNumber 88 = .ok (.invokevirtual 105, 3) := by decide +kernel
theorem dX3_readNumber_91 : decode cX3_readNumber 91 = .ok (.ifCond .ne 10, 3) := by decide +kernel
theorem dX3_readNumber_94 : decode cX3_readNumber 94 = .ok (.aload_n 0, 1) := by decide +kernel
theorem dX3_readNumber_95 : decode cX3_readNumber 95 = .ok (.iload_n 3, 1) := by decide +kernel
theorem dX3_readNumber_96 : decode cX3_readNumber 96 = .ok (.putfield 18, 3) := by decide +kernel
theorem dX3_readNumber_99 : decode cX3_readNumber 99 = .ok (.iconst 0, 1) := by decide +kernel
theorem dX3_readNumber_100 : decode cX3_readNumber 100 = .ok (.ireturn, 1) := by decide +kernel
theorem dX3_readNumber_101 : decode cX3_readNumber 101 = .ok (.iconst 1, 1) := by decide +kernel
theorem dX3_readNumber_102 : decode cX3_readNumber 102 = .ok (.ireturn, 1) := by decide +kernel
theorem dX3_lettersOf_0 : decode cX3_lettersOf 0 = .ok (.iload_n 0, 1) := by decide +kernel
theorem dX3_lettersOf_1 : decode cX3_lettersOf 1 = .ok (.tableswitch 57 0 5 #[39, 42, 45, 48, 51, 54], 39) := by decide +kernel
theorem dX3_lettersOf_40 : decode cX3_lettersOf 40 = .ok (.ldc 108, 2) := by decide +kernel
theorem dX3_lettersOf_42 : decode cX3_lettersOf 42 = .ok (.areturn, 1) := by decide +kernel
theorem dX3_lettersOf_43 : decode cX3_lettersOf 43 = .ok (.ldc 110, 2) := by decide +kernel
theorem dX3_lettersOf_45 : decode cX3_lettersOf 45 = .ok (.areturn, 1) := by decide +kernel
theorem dX3_lettersOf_46 : decode cX3_lettersOf 46 = .ok (.ldc 112, 2) := by decide +kernel
theorem dX3_lettersOf_48 : decode cX3_lettersOf 48 = .ok (.areturn, 1) := by decide +kernel
theorem dX3_lettersOf_49 : decode cX3_lettersOf 49 = .ok (.ldc 114, 2) := by decide +kernel
theorem dX3_lettersOf_51 : decode cX3_lettersOf 51 = .ok (.areturn, 1) := by decide +kernel
theorem dX3_lettersOf_52 : decode cX3_lettersOf 52 = .ok (.ldc 116, 2) := by decide +kernel
theorem dX3_lettersOf_54 : decode cX3_lettersOf 54 = .ok (.areturn, 1) := by decide +kernel
theorem dX3_lettersOf_55 : decode cX3_lettersOf 55 = .ok (.ldc 118, 2) := by decide +kernel
theorem dX3_lettersOf_57 : decode cX3_lettersOf 57 = .ok (.areturn, 1) := by decide +kernel
theorem dX3_lettersOf_58 : decode cX3_lettersOf 58 = .ok (.ldc 120, 2) := by decide +kernel
theorem dX3_lettersOf_60 : decode cX3_lettersOf 60 = .ok (.areturn, 1) := by decide +kernel
theorem dX3_numbersOf_0 : decode cX3_numbersOf 0 = .ok (.iload_n 0, 1) := by decide +kernel
theorem dX3_numbersOf_1 : decode cX3_numbersOf 1 = .ok (.tableswitch 47 0 6 #[43, 43, 47, 47, 47, 45, 43], 43) := by decide +kernel
theorem dX3_numbersOf_44 : decode cX3_numbersOf 44 = .ok (.iconst 3, 1) := by decide +kernel
theorem dX3_numbersOf_45 : decode cX3_numbersOf 45 = .ok (.ireturn, 1) := by decide +kernel
theorem dX3_numbersOf_46 : decode cX3_numbersOf 46 = .ok (.iconst 2, 1) := by decide +kernel
theorem dX3_numbersOf_47 : decode cX3_numbersOf 47 = .ok (.ireturn, 1) := by decide +kernel
theorem dX3_numbersOf_48 : decode cX3_numbersOf 48 = .ok (.iconst 1, 1) := by decide +kernel
theorem dX3_numbersOf_49 : decode cX3_numbersOf 49 = .ok (.ireturn, 1) := by decide +kernel
theorem dX3_mayBe_0 : decode cX3_mayBe 0 = .ok (.iload_n 1, 1) := by decide +kernel
theorem dX3_mayBe_1 : decode cX3_mayBe 1 = .ok (.tableswitch 196 0 5 #[39, 84, 133, 145, 153, 166], 39) := by decide +kernel
theorem dX3_mayBe_40 : decode cX3_mayBe 40 = .ok (.iload_n 2, 1) := by decide +kernel
theorem dX3_mayBe_41 : decode cX3_mayBe 41 = .ok (.ifCond .ne 17, 3) := by decide +kernel
theorem dX3_mayBe_44 : decode cX3_mayBe 44 = .ok (.iload_n 3, 1) := by decide +kernel
theorem dX3_mayBe_45 : decode cX3_mayBe 45 = .ok (.bipush 7, 2) := by decide +kernel
theorem dX3_mayBe_47 : decode cX3_mayBe 47 = .ok (.if_icmp .ge 7, 3) := by decide +kernel
theorem dX3_mayBe_50 : decode cX3_mayBe 50 = .ok (.iconst 1, 1) := by decide +kernel
theorem dX3_mayBe_51 : decode cX3_mayBe 51 = .ok (.goto 33, 3) := by decide +kernel
theorem dX3_mayBe_54 : decode cX3_mayBe 54 = .ok (.iconst 0, 1) := by decide +kernel
theorem dX3_mayBe_55 : decode cX3_mayBe 55 = .ok (.goto 29, 3) := by decide +kernel
theorem dX3_mayBe_58 : decode cX3_mayBe 58 = .ok (.iload_n 2, 1) := by decide +kernel
theorem dX3_mayBe_59 : decode cX3_mayBe 59 = .ok (.iconst 1, 1) := by decide +kernel
theorem dX3_mayBe_60 : decode cX3_mayBe 60 = .ok (.if_icmp .ne 13, 3) := by decide +kernel
theorem dX3_mayBe_63 : decode cX3_mayBe 63 = .ok (.iload_n 3, 1) := by decide +kernel
theorem dX3_mayBe_64 : decode cX3_mayBe 64 = .ok (.iconst 1, 1) := by decide +kernel
theorem dX3_mayBe_65 : decode cX3_mayBe 65 = .ok (.bipush 12, 2) := by decide +kernel
theorem dX3_mayBe_67 : decode cX3_mayBe 67 = .ok (.invokestatic 101, 3) := by decide +kernel
theorem dX3_mayBe_70 : decode cX3_mayBe 70 = .ok (.goto 14, 3) := by decide +kernel
theorem dX3_mayBe_73 : decode cX3_mayBe 73 = .ok (.iload_n 3, 1) := by decide +kernel
theorem dX3_mayBe_74 : decode cX3_mayBe 74 = .ok (.bipush 9, 2) := by decide +kernel
theorem dX3_mayBe_76 : decode cX3_mayBe 76 = .ok (.if_icmp .gt 7, 3) := by decide +kernel
theorem dX3_mayBe_79 : decode cX3_mayBe 79 = .ok (.iconst 1, 1) := by decide +kernel
theorem dX3_mayBe_80 : decode cX3_mayBe 80 = .ok (.goto 4, 3) := by decide +kernel
theorem dX3_mayBe_83 : decode cX3_mayBe 83 = .ok (.iconst 0, 1) := by decide +kernel
theorem dX3_mayBe_84 : decode cX3_mayBe 84 = .ok (.ireturn, 1) := by decide +kernel
theorem dX3_mayBe_85 : decode cX3_mayBe 85 = .ok (.iload_n 2, 1) := by decide +kernel
theorem dX3_mayBe_86 : decode cX3_mayBe 86 = .ok (.ifCond .ne 14, 3) := by decide +kernel
theorem dX3_mayBe_89 : decode cX3_mayBe 89 = .ok (.aload_n 0, 1) := by decide +kernel
theorem dX3_mayBe_90 : decode cX3_mayBe 90 = .ok (.getfield 22, 3) := by decide +kernel
theorem dX3_mayBe_93 : decode cX3_mayBe 93 = .ok (.iload_n 3, 1) := by decide +kernel
theorem dX3_mayBe_94 : decode cX3_mayBe 94 = .ok (.invokevirtual 122, 3) := by decide +kernel
theorem dX3_mayBe_97 : decode cX3_mayBe 97 = .ok (.goto 36, 3) := by decide +kernel
theorem dX3_mayBe_100 : decode cX3_mayBe 100 = .ok (.iload_n 2, 1) := by decide +kernel
theorem dX3_mayBe_101 : decode cX3_mayBe 101 = .ok (.iconst 1, 1) := by decide +kernel
theorem dX3_mayBe_102 : decode cX3_mayBe 102 = .ok (.if_icmp .ne 20, 3) := by decide +kernel
theorem dX3_mayBe_105 : decode cX3_mayBe 105 = .ok (.aload_n 0, 1) := by decide +kernel
theorem dX3_mayBe_106 : decode cX3_mayBe 106 = .ok (.getfield 22, 3) := by decide +kernel
theorem dX3_mayBe_109 : decode cX3_mayBe 109 = .ok (.aload_n 0, 1) := by decide +kernel
theorem dX3_mayBe_110 : decode cX3_mayBe 110 = .ok (.getfield 15, 3) := by decide +kernel
theorem dX3_mayBe_113 : decode cX3_mayBe 113 = .ok (.iconst 0, 1) := by decide +kernel
theorem dX3_mayBe_114 : decode cX3_mayBe 114 = .ok (.iaload, 1) := by decide +kernel
theorem dX3_mayBe_115 : decode cX3_mayBe 115 = .ok (.iload_n 3, 1) := by decide +kernel
theorem dX3_mayBe_116 : decode cX3_mayBe 116 = .ok (.invokevirtual 125, 3) := by decide +kernel
theorem dX3_mayBe_119 : decode cX3_mayBe 119 = .ok (.goto 14, 3) := by decide +kernel
theorem dX3_mayBe_122 : decode cX3_mayBe 122 = .ok (.iload_n 3, 1) := by decide +kernel
theorem dX3_mayBe_123 : decode cX3_mayBe 123 = .ok (.bipush 99, 2) := by decide +kernel
theorem dX3_mayBe_125 : decode cX3_mayBe 125 = .ok (.if_icmp .gt 7, 3) := by decide +kernel
theorem dX3_mayBe_128 : decode cX3_mayBe 128 = .ok (.iconst 1, 1) := by decide +kernel
theorem dX3_mayBe_129 : decode cX3_mayBe 129 = .ok (.goto 4, 3) := by decide +kernel
theorem dX3_mayBe_132 : decode cX3_mayBe 132 = .ok (.iconst 0, 1) := by decide +kernel
theorem dX3_mayBe_133 : decode cX3_mayBe 133 = .ok (.ireturn, 1) := by decide +kernel
theorem dX3_mayBe_134 : decode cX3_mayBe 134 = .ok (.iload_n 3, 1) := by decide +kernel
theorem dX3_mayBe_135 : decode cX3_mayBe 135 = .ok (.bipush 99, 2) := by decide +kernel
theorem dX3_mayBe_137 : decode cX3_mayBe 137 = .ok (.if_icmp .gt 7, 3) := by decide +kernel
theorem dX3_mayBe_140 : decode cX3_mayBe 140 = .ok (.iconst 1, 1) := by decide +kernel
theorem dX3_mayBe_141 : decode cX3_mayBe 141 = .ok (.goto 4, 3) := by decide +kernel
theorem dX3_mayBe_144 : decode cX3_mayBe 144 = .ok (.iconst 0, 1) := by decide +kernel
theorem dX3_mayBe_145 : decode cX3_mayBe 145 = .ok (.ireturn, 1) := by decide +kernel
theorem dX3_mayBe_146 : decode cX3_mayBe 146 = .ok (.iload_n 3, 1) := by decide +kernel
theorem dX3_mayBe_147 : decode cX3_mayBe 147 = .ok (.iconst 1, 1) := by decide +kernel
theorem dX3_mayBe_148 : decode cX3_mayBe 148 = .ok (.bipush 99, 2) := by decide +kernel
theorem dX3_mayBe_150 : decode cX3_mayBe 150 = .ok (.invokestatic 101, 3) := by decide +kernel
theorem dX3_mayBe_153 : decode cX3_mayBe 153 = .ok (.ireturn, 1) := by decide +kernel
theorem dX3_mayBe_154 : decode cX3_mayBe 154 = .ok (.iload_n 3, 1) := by decide +kernel
theorem dX3_mayBe_155 : decode cX3_mayBe 155 = .ok (.sipush 9999, 3) := by decide +kernel
theorem dX3_mayBe_158 : decode cX3_mayBe 158 = .ok (.if_icmp .gt 7, 3) := by decide +kernel
theorem dX3_mayBe_161 : decode cX3_mayBe 161 = .ok (.iconst 1, 1) := by decide +kernel
theorem dX3_mayBe_162 : decode cX3_mayBe 162 = .ok (.goto 4, 3) := by decide +kernel
theorem dX3_mayBe_165 : decode cX3_mayBe 165 = .ok (.iconst 0, 1) := by decide +kernel
theorem dX3_mayBe_166 : decode cX3_mayBe 166 = .ok (.ireturn, 1) := by decide +kernel
theorem dX3_mayBe_167 : decode cX3_mayBe 167 = .ok (.iload_n 2, 1) := by decide +kernel
theorem dX3_mayBe_168 : decode cX3_mayBe 168 = .ok (.ifCond .ne 17, 3) := by decide +kernel
theorem dX3_mayBe_171 : decode cX3_mayBe 171 = .ok (.iload_n 3, 1) := by decide +kernel
theorem dX3_mayBe_172 : decode cX3_mayBe 172 = .ok (.bipush 10, 2) := by decide +kernel
theorem dX3_mayBe_174 : decode cX3_mayBe 174 = .ok (.if_icmp .ge 7, 3) := by decide +kernel
theorem dX3_mayBe_177 : decode cX3_mayBe 177 = .ok (.iconst 1, 1) := by decide +kernel
theorem dX3_mayBe_178 : decode cX3_mayBe 178 = .ok (.goto 18, 3) := by decide +kernel
theorem dX3_mayBe_181 : decode cX3_mayBe 181 = .ok (.iconst 0, 1) := by decide +kernel
theorem dX3_mayBe_182 : decode cX3_mayBe 182 = .ok (.goto 14, 3) := by decide +kernel
theorem dX3_mayBe_185 : decode cX3_mayBe 185 = .ok (.iload_n 3, 1) := by decide +kernel
theorem dX3_mayBe_186 : decode cX3_mayBe 186 = .ok (.bipush 99, 2) := by decide +kernel
theorem dX3_mayBe_188 : decode cX3_mayBe 188 = .ok (.if_icmp .gt 7, 3) := by decide +kernel
theorem dX3_mayBe_191 : decode cX3_mayBe 191 = .ok (.iconst 1, 1) := by decide +kernel
theorem dX3_mayBe_192 : decode cX3_mayBe 192 = .ok (.goto 4, 3) := by decide +kernel
theorem dX3_mayBe_195 : decode cX3_mayBe 195 = .ok (.iconst 0, 1) := by decide +kernel
theorem dX3_mayBe_196 : decode cX3_mayBe 196 = .ok (.ireturn, 1) := by decide +kernel
theorem dX3_mayBe_197 : decode cX3_mayBe 197 = .ok (.iload_n 2, 1) := by decide +kernel
theorem dX3_mayBe_198 : decode cX3_mayBe 198 = .ok (.ifCond .ne 37, 3) := by decide +kernel
theorem dX3_mayBe_201 : decode cX3_mayBe 201 = .ok (.aload_n 0, 1) := by decide +kernel
theorem dX3_mayBe_202 : decode cX3_mayBe 202 = .ok (.getfield 22, 3) := by decide +kernel
theorem dX3_mayBe_205 : decode cX3_mayBe 205 = .ok (.iload_n 3, 1) := by decide +kernel
theorem dX3_mayBe_206 : decode cX3_mayBe 206 = .ok (.invokevirtual 122, 3) := by decide +kernel
theorem dX3_mayBe_209 : decode cX3_mayBe 209 = .ok (.ifCond .eq 22, 3) := by decide +kernel
theorem dX3_mayBe_212 : decode cX3_mayBe 212 = .ok (.aload_n 0, 1) := by decide +kernel
theorem dX3_mayBe_213 : decode cX3_mayBe 213 = .ok (.getfield 22, 3) := by decide +kernel
theorem dX3_mayBe_216 : decode cX3_mayBe 216 = .ok (.getfield 128, 3) := by decide +kernel
theorem dX3_mayBe_219 : decode cX3_mayBe 219 = .ok (.iload_n 3, 1) := by decide +kernel
theorem dX3_mayBe_220 : decode cX3_mayBe 220 = .ok (.aaload, 1) := by decide +kernel
theorem dX3_mayBe_221 : decode cX3_mayBe 221 = .ok (.getfield 132, 3) := by decide +kernel
theorem dX3_mayBe_224 : decode cX3_mayBe 224 = .ok (.ifCond .le 7, 3) := by decide +kernel
theorem dX3_mayBe_227 : decode cX3_mayBe 227 = .ok (.iconst 1, 1) := by decide +kernel
theorem dX3_mayBe_228 : decode cX3_mayBe 228 = .ok (.goto 37, 3) := by decide +kernel
theorem dX3_mayBe_231 : decode cX3_mayBe 231 = .ok (.iconst 0, 1) := by decide +kernel
theorem dX3_mayBe_232 : decode cX3_mayBe 232 = .ok (.goto 33, 3) := by decide +kernel
theorem dX3_mayBe_235 : decode cX3_mayBe 235 = .ok (.iload_n 2, 1) := by decide +kernel
theorem dX3_mayBe_236 : decode cX3_mayBe 236 = .ok (.iconst 1, 1) := by decide +kernel
theorem dX3_mayBe_237 : decode cX3_mayBe 237 = .ok (.if_icmp .ne 17, 3) := by decide +kernel
theorem dX3_mayBe_240 : decode cX3_mayBe 240 = .ok (.iload_n 3, 1) := by decide +kernel
theorem dX3_mayBe_241 : decode cX3_mayBe 241 = .ok (.bipush 12, 2) := by decide +kernel
theorem dX3_mayBe_243 : decode cX3_mayBe 243 = .ok (.if_icmp .gt 7, 3) := by decide +kernel
theorem dX3_mayBe_246 : decode cX3_mayBe 246 = .ok (.iconst 1, 1) := by decide +kernel
theorem dX3_mayBe_247 : decode cX3_mayBe 247 = .ok (.goto 18, 3) := by decide +kernel
theorem dX3_mayBe_250 : decode cX3_mayBe 250 = .ok (.iconst 0, 1) := by decide +kernel
theorem dX3_mayBe_251 : decode cX3_mayBe 251 = .ok (.goto 14, 3) := by decide +kernel
theorem dX3_mayBe_254 : decode cX3_mayBe 254 = .ok (.iload_n 3, 1) := by decide +kernel
theorem dX3_mayBe_255 : decode cX3_mayBe 255 = .ok (.bipush 60, 2) := by decide +kernel
theorem dX3_mayBe_257 : decode cX3_mayBe 257 = .ok (.if_icmp .gt 7, 3) := by decide +kernel
theorem dX3_mayBe_260 : decode cX3_mayBe 260 = .ok (.iconst 1, 1) := by decide +kernel
theorem dX3_mayBe_261 : decode cX3_mayBe 261 = .ok (.goto 4, 3) := by decide +kernel
theorem dX3_mayBe_264 : decode cX3_mayBe 264 = .ok (.iconst 0, 1) := by decide +kernel
theorem dX3_mayBe_265 : decode cX3_mayBe 265 = .ok (.ireturn, 1) := by decide +kernel
theorem dX3_tell_0 : decode cX3_tell 0 = .ok (.iload_n 1, 1) := by decide +kernel
theorem dX3_tell_1 : decode cX3_tell 1 = .ok (.tableswitch 167 0 4 #[35, 64, 119, 135, 151], 35) := by decide +kernel
theorem dX3_tell_36 : decode cX3_tell 36 = .ok (.aload_n 0, 1) := by decide +kernel
theorem dX3_tell_37 : decode cX3_tell 37 = .ok (.getfield 22, 3) := by decide +kernel
theorem dX3_tell_40 : decode cX3_tell 40 = .ok (.aload_n 0, 1) := by decide +kernel
theorem dX3_tell_41 : decode cX3_tell 41 = .ok (.getfield 15, 3) := by decide +kernel
theorem dX3_tell_44 : decode cX3_tell 44 = .ok (.iconst 0, 1) := by decide +kernel
theorem dX3_tell_45 : decode cX3_tell 45 = .ok (.iaload, 1) := by decide +kernel
theorem dX3_tell_46 : decode cX3_tell 46 = .ok (.aload_n 0, 1) := by decide +kernel
theorem dX3_tell_47 : decode cX3_tell 47 = .ok (.getfield 15, 3) := by decide +kernel
theorem dX3_tell_50 : decode cX3_tell 50 = .ok (.iconst 1, 1) := by decide +kernel
theorem dX3_tell_51 : decode cX3_tell 51 = .ok (.iaload, 1) := by decide +kernel
theorem dX3_tell_52 : decode cX3_tell 52 = .ok (.aload_n 0, 1) := by decide +kernel
theorem dX3_tell_53 : decode cX3_tell 53 = .ok (.getfield 15, 3) := by decide +kernel
theorem dX3_tell_56 : decode cX3_tell 56 = .ok (.iconst 2, 1) := by decide +kernel
theorem dX3_tell_57 : decode cX3_tell 57 = .ok (.iaload, 1) := by decide +kernel
theorem dX3_tell_58 : decode cX3_tell 58 = .ok (.invokevirtual 137, 3) := by decide +kernel
theorem dX3_tell_61 : decode cX3_tell 61 = .ok (.pop, 1) := by decide +kernel
theorem dX3_tell_62 : decode cX3_tell 62 = .ok (.goto 141, 3) := by decide +kernel
theorem dX3_tell_65 : decode cX3_tell 65 = .ok (.aload_n 0, 1) := by decide +kernel
theorem dX3_tell_66 : decode cX3_tell 66 = .ok (.getfield 22, 3) := by decide +kernel
theorem dX3_tell_69 : decode cX3_tell 69 = .ok (.aload_n 0, 1) := by decide +kernel
theorem dX3_tell_70 : decode cX3_tell 70 = .ok (.getfield 15, 3) := by decide +kernel
theorem dX3_tell_73 : decode cX3_tell 73 = .ok (.iconst 0, 1) := by decide +kernel
theorem dX3_tell_74 : decode cX3_tell 74 = .ok (.iaload, 1) := by decide +kernel
theorem dX3_tell_75 : decode cX3_tell 75 = .ok (.aload_n 0, 1) := by decide +kernel
theorem dX3_tell_76 : decode cX3_tell 76 = .ok (.getfield 15, 3) := by decide +kernel
theorem dX3_tell_79 : decode cX3_tell 79 = .ok (.iconst 1, 1) := by decide +kernel
theorem dX3_tell_80 : decode cX3_tell 80 = .ok (.iaload, 1) := by decide +kernel
theorem dX3_tell_81 : decode cX3_tell 81 = .ok (.invokevirtual 125, 3) := by decide +kernel
theorem dX3_tell_84 : decode cX3_tell 84 = .ok (.ifCond .eq 119, 3) := by decide +kernel
theorem dX3_tell_87 : decode cX3_tell 87 = .ok (.aload_n 0, 1) := by decide +kernel
theorem dX3_tell_88 : decode cX3_tell 88 = .ok (.getfield 22, 3) := by decide +kernel
theorem dX3_tell_91 : decode cX3_tell 91 = .ok (.getfield 128, 3) := by decide +kernel
theorem dX3_tell_94 : decode cX3_tell 94 = .ok (.aload_n 0, 1) := by decide +kernel
theorem dX3_tell_95 : decode cX3_tell 95 = .ok (.getfield 15, 3) := by decide +kernel
theorem dX3_tell_98 : decode cX3_tell 98 = .ok (.iconst 0, 1) := by decide +kernel
theorem dX3_tell_99 : decode cX3_tell 99 = .ok (.iaload, 1) := by decide +kernel
theorem dX3_tell_100 : decode cX3_tell 100 = .ok (.aaload, 1) := by decide +kernel
theorem dX3_tell_101 : decode cX3_tell 101 = .ok (.getfield 141, 3) := by decide +kernel
theorem dX3_tell_104 : decode cX3_tell 104 = .ok (.aload_n 0, 1) := by decide +kernel
theorem dX3_tell_105 : decode cX3_tell 105 = .ok (.getfield 15, 3) := by decide +kernel
theorem dX3_tell_108 : decode cX3_tell 108 = .ok (.iconst 1, 1) := by decide +kernel
theorem dX3_tell_109 : decode cX3_tell 109 = .ok (.iaload, 1) := by decide +kernel
theorem dX3_tell_110 : decode cX3_tell 110 = .ok (.aload_n 0, 1) := by decide +kernel
theorem dX3_tell_111 : decode cX3_tell 111 = .ok (.getfield 15, 3) := by decide +kernel
theorem dX3_tell_114 : decode cX3_tell 114 = .ok (.iconst 2, 1) := by decide +kernel
theorem dX3_tell_115 : decode cX3_tell 115 = .ok (.iaload, 1) := by decide +kernel
theorem dX3_tell_116 : decode cX3_tell 116 = .ok (.iastore, 1) := by decide +kernel
theorem dX3_tell_117 : decode cX3_tell 117 = .ok (.goto 86, 3) := by decide +kernel
theorem dX3_tell_120 : decode cX3_tell 120 = .ok (.aload_n 0, 1) := by decide +kernel
theorem dX3_tell_121 : decode cX3_tell 121 = .ok (.getfield 22, 3) := by decide +kernel
theorem dX3_tell_124 : decode cX3_tell 124 = .ok (.aload_n 0, 1) := by decide +kernel
theorem dX3_tell_125 : decode cX3_tell 125 = .ok (.getfield 15, 3) := by decide +kernel
theorem dX3_tell_128 : decode cX3_tell 128 = .ok (.iconst 0, 1) := by decide +kernel
theorem dX3_tell_129 : decode cX3_tell 129 = .ok (.iaload, 1) := by decide +kernel
theorem dX3_tell_130 : decode cX3_tell 130 = .ok (.putfield 144, 3) := by decide +kernel
theorem dX3_tell_133 : decode cX3_tell 133 = .ok (.goto 70, 3) := by decide +kernel
theorem dX3_tell_136 : decode cX3_tell 136 = .ok (.aload_n 0, 1) := by decide +kernel
theorem dX3_tell_137 : decode cX3_tell 137 = .ok (.getfield 22, 3) := by decide +kernel
theorem dX3_tell_140 : decode cX3_tell 140 = .ok (.aload_n 0, 1) := by decide +kernel
theorem dX3_tell_141 : decode cX3_tell 141 = .ok (.getfield 15, 3) := by decide +kernel
theorem dX3_tell_144 : decode cX3_tell 144 = .ok (.iconst 0, 1) := by decide +kernel
theorem dX3_tell_145 : decode cX3_tell 145 = .ok (.iaload, 1) := by decide +kernel
theorem dX3_tell_146 : decode cX3_tell 146 = .ok (.putfield 146, 3) := by decide +kernel
theorem dX3_tell_149 : decode cX3_tell 149 = .ok (.goto 54, 3) := by decide +kernel
theorem dX3_tell_152 : decode cX3_tell 152 = .ok (.aload_n 0, 1) := by decide +kernel
theorem dX3_tell_153 : decode cX3_tell 153 = .ok (.getfield 22, 3) := by decide +kernel
theorem dX3_tell_156 : decode cX3_tell 156 = .ok (.aload_n 0, 1) := by decide +kernel
theorem dX3_tell_157 : decode cX3_tell 157 = .ok (.getfield 15, 3) := by decide +kernel
theorem dX3_tell_160 : decode cX3_tell 160 = .ok (.iconst 0, 1) := by decide +kernel
theorem dX3_tell_161 : decode cX3_tell 161 = .ok (.iaload, 1) := by decide +kernel
theorem dX3_tell_162 : decode cX3_tell 162 = .ok (.putfield 148, 3) := by decide +kernel
theorem dX3_tell_165 : decode cX3_tell 165 = .ok (.goto 38, 3) := by decide +kernel
theorem dX3_tell_168 : decode cX3_tell 168 = .ok (.aload_n 0, 1) := by decide +kernel
theorem dX3_tell_169 : decode cX3_tell 169 = .ok (.getfield 15, 3) := by decide +kernel
theorem dX3_tell_172 : decode cX3_tell 172 = .ok (.iconst 0, 1) := by decide +kernel
theorem dX3_tell_173 : decode cX3_tell 173 = .ok (.iaload, 1) := by decide +kernel
theorem dX3_tell_174 : decode cX3_tell 174 = .ok (.iconst 0, 1) := by decide +kernel
theorem dX3_tell_175 : decode cX3_tell 175 = .ok (.bipush 9, 2) := by decide +kernel
theorem dX3_tell_177 : decode cX3_tell 177 = .ok (.invokestatic 101, 3) := by decide +kernel
theorem dX3_tell_180 : decode cX3_tell 180 = .ok (.ifCond .eq 23, 3) := by decide +kernel
theorem dX3_tell_183 : decode cX3_tell 183 = .ok (.aload_n 0, 1) := by decide +kernel
theorem dX3_tell_184 : decode cX3_tell 184 = .ok (.getfield 22, 3) := by decide +kernel
theorem dX3_tell_187 : decode cX3_tell 187 = .ok (.getfield 150, 3) := by decide +kernel
theorem dX3_tell_190 : decode cX3_tell 190 = .ok (.aload_n 0, 1) := by decide +kernel
theorem dX3_tell_191 : decode cX3_tell 191 = .ok (.getfield 15, 3) := by decide +kernel
theorem dX3_tell_194 : decode cX3_tell 194 = .ok (.iconst 0, 1) := by decide +kernel
theorem dX3_tell_195 : decode cX3_tell 195 = .ok (.iaload, 1) := by decide +kernel
theorem dX3_tell_196 : decode cX3_tell 196 = .ok (.aload_n 0, 1) := by decide +kernel
theorem dX3_tell_197 : decode cX3_tell 197 = .ok (.getfield 15, 3) := by decide +kernel
theorem dX3_tell_200 : decode cX3_tell 200 = .ok (.iconst 1, 1) := by decide +kernel
theorem dX3_tell_201 : decode cX3_tell 201 = .ok (.iaload, 1) := by decide +kernel
theorem dX3_tell_202 : decode cX3_tell 202 = .ok (.iastore, 1) := by decide +kernel
theorem dX3_tell_203 : decode cX3_tell 203 = .ok (.return_, 1) := by decide +kernel
theorem dX4_init_0 : decode cX4_init 0 = .ok (.aload_n 0, 1) := by decide +kernel
theorem dX4_init_1 : decode cX4_init 1 = .ok (.invokespecial 3, 3) := by decide +kernel
theorem dX4_init_4 : decode cX4_init 4 = .ok (.aload_n 0, 1) := by decide +kernel
theorem dX4_init_5 : decode cX4_init 5 = .ok (.sipush 160, 3) := by decide +kernel
theorem dX4_init_8 : decode cX4_init 8 = .ok (.newarray .long, 2) := by decide +kernel
theorem dX4_init_10 : decode cX4_init 10 = .ok (.putfield 9, 3) := by decide +kernel
theorem dX4_init_13 : decode cX4_init 13 = .ok (.aload_n 0, 1) := by decide +kernel
theorem dX4_init_14 : decode cX4_init 14 = .ok (.iconst (-1), 1) := by decide +kernel
theorem dX4_init_15 : decode cX4_init 15 = .ok (.putfield 15, 3) := by decide +kernel
theorem dX4_init_18 : decode cX4_init 18 = .ok (.aload_n 0, 1) := by decide +kernel
theorem dX4_init_19 : decode cX4_init 19 = .ok (.iconst (-1), 1) := by decide +kernel
theorem dX4_init_20 : decode cX4_init 20 = .ok (.putfield 19, 3) := by decide +kernel
theorem dX4_init_23 : decode cX4_init 23 = .ok (.return_, 1) := by decide +kernel
theorem dX4_takeRow_0 : decode cX4_takeRow 0 = .ok (.aload_n 0, 1) := by decide +kernel
theorem dX4_takeRow_1 : decode cX4_takeRow 1 = .ok (.iconst (-1), 1) := by decide +kernel
theorem dX4_takeRow_2 : decode cX4_takeRow 2 = .ok (.putfield 19, 3) := by decide +kernel
theorem dX4_takeRow_5 : decode cX4_takeRow 5 = .ok (.aload_n 0, 1) := by decide +kernel
theorem dX4_takeRow_6 : decode cX4_takeRow 6 = .ok (.iload_n 1, 1) := by decide +kernel
theorem dX4_takeRow_7 : decode cX4_takeRow 7 = .ok (.putfield 15, 3) := by decide +kernel
theorem dX4_takeRow_10 : decode cX4_takeRow 10 = .ok (.aload_n 0, 1) := by decide +kernel
theorem dX4_takeRow_11 : decode cX4_takeRow 11 = .ok (.iload_n 2, 1) := by decide +kernel
theorem dX4_takeRow_12 : decode cX4_takeRow 12 = .ok (.putfield 22, 3) := by decide +kernel
theorem dX4_takeRow_15 : decode cX4_takeRow 15 = .ok (.iconst 0, 1) := by decide +kernel
theorem dX4_takeRow_16 : decode cX4_takeRow 16 = .ok (.istore_n 3, 1) := by decide +kernel
theorem dX4_takeRow_17 : decode cX4_takeRow 17 = .ok (.iload_n 3, 1) := by decide +kernel
theorem dX4_takeRow_18 : decode cX4_takeRow 18 = .ok (.sipush 160, 3) := by decide +kernel
theorem dX4_takeRow_21 : decode cX4_takeRow 21 = .ok (.if_icmp .ge 16, 3) := by decide +kernel
theorem dX4_takeRow_24 : decode cX4_takeRow 24 = .ok (.aload_n 0, 1) := by decide +kernel
theorem dX4_takeRow_25 : decode cX4_takeRow 25 = .ok (.getfield 9, 3) := by decide +kernel
theorem dX4_takeRow_28 : decode cX4_takeRow 28 = .ok (.iload_n 3, 1) := by decide +kernel
theorem dX4_takeRow_29 : decode cX4_takeRow 29 = .ok (.lconst 0, 1) := by decide +kernel
theorem dX4_takeRow_30 : decode cX4_takeRow 30 = .ok (.lastore, 1) := by decide +kernel
theorem dX4_takeRow_31 : decode cX4_takeRow 31 = .ok (.iinc 3 1, 3) := by decide +kernel
theorem dX4_takeRow_34 : decode cX4_takeRow 34 = .ok (.goto (-17), 3) := by decide +kernel
theorem dX4_takeRow_37 : decode cX4_takeRow 37 = .ok (.return_, 1) := by decide +kernel
theorem dX4_takeBiscuit_0 : decode cX4_takeBiscuit 0 = .ok (.aload_n 0, 1) := by decide +kernel
theorem dX4_takeBiscuit_1 : decode cX4_takeBiscuit 1 = .ok (.iload_n 1, 1) := by decide +kernel
theorem dX4_takeBiscuit_2 : decode cX4_takeBiscuit 2 = .ok (.putfield 19, 3) := by decide +kernel
theorem dX4_takeBiscuit_5 : decode cX4_takeBiscuit 5 = .ok (.aload_n 0, 1) := by decide +kernel
theorem dX4_takeBiscuit_6 : decode cX4_takeBiscuit 6 = .ok (.iconst (-1), 1) := by decide +kernel
theorem dX4_takeBiscuit_7 : decode cX4_takeBiscuit 7 = .ok (.putfield 15, 3) := by decide +kernel
theorem dX4_takeBiscuit_10 : decode cX4_takeBiscuit 10 = .ok (.aload_n 0, 1) := by decide +kernel
theorem dX4_takeBiscuit_11 : decode cX4_takeBiscuit 11 = .ok (.iconst 0, 1) := by decide +kernel
theorem dX4_takeBiscuit_12 : decode cX4_takeBiscuit 12 = .ok (.putfield 22, 3) := by decide +kernel
theorem dX4_takeBiscuit_15 : decode cX4_takeBiscuit 15 = .ok (.return_, 1) := by decide +kernel
theorem dX4_holdsRow_0 : decode cX4_holdsRow 0 = .ok (.aload_n 0, 1) := by decide +kernel
theorem dX4_holdsRow_1 : decode cX4_holdsRow 1 = .ok (.getfield 15, 3) := by decide +kernel
theorem dX4_holdsRow_4 : decode cX4_holdsRow 4 = .ok (.iconst (-1), 1) := by decide +kernel
theorem dX4_holdsRow_5 : decode cX4_holdsRow 5 = .ok (.if_icmp .eq 7, 3) := by decide +kernel
theorem dX4_holdsRow_8 : decode cX4_holdsRow 8 = .ok (.iconst 1, 1) := by decide +kernel
theorem dX4_holdsRow_9 : decode cX4_holdsRow 9 = .ok (.goto 4, 3) := by decide +kernel
theorem dX4_holdsRow_12 : decode cX4_holdsRow 12 = .ok (.iconst 0, 1) := by decide +kernel
theorem dX4_holdsRow_13 : decode cX4_holdsRow 13 = .ok (.ireturn, 1) := by decide +kernel
theorem dX4_tellsWhatItHolds_0 : decode cX4_tellsWhatItHolds 0 = .ok (.aload_n 0, 1) := by decide +kernel
theorem dX4_tellsWhatItHolds_1 : decode cX4_tellsWhatItHolds 1 = .ok (.invokevirtual 25, 3) := by decide +kernel
theorem dX4_tellsWhatItHolds_4 : decode cX4_tellsWhatItHolds 4 = .ok (.ifCond .eq 13, 3) := by decide +kernel
theorem dX4_tellsWhatItHolds_7 : decode cX4_tellsWhatItHolds 7 = .ok (.bipush 100, 2) := by decide +kernel
theorem dX4_tellsWhatItHolds_9 : decode cX4_tellsWhatItHolds 9 = .ok (.aload_n 0, 1) := by decide +kernel
theorem dX4_tellsWhatItHolds_10 : decode cX4_tellsWhatItHolds 10 = .ok (.getfield 15, 3) := by decide +kernel
theorem dX4_tellsWhatItHolds_13 : decode cX4_tellsWhatItHolds 13 = .ok (.iadd, 1) := by decide +kernel
theorem dX4_tellsWhatItHolds_14 : decode cX4_tellsWhatItHolds 14 = .ok (.goto 7, 3) := by decide +kernel
theorem dX4_tellsWhatItHolds_17 : decode cX4_tellsWhatItHolds 17 = .ok (.aload_n 0, 1) := by decide +kernel
theorem dX4_tellsWhatItHolds_18 : decode cX4_tellsWhatItHolds 18 = .ok (.getfield 19, 3) := by decide +kernel
theorem dX4_tellsWhatItHolds_21 : decode cX4_tellsWhatItHolds 21 = .ok (.ireturn, 1) := by decide +kernel
theorem dX4_hasElement_0 : decode cX4_hasElement 0 = .ok (.iload_n 1, 1) := by decide +kernel
theorem dX4_hasElement_1 : decode cX4_hasElement 1 = .ok (.ifCond .lt 15, 3) := by decide +kernel
theorem dX4_hasElement_4 : decode cX4_hasElement 4 = .ok (.iload_n 1, 1) := by decide +kernel
theorem dX4_hasElement_5 : decode cX4_hasElement 5 = .ok (.aload_n 0, 1) := by decide +kernel
theorem dX4_hasElement_6 : decode cX4_hasElement 6 = .ok (.getfield 22, 3) := by decide +kernel
theorem dX4_hasElement_9 : decode cX4_hasElement 9 = .ok (.if_icmp .ge 7, 3) := by decide +kernel
theorem dX4_hasElement_12 : decode cX4_hasElement 12 = .ok (.iconst 1, 1) := by decide +kernel
theorem dX4_hasElement_13 : decode cX4_hasElement 13 = .ok (.goto 4, 3) := by decide +kernel
theorem dX4_hasElement_16 : decode cX4_hasElement 16 = .ok (.iconst 0, 1) := by decide +kernel
theorem dX4_hasElement_17 : decode cX4_hasElement 17 = .ok (.ireturn, 1) := by decide +kernel
theorem dX4_elementAt_0 : decode cX4_elementAt 0 = .ok (.aload_n 0, 1) := by decide +kernel
theorem dX4_elementAt_1 : decode cX4_elementAt 1 = .ok (.iload_n 1, 1) := by decide +kernel
theorem dX4_elementAt_2 : decode cX4_elementAt 2 = .ok (.invokevirtual 29, 3) := by decide +kernel
theorem dX4_elementAt_5 : decode cX4_elementAt 5 = .ok (.ifCond .eq 12, 3) := by decide +kernel
theorem dX4_elementAt_8 : decode cX4_elementAt 8 = .ok (.aload_n 0, 1) := by decide +kernel
theorem dX4_elementAt_9 : decode cX4_elementAt 9 = .ok (.getfield 9, 3) := by decide +kernel
theorem dX4_elementAt_12 : decode cX4_elementAt 12 = .ok (.iload_n 1, 1) := by decide +kernel
theorem dX4_elementAt_13 : decode cX4_elementAt 13 = .ok (.laload, 1) := by decide +kernel
theorem dX4_elementAt_14 : decode cX4_elementAt 14 = .ok (.goto 4, 3) := by decide +kernel
theorem dX4_elementAt_17 : decode cX4_elementAt 17 = .ok (.lconst 0, 1) := by decide +kernel
theorem dX4_elementAt_18 : decode cX4_elementAt 18 = .ok (.lreturn, 1) := by decide +kernel
theorem dX4_put_0 : decode cX4_put 0 = .ok (.aload_n 0, 1) := by decide +kernel
theorem dX4_put_1 : decode cX4_put 1 = .ok (.iload_n 1, 1) := by decide +kernel
theorem dX4_put_2 : decode cX4_put 2 = .ok (.invokevirtual 29, 3) := by decide +kernel
theorem dX4_put_5 : decode cX4_put 5 = .ok (.ifCond .eq 14, 3) := by decide +kernel
theorem dX4_put_8 : decode cX4_put 8 = .ok (.aload_n 0, 1) := by decide +kernel
theorem dX4_put_9 : decode cX4_put 9 = .ok (.getfield 9, 3) := by decide +kernel
theorem dX4_put_12 : decode cX4_put 12 = .ok (.iload_n 1, 1) := by decide +kernel
theorem dX4_put_13 : decode cX4_put 13 = .ok (.aload_n 0, 1) := by decide +kernel
theorem dX4_put_14 : decode cX4_put 14 = .ok (.lload_n 2, 1) := by decide +kernel
theorem dX4_put_15 : decode cX4_put 15 = .ok (.invokevirtual 33, 3) := by decide +kernel
theorem dX4_put_18 : decode cX4_put 18 = .ok (.lastore, 1) := by decide +kernel
theorem dX4_put_19 : decode cX4_put 19 = .ok (.return_, 1) := by decide +kernel
theorem dX4_lowestBits_0 : decode cX4_lowestBits 0 = .ok (.aload_n 0, 1) := by decide +kernel
theorem dX4_lowestBits_1 : decode cX4_lowestBits 1 = .ok (.getfield 15, 3) := by decide +kernel
theorem dX4_lowestBits_4 : decode cX4_lowestBits 4 = .ok (.tableswitch 42 0 2 #[28, 33, 38], 28) := by decide +kernel
theorem dX4_lowestBits_32 : decode cX4_lowestBits 32 = .ok (.lload_n 1, 1) := by decide +kernel
theorem dX4_lowestBits_33 : decode cX4_lowestBits 33 = .ok (.l2i, 1) := by decide +kernel
theorem dX4_lowestBits_34 : decode cX4_lowestBits 34 = .ok (.i2b, 1) := by decide +kernel
theorem dX4_lowestBits_35 : decode cX4_lowestBits 35 = .ok (.i2l, 1) := by decide +kernel
theorem dX4_lowestBits_36 : decode cX4_lowestBits 36 = .ok (.lreturn, 1) := by decide +kernel
theorem dX4_lowestBits_37 : decode cX4_lowestBits 37 = .ok (.lload_n 1, 1) := by decide +kernel
theorem dX4_lowestBits_38 : decode cX4_lowestBits 38 = .ok (.l2i, 1) := by decide +kernel
theorem dX4_lowestBits_39 : decode cX4_lowestBits 39 = .ok (.i2s, 1) := by decide +kernel
theorem dX4_lowestBits_40 : decode cX4_lowestBits 40 = .ok (.i2l, 1) := by decide +kernel
theorem dX4_lowestBits_41 : decode cX4_lowestBits 41 = .ok (.lreturn, 1) := by decide +kernel
theorem dX4_lowestBits_42 : decode cX4_lowestBits 42 = .ok (.lload_n 1, 1) := by decide +kernel
theorem dX4_lowestBits_43 : decode cX4_lowestBits 43 = .ok (.l2i, 1) := by decide +kernel
theorem dX4_lowestBits_44 : decode cX4_lowestBits 44 = .ok (.i2l, 1) := by decide +kernel
theorem dX4_lowestBits_45 : decode cX4_lowestBits 45 = .ok (.lreturn, 1) := by decide +kernel
theorem dX4_lowestBits_46 : decode cX4_lowestBits 46 = .ok (.lload_n 1, 1) := by decide +kernel
theorem dX4_lowestBits_47 : decode cX4_lowestBits 47 = .ok (.lreturn, 1) := by decide +kernel
theorem dX5_init_0 : decode cX5_init 0 = .ok (.aload_n 0, 1) := by decide +kernel
theorem dX5_init_1 : decode cX5_init 1 = .ok (.invokespecial 3, 3) := by decide +kernel
theorem dX5_init_4 : decode cX5_init 4 = .ok (.aload_n 0, 1) := by decide +kernel
theorem dX5_init_5 : decode cX5_init 5 = .ok (.bipush 6, 2) := by decide +kernel
theorem dX5_init_7 : decode cX5_init 7 = .ok (.anewarray 9, 3) := by decide +kernel
theorem dX5_init_10 : decode cX5_init 10 = .ok (.putfield 11, 3) := by decide +kernel
theorem dX5_init_13 : decode cX5_init 13 = .ok (.aload_n 0, 1) := by decide +kernel
theorem dX5_init_14 : decode cX5_init 14 = .ok (.bipush 10, 2) := by decide +kernel
theorem dX5_init_16 : decode cX5_init 16 = .ok (.newarray .int, 2) := by decide +kernel
theorem dX5_init_18 : decode cX5_init 18 = .ok (.putfield 17, 3) := by decide +kernel
theorem dX5_init_21 : decode cX5_init 21 = .ok (.aload_n 0, 1) := by decide +kernel
theorem dX5_init_22 : decode cX5_init 22 = .ok (.bipush 60, 2) := by decide +kernel
theorem dX5_init_24 : decode cX5_init 24 = .ok (.putfield 21, 3) := by decide +kernel
theorem dX5_init_27 : decode cX5_init 27 = .ok (.aload_n 0, 1) := by decide +kernel
theorem dX5_init_28 : decode cX5_init 28 = .ok (.bipush 20, 2) := by decide +kernel
theorem dX5_init_30 : decode cX5_init 30 = .ok (.putfield 25, 3) := by decide +kernel
theorem dX5_init_33 : decode cX5_init 33 = .ok (.aload_n 0, 1) := by decide +kernel
theorem dX5_init_34 : decode cX5_init 34 = .ok (.sipush 1000, 3) := by decide +kernel
theorem dX5_init_37 : decode cX5_init 37 = .ok (.putfield 28, 3) := by decide +kernel
theorem dX5_init_40 : decode cX5_init 40 = .ok (.aload_n 0, 1) := by decide +kernel
theorem dX5_init_41 : decode cX5_init 41 = .ok (.iconst 1, 1) := by decide +kernel
theorem dX5_init_42 : decode cX5_init 42 = .ok (.putfield 31, 3) := by decide +kernel
theorem dX5_init_45 : decode cX5_init 45 = .ok (.iconst 0, 1) := by decide +kernel
theorem dX5_init_46 : decode cX5_init 46 = .ok (.istore_n 1, 1) := by decide +kernel
theorem dX5_init_47 : decode cX5_init 47 = .ok (.iload_n 1, 1) := by decide +kernel
theorem dX5_init_48 : decode cX5_init 48 = .ok (.bipush 6, 2) := by decide +kernel
theorem dX5_init_50 : decode cX5_init 50 = .ok (.if_icmp .ge 22, 3) := by decide +kernel
theorem dX5_init_53 : decode cX5_init 53 = .ok (.aload_n 0, 1) := by decide +kernel
theorem dX5_init_54 : decode cX5_init 54 = .ok (.getfield 11, 3) := by decide +kernel
theorem dX5_init_57 : decode cX5_init 57 = .ok (.iload_n 1, 1) := by decide +kernel
theorem dX5_init_58 : decode cX5_init 58 = .ok (.new 9, 3) := by decide +kernel
theorem dX5_init_61 : decode cX5_init 61 = .ok (.dup, 1) := by decide +kernel
theorem dX5_init_62 : decode cX5_init 62 = .ok (.invokespecial 34, 3) := by decide +kernel
theorem dX5_init_65 : decode cX5_init 65 = .ok (.aastore, 1) := by decide +kernel
theorem dX5_init_66 : decode cX5_init 66 = .ok (.iinc 1 1, 3) := by decide +kernel
theorem dX5_init_69 : decode cX5_init 69 = .ok (.goto (-22), 3) := by decide +kernel
theorem dX5_init_72 : decode cX5_init 72 = .ok (.return_, 1) := by decide +kernel
theorem dX5_takeOver_0 : decode cX5_takeOver 0 = .ok (.iconst 0, 1) := by decide +kernel
theorem dX5_takeOver_1 : decode cX5_takeOver 1 = .ok (.istore_n 2, 1) := by decide +kernel
theorem dX5_takeOver_2 : decode cX5_takeOver 2 = .ok (.iload_n 2, 1) := by decide +kernel
theorem dX5_takeOver_3 : decode cX5_takeOver 3 = .ok (.bipush 6, 2) := by decide +kernel
theorem dX5_takeOver_5 : decode cX5_takeOver 5 = .ok (.if_icmp .ge 24, 3) := by decide +kernel
theorem dX5_takeOver_8 : decode cX5_takeOver 8 = .ok (.aload_n 0, 1) := by decide +kernel
theorem dX5_takeOver_9 : decode cX5_takeOver 9 = .ok (.getfield 11, 3) := by decide +kernel
theorem dX5_takeOver_12 : decode cX5_takeOver 12 = .ok (.iload_n 2, 1) := by decide +kernel
theorem dX5_takeOver_13 : decode cX5_takeOver 13 = .ok (.aaload, 1) := by decide +kernel
theorem dX5_takeOver_14 : decode cX5_takeOver 14 = .ok (.aload_n 1, 1) := by decide +kernel
theorem dX5_takeOver_15 : decode cX5_takeOver 15 = .ok (.getfield 11, 3) := by decide +kernel
theorem dX5_takeOver_18 : decode cX5_takeOver 18 = .ok (.iload_n 2, 1) := by decide +kernel
theorem dX5_takeOver_19 : decode cX5_takeOver 19 = .ok (.aaload, 1) := by decide +kernel
theorem dX5_takeOver_20 : decode cX5_takeOver 20 = .ok (.invokevirtual 35, 3) := by decide +kernel
theorem dX5_takeOver_23 : decode cX5_takeOver 23 = .ok (.iinc 2 1, 3) := by decide +kernel
theorem dX5_takeOver_26 : decode cX5_takeOver 26 = .ok (.goto (-24), 3) := by decide +kernel
theorem dX5_takeOver_29 : decode cX5_takeOver 29 = .ok (.aload_n 1, 1) := by decide +kernel
theorem dX5_takeOver_30 : decode cX5_takeOver 30 = .ok (.getfield 17, 3) := by decide +kernel
theorem dX5_takeOver_33 : decode cX5_takeOver 33 = .ok (.iconst 0, 1) := by decide +kernel
theorem dX5_takeOver_34 : decode cX5_takeOver 34 = .ok (.aload_n 0, 1) := by decide +kernel
theorem dX5_takeOver_35 : decode cX5_takeOver 35 = .ok (.getfield 17, 3) := by decide +kernel
theorem dX5_takeOver_38 : decode cX5_takeOver 38 = .ok (.iconst 0, 1) := by decide +kernel
theorem dX5_takeOver_39 : decode cX5_takeOver 39 = .ok (.bipush 10, 2) := by decide +kernel
theorem dX5_takeOver_41 : decode cX5_takeOver 41 = .ok (.invokestatic 39, 3) := by decide +kernel
theorem dX5_takeOver_44 : decode cX5_takeOver 44 = .ok (.aload_n 0, 1) := by decide +kernel
theorem dX5_takeOver_45 : decode cX5_takeOver 45 = .ok (.aload_n 1, 1) := by decide +kernel
theorem dX5_takeOver_46 : decode cX5_takeOver 46 = .ok (.getfield 45, 3) := by decide +kernel
theorem dX5_takeOver_49 : decode cX5_takeOver 49 = .ok (.putfield 45, 3) := by decide +kernel
theorem dX5_takeOver_52 : decode cX5_takeOver 52 = .ok (.aload_n 0, 1) := by decide +kernel
theorem dX5_takeOver_53 : decode cX5_takeOver 53 = .ok (.aload_n 1, 1) := by decide +kernel
theorem dX5_takeOver_54 : decode cX5_takeOver 54 = .ok (.getfield 21, 3) := by decide +kernel
theorem dX5_takeOver_57 : decode cX5_takeOver 57 = .ok (.putfield 21, 3) := by decide +kernel
theorem dX5_takeOver_60 : decode cX5_takeOver 60 = .ok (.aload_n 0, 1) := by decide +kernel
theorem dX5_takeOver_61 : decode cX5_takeOver 61 = .ok (.aload_n 1, 1) := by decide +kernel
theorem dX5_takeOver_62 : decode cX5_takeOver 62 = .ok (.getfield 25, 3) := by decide +kernel
theorem dX5_takeOver_65 : decode cX5_takeOver 65 = .ok (.putfield 25, 3) := by decide +kernel
theorem dX5_takeOver_68 : decode cX5_takeOver 68 = .ok (.aload_n 0, 1) := by decide +kernel
theorem dX5_takeOver_69 : decode cX5_takeOver 69 = .ok (.aload_n 1, 1) := by decide +kernel
theorem dX5_takeOver_70 : decode cX5_takeOver 70 = .ok (.getfield 28, 3) := by decide +kernel
theorem dX5_takeOver_73 : decode cX5_takeOver 73 = .ok (.putfield 28, 3) := by decide +kernel
theorem dX5_takeOver_76 : decode cX5_takeOver 76 = .ok (.aload_n 0, 1) := by decide +kernel
theorem dX5_takeOver_77 : decode cX5_takeOver 77 = .ok (.aload_n 1, 1) := by decide +kernel
theorem dX5_takeOver_78 : decode cX5_takeOver 78 = .ok (.getfield 48, 3) := by decide +kernel
theorem dX5_takeOver_81 : decode cX5_takeOver 81 = .ok (.putfield 48, 3) := by decide +kernel
theorem dX5_takeOver_84 : decode cX5_takeOver 84 = .ok (.aload_n 0, 1) := by decide +kernel
theorem dX5_takeOver_85 : decode cX5_takeOver 85 = .ok (.aload_n 1, 1) := by decide +kernel
theorem dX5_takeOver_86 : decode cX5_takeOver 86 = .ok (.getfield 51, 3) := by decide +kernel
theorem dX5_takeOver_89 : decode cX5_takeOver 89 = .ok (.putfield 51, 3) := by decide +kernel
theorem dX5_takeOver_92 : decode cX5_takeOver 92 = .ok (.aload_n 0, 1) := by decide +kernel
theorem dX5_takeOver_93 : decode cX5_takeOver 93 = .ok (.aload_n 1, 1) := by decide +kernel
theorem dX5_takeOver_94 : decode cX5_takeOver 94 = .ok (.getfield 54, 3) := by decide +kernel
theorem dX5_takeOver_97 : decode cX5_takeOver 97 = .ok (.putfield 54, 3) := by decide +kernel
theorem dX5_takeOver_100 : decode cX5_takeOver 100 = .ok (.aload_n 0, 1) := by decide +kernel
theorem dX5_takeOver_101 : decode cX5_takeOver 101 = .ok (.aload_n 1, 1) := by decide +kernel
theorem dX5_takeOver_102 : decode cX5_takeOver 102 = .ok (.getfield 31, 3) := by decide +kernel
theorem dX5_takeOver_105 : decode cX5_takeOver 105 = .ok (.putfield 31, 3) := by decide +kernel
theorem dX5_takeOver_108 : decode cX5_takeOver 108 = .ok (.return_, 1) := by decide +kernel
theorem dX5_hasBiscuit_0 : decode cX5_hasBiscuit 0 = .ok (.iload_n 1, 1) := by decide +kernel
theorem dX5_hasBiscuit_1 : decode cX5_hasBiscuit 1 = .ok (.ifCond .lt 15, 3) := by decide +kernel
theorem dX5_hasBiscuit_4 : decode cX5_hasBiscuit 4 = .ok (.iload_n 1, 1) := by decide +kernel
theorem dX5_hasBiscuit_5 : decode cX5_hasBiscuit 5 = .ok (.aload_n 0, 1) := by decide +kernel
theorem dX5_hasBiscuit_6 : decode cX5_hasBiscuit 6 = .ok (.getfield 45, 3) := by decide +kernel
theorem dX5_hasBiscuit_9 : decode cX5_hasBiscuit 9 = .ok (.if_icmp .ge 7, 3) := by decide +kernel
theorem dX5_hasBiscuit_12 : decode cX5_hasBiscuit 12 = .ok (.iconst 1, 1) := by decide +kernel
theorem dX5_hasBiscuit_13 : decode cX5_hasBiscuit 13 = .ok (.goto 4, 3) := by decide +kernel
theorem dX5_hasBiscuit_16 : decode cX5_hasBiscuit 16 = .ok (.iconst 0, 1) := by decide +kernel
theorem dX5_hasBiscuit_17 : decode cX5_hasBiscuit 17 = .ok (.ireturn, 1) := by decide +kernel
theorem dX5_hasCellOf_0 : decode cX5_hasCellOf 0 = .ok (.aload_n 0, 1) := by decide +kernel
theorem dX5_hasCellOf_1 : decode cX5_hasCellOf 1 = .ok (.iload_n 1, 1) := by decide +kernel
theorem dX5_hasCellOf_2 : decode cX5_hasCellOf 2 = .ok (.invokevirtual 57, 3) := by decide +kernel
theorem dX5_hasCellOf_5 : decode cX5_hasCellOf 5 = .ok (.ifCond .eq 20, 3) := by decide +kernel
theorem dX5_hasCellOf_8 : decode cX5_hasCellOf 8 = .ok (.aload_n 0, 1) := by decide +kernel
theorem dX5_hasCellOf_9 : decode cX5_hasCellOf 9 = .ok (.getfield 11, 3) := by decide +kernel
theorem dX5_hasCellOf_12 : decode cX5_hasCellOf 12 = .ok (.iload_n 1, 1) := by decide +kernel
theorem dX5_hasCellOf_13 : decode cX5_hasCellOf 13 = .ok (.aaload, 1) := by decide +kernel
theorem dX5_hasCellOf_14 : decode cX5_hasCellOf 14 = .ok (.iload_n 2, 1) := by decide +kernel
theorem dX5_hasCellOf_15 : decode cX5_hasCellOf 15 = .ok (.invokevirtual 61, 3) := by decide +kernel
theorem dX5_hasCellOf_18 : decode cX5_hasCellOf 18 = .ok (.ifCond .eq 7, 3) := by decide +kernel
theorem dX5_hasCellOf_21 : decode cX5_hasCellOf 21 = .ok (.iconst 1, 1) := by decide +kernel
theorem dX5_hasCellOf_22 : decode cX5_hasCellOf 22 = .ok (.goto 4, 3) := by decide +kernel
theorem dX5_hasCellOf_25 : decode cX5_hasCellOf 25 = .ok (.iconst 0, 1) := by decide +kernel
theorem dX5_hasCellOf_26 : decode cX5_hasCellOf 26 = .ok (.ireturn, 1) := by decide +kernel
theorem dX5_hasRoom_0 : decode cX5_hasRoom 0 = .ok (.aload_n 0, 1) := by decide +kernel
theorem dX5_hasRoom_1 : decode cX5_hasRoom 1 = .ok (.getfield 45, 3) := by decide +kernel
theorem dX5_hasRoom_4 : decode cX5_hasRoom 4 = .ok (.bipush 6, 2) := by decide +kernel
theorem dX5_hasRoom_6 : decode cX5_hasRoom 6 = .ok (.if_icmp .ge 7, 3) := by decide +kernel
theorem dX5_hasRoom_9 : decode cX5_hasRoom 9 = .ok (.iconst 1, 1) := by decide +kernel
theorem dX5_hasRoom_10 : decode cX5_hasRoom 10 = .ok (.goto 4, 3) := by decide +kernel
theorem dX5_hasRoom_13 : decode cX5_hasRoom 13 = .ok (.iconst 0, 1) := by decide +kernel
theorem dX5_hasRoom_14 : decode cX5_hasRoom 14 = .ok (.ireturn, 1) := by decide +kernel
theorem dX5_addBiscuit_0 : decode cX5_addBiscuit 0 = .ok (.aload_n 0, 1) := by decide +kernel
theorem dX5_addBiscuit_1 : decode cX5_addBiscuit 1 = .ok (.invokevirtual 64, 3) := by decide +kernel
theorem dX5_addBiscuit_4 : decode cX5_addBiscuit 4 = .ok (.ifCond .ne 5, 3) := by decide +kernel
theorem dX5_addBiscuit_7 : decode cX5_addBiscuit 7 = .ok (.iconst (-1), 1) := by decide +kernel
theorem dX5_addBiscuit_8 : decode cX5_addBiscuit 8 = .ok (.ireturn, 1) := by decide +kernel
theorem dX5_addBiscuit_9 : decode cX5_addBiscuit 9 = .ok (.aload_n 0, 1) := by decide +kernel
theorem dX5_addBiscuit_10 : decode cX5_addBiscuit 10 = .ok (.getfield 11, 3) := by decide +kernel
theorem dX5_addBiscuit_13 : decode cX5_addBiscuit 13 = .ok (.aload_n 0, 1) := by decide +kernel
theorem dX5_addBiscuit_14 : decode cX5_addBiscuit 14 = .ok (.getfield 45, 3) := by decide +kernel
theorem dX5_addBiscuit_17 : decode cX5_addBiscuit 17 = .ok (.aaload, 1) := by decide +kernel
theorem dX5_addBiscuit_18 : decode cX5_addBiscuit 18 = .ok (.iload_n 1, 1) := by decide +kernel
theorem dX5_addBiscuit_19 : decode cX5_addBiscuit 19 = .ok (.iload_n 2, 1) := by decide +kernel
theorem dX5_addBiscuit_20 : decode cX5_addBiscuit 20 = .ok (.iload_n 3, 1) := by decide +kernel
theorem dX5_addBiscuit_21 : decode cX5_addBiscuit 21 = .ok (.invokevirtual 68, 3) := by decide +kernel
theorem dX5_addBiscuit_24 : decode cX5_addBiscuit 24 = .ok (.aload_n 0, 1) := by decide +kernel
theorem dX5_addBiscuit_25 : decode cX5_addBiscuit 25 = .ok (.dup, 1) := by decide +kernel
theorem dX5_addBiscuit_26 : decode cX5_addBiscuit 26 = .ok (.getfield 45, 3) := by decide +kernel
theorem dX5_addBiscuit_29 : decode cX5_addBiscuit 29 = .ok (.iconst 1, 1) := by decide +kernel
theorem dX5_addBiscuit_30 : decode cX5_addBiscuit 30 = .ok (.iadd, 1) := by decide +kernel
theorem dX5_addBiscuit_31 : decode cX5_addBiscuit 31 = .ok (.putfield 45, 3) := by decide +kernel
theorem dX5_addBiscuit_34 : decode cX5_addBiscuit 34 = .ok (.aload_n 0, 1) := by decide +kernel
theorem dX5_addBiscuit_35 : decode cX5_addBiscuit 35 = .ok (.getfield 45, 3) := by decide +kernel
theorem dX5_addBiscuit_38 : decode cX5_addBiscuit 38 = .ok (.iconst 1, 1) := by decide +kernel
theorem dX5_addBiscuit_39 : decode cX5_addBiscuit 39 = .ok (.isub, 1) := by decide +kernel
theorem dX5_addBiscuit_40 : decode cX5_addBiscuit 40 = .ok (.ireturn, 1) := by decide +kernel
theorem dX5_cellsOfAll_0 : decode cX5_cellsOfAll 0 = .ok (.iconst 0, 1) := by decide +kernel
theorem dX5_cellsOfAll_1 : decode cX5_cellsOfAll 1 = .ok (.istore_n 1, 1) := by decide +kernel
theorem dX5_cellsOfAll_2 : decode cX5_cellsOfAll 2 = .ok (.iconst 0, 1) := by decide +kernel
theorem dX5_cellsOfAll_3 : decode cX5_cellsOfAll 3 = .ok (.istore_n 2, 1) := by decide +kernel
theorem dX5_cellsOfAll_4 : decode cX5_cellsOfAll 4 = .ok (.iload_n 2, 1) := by decide +kernel
theorem dX5_cellsOfAll_5 : decode cX5_cellsOfAll 5 = .ok (.aload_n 0, 1) := by decide +kernel
theorem dX5_cellsOfAll_6 : decode cX5_cellsOfAll 6 = .ok (.getfield 45, 3) := by decide +kernel
theorem dX5_cellsOfAll_9 : decode cX5_cellsOfAll 9 = .ok (.if_icmp .ge 21, 3) := by decide +kernel
theorem dX5_cellsOfAll_12 : decode cX5_cellsOfAll 12 = .ok (.iload_n 1, 1) := by decide +kernel
theorem dX5_cellsOfAll_13 : decode cX5_cellsOfAll 13 = .ok (.aload_n 0, 1) := by decide +kernel
theorem dX5_cellsOfAll_14 : decode cX5_cellsOfAll 14 = .ok (.getfield 11, 3) := by decide +kernel
theorem dX5_cellsOfAll_17 : decode cX5_cellsOfAll 17 = .ok (.iload_n 2, 1) := by decide +kernel
theorem dX5_cellsOfAll_18 : decode cX5_cellsOfAll 18 = .ok (.aaload, 1) := by decide +kernel
theorem dX5_cellsOfAll_19 : decode cX5_cellsOfAll 19 = .ok (.getfield 72, 3) := by decide +kernel
theorem dX5_cellsOfAll_22 : decode cX5_cellsOfAll 22 = .ok (.iadd, 1) := by decide +kernel
theorem dX5_cellsOfAll_23 : decode cX5_cellsOfAll 23 = .ok (.istore_n 1, 1) := by decide +kernel
theorem dX5_cellsOfAll_24 : decode cX5_cellsOfAll 24 = .ok (.iinc 2 1, 3) := by decide +kernel
theorem dX5_cellsOfAll_27 : decode cX5_cellsOfAll 27 = .ok (.goto (-23), 3) := by decide +kernel
theorem dX5_cellsOfAll_30 : decode cX5_cellsOfAll 30 = .ok (.iload_n 1, 1) := by decide +kernel
theorem dX5_cellsOfAll_31 : decode cX5_cellsOfAll 31 = .ok (.ireturn, 1) := by decide +kernel
theorem dX5_worthOfCells_0 : decode cX5_worthOfCells 0 = .ok (.iconst 0, 1) := by decide +kernel
theorem dX5_worthOfCells_1 : decode cX5_worthOfCells 1 = .ok (.istore_n 2, 1) := by decide +kernel
theorem dX5_worthOfCells_2 : decode cX5_worthOfCells 2 = .ok (.iconst 0, 1) := by decide +kernel
theorem dX5_worthOfCells_3 : decode cX5_worthOfCells 3 = .ok (.istore_n 3, 1) := by decide +kernel
theorem dX5_worthOfCells_4 : decode cX5_worthOfCells 4 = .ok (.iload_n 3, 1) := by decide +kernel
theorem dX5_worthOfCells_5 : decode cX5_worthOfCells 5 = .ok (.aload_n 1, 1) := by decide +kernel
theorem dX5_worthOfCells_6 : decode cX5_worthOfCells 6 = .ok (.getfield 72, 3) := by decide +kernel
theorem dX5_worthOfCells_9 : decode cX5_worthOfCells 9 = .ok (.if_icmp .ge 41, 3) := by decide +kernel
theorem dX5_worthOfCells_12 : decode cX5_worthOfCells 12 = .ok (.aload_n 1, 1) := by decide +kernel
theorem dX5_worthOfCells_13 : decode cX5_worthOfCells 13 = .ok (.getfield 75, 3) := by decide +kernel
theorem dX5_worthOfCells_16 : decode cX5_worthOfCells 16 = .ok (.iload_n 3, 1) := by decide +kernel
theorem dX5_worthOfCells_17 : decode cX5_worthOfCells 17 = .ok (.iaload, 1) := by decide +kernel
theorem dX5_worthOfCells_18 : decode cX5_worthOfCells 18 = .ok (.bipush 10, 2) := by decide +kernel
theorem dX5_worthOfCells_20 : decode cX5_worthOfCells 20 = .ok (.idiv, 1) := by decide +kernel
theorem dX5_worthOfCells_21 : decode cX5_worthOfCells 21 = .ok (.istore 4, 2) := by decide +kernel
theorem dX5_worthOfCells_23 : decode cX5_worthOfCells 23 = .ok (.iload 4, 2) := by decide +kernel
theorem dX5_worthOfCells_25 : decode cX5_worthOfCells 25 = .ok (.iconst 0, 1) := by decide +kernel
theorem dX5_worthOfCells_26 : decode cX5_worthOfCells 26 = .ok (.bipush 9, 2) := by decide +kernel
theorem dX5_worthOfCells_28 : decode cX5_worthOfCells 28 = .ok (.invokestatic 78, 3) := by decide +kernel
theorem dX5_worthOfCells_31 : decode cX5_worthOfCells 31 = .ok (.ifCond .eq 13, 3) := by decide +kernel
theorem dX5_worthOfCells_34 : decode cX5_worthOfCells 34 = .ok (.iload_n 2, 1) := by decide +kernel
theorem dX5_worthOfCells_35 : decode cX5_worthOfCells 35 = .ok (.aload_n 0, 1) := by decide +kernel
theorem dX5_worthOfCells_36 : decode cX5_worthOfCells 36 = .ok (.getfield 17, 3) := by decide +kernel
theorem dX5_worthOfCells_39 : decode cX5_worthOfCells 39 = .ok (.iload 4, 2) := by decide +kernel
theorem dX5_worthOfCells_41 : decode cX5_worthOfCells 41 = .ok (.iaload, 1) := by decide +kernel
theorem dX5_worthOfCells_42 : decode cX5_worthOfCells 42 = .ok (.iadd, 1) := by decide +kernel
theorem dX5_worthOfCells_43 : decode cX5_worthOfCells 43 = .ok (.istore_n 2, 1) := by decide +kernel
theorem dX5_worthOfCells_44 : decode cX5_worthOfCells 44 = .ok (.iinc 3 1, 3) := by decide +kernel
theorem dX5_worthOfCells_47 : decode cX5_worthOfCells 47 = .ok (.goto (-43), 3) := by decide +kernel
theorem dX5_worthOfCells_50 : decode cX5_worthOfCells 50 = .ok (.iload_n 2, 1) := by decide +kernel
theorem dX5_worthOfCells_51 : decode cX5_worthOfCells 51 = .ok (.ireturn, 1) := by decide +kernel
theorem dX5_heatAfter_0 : decode cX5_heatAfter 0 = .ok (.aload_n 0, 1) := by decide +kernel
theorem dX5_heatAfter_1 : decode cX5_heatAfter 1 = .ok (.getfield 25, 3) := by decide +kernel
theorem dX5_heatAfter_4 : decode cX5_heatAfter 4 = .ok (.ifCond .le 27, 3) := by decide +kernel
theorem dX5_heatAfter_7 : decode cX5_heatAfter 7 = .ok (.aload_n 0, 1) := by decide +kernel
theorem dX5_heatAfter_8 : decode cX5_heatAfter 8 = .ok (.getfield 54, 3) := by decide +kernel
theorem dX5_heatAfter_11 : decode cX5_heatAfter 11 = .ok (.iload_n 1, 1) := by decide +kernel
theorem dX5_heatAfter_12 : decode cX5_heatAfter 12 = .ok (.iadd, 1) := by decide +kernel
theorem dX5_heatAfter_13 : decode cX5_heatAfter 13 = .ok (.aload_n 0, 1) := by decide +kernel
theorem dX5_heatAfter_14 : decode cX5_heatAfter 14 = .ok (.getfield 25, 3) := by decide +kernel
theorem dX5_heatAfter_17 : decode cX5_heatAfter 17 = .ok (.idiv, 1) := by decide +kernel
theorem dX5_heatAfter_18 : decode cX5_heatAfter 18 = .ok (.aload_n 0, 1) := by decide +kernel
theorem dX5_heatAfter_19 : decode cX5_heatAfter 19 = .ok (.getfield 54, 3) := by decide +kernel
theorem dX5_heatAfter_22 : decode cX5_heatAfter 22 = .ok (.aload_n 0, 1) := by decide +kernel
theorem dX5_heatAfter_23 : decode cX5_heatAfter 23 = .ok (.getfield 25, 3) := by decide +kernel
theorem dX5_heatAfter_26 : decode cX5_heatAfter 26 = .ok (.idiv, 1) := by decide +kernel
theorem dX5_heatAfter_27 : decode cX5_heatAfter 27 = .ok (.isub, 1) := by decide +kernel
theorem dX5_heatAfter_28 : decode cX5_heatAfter 28 = .ok (.goto 4, 3) := by decide +kernel
theorem dX5_heatAfter_31 : decode cX5_heatAfter 31 = .ok (.iconst 0, 1) := by decide +kernel
theorem dX5_heatAfter_32 : decode cX5_heatAfter 32 = .ok (.istore_n 2, 1) := by decide +kernel
theorem dX5_heatAfter_33 : decode cX5_heatAfter 33 = .ok (.iconst 0, 1) := by decide +kernel
theorem dX5_heatAfter_34 : decode cX5_heatAfter 34 = .ok (.aload_n 0, 1) := by decide +kernel
theorem dX5_heatAfter_35 : decode cX5_heatAfter 35 = .ok (.getfield 21, 3) := by decide +kernel
theorem dX5_heatAfter_38 : decode cX5_heatAfter 38 = .ok (.iload_n 2, 1) := by decide +kernel
theorem dX5_heatAfter_39 : decode cX5_heatAfter 39 = .ok (.isub, 1) := by decide +kernel
theorem dX5_heatAfter_40 : decode cX5_heatAfter 40 = .ok (.invokestatic 82, 3) := by decide +kernel
theorem dX5_heatAfter_43 : decode cX5_heatAfter 43 = .ok (.ireturn, 1) := by decide +kernel
theorem dX5_pass_0 : decode cX5_pass 0 = .ok (.aload_n 0, 1) := by decide +kernel
theorem dX5_pass_1 : decode cX5_pass 1 = .ok (.aload_n 0, 1) := by decide +kernel
theorem dX5_pass_2 : decode cX5_pass 2 = .ok (.iload_n 1, 1) := by decide +kernel
theorem dX5_pass_3 : decode cX5_pass 3 = .ok (.invokevirtual 88, 3) := by decide +kernel
theorem dX5_pass_6 : decode cX5_pass 6 = .ok (.putfield 21, 3) := by decide +kernel
theorem dX5_pass_9 : decode cX5_pass 9 = .ok (.aload_n 0, 1) := by decide +kernel
theorem dX5_pass_10 : decode cX5_pass 10 = .ok (.dup, 1) := by decide +kernel
theorem dX5_pass_11 : decode cX5_pass 11 = .ok (.getfield 54, 3) := by decide +kernel
theorem dX5_pass_14 : decode cX5_pass 14 = .ok (.iload_n 1, 1) := by decide +kernel
theorem dX5_pass_15 : decode cX5_pass 15 = .ok (.iadd, 1) := by decide +kernel
theorem dX5_pass_16 : decode cX5_pass 16 = .ok (.putfield 54, 3) := by decide +kernel
theorem dX5_pass_19 : decode cX5_pass 19 = .ok (.return_, 1) := by decide +kernel
theorem dX5_dipInTruth_0 : decode cX5_dipInTruth 0 = .ok (.aload_n 0, 1) := by decide +kernel
theorem dX5_dipInTruth_1 : decode cX5_dipInTruth 1 = .ok (.iload_n 1, 1) := by decide +kernel
theorem dX5_dipInTruth_2 : decode cX5_dipInTruth 2 = .ok (.invokevirtual 57, 3) := by decide +kernel
theorem dX5_dipInTruth_5 : decode cX5_dipInTruth 5 = .ok (.ifCond .ne 5, 3) := by decide +kernel
theorem dX5_dipInTruth_8 : decode cX5_dipInTruth 8 = .ok (.iconst 0, 1) := by decide +kernel
theorem dX5_dipInTruth_9 : decode cX5_dipInTruth 9 = .ok (.ireturn, 1) := by decide +kernel
theorem dX5_dipInTruth_10 : decode cX5_dipInTruth 10 = .ok (.aload 4, 2) := by decide +kernel
theorem dX5_dipInTruth_12 : decode cX5_dipInTruth 12 = .ok (.aload_n 0, 1) := by decide +kernel
theorem dX5_dipInTruth_13 : decode cX5_dipInTruth 13 = .ok (.getfield 11, 3) := by decide +kernel
theorem dX5_dipInTruth_16 : decode cX5_dipInTruth 16 = .ok (.iload_n 1, 1) := by decide +kernel
theorem dX5_dipInTruth_17 : decode cX5_dipInTruth 17 = .ok (.aaload, 1) := by decide +kernel
theorem dX5_dipInTruth_18 : decode cX5_dipInTruth 18 = .ok (.aload_n 0, 1) := by decide +kernel
theorem dX5_dipInTruth_19 : decode cX5_dipInTruth 19 = .ok (.getfield 21, 3) := by decide +kernel
theorem dX5_dipInTruth_22 : decode cX5_dipInTruth 22 = .ok (.invokevirtual 92, 3) := by decide +kernel
theorem dX5_dipInTruth_25 : decode cX5_dipInTruth 25 = .ok (.aload 4, 2) := by decide +kernel
theorem dX5_dipInTruth_27 : decode cX5_dipInTruth 27 = .ok (.iload_n 2, 1) := by decide +kernel
theorem dX5_dipInTruth_28 : decode cX5_dipInTruth 28 = .ok (.iload_n 3, 1) := by decide +kernel
theorem dX5_dipInTruth_29 : decode cX5_dipInTruth 29 = .ok (.invokevirtual 98, 3) := by decide +kernel
theorem dX5_dipInTruth_32 : decode cX5_dipInTruth 32 = .ok (.aload_n 0, 1) := by decide +kernel
theorem dX5_dipInTruth_33 : decode cX5_dipInTruth 33 = .ok (.getfield 11, 3) := by decide +kernel
theorem dX5_dipInTruth_36 : decode cX5_dipInTruth 36 = .ok (.iload_n 1, 1) := by decide +kernel
theorem dX5_dipInTruth_37 : decode cX5_dipInTruth 37 = .ok (.aaload, 1) := by decide +kernel
theorem dX5_dipInTruth_38 : decode cX5_dipInTruth 38 = .ok (.aload 4, 2) := by decide +kernel
theorem dX5_dipInTruth_40 : decode cX5_dipInTruth 40 = .ok (.getfield 102, 3) := by decide +kernel
theorem dX5_dipInTruth_43 : decode cX5_dipInTruth 43 = .ok (.invokevirtual 35, 3) := by decide +kernel
theorem dX5_dipInTruth_46 : decode cX5_dipInTruth 46 = .ok (.aload_n 0, 1) := by decide +kernel
theorem dX5_dipInTruth_47 : decode cX5_dipInTruth 47 = .ok (.iconst 0, 1) := by decide +kernel
theorem dX5_dipInTruth_48 : decode cX5_dipInTruth 48 = .ok (.aload_n 0, 1) := by decide +kernel
theorem dX5_dipInTruth_49 : decode cX5_dipInTruth 49 = .ok (.getfield 28, 3) := by decide +kernel
theorem dX5_dipInTruth_52 : decode cX5_dipInTruth 52 = .ok (.aload 4, 2) := by decide +kernel
theorem dX5_dipInTruth_54 : decode cX5_dipInTruth 54 = .ok (.getfield 106, 3) := by decide +kernel
theorem dX5_dipInTruth_57 : decode cX5_dipInTruth 57 = .ok (.isub, 1) := by decide +kernel
theorem dX5_dipInTruth_58 : decode cX5_dipInTruth 58 = .ok (.invokestatic 82, 3) := by decide +kernel
theorem dX5_dipInTruth_61 : decode cX5_dipInTruth 61 = .ok (.putfield 28, 3) := by decide +kernel
theorem dX5_dipInTruth_64 : decode cX5_dipInTruth 64 = .ok (.aload_n 0, 1) := by decide +kernel
theorem dX5_dipInTruth_65 : decode cX5_dipInTruth 65 = .ok (.dup, 1) := by decide +kernel
theorem dX5_dipInTruth_66 : decode cX5_dipInTruth 66 = .ok (.getfield 48, 3) := by decide +kernel
theorem dX5_dipInTruth_69 : decode cX5_dipInTruth 69 = .ok (.aload 4, 2) := by decide +kernel
theorem dX5_dipInTruth_71 : decode cX5_dipInTruth 71 = .ok (.getfield 109, 3) := by decide +kernel
theorem dX5_dipInTruth_74 : decode cX5_dipInTruth 74 = .ok (.iadd, 1) := by decide +kernel
theorem dX5_dipInTruth_75 : decode cX5_dipInTruth 75 = .ok (.putfield 48, 3) := by decide +kernel
theorem dX5_dipInTruth_78 : decode cX5_dipInTruth 78 = .ok (.aload_n 0, 1) := by decide +kernel
theorem dX5_dipInTruth_79 : decode cX5_dipInTruth 79 = .ok (.iload_n 3, 1) := by decide +kernel
theorem dX5_dipInTruth_80 : decode cX5_dipInTruth 80 = .ok (.invokevirtual 112, 3) := by decide +kernel
theorem dX5_dipInTruth_83 : decode cX5_dipInTruth 83 = .ok (.aload 4, 2) := by decide +kernel
theorem dX5_dipInTruth_85 : decode cX5_dipInTruth 85 = .ok (.getfield 109, 3) := by decide +kernel
theorem dX5_dipInTruth_88 : decode cX5_dipInTruth 88 = .ok (.ireturn, 1) := by decide +kernel
theorem dX5_carryInTruth_0 : decode cX5_carryInTruth 0 = .ok (.aload_n 0, 1) := by decide +kernel
theorem dX5_carryInTruth_1 : decode cX5_carryInTruth 1 = .ok (.iload_n 1, 1) := by decide +kernel
theorem dX5_carryInTruth_2 : decode cX5_carryInTruth 2 = .ok (.invokevirtual 57, 3) := by decide +kernel
theorem dX5_carryInTruth_5 : decode cX5_carryInTruth 5 = .ok (.ifCond .ne 5, 3) := by decide +kernel
theorem dX5_carryInTruth_8 : decode cX5_carryInTruth 8 = .ok (.iconst 0, 1) := by decide +kernel
theorem dX5_carryInTruth_9 : decode cX5_carryInTruth 9 = .ok (.ireturn, 1) := by decide +kernel
theorem dX5_carryInTruth_10 : decode cX5_carryInTruth 10 = .ok (.aload_n 3, 1) := by decide +kernel
theorem dX5_carryInTruth_11 : decode cX5_carryInTruth 11 = .ok (.aload_n 0, 1) := by decide +kernel
theorem dX5_carryInTruth_12 : decode cX5_carryInTruth 12 = .ok (.getfield 11, 3) := by decide +kernel
theorem dX5_carryInTruth_15 : decode cX5_carryInTruth 15 = .ok (.iload_n 1, 1) := by decide +kernel
theorem dX5_carryInTruth_16 : decode cX5_carryInTruth 16 = .ok (.aaload, 1) := by decide +kernel
theorem dX5_carryInTruth_17 : decode cX5_carryInTruth 17 = .ok (.aload_n 0, 1) := by decide +kernel
theorem dX5_carryInTruth_18 : decode cX5_carryInTruth 18 = .ok (.getfield 21, 3) := by decide +kernel
theorem dX5_carryInTruth_21 : decode cX5_carryInTruth 21 = .ok (.invokevirtual 92, 3) := by decide +kernel
theorem dX5_carryInTruth_24 : decode cX5_carryInTruth 24 = .ok (.aload_n 3, 1) := by decide +kernel
theorem dX5_carryInTruth_25 : decode cX5_carryInTruth 25 = .ok (.iconst 0, 1) := by decide +kernel
theorem dX5_carryInTruth_26 : decode cX5_carryInTruth 26 = .ok (.iload_n 2, 1) := by decide +kernel
theorem dX5_carryInTruth_27 : decode cX5_carryInTruth 27 = .ok (.invokevirtual 98, 3) := by decide +kernel
theorem dX5_carryInTruth_30 : decode cX5_carryInTruth 30 = .ok (.aload_n 0, 1) := by decide +kernel
theorem dX5_carryInTruth_31 : decode cX5_carryInTruth 31 = .ok (.getfield 11, 3) := by decide +kernel
theorem dX5_carryInTruth_34 : decode cX5_carryInTruth 34 = .ok (.iload_n 1, 1) := by decide +kernel
theorem dX5_carryInTruth_35 : decode cX5_carryInTruth 35 = .ok (.aaload, 1) := by decide +kernel
theorem dX5_carryInTruth_36 : decode cX5_carryInTruth 36 = .ok (.aload_n 3, 1) := by decide +kernel
theorem dX5_carryInTruth_37 : decode cX5_carryInTruth 37 = .ok (.getfield 102, 3) := by decide +kernel
theorem dX5_carryInTruth_40 : decode cX5_carryInTruth 40 = .ok (.invokevirtual 35, 3) := by decide +kernel
theorem dX5_carryInTruth_43 : decode cX5_carryInTruth 43 = .ok (.aload_n 0, 1) := by decide +kernel
theorem dX5_carryInTruth_44 : decode cX5_carryInTruth 44 = .ok (.iload_n 2, 1) := by decide +kernel
theorem dX5_carryInTruth_45 : decode cX5_carryInTruth 45 = .ok (.invokevirtual 112, 3) := by decide +kernel
theorem dX5_carryInTruth_48 : decode cX5_carryInTruth 48 = .ok (.aload_n 3, 1) := by decide +kernel
theorem dX5_carryInTruth_49 : decode cX5_carryInTruth 49 = .ok (.getfield 109, 3) := by decide +kernel
theorem dX5_carryInTruth_52 : decode cX5_carryInTruth 52 = .ok (.ireturn, 1) := by decide +kernel
theorem dX5_eat_0 : decode cX5_eat 0 = .ok (.aload_n 0, 1) := by decide +kernel
theorem dX5_eat_1 : decode cX5_eat 1 = .ok (.iload_n 1, 1) := by decide +kernel
theorem dX5_eat_2 : decode cX5_eat 2 = .ok (.invokevirtual 57, 3) := by decide +kernel
theorem dX5_eat_5 : decode cX5_eat 5 = .ok (.ifCond .ne 5, 3) := by decide +kernel
theorem dX5_eat_8 : decode cX5_eat 8 = .ok (.iconst 0, 1) := by decide +kernel
theorem dX5_eat_9 : decode cX5_eat 9 = .ok (.ireturn, 1) := by decide +kernel
theorem dX5_eat_10 : decode cX5_eat 10 = .ok (.aload_n 0, 1) := by decide +kernel
theorem dX5_eat_11 : decode cX5_eat 11 = .ok (.aload_n 0, 1) := by decide +kernel
theorem dX5_eat_12 : decode cX5_eat 12 = .ok (.getfield 11, 3) := by decide +kernel
theorem dX5_eat_15 : decode cX5_eat 15 = .ok (.iload_n 1, 1) := by decide +kernel
theorem dX5_eat_16 : decode cX5_eat 16 = .ok (.aaload, 1) := by decide +kernel
theorem dX5_eat_17 : decode cX5_eat 17 = .ok (.invokevirtual 116, 3) := by decide +kernel
theorem dX5_eat_20 : decode cX5_eat 20 = .ok (.istore_n 2, 1) := by decide +kernel
theorem dX5_eat_21 : decode cX5_eat 21 = .ok (.aload_n 0, 1) := by decide +kernel
theorem dX5_eat_22 : decode cX5_eat 22 = .ok (.dup, 1) := by decide +kernel
theorem dX5_eat_23 : decode cX5_eat 23 = .ok (.getfield 51, 3) := by decide +kernel
theorem dX5_eat_26 : decode cX5_eat 26 = .ok (.iload_n 2, 1) := by decide +kernel
theorem dX5_eat_27 : decode cX5_eat 27 = .ok (.iadd, 1) := by decide +kernel
theorem dX5_eat_28 : decode cX5_eat 28 = .ok (.putfield 51, 3) := by decide +kernel
theorem dX5_eat_31 : decode cX5_eat 31 = .ok (.aload_n 0, 1) := by decide +kernel
theorem dX5_eat_32 : decode cX5_eat 32 = .ok (.getfield 11, 3) := by decide +kernel
theorem dX5_eat_35 : decode cX5_eat 35 = .ok (.iload_n 1, 1) := by decide +kernel
theorem dX5_eat_36 : decode cX5_eat 36 = .ok (.aaload, 1) := by decide +kernel
theorem dX5_eat_37 : decode cX5_eat 37 = .ok (.iconst 0, 1) := by decide +kernel
theorem dX5_eat_38 : decode cX5_eat 38 = .ok (.putfield 72, 3) := by decide +kernel
theorem dX5_eat_41 : decode cX5_eat 41 = .ok (.iload_n 2, 1) := by decide +kernel
theorem dX5_eat_42 : decode cX5_eat 42 = .ok (.ireturn, 1) := by decide +kernel
theorem dX5_takeTea_0 : decode cX5_takeTea 0 = .ok (.aload_n 0, 1) := by decide +kernel
theorem dX5_takeTea_1 : decode cX5_takeTea 1 = .ok (.aload_n 0, 1) := by decide +kernel
theorem dX5_takeTea_2 : decode cX5_takeTea 2 = .ok (.getfield 45, 3) := by decide +kernel
theorem dX5_takeTea_5 : decode cX5_takeTea 5 = .ok (.invokevirtual 120, 3) := by decide +kernel
theorem dX5_takeTea_8 : decode cX5_takeTea 8 = .ok (.istore_n 2, 1) := by decide +kernel
theorem dX5_takeTea_9 : decode cX5_takeTea 9 = .ok (.aload_n 0, 1) := by decide +kernel
theorem dX5_takeTea_10 : decode cX5_takeTea 10 = .ok (.iload_n 2, 1) := by decide +kernel
theorem dX5_takeTea_11 : decode cX5_takeTea 11 = .ok (.invokevirtual 57, 3) := by decide +kernel
theorem dX5_takeTea_14 : decode cX5_takeTea 14 = .ok (.ifCond .eq 15, 3) := by decide +kernel
theorem dX5_takeTea_17 : decode cX5_takeTea 17 = .ok (.aload_n 0, 1) := by decide +kernel
theorem dX5_takeTea_18 : decode cX5_takeTea 18 = .ok (.getfield 11, 3) := by decide +kernel
theorem dX5_takeTea_21 : decode cX5_takeTea 21 = .ok (.iload_n 2, 1) := by decide +kernel
theorem dX5_takeTea_22 : decode cX5_takeTea 22 = .ok (.aaload, 1) := by decide +kernel
theorem dX5_takeTea_23 : decode cX5_takeTea 23 = .ok (.getfield 72, 3) := by decide +kernel
theorem dX5_takeTea_26 : decode cX5_takeTea 26 = .ok (.ifCond .ne 5, 3) := by decide +kernel
theorem dX5_takeTea_29 : decode cX5_takeTea 29 = .ok (.iconst 0, 1) := by decide +kernel
theorem dX5_takeTea_30 : decode cX5_takeTea 30 = .ok (.ireturn, 1) := by decide +kernel
theorem dX5_takeTea_31 : decode cX5_takeTea 31 = .ok (.aload_n 0, 1) := by decide +kernel
theorem dX5_takeTea_32 : decode cX5_takeTea 32 = .ok (.aload_n 0, 1) := by decide +kernel
theorem dX5_takeTea_33 : decode cX5_takeTea 33 = .ok (.getfield 11, 3) := by decide +kernel
theorem dX5_takeTea_36 : decode cX5_takeTea 36 = .ok (.iload_n 2, 1) := by decide +kernel
theorem dX5_takeTea_37 : decode cX5_takeTea 37 = .ok (.aaload, 1) := by decide +kernel
theorem dX5_takeTea_38 : decode cX5_takeTea 38 = .ok (.getfield 72, 3) := by decide +kernel
theorem dX5_takeTea_41 : decode cX5_takeTea 41 = .ok (.iconst 1, 1) := by decide +kernel
theorem dX5_takeTea_42 : decode cX5_takeTea 42 = .ok (.iadd, 1) := by decide +kernel
theorem dX5_takeTea_43 : decode cX5_takeTea 43 = .ok (.invokevirtual 120, 3) := by decide +kernel
theorem dX5_takeTea_46 : decode cX5_takeTea 46 = .ok (.istore_n 3, 1) := by decide +kernel
theorem dX5_takeTea_47 : decode cX5_takeTea 47 = .ok (.aload_n 0, 1) := by decide +kernel
theorem dX5_takeTea_48 : decode cX5_takeTea 48 = .ok (.bipush 10, 2) := by decide +kernel
theorem dX5_takeTea_50 : decode cX5_takeTea 50 = .ok (.invokevirtual 120, 3) := by decide +kernel
theorem dX5_takeTea_53 : decode cX5_takeTea 53 = .ok (.istore 4, 2) := by decide +kernel
theorem dX5_takeTea_55 : decode cX5_takeTea 55 = .ok (.aload_n 0, 1) := by decide +kernel
theorem dX5_takeTea_56 : decode cX5_takeTea 56 = .ok (.iload_n 2, 1) := by decide +kernel
theorem dX5_takeTea_57 : decode cX5_takeTea 57 = .ok (.iload_n 3, 1) := by decide +kernel
theorem dX5_takeTea_58 : decode cX5_takeTea 58 = .ok (.iload 4, 2) := by decide +kernel
theorem dX5_takeTea_60 : decode cX5_takeTea 60 = .ok (.aload_n 1, 1) := by decide +kernel
theorem dX5_takeTea_61 : decode cX5_takeTea 61 = .ok (.invokevirtual 123, 3) := by decide +kernel
theorem dX5_takeTea_64 : decode cX5_takeTea 64 = .ok (.pop, 1) := by decide +kernel
theorem dX5_takeTea_65 : decode cX5_takeTea 65 = .ok (.aload_n 0, 1) := by decide +kernel
theorem dX5_takeTea_66 : decode cX5_takeTea 66 = .ok (.iload_n 2, 1) := by decide +kernel
theorem dX5_takeTea_67 : decode cX5_takeTea 67 = .ok (.aload_n 0, 1) := by decide +kernel
theorem dX5_takeTea_68 : decode cX5_takeTea 68 = .ok (.bipush 6, 2) := by decide +kernel
theorem dX5_takeTea_70 : decode cX5_takeTea 70 = .ok (.invokevirtual 120, 3) := by decide +kernel
theorem dX5_takeTea_73 : decode cX5_takeTea 73 = .ok (.aload_n 1, 1) := by decide +kernel
theorem dX5_takeTea_74 : decode cX5_takeTea 74 = .ok (.invokevirtual 127, 3) := by decide +kernel
theorem dX5_takeTea_77 : decode cX5_takeTea 77 = .ok (.pop, 1) := by decide +kernel
theorem dX5_takeTea_78 : decode cX5_takeTea 78 = .ok (.aload_n 0, 1) := by decide +kernel
theorem dX5_takeTea_79 : decode cX5_takeTea 79 = .ok (.iload_n 2, 1) := by decide +kernel
theorem dX5_takeTea_80 : decode cX5_takeTea 80 = .ok (.invokevirtual 131, 3) := by decide +kernel
theorem dX5_takeTea_83 : decode cX5_takeTea 83 = .ok (.ireturn, 1) := by decide +kernel
theorem dX5_draw_0 : decode cX5_draw 0 = .ok (.aload_n 0, 1) := by decide +kernel
theorem dX5_draw_1 : decode cX5_draw 1 = .ok (.aload_n 0, 1) := by decide +kernel
theorem dX5_draw_2 : decode cX5_draw 2 = .ok (.getfield 31, 3) := by decide +kernel
theorem dX5_draw_5 : decode cX5_draw 5 = .ok (.ldc 134, 2) := by decide +kernel
theorem dX5_draw_7 : decode cX5_draw 7 = .ok (.imul, 1) := by decide +kernel
theorem dX5_draw_8 : decode cX5_draw 8 = .ok (.sipush 12345, 3) := by decide +kernel
theorem dX5_draw_11 : decode cX5_draw 11 = .ok (.iadd, 1) := by decide +kernel
theorem dX5_draw_12 : decode cX5_draw 12 = .ok (.putfield 31, 3) := by decide +kernel
theorem dX5_draw_15 : decode cX5_draw 15 = .ok (.iload_n 1, 1) := by decide +kernel
theorem dX5_draw_16 : decode cX5_draw 16 = .ok (.ifCond .le 15, 3) := by decide +kernel
theorem dX5_draw_19 : decode cX5_draw 19 = .ok (.aload_n 0, 1) := by decide +kernel
theorem dX5_draw_20 : decode cX5_draw 20 = .ok (.getfield 31, 3) := by decide +kernel
theorem dX5_draw_23 : decode cX5_draw 23 = .ok (.bipush 16, 2) := by decide +kernel
theorem dX5_draw_25 : decode cX5_draw 25 = .ok (.iushr, 1) := by decide +kernel
theorem dX5_draw_26 : decode cX5_draw 26 = .ok (.iload_n 1, 1) := by decide +kernel
theorem dX5_draw_27 : decode cX5_draw 27 = .ok (.irem, 1) := by decide +kernel
theorem dX5_draw_28 : decode cX5_draw 28 = .ok (.goto 4, 3) := by decide +kernel
theorem dX5_draw_31 : decode cX5_draw 31 = .ok (.iconst 0, 1) := by decide +kernel
theorem dX5_draw_32 : decode cX5_draw 32 = .ok (.ireturn, 1) := by decide +kernel
theorem dX6_init_0 : decode cX6_init 0 = .ok (.aload_n 0, 1) := by decide +kernel
theorem dX6_init_1 : decode cX6_init 1 = .ok (.invokespecial 1, 3) := by decide +kernel
theorem dX6_init_4 : decode cX6_init 4 = .ok (.aload_n 0, 1) := by decide +kernel
theorem dX6_init_5 : decode cX6_init 5 = .ok (.bipush 8, 2) := by decide +kernel
theorem dX6_init_7 : decode cX6_init 7 = .ok (.anewarray 9, 3) := by decide +kernel
theorem dX6_init_10 : decode cX6_init 10 = .ok (.putfield 11, 3) := by decide +kernel
theorem dX6_init_13 : decode cX6_init 13 = .ok (.aload_n 0, 1) := by decide +kernel
theorem dX6_init_14 : decode cX6_init 14 = .ok (.new 15, 3) := by decide +kernel
theorem dX6_init_17 : decode cX6_init 17 = .ok (.dup, 1) := by decide +kernel
theorem dX6_init_18 : decode cX6_init 18 = .ok (.invokespecial 17, 3) := by decide +kernel
theorem dX6_init_21 : decode cX6_init 21 = .ok (.putfield 18, 3) := by decide +kernel
theorem dX6_init_24 : decode cX6_init 24 = .ok (.aload_n 0, 1) := by decide +kernel
theorem dX6_init_25 : decode cX6_init 25 = .ok (.new 15, 3) := by decide +kernel
theorem dX6_init_28 : decode cX6_init 28 = .ok (.dup, 1) := by decide +kernel
theorem dX6_init_29 : decode cX6_init 29 = .ok (.invokespecial 17, 3) := by decide +kernel
theorem dX6_init_32 : decode cX6_init 32 = .ok (.putfield 22, 3) := by decide +kernel
theorem dX6_init_35 : decode cX6_init 35 = .ok (.aload_n 0, 1) := by decide +kernel
theorem dX6_init_36 : decode cX6_init 36 = .ok (.new 15, 3) := by decide +kernel
theorem dX6_init_39 : decode cX6_init 39 = .ok (.dup, 1) := by decide +kernel
theorem dX6_init_40 : decode cX6_init 40 = .ok (.invokespecial 17, 3) := by decide +kernel
theorem dX6_init_43 : decode cX6_init 43 = .ok (.putfield 25, 3) := by decide +kernel
theorem dX6_init_46 : decode cX6_init 46 = .ok (.aload_n 0, 1) := by decide +kernel
theorem dX6_init_47 : decode cX6_init 47 = .ok (.new 28, 3) := by decide +kernel
theorem dX6_init_50 : decode cX6_init 50 = .ok (.dup, 1) := by decide +kernel
theorem dX6_init_51 : decode cX6_init 51 = .ok (.invokespecial 30, 3) := by decide +kernel
theorem dX6_init_54 : decode cX6_init 54 = .ok (.putfield 31, 3) := by decide +kernel
theorem dX6_init_57 : decode cX6_init 57 = .ok (.aload_n 0, 1) := by decide +kernel
theorem dX6_init_58 : decode cX6_init 58 = .ok (.new 28, 3) := by decide +kernel
theorem dX6_init_61 : decode cX6_init 61 = .ok (.dup, 1) := by decide +kernel
theorem dX6_init_62 : decode cX6_init 62 = .ok (.invokespecial 30, 3) := by decide +kernel
theorem dX6_init_65 : decode cX6_init 65 = .ok (.putfield 35, 3) := by decide +kernel
theorem dX6_init_68 : decode cX6_init 68 = .ok (.aload_n 0, 1) := by decide +kernel
theorem dX6_init_69 : decode cX6_init 69 = .ok (.new 38, 3) := by decide +kernel
theorem dX6_init_72 : decode cX6_init 72 = .ok (.dup, 1) := by decide +kernel
theorem dX6_init_73 : decode cX6_init 73 = .ok (.aload_n 0, 1) := by decide +kernel
theorem dX6_init_74 : decode cX6_init 74 = .ok (.getfield 25, 3) := by decide +kernel
theorem dX6_init_77 : decode cX6_init 77 = .ok (.aload_n 0, 1) := by decide +kernel
theorem dX6_init_78 : decode cX6_init 78 = .ok (.getfield 31, 3) := by decide +kernel
theorem dX6_init_81 : decode cX6_init 81 = .ok (.invokespecial 40, 3) := by decide +kernel
theorem dX6_init_84 : decode cX6_init 84 = .ok (.putfield 43, 3) := by decide +kernel
theorem dX6_init_87 : decode cX6_init 87 = .ok (.aload_n 0, 1) := by decide +kernel
theorem dX6_init_88 : decode cX6_init 88 = .ok (.new 47, 3) := by decide +kernel
theorem dX6_init_91 : decode cX6_init 91 = .ok (.dup, 1) := by decide +kernel
theorem dX6_init_92 : decode cX6_init 92 = .ok (.invokespecial 49, 3) := by decide +kernel
theorem dX6_init_95 : decode cX6_init 95 = .ok (.putfield 50, 3) := by decide +kernel
theorem dX6_init_98 : decode cX6_init 98 = .ok (.aload_n 0, 1) := by decide +kernel
theorem dX6_init_99 : decode cX6_init 99 = .ok (.new 54, 3) := by decide +kernel
theorem dX6_init_102 : decode cX6_init 102 = .ok (.dup, 1) := by decide +kernel
theorem dX6_init_103 : decode cX6_init 103 = .ok (.invokespecial 56, 3) := by decide +kernel
theorem dX6_init_106 : decode cX6_init 106 = .ok (.putfield 57, 3) := by decide +kernel
theorem dX6_init_109 : decode cX6_init 109 = .ok (.aload_n 0, 1) := by decide +kernel
theorem dX6_init_110 : decode cX6_init 110 = .ok (.bipush 8, 2) := by decide +kernel
theorem dX6_init_112 : decode cX6_init 112 = .ok (.newarray .int, 2) := by decide +kernel
theorem dX6_init_114 : decode cX6_init 114 = .ok (.putfield 61, 3) := by decide +kernel
theorem dX6_init_117 : decode cX6_init 117 = .ok (.aload_n 0, 1) := by decide +kernel
theorem dX6_init_118 : decode cX6_init 118 = .ok (.bipush 25, 2) := by decide +kernel
theorem dX6_init_120 : decode cX6_init 120 = .ok (.newarray .int, 2) := by decide +kernel
theorem dX6_init_122 : decode cX6_init 122 = .ok (.putfield 65, 3) := by decide +kernel
theorem dX6_init_125 : decode cX6_init 125 = .ok (.aload_n 0, 1) := by decide +kernel
theorem dX6_init_126 : decode cX6_init 126 = .ok (.iconst 5, 1) := by decide +kernel
theorem dX6_init_127 : decode cX6_init 127 = .ok (.newarray .int, 2) := by decide +kernel
theorem dX6_init_129 : decode cX6_init 129 = .ok (.putfield 68, 3) := by decide +kernel
theorem dX6_init_132 : decode cX6_init 132 = .ok (.aload_n 0, 1) := by decide +kernel
theorem dX6_init_133 : decode cX6_init 133 = .ok (.iconst 5, 1) := by decide +kernel
theorem dX6_init_134 : decode cX6_init 134 = .ok (.newarray .int, 2) := by decide +kernel
theorem dX6_init_136 : decode cX6_init 136 = .ok (.putfield 71, 3) := by decide +kernel
theorem dX6_init_139 : decode cX6_init 139 = .ok (.aload_n 0, 1) := by decide +kernel
theorem dX6_init_140 : decode cX6_init 140 = .ok (.iconst (-1), 1) := by decide +kernel
theorem dX6_init_141 : decode cX6_init 141 = .ok (.putfield 74, 3) := by decide +kernel
theorem dX6_init_144 : decode cX6_init 144 = .ok (.iconst 0, 1) := by decide +kernel
theorem dX6_init_145 : decode cX6_init 145 = .ok (.istore_n 1, 1) := by decide +kernel
theorem dX6_init_146 : decode cX6_init 146 = .ok (.iload_n 1, 1) := by decide +kernel
theorem dX6_init_147 : decode cX6_init 147 = .ok (.bipush 8, 2) := by decide +kernel
theorem dX6_init_149 : decode cX6_init 149 = .ok (.if_icmp .ge 22, 3) := by decide +kernel
theorem dX6_init_152 : decode cX6_init 152 = .ok (.aload_n 0, 1) := by decide +kernel
theorem dX6_init_153 : decode cX6_init 153 = .ok (.getfield 11, 3) := by decide +kernel
theorem dX6_init_156 : decode cX6_init 156 = .ok (.iload_n 1, 1) := by decide +kernel
theorem dX6_init_157 : decode cX6_init 157 = .ok (.new 9, 3) := by decide +kernel
theorem dX6_init_160 : decode cX6_init 160 = .ok (.dup, 1) := by decide +kernel
theorem dX6_init_161 : decode cX6_init 161 = .ok (.invokespecial 78, 3) := by decide +kernel
theorem dX6_init_164 : decode cX6_init 164 = .ok (.aastore, 1) := by decide +kernel
theorem dX6_init_165 : decode cX6_init 165 = .ok (.iinc 1 1, 3) := by decide +kernel
theorem dX6_init_168 : decode cX6_init 168 = .ok (.goto (-22), 3) := by decide +kernel
theorem dX6_init_171 : decode cX6_init 171 = .ok (.return_, 1) := by decide +kernel
theorem dX6_row_0 : decode cX6_row 0 = .ok (.iload_n 1, 1) := by decide +kernel
theorem dX6_row_1 : decode cX6_row 1 = .ok (.invokestatic 79, 3) := by decide +kernel
theorem dX6_row_4 : decode cX6_row 4 = .ok (.ifCond .ne 9, 3) := by decide +kernel
theorem dX6_row_7 : decode cX6_row 7 = .ok (.aload_n 0, 1) := by decide +kernel
theorem dX6_row_8 : decode cX6_row 8 = .ok (.iconst 1, 1) := by decide +kernel
theorem dX6_row_9 : decode cX6_row 9 = .ok (.invokevirtual 83, 3) := by decide +kernel
theorem dX6_row_12 : decode cX6_row 12 = .ok (.ireturn, 1) := by decide +kernel
theorem dX6_row_13 : decode cX6_row 13 = .ok (.iload_n 3, 1) := by decide +kernel
theorem dX6_row_14 : decode cX6_row 14 = .ok (.ifCond .ge 9, 3) := by decide +kernel
theorem dX6_row_17 : decode cX6_row 17 = .ok (.aload_n 0, 1) := by decide +kernel
theorem dX6_row_18 : decode cX6_row 18 = .ok (.iconst 4, 1) := by decide +kernel
theorem dX6_row_19 : decode cX6_row 19 = .ok (.invokevirtual 83, 3) := by decide +kernel
theorem dX6_row_22 : decode cX6_row 22 = .ok (.ireturn, 1) := by decide +kernel
theorem dX6_row_23 : decode cX6_row 23 = .ok (.iload_n 2, 1) := by decide +kernel
theorem dX6_row_24 : decode cX6_row 24 = .ok (.iconst 0, 1) := by decide +kernel
theorem dX6_row_25 : decode cX6_row 25 = .ok (.iconst 3, 1) := by decide +kernel
theorem dX6_row_26 : decode cX6_row 26 = .ok (.invokestatic 87, 3) := by decide +kernel
theorem dX6_row_29 : decode cX6_row 29 = .ok (.ifCond .ne 10, 3) := by decide +kernel
theorem dX6_row_32 : decode cX6_row 32 = .ok (.aload_n 0, 1) := by decide +kernel
theorem dX6_row_33 : decode cX6_row 33 = .ok (.bipush 6, 2) := by decide +kernel
theorem dX6_row_35 : decode cX6_row 35 = .ok (.invokevirtual 83, 3) := by decide +kernel
theorem dX6_row_38 : decode cX6_row 38 = .ok (.ireturn, 1) := by decide +kernel
theorem dX6_row_39 : decode cX6_row 39 = .ok (.iload_n 3, 1) := by decide +kernel
theorem dX6_row_40 : decode cX6_row 40 = .ok (.sipush 160, 3) := by decide +kernel
theorem dX6_row_43 : decode cX6_row 43 = .ok (.if_icmp .le 10, 3) := by decide +kernel
theorem dX6_row_46 : decode cX6_row 46 = .ok (.aload_n 0, 1) := by decide +kernel
theorem dX6_row_47 : decode cX6_row 47 = .ok (.bipush 7, 2) := by decide +kernel
theorem dX6_row_49 : decode cX6_row 49 = .ok (.invokevirtual 83, 3) := by decide +kernel
theorem dX6_row_52 : decode cX6_row 52 = .ok (.ireturn, 1) := by decide +kernel
theorem dX6_row_53 : decode cX6_row 53 = .ok (.aload_n 0, 1) := by decide +kernel
theorem dX6_row_54 : decode cX6_row 54 = .ok (.getfield 11, 3) := by decide +kernel
theorem dX6_row_57 : decode cX6_row 57 = .ok (.iload_n 1, 1) := by decide +kernel
theorem dX6_row_58 : decode cX6_row 58 = .ok (.aaload, 1) := by decide +kernel
theorem dX6_row_59 : decode cX6_row 59 = .ok (.iload_n 2, 1) := by decide +kernel
theorem dX6_row_60 : decode cX6_row 60 = .ok (.iload_n 3, 1) := by decide +kernel
theorem dX6_row_61 : decode cX6_row 61 = .ok (.invokevirtual 91, 3) := by decide +kernel
theorem dX6_row_64 : decode cX6_row 64 = .ok (.iconst 1, 1) := by decide +kernel
theorem dX6_row_65 : decode cX6_row 65 = .ok (.ireturn, 1) := by decide +kernel
theorem dX6_set_0 : decode cX6_set 0 = .ok (.aload_n 0, 1) := by decide +kernel
theorem dX6_set_1 : decode cX6_set 1 = .ok (.iload_n 1, 1) := by decide +kernel
theorem dX6_set_2 : decode cX6_set 2 = .ok (.invokevirtual 95, 3) := by decide +kernel
theorem dX6_set_5 : decode cX6_set 5 = .ok (.istore 5, 2) := by decide +kernel
theorem dX6_set_7 : decode cX6_set 7 = .ok (.iload 5, 2) := by decide +kernel
theorem dX6_set_9 : decode cX6_set 9 = .ok (.ifCond .eq 10, 3) := by decide +kernel
theorem dX6_set_12 : decode cX6_set 12 = .ok (.aload_n 0, 1) := by decide +kernel
theorem dX6_set_13 : decode cX6_set 13 = .ok (.iload 5, 2) := by decide +kernel
theorem dX6_set_15 : decode cX6_set 15 = .ok (.invokevirtual 83, 3) := by decide +kernel
theorem dX6_set_18 : decode cX6_set 18 = .ok (.ireturn, 1) := by decide +kernel
theorem dX6_set_19 : decode cX6_set 19 = .ok (.aload_n 0, 1) := by decide +kernel
theorem dX6_set_20 : decode cX6_set 20 = .ok (.getfield 11, 3) := by decide +kernel
theorem dX6_set_23 : decode cX6_set 23 = .ok (.iload_n 1, 1) := by decide +kernel
theorem dX6_set_24 : decode cX6_set 24 = .ok (.aaload, 1) := by decide +kernel
theorem dX6_set_25 : decode cX6_set 25 = .ok (.iload_n 2, 1) := by decide +kernel
theorem dX6_set_26 : decode cX6_set 26 = .ok (.invokevirtual 98, 3) := by decide +kernel
theorem dX6_set_29 : decode cX6_set 29 = .ok (.ifCond .ne 9, 3) := by decide +kernel
theorem dX6_set_32 : decode cX6_set 32 = .ok (.aload_n 0, 1) := by decide +kernel
theorem dX6_set_33 : decode cX6_set 33 = .ok (.iconst 5, 1) := by decide +kernel
theorem dX6_set_34 : decode cX6_set 34 = .ok (.invokevirtual 83, 3) := by decide +kernel
theorem dX6_set_37 : decode cX6_set 37 = .ok (.ireturn, 1) := by decide +kernel
theorem dX6_set_38 : decode cX6_set 38 = .ok (.aload_n 0, 1) := by decide +kernel
theorem dX6_set_39 : decode cX6_set 39 = .ok (.getfield 11, 3) := by decide +kernel
theorem dX6_set_42 : decode cX6_set 42 = .ok (.iload_n 1, 1) := by decide +kernel
theorem dX6_set_43 : decode cX6_set 43 = .ok (.aaload, 1) := by decide +kernel
theorem dX6_set_44 : decode cX6_set 44 = .ok (.iload_n 2, 1) := by decide +kernel
theorem dX6_set_45 : decode cX6_set 45 = .ok (.lload_n 3, 1) := by decide +kernel
theorem dX6_set_46 : decode cX6_set 46 = .ok (.invokevirtual 101, 3) := by decide +kernel
theorem dX6_set_49 : decode cX6_set 49 = .ok (.iconst 1, 1) := by decide +kernel
theorem dX6_set_50 : decode cX6_set 50 = .ok (.ireturn, 1) := by decide +kernel
theorem dX6_copy_0 : decode cX6_copy 0 = .ok (.aload_n 0, 1) := by decide +kernel
theorem dX6_copy_1 : decode cX6_copy 1 = .ok (.iload_n 1, 1) := by decide +kernel
theorem dX6_copy_2 : decode cX6_copy 2 = .ok (.iload_n 2, 1) := by decide +kernel
theorem dX6_copy_3 : decode cX6_copy 3 = .ok (.iload_n 3, 1) := by decide +kernel
theorem dX6_copy_4 : decode cX6_copy 4 = .ok (.iload 4, 2) := by decide +kernel
theorem dX6_copy_6 : decode cX6_copy 6 = .ok (.iload 5, 2) := by decide +kernel
theorem dX6_copy_8 : decode cX6_copy 8 = .ok (.invokevirtual 105, 3) := by decide +kernel
theorem dX6_copy_11 : decode cX6_copy 11 = .ok (.istore 6, 2) := by decide +kernel
theorem dX6_copy_13 : decode cX6_copy 13 = .ok (.iload 6, 2) := by decide +kernel
theorem dX6_copy_15 : decode cX6_copy 15 = .ok (.ifCond .eq 10, 3) := by decide +kernel
theorem dX6_copy_18 : decode cX6_copy 18 = .ok (.aload_n 0, 1) := by decide +kernel
theorem dX6_copy_19 : decode cX6_copy 19 = .ok (.iload 6, 2) := by decide +kernel
theorem dX6_copy_21 : decode cX6_copy 21 = .ok (.invokevirtual 83, 3) := by decide +kernel
theorem dX6_copy_24 : decode cX6_copy 24 = .ok (.ireturn, 1) := by decide +kernel
theorem dX6_copy_25 : decode cX6_copy 25 = .ok (.aload_n 0, 1) := by decide +kernel
theorem dX6_copy_26 : decode cX6_copy 26 = .ok (.getfield 11, 3) := by decide +kernel
theorem dX6_copy_29 : decode cX6_copy 29 = .ok (.iload_n 1, 1) := by decide +kernel
theorem dX6_copy_30 : decode cX6_copy 30 = .ok (.aaload, 1) := by decide +kernel
theorem dX6_copy_31 : decode cX6_copy 31 = .ok (.getfield 109, 3) := by decide +kernel
theorem dX6_copy_34 : decode cX6_copy 34 = .ok (.iload_n 3, 1) := by decide +kernel
theorem dX6_copy_35 : decode cX6_copy 35 = .ok (.aload_n 0, 1) := by decide +kernel
theorem dX6_copy_36 : decode cX6_copy 36 = .ok (.getfield 11, 3) := by decide +kernel
theorem dX6_copy_39 : decode cX6_copy 39 = .ok (.iload_n 2, 1) := by decide +kernel
theorem dX6_copy_40 : decode cX6_copy 40 = .ok (.aaload, 1) := by decide +kernel
theorem dX6_copy_41 : decode cX6_copy 41 = .ok (.getfield 109, 3) := by decide +kernel
theorem dX6_copy_44 : decode cX6_copy 44 = .ok (.iload 4, 2) := by decide +kernel
theorem dX6_copy_46 : decode cX6_copy 46 = .ok (.iload 5, 2) := by decide +kernel
theorem dX6_copy_48 : decode cX6_copy 48 = .ok (.invokestatic 113, 3) := by decide +kernel
theorem dX6_copy_51 : decode cX6_copy 51 = .ok (.iconst 1, 1) := by decide +kernel
theorem dX6_copy_52 : decode cX6_copy 52 = .ok (.ireturn, 1) := by decide +kernel
theorem dX6_element_0 : decode cX6_element 0 = .ok (.iload_n 1, 1) := by decide +kernel
theorem dX6_element_1 : decode cX6_element 1 = .ok (.invokestatic 79, 3) := by decide +kernel
theorem dX6_element_4 : decode cX6_element 4 = .ok (.ifCond .eq 16, 3) := by decide +kernel
theorem dX6_element_7 : decode cX6_element 7 = .ok (.aload_n 0, 1) := by decide +kernel
theorem dX6_element_8 : decode cX6_element 8 = .ok (.getfield 11, 3) := by decide +kernel
theorem dX6_element_11 : decode cX6_element 11 = .ok (.iload_n 1, 1) := by decide +kernel
theorem dX6_element_12 : decode cX6_element 12 = .ok (.aaload, 1) := by decide +kernel
theorem dX6_element_13 : decode cX6_element 13 = .ok (.iload_n 2, 1) := by decide +kernel
theorem dX6_element_14 : decode cX6_element 14 = .ok (.invokevirtual 119, 3) := by decide +kernel
theorem dX6_element_17 : decode cX6_element 17 = .ok (.goto 4, 3) := by decide +kernel
theorem dX6_element_20 : decode cX6_element 20 = .ok (.lconst 0, 1) := by decide +kernel
theorem dX6_element_21 : decode cX6_element 21 = .ok (.lreturn, 1) := by decide +kernel
theorem dX6_show_0 : decode cX6_show 0 = .ok (.iload_n 1, 1) := by decide +kernel
theorem dX6_show_1 : decode cX6_show 1 = .ok (.invokestatic 79, 3) := by decide +kernel
theorem dX6_show_4 : decode cX6_show 4 = .ok (.ifCond .eq 19, 3) := by decide +kernel
theorem dX6_show_7 : decode cX6_show 7 = .ok (.iload_n 2, 1) := by decide +kernel
theorem dX6_show_8 : decode cX6_show 8 = .ok (.iconst (-1), 1) := by decide +kernel
theorem dX6_show_9 : decode cX6_show 9 = .ok (.if_icmp .eq 20, 3) := by decide +kernel
theorem dX6_show_12 : decode cX6_show 12 = .ok (.aload_n 0, 1) := by decide +kernel
theorem dX6_show_13 : decode cX6_show 13 = .ok (.getfield 18, 3) := by decide +kernel
theorem dX6_show_16 : decode cX6_show 16 = .ok (.iload_n 2, 1) := by decide +kernel
theorem dX6_show_17 : decode cX6_show 17 = .ok (.invokevirtual 123, 3) := by decide +kernel
theorem dX6_show_20 : decode cX6_show 20 = .ok (.ifCond .ne 9, 3) := by decide +kernel
theorem dX6_show_23 : decode cX6_show 23 = .ok (.aload_n 0, 1) := by decide +kernel
theorem dX6_show_24 : decode cX6_show 24 = .ok (.iconst 1, 1) := by decide +kernel
theorem dX6_show_25 : decode cX6_show 25 = .ok (.invokevirtual 83, 3) := by decide +kernel
theorem dX6_show_28 : decode cX6_show 28 = .ok (.ireturn, 1) := by decide +kernel
theorem dX6_show_29 : decode cX6_show 29 = .ok (.aload_n 0, 1) := by decide +kernel
theorem dX6_show_30 : decode cX6_show 30 = .ok (.getfield 11, 3) := by decide +kernel
theorem dX6_show_33 : decode cX6_show 33 = .ok (.iload_n 1, 1) := by decide +kernel
theorem dX6_show_34 : decode cX6_show 34 = .ok (.aaload, 1) := by decide +kernel
theorem dX6_show_35 : decode cX6_show 35 = .ok (.iload_n 2, 1) := by decide +kernel
theorem dX6_show_36 : decode cX6_show 36 = .ok (.invokevirtual 126, 3) := by decide +kernel
theorem dX6_show_39 : decode cX6_show 39 = .ok (.iload_n 2, 1) := by decide +kernel
theorem dX6_show_40 : decode cX6_show 40 = .ok (.iconst (-1), 1) := by decide +kernel
theorem dX6_show_41 : decode cX6_show 41 = .ok (.if_icmp .ne 7, 3) := by decide +kernel
theorem dX6_show_44 : decode cX6_show 44 = .ok (.iconst 0, 1) := by decide +kernel
theorem dX6_show_45 : decode cX6_show 45 = .ok (.goto 4, 3) := by decide +kernel
theorem dX6_show_48 : decode cX6_show 48 = .ok (.iconst 1, 1) := by decide +kernel
theorem dX6_show_49 : decode cX6_show 49 = .ok (.ireturn, 1) := by decide +kernel
theorem dX6_holds_0 : decode cX6_holds 0 = .ok (.iload_n 1, 1) := by decide +kernel
theorem dX6_holds_1 : decode cX6_holds 1 = .ok (.invokestatic 79, 3) := by decide +kernel
theorem dX6_holds_4 : decode cX6_holds 4 = .ok (.ifCond .eq 15, 3) := by decide +kernel
theorem dX6_holds_7 : decode cX6_holds 7 = .ok (.aload_n 0, 1) := by decide +kernel
theorem dX6_holds_8 : decode cX6_holds 8 = .ok (.getfield 11, 3) := by decide +kernel
theorem dX6_holds_11 : decode cX6_holds 11 = .ok (.iload_n 1, 1) := by decide +kernel
theorem dX6_holds_12 : decode cX6_holds 12 = .ok (.aaload, 1) := by decide +kernel
theorem dX6_holds_13 : decode cX6_holds 13 = .ok (.invokevirtual 130, 3) := by decide +kernel
theorem dX6_holds_16 : decode cX6_holds 16 = .ok (.goto 4, 3) := by decide +kernel
theorem dX6_holds_19 : decode cX6_holds 19 = .ok (.iconst (-1), 1) := by decide +kernel
theorem dX6_holds_20 : decode cX6_holds 20 = .ok (.ireturn, 1) := by decide +kernel
theorem dX6_says_0 : decode cX6_says 0 = .ok (.iload_n 1, 1) := by decide +kernel
theorem dX6_says_1 : decode cX6_says 1 = .ok (.invokestatic 79, 3) := by decide +kernel
theorem dX6_says_4 : decode cX6_says 4 = .ok (.ifCond .eq 13, 3) := by decide +kernel
theorem dX6_says_7 : decode cX6_says 7 = .ok (.iload_n 2, 1) := by decide +kernel
theorem dX6_says_8 : decode cX6_says 8 = .ok (.iconst 0, 1) := by decide +kernel
theorem dX6_says_9 : decode cX6_says 9 = .ok (.bipush 6, 2) := by decide +kernel
theorem dX6_says_11 : decode cX6_says 11 = .ok (.invokestatic 87, 3) := by decide +kernel
theorem dX6_says_14 : decode cX6_says 14 = .ok (.ifCond .ne 9, 3) := by decide +kernel
theorem dX6_says_17 : decode cX6_says 17 = .ok (.aload_n 0, 1) := by decide +kernel
theorem dX6_says_18 : decode cX6_says 18 = .ok (.iconst 1, 1) := by decide +kernel
theorem dX6_says_19 : decode cX6_says 19 = .ok (.invokevirtual 83, 3) := by decide +kernel
theorem dX6_says_22 : decode cX6_says 22 = .ok (.ireturn, 1) := by decide +kernel
theorem dX6_says_23 : decode cX6_says 23 = .ok (.aload_n 0, 1) := by decide +kernel
theorem dX6_says_24 : decode cX6_says 24 = .ok (.getfield 11, 3) := by decide +kernel
theorem dX6_says_27 : decode cX6_says 27 = .ok (.iload_n 1, 1) := by decide +kernel
theorem dX6_says_28 : decode cX6_says 28 = .ok (.aaload, 1) := by decide +kernel
theorem dX6_says_29 : decode cX6_says 29 = .ok (.astore_n 3, 1) := by decide +kernel
theorem dX6_says_30 : decode cX6_says 30 = .ok (.aload_n 3, 1) := by decide +kernel
theorem dX6_says_31 : decode cX6_says 31 = .ok (.invokevirtual 134, 3) := by decide +kernel
theorem dX6_says_34 : decode cX6_says 34 = .ok (.ifCond .eq 9, 3) := by decide +kernel
theorem dX6_says_37 : decode cX6_says 37 = .ok (.aload_n 0, 1) := by decide +kernel
theorem dX6_says_38 : decode cX6_says 38 = .ok (.iconst 2, 1) := by decide +kernel
theorem dX6_says_39 : decode cX6_says 39 = .ok (.invokevirtual 83, 3) := by decide +kernel
theorem dX6_says_42 : decode cX6_says 42 = .ok (.ireturn, 1) := by decide +kernel
theorem dX6_says_43 : decode cX6_says 43 = .ok (.aload_n 0, 1) := by decide +kernel
theorem dX6_says_44 : decode cX6_says 44 = .ok (.getfield 18, 3) := by decide +kernel
theorem dX6_says_47 : decode cX6_says 47 = .ok (.aload_n 3, 1) := by decide +kernel
theorem dX6_says_48 : decode cX6_says 48 = .ok (.getfield 138, 3) := by decide +kernel
theorem dX6_says_51 : decode cX6_says 51 = .ok (.invokevirtual 123, 3) := by decide +kernel
theorem dX6_says_54 : decode cX6_says 54 = .ok (.ifCond .ne 9, 3) := by decide +kernel
theorem dX6_says_57 : decode cX6_says 57 = .ok (.aload_n 0, 1) := by decide +kernel
theorem dX6_says_58 : decode cX6_says 58 = .ok (.iconst 3, 1) := by decide +kernel
theorem dX6_says_59 : decode cX6_says 59 = .ok (.invokevirtual 83, 3) := by decide +kernel
theorem dX6_says_62 : decode cX6_says 62 = .ok (.ireturn, 1) := by decide +kernel
theorem dX6_says_63 : decode cX6_says 63 = .ok (.aload_n 0, 1) := by decide +kernel
theorem dX6_says_64 : decode cX6_says 64 = .ok (.getfield 18, 3) := by decide +kernel
theorem dX6_says_67 : decode cX6_says 67 = .ok (.getfield 141, 3) := by decide +kernel
theorem dX6_says_70 : decode cX6_says 70 = .ok (.aload_n 3, 1) := by decide +kernel
theorem dX6_says_71 : decode cX6_says 71 = .ok (.getfield 138, 3) := by decide +kernel
theorem dX6_says_74 : decode cX6_says 74 = .ok (.aaload, 1) := by decide +kernel
theorem dX6_says_75 : decode cX6_says 75 = .ok (.astore 4, 2) := by decide +kernel
theorem dX6_says_77 : decode cX6_says 77 = .ok (.aload 4, 2) := by decide +kernel
theorem dX6_says_79 : decode cX6_says 79 = .ok (.iload_n 2, 1) := by decide +kernel
theorem dX6_says_80 : decode cX6_says 80 = .ok (.invokevirtual 145, 3) := by decide +kernel
theorem dX6_says_83 : decode cX6_says 83 = .ok (.ifCond .ne 9, 3) := by decide +kernel
theorem dX6_says_86 : decode cX6_says 86 = .ok (.aload_n 0, 1) := by decide +kernel
theorem dX6_says_87 : decode cX6_says 87 = .ok (.iconst 2, 1) := by decide +kernel
theorem dX6_says_88 : decode cX6_says 88 = .ok (.invokevirtual 83, 3) := by decide +kernel
theorem dX6_says_91 : decode cX6_says 91 = .ok (.ireturn, 1) := by decide +kernel
theorem dX6_says_92 : decode cX6_says 92 = .ok (.aload_n 0, 1) := by decide +kernel
theorem dX6_says_93 : decode cX6_says 93 = .ok (.aload 4, 2) := by decide +kernel
theorem dX6_says_95 : decode cX6_says 95 = .ok (.iload_n 2, 1) := by decide +kernel
theorem dX6_says_96 : decode cX6_says 96 = .ok (.invokevirtual 148, 3) := by decide +kernel
theorem dX6_says_99 : decode cX6_says 99 = .ok (.ireturn, 1) := by decide +kernel
theorem dX6_biscuit_0 : decode cX6_biscuit 0 = .ok (.iload_n 1, 1) := by decide +kernel
theorem dX6_biscuit_1 : decode cX6_biscuit 1 = .ok (.iconst 0, 1) := by decide +kernel
theorem dX6_biscuit_2 : decode cX6_biscuit 2 = .ok (.bipush 6, 2) := by decide +kernel
theorem dX6_biscuit_4 : decode cX6_biscuit 4 = .ok (.invokestatic 87, 3) := by decide +kernel
theorem dX6_biscuit_7 : decode cX6_biscuit 7 = .ok (.ifCond .ne 9, 3) := by decide +kernel
theorem dX6_biscuit_10 : decode cX6_biscuit 10 = .ok (.aload_n 0, 1) := by decide +kernel
theorem dX6_biscuit_11 : decode cX6_biscuit 11 = .ok (.iconst 1, 1) := by decide +kernel
theorem dX6_biscuit_12 : decode cX6_biscuit 12 = .ok (.invokevirtual 83, 3) := by decide +kernel
theorem dX6_biscuit_15 : decode cX6_biscuit 15 = .ok (.ireturn, 1) := by decide +kernel
theorem dX6_biscuit_16 : decode cX6_biscuit 16 = .ok (.iload_n 2, 1) := by decide +kernel
theorem dX6_biscuit_17 : decode cX6_biscuit 17 = .ok (.iconst 1, 1) := by decide +kernel
theorem dX6_biscuit_18 : decode cX6_biscuit 18 = .ok (.bipush 12, 2) := by decide +kernel
theorem dX6_biscuit_20 : decode cX6_biscuit 20 = .ok (.invokestatic 87, 3) := by decide +kernel
theorem dX6_biscuit_23 : decode cX6_biscuit 23 = .ok (.ifCond .eq 13, 3) := by decide +kernel
theorem dX6_biscuit_26 : decode cX6_biscuit 26 = .ok (.iload_n 3, 1) := by decide +kernel
theorem dX6_biscuit_27 : decode cX6_biscuit 27 = .ok (.iconst 0, 1) := by decide +kernel
theorem dX6_biscuit_28 : decode cX6_biscuit 28 = .ok (.bipush 9, 2) := by decide +kernel
theorem dX6_biscuit_30 : decode cX6_biscuit 30 = .ok (.invokestatic 87, 3) := by decide +kernel
theorem dX6_biscuit_33 : decode cX6_biscuit 33 = .ok (.ifCond .ne 10, 3) := by decide +kernel
theorem dX6_biscuit_36 : decode cX6_biscuit 36 = .ok (.aload_n 0, 1) := by decide +kernel
theorem dX6_biscuit_37 : decode cX6_biscuit 37 = .ok (.bipush 6, 2) := by decide +kernel
theorem dX6_biscuit_39 : decode cX6_biscuit 39 = .ok (.invokevirtual 83, 3) := by decide +kernel
theorem dX6_biscuit_42 : decode cX6_biscuit 42 = .ok (.ireturn, 1) := by decide +kernel
theorem dX6_biscuit_43 : decode cX6_biscuit 43 = .ok (.aload_n 0, 1) := by decide +kernel
theorem dX6_biscuit_44 : decode cX6_biscuit 44 = .ok (.getfield 18, 3) := by decide +kernel
theorem dX6_biscuit_47 : decode cX6_biscuit 47 = .ok (.invokevirtual 152, 3) := by decide +kernel
theorem dX6_biscuit_50 : decode cX6_biscuit 50 = .ok (.ifCond .ne 10, 3) := by decide +kernel
theorem dX6_biscuit_53 : decode cX6_biscuit 53 = .ok (.aload_n 0, 1) := by decide +kernel
theorem dX6_biscuit_54 : decode cX6_biscuit 54 = .ok (.bipush 7, 2) := by decide +kernel
theorem dX6_biscuit_56 : decode cX6_biscuit 56 = .ok (.invokevirtual 83, 3) := by decide +kernel
theorem dX6_biscuit_59 : decode cX6_biscuit 59 = .ok (.ireturn, 1) := by decide +kernel
theorem dX6_biscuit_60 : decode cX6_biscuit 60 = .ok (.aload_n 0, 1) := by decide +kernel
theorem dX6_biscuit_61 : decode cX6_biscuit 61 = .ok (.getfield 18, 3) := by decide +kernel
theorem dX6_biscuit_64 : decode cX6_biscuit 64 = .ok (.iload_n 1, 1) := by decide +kernel
theorem dX6_biscuit_65 : decode cX6_biscuit 65 = .ok (.iload_n 2, 1) := by decide +kernel
theorem dX6_biscuit_66 : decode cX6_biscuit 66 = .ok (.iload_n 3, 1) := by decide +kernel
theorem dX6_biscuit_67 : decode cX6_biscuit 67 = .ok (.invokevirtual 155, 3) := by decide +kernel
theorem dX6_biscuit_70 : decode cX6_biscuit 70 = .ok (.ireturn, 1) := by decide +kernel
theorem dX6_biscuitOf_0 : decode cX6_biscuitOf 0 = .ok (.aload_n 0, 1) := by decide +kernel
theorem dX6_biscuitOf_1 : decode cX6_biscuitOf 1 = .ok (.getfield 18, 3) := by decide +kernel
theorem dX6_biscuitOf_4 : decode cX6_biscuitOf 4 = .ok (.iload_n 1, 1) := by decide +kernel
theorem dX6_biscuitOf_5 : decode cX6_biscuitOf 5 = .ok (.invokevirtual 123, 3) := by decide +kernel
theorem dX6_biscuitOf_8 : decode cX6_biscuitOf 8 = .ok (.ifCond .ne 9, 3) := by decide +kernel
theorem dX6_biscuitOf_11 : decode cX6_biscuitOf 11 = .ok (.aload_n 0, 1) := by decide +kernel
theorem dX6_biscuitOf_12 : decode cX6_biscuitOf 12 = .ok (.iconst 5, 1) := by decide +kernel
theorem dX6_biscuitOf_13 : decode cX6_biscuitOf 13 = .ok (.invokevirtual 83, 3) := by decide +kernel
theorem dX6_biscuitOf_16 : decode cX6_biscuitOf 16 = .ok (.ireturn, 1) := by decide +kernel
theorem dX6_biscuitOf_17 : decode cX6_biscuitOf 17 = .ok (.aload_n 0, 1) := by decide +kernel
theorem dX6_biscuitOf_18 : decode cX6_biscuitOf 18 = .ok (.getfield 18, 3) := by decide +kernel
theorem dX6_biscuitOf_21 : decode cX6_biscuitOf 21 = .ok (.getfield 141, 3) := by decide +kernel
theorem dX6_biscuitOf_24 : decode cX6_biscuitOf 24 = .ok (.iload_n 1, 1) := by decide +kernel
theorem dX6_biscuitOf_25 : decode cX6_biscuitOf 25 = .ok (.aaload, 1) := by decide +kernel
theorem dX6_biscuitOf_26 : decode cX6_biscuitOf 26 = .ok (.astore_n 3, 1) := by decide +kernel
theorem dX6_biscuitOf_27 : decode cX6_biscuitOf 27 = .ok (.iload_n 2, 1) := by decide +kernel
theorem dX6_biscuitOf_28 : decode cX6_biscuitOf 28 = .ok (.tableswitch 52 0 3 #[32, 37, 42, 47], 32) := by decide +kernel
theorem dX6_biscuitOf_60 : decode cX6_biscuitOf 60 = .ok (.aload_n 3, 1) := by decide +kernel
theorem dX6_biscuitOf_61 : decode cX6_biscuitOf 61 = .ok (.getfield 159, 3) := by decide +kernel
theorem dX6_biscuitOf_64 : decode cX6_biscuitOf 64 = .ok (.ireturn, 1) := by decide +kernel
theorem dX6_biscuitOf_65 : decode cX6_biscuitOf 65 = .ok (.aload_n 3, 1) := by decide +kernel
theorem dX6_biscuitOf_66 : decode cX6_biscuitOf 66 = .ok (.getfield 162, 3) := by decide +kernel
theorem dX6_biscuitOf_69 : decode cX6_biscuitOf 69 = .ok (.ireturn, 1) := by decide +kernel
theorem dX6_biscuitOf_70 : decode cX6_biscuitOf 70 = .ok (.aload_n 3, 1) := by decide +kernel
theorem dX6_biscuitOf_71 : decode cX6_biscuitOf 71 = .ok (.getfield 165, 3) := by decide +kernel
theorem dX6_biscuitOf_74 : decode cX6_biscuitOf 74 = .ok (.ireturn, 1) := by decide +kernel
theorem dX6_biscuitOf_75 : decode cX6_biscuitOf 75 = .ok (.aload_n 3, 1) := by decide +kernel
theorem dX6_biscuitOf_76 : decode cX6_biscuitOf 76 = .ok (.invokevirtual 168, 3) := by decide +kernel
theorem dX6_biscuitOf_79 : decode cX6_biscuitOf 79 = .ok (.ireturn, 1) := by decide +kernel
theorem dX6_biscuitOf_80 : decode cX6_biscuitOf 80 = .ok (.iload_n 2, 1) := by decide +kernel
theorem dX6_biscuitOf_81 : decode cX6_biscuitOf 81 = .ok (.bipush 10, 2) := by decide +kernel
theorem dX6_biscuitOf_83 : decode cX6_biscuitOf 83 = .ok (.if_icmp .lt 14, 3) := by decide +kernel
theorem dX6_biscuitOf_86 : decode cX6_biscuitOf 86 = .ok (.aload_n 3, 1) := by decide +kernel
theorem dX6_biscuitOf_87 : decode cX6_biscuitOf 87 = .ok (.iload_n 2, 1) := by decide +kernel
theorem dX6_biscuitOf_88 : decode cX6_biscuitOf 88 = .ok (.bipush 10, 2) := by decide +kernel
theorem dX6_biscuitOf_90 : decode cX6_biscuitOf 90 = .ok (.isub, 1) := by decide +kernel
theorem dX6_biscuitOf_91 : decode cX6_biscuitOf 91 = .ok (.invokevirtual 171, 3) := by decide +kernel
theorem dX6_biscuitOf_94 : decode cX6_biscuitOf 94 = .ok (.ifCond .ne 9, 3) := by decide +kernel
theorem dX6_biscuitOf_97 : decode cX6_biscuitOf 97 = .ok (.aload_n 0, 1) := by decide +kernel
theorem dX6_biscuitOf_98 : decode cX6_biscuitOf 98 = .ok (.iconst 5, 1) := by decide +kernel
theorem dX6_biscuitOf_99 : decode cX6_biscuitOf 99 = .ok (.invokevirtual 83, 3) := by decide +kernel
theorem dX6_biscuitOf_102 : decode cX6_biscuitOf 102 = .ok (.ireturn, 1) := by decide +kernel
theorem dX6_biscuitOf_103 : decode cX6_biscuitOf 103 = .ok (.aload_n 3, 1) := by decide +kernel
theorem dX6_biscuitOf_104 : decode cX6_biscuitOf 104 = .ok (.getfield 174, 3) := by decide +kernel
theorem dX6_biscuitOf_107 : decode cX6_biscuitOf 107 = .ok (.iload_n 2, 1) := by decide +kernel
theorem dX6_biscuitOf_108 : decode cX6_biscuitOf 108 = .ok (.bipush 10, 2) := by decide +kernel
theorem dX6_biscuitOf_110 : decode cX6_biscuitOf 110 = .ok (.isub, 1) := by decide +kernel
theorem dX6_biscuitOf_111 : decode cX6_biscuitOf 111 = .ok (.iaload, 1) := by decide +kernel
theorem dX6_biscuitOf_112 : decode cX6_biscuitOf 112 = .ok (.ireturn, 1) := by decide +kernel
theorem dX6_wet_0 : decode cX6_wet 0 = .ok (.aload_n 0, 1) := by decide +kernel
theorem dX6_wet_1 : decode cX6_wet 1 = .ok (.getfield 18, 3) := by decide +kernel
theorem dX6_wet_4 : decode cX6_wet 4 = .ok (.iload_n 1, 1) := by decide +kernel
theorem dX6_wet_5 : decode cX6_wet 5 = .ok (.iload_n 2, 1) := by decide +kernel
theorem dX6_wet_6 : decode cX6_wet 6 = .ok (.invokevirtual 177, 3) := by decide +kernel
theorem dX6_wet_9 : decode cX6_wet 9 = .ok (.ifCond .ne 9, 3) := by decide +kernel
theorem dX6_wet_12 : decode cX6_wet 12 = .ok (.aload_n 0, 1) := by decide +kernel
theorem dX6_wet_13 : decode cX6_wet 13 = .ok (.iconst 1, 1) := by decide +kernel
theorem dX6_wet_14 : decode cX6_wet 14 = .ok (.invokevirtual 83, 3) := by decide +kernel
theorem dX6_wet_17 : decode cX6_wet 17 = .ok (.ireturn, 1) := by decide +kernel
theorem dX6_wet_18 : decode cX6_wet 18 = .ok (.iload_n 3, 1) := by decide +kernel
theorem dX6_wet_19 : decode cX6_wet 19 = .ok (.iconst 0, 1) := by decide +kernel
theorem dX6_wet_20 : decode cX6_wet 20 = .ok (.bipush 99, 2) := by decide +kernel
theorem dX6_wet_22 : decode cX6_wet 22 = .ok (.invokestatic 87, 3) := by decide +kernel
theorem dX6_wet_25 : decode cX6_wet 25 = .ok (.ifCond .ne 10, 3) := by decide +kernel
theorem dX6_wet_28 : decode cX6_wet 28 = .ok (.aload_n 0, 1) := by decide +kernel
theorem dX6_wet_29 : decode cX6_wet 29 = .ok (.bipush 6, 2) := by decide +kernel
theorem dX6_wet_31 : decode cX6_wet 31 = .ok (.invokevirtual 83, 3) := by decide +kernel
theorem dX6_wet_34 : decode cX6_wet 34 = .ok (.ireturn, 1) := by decide +kernel
theorem dX6_wet_35 : decode cX6_wet 35 = .ok (.aload_n 0, 1) := by decide +kernel
theorem dX6_wet_36 : decode cX6_wet 36 = .ok (.getfield 18, 3) := by decide +kernel
theorem dX6_wet_39 : decode cX6_wet 39 = .ok (.getfield 141, 3) := by decide +kernel
theorem dX6_wet_42 : decode cX6_wet 42 = .ok (.iload_n 1, 1) := by decide +kernel
theorem dX6_wet_43 : decode cX6_wet 43 = .ok (.aaload, 1) := by decide +kernel
theorem dX6_wet_44 : decode cX6_wet 44 = .ok (.getfield 174, 3) := by decide +kernel
theorem dX6_wet_47 : decode cX6_wet 47 = .ok (.iload_n 2, 1) := by decide +kernel
theorem dX6_wet_48 : decode cX6_wet 48 = .ok (.iaload, 1) := by decide +kernel
theorem dX6_wet_49 : decode cX6_wet 49 = .ok (.istore 4, 2) := by decide +kernel
theorem dX6_wet_51 : decode cX6_wet 51 = .ok (.aload_n 0, 1) := by decide +kernel
theorem dX6_wet_52 : decode cX6_wet 52 = .ok (.getfield 18, 3) := by decide +kernel
theorem dX6_wet_55 : decode cX6_wet 55 = .ok (.getfield 141, 3) := by decide +kernel
theorem dX6_wet_58 : decode cX6_wet 58 = .ok (.iload_n 1, 1) := by decide +kernel
theorem dX6_wet_59 : decode cX6_wet 59 = .ok (.aaload, 1) := by decide +kernel
theorem dX6_wet_60 : decode cX6_wet 60 = .ok (.getfield 174, 3) := by decide +kernel
theorem dX6_wet_63 : decode cX6_wet 63 = .ok (.iload_n 2, 1) := by decide +kernel
theorem dX6_wet_64 : decode cX6_wet 64 = .ok (.iload_n 3, 1) := by decide +kernel
theorem dX6_wet_65 : decode cX6_wet 65 = .ok (.iastore, 1) := by decide +kernel
theorem dX6_wet_66 : decode cX6_wet 66 = .ok (.iload 4, 2) := by decide +kernel
theorem dX6_wet_68 : decode cX6_wet 68 = .ok (.ireturn, 1) := by decide +kernel
theorem dX6_ask_0 : decode cX6_ask 0 = .ok (.iload_n 1, 1) := by decide +kernel
theorem dX6_ask_1 : decode cX6_ask 1 = .ok (.ifCond .ne 32, 3) := by decide +kernel
theorem dX6_ask_4 : decode cX6_ask 4 = .ok (.iload_n 2, 1) := by decide +kernel
theorem dX6_ask_5 : decode cX6_ask 5 = .ok (.iconst 0, 1) := by decide +kernel
theorem dX6_ask_6 : decode cX6_ask 6 = .ok (.bipush 99, 2) := by decide +kernel
theorem dX6_ask_8 : decode cX6_ask 8 = .ok (.invokestatic 87, 3) := by decide +kernel
theorem dX6_ask_11 : decode cX6_ask 11 = .ok (.ifCond .eq 22, 3) := by decide +kernel
theorem dX6_ask_14 : decode cX6_ask 14 = .ok (.aload_n 0, 1) := by decide +kernel
theorem dX6_ask_15 : decode cX6_ask 15 = .ok (.getfield 18, 3) := by decide +kernel
theorem dX6_ask_18 : decode cX6_ask 18 = .ok (.getfield 181, 3) := by decide +kernel
theorem dX6_ask_21 : decode cX6_ask 21 = .ok (.istore_n 3, 1) := by decide +kernel
theorem dX6_ask_22 : decode cX6_ask 22 = .ok (.aload_n 0, 1) := by decide +kernel
theorem dX6_ask_23 : decode cX6_ask 23 = .ok (.getfield 18, 3) := by decide +kernel
theorem dX6_ask_26 : decode cX6_ask 26 = .ok (.iload_n 2, 1) := by decide +kernel
theorem dX6_ask_27 : decode cX6_ask 27 = .ok (.putfield 181, 3) := by decide +kernel
theorem dX6_ask_30 : decode cX6_ask 30 = .ok (.goto 79, 3) := by decide +kernel
theorem dX6_ask_33 : decode cX6_ask 33 = .ok (.iload_n 1, 1) := by decide +kernel
theorem dX6_ask_34 : decode cX6_ask 34 = .ok (.iconst 1, 1) := by decide +kernel
theorem dX6_ask_35 : decode cX6_ask 35 = .ok (.if_icmp .ne 32, 3) := by decide +kernel
theorem dX6_ask_38 : decode cX6_ask 38 = .ok (.iload_n 2, 1) := by decide +kernel
theorem dX6_ask_39 : decode cX6_ask 39 = .ok (.iconst 1, 1) := by decide +kernel
theorem dX6_ask_40 : decode cX6_ask 40 = .ok (.bipush 99, 2) := by decide +kernel
theorem dX6_ask_42 : decode cX6_ask 42 = .ok (.invokestatic 87, 3) := by decide +kernel
theorem dX6_ask_45 : decode cX6_ask 45 = .ok (.ifCond .eq 22, 3) := by decide +kernel
theorem dX6_ask_48 : decode cX6_ask 48 = .ok (.aload_n 0, 1) := by decide +kernel
theorem dX6_ask_49 : decode cX6_ask 49 = .ok (.getfield 18, 3) := by decide +kernel
theorem dX6_ask_52 : decode cX6_ask 52 = .ok (.getfield 184, 3) := by decide +kernel
theorem dX6_ask_55 : decode cX6_ask 55 = .ok (.istore_n 3, 1) := by decide +kernel
theorem dX6_ask_56 : decode cX6_ask 56 = .ok (.aload_n 0, 1) := by decide +kernel
theorem dX6_ask_57 : decode cX6_ask 57 = .ok (.getfield 18, 3) := by decide +kernel
theorem dX6_ask_60 : decode cX6_ask 60 = .ok (.iload_n 2, 1) := by decide +kernel
theorem dX6_ask_61 : decode cX6_ask 61 = .ok (.putfield 184, 3) := by decide +kernel
theorem dX6_ask_64 : decode cX6_ask 64 = .ok (.goto 45, 3) := by decide +kernel
theorem dX6_ask_67 : decode cX6_ask 67 = .ok (.iload_n 1, 1) := by decide +kernel
theorem dX6_ask_68 : decode cX6_ask 68 = .ok (.iconst 2, 1) := by decide +kernel
theorem dX6_ask_69 : decode cX6_ask 69 = .ok (.if_icmp .ne 33, 3) := by decide +kernel
theorem dX6_ask_72 : decode cX6_ask 72 = .ok (.iload_n 2, 1) := by decide +kernel
theorem dX6_ask_73 : decode cX6_ask 73 = .ok (.iconst 0, 1) := by decide +kernel
theorem dX6_ask_74 : decode cX6_ask 74 = .ok (.sipush 9999, 3) := by decide +kernel
theorem dX6_ask_77 : decode cX6_ask 77 = .ok (.invokestatic 87, 3) := by decide +kernel
theorem dX6_ask_80 : decode cX6_ask 80 = .ok (.ifCond .eq 22, 3) := by decide +kernel
theorem dX6_ask_83 : decode cX6_ask 83 = .ok (.aload_n 0, 1) := by decide +kernel
theorem dX6_ask_84 : decode cX6_ask 84 = .ok (.getfield 18, 3) := by decide +kernel
theorem dX6_ask_87 : decode cX6_ask 87 = .ok (.getfield 187, 3) := by decide +kernel
theorem dX6_ask_90 : decode cX6_ask 90 = .ok (.istore_n 3, 1) := by decide +kernel
theorem dX6_ask_91 : decode cX6_ask 91 = .ok (.aload_n 0, 1) := by decide +kernel
theorem dX6_ask_92 : decode cX6_ask 92 = .ok (.getfield 18, 3) := by decide +kernel
theorem dX6_ask_95 : decode cX6_ask 95 = .ok (.iload_n 2, 1) := by decide +kernel
theorem dX6_ask_96 : decode cX6_ask 96 = .ok (.putfield 187, 3) := by decide +kernel
theorem dX6_ask_99 : decode cX6_ask 99 = .ok (.goto 10, 3) := by decide +kernel
theorem dX6_ask_102 : decode cX6_ask 102 = .ok (.aload_n 0, 1) := by decide +kernel
theorem dX6_ask_103 : decode cX6_ask 103 = .ok (.bipush 6, 2) := by decide +kernel
theorem dX6_ask_105 : decode cX6_ask 105 = .ok (.invokevirtual 83, 3) := by decide +kernel
theorem dX6_ask_108 : decode cX6_ask 108 = .ok (.ireturn, 1) := by decide +kernel
theorem dX6_ask_109 : decode cX6_ask 109 = .ok (.iload_n 3, 1) := by decide +kernel
theorem dX6_ask_110 : decode cX6_ask 110 = .ok (.ireturn, 1) := by decide +kernel
theorem dX6_worthOf_0 : decode cX6_worthOf 0 = .ok (.iload_n 1, 1) := by decide +kernel
theorem dX6_worthOf_1 : decode cX6_worthOf 1 = .ok (.iconst 0, 1) := by decide +kernel
theorem dX6_worthOf_2 : decode cX6_worthOf 2 = .ok (.bipush 9, 2) := by decide +kernel
theorem dX6_worthOf_4 : decode cX6_worthOf 4 = .ok (.invokestatic 87, 3) := by decide +kernel
theorem dX6_worthOf_7 : decode cX6_worthOf 7 = .ok (.ifCond .eq 13, 3) := by decide +kernel
theorem dX6_worthOf_10 : decode cX6_worthOf 10 = .ok (.iload_n 2, 1) := by decide +kernel
theorem dX6_worthOf_11 : decode cX6_worthOf 11 = .ok (.iconst 0, 1) := by decide +kernel
theorem dX6_worthOf_12 : decode cX6_worthOf 12 = .ok (.bipush 99, 2) := by decide +kernel
theorem dX6_worthOf_14 : decode cX6_worthOf 14 = .ok (.invokestatic 87, 3) := by decide +kernel
theorem dX6_worthOf_17 : decode cX6_worthOf 17 = .ok (.ifCond .ne 10, 3) := by decide +kernel
theorem dX6_worthOf_20 : decode cX6_worthOf 20 = .ok (.aload_n 0, 1) := by decide +kernel
theorem dX6_worthOf_21 : decode cX6_worthOf 21 = .ok (.bipush 6, 2) := by decide +kernel
theorem dX6_worthOf_23 : decode cX6_worthOf 23 = .ok (.invokevirtual 83, 3) := by decide +kernel
theorem dX6_worthOf_26 : decode cX6_worthOf 26 = .ok (.ireturn, 1) := by decide +kernel
theorem dX6_worthOf_27 : decode cX6_worthOf 27 = .ok (.aload_n 0, 1) := by decide +kernel
theorem dX6_worthOf_28 : decode cX6_worthOf 28 = .ok (.getfield 18, 3) := by decide +kernel
theorem dX6_worthOf_31 : decode cX6_worthOf 31 = .ok (.getfield 190, 3) := by decide +kernel
theorem dX6_worthOf_34 : decode cX6_worthOf 34 = .ok (.iload_n 1, 1) := by decide +kernel
theorem dX6_worthOf_35 : decode cX6_worthOf 35 = .ok (.iaload, 1) := by decide +kernel
theorem dX6_worthOf_36 : decode cX6_worthOf 36 = .ok (.istore_n 3, 1) := by decide +kernel
theorem dX6_worthOf_37 : decode cX6_worthOf 37 = .ok (.aload_n 0, 1) := by decide +kernel
theorem dX6_worthOf_38 : decode cX6_worthOf 38 = .ok (.getfield 18, 3) := by decide +kernel
theorem dX6_worthOf_41 : decode cX6_worthOf 41 = .ok (.getfield 190, 3) := by decide +kernel
theorem dX6_worthOf_44 : decode cX6_worthOf 44 = .ok (.iload_n 1, 1) := by decide +kernel
theorem dX6_worthOf_45 : decode cX6_worthOf 45 = .ok (.iload_n 2, 1) := by decide +kernel
theorem dX6_worthOf_46 : decode cX6_worthOf 46 = .ok (.iastore, 1) := by decide +kernel
theorem dX6_worthOf_47 : decode cX6_worthOf 47 = .ok (.iload_n 3, 1) := by decide +kernel
theorem dX6_worthOf_48 : decode cX6_worthOf 48 = .ok (.ireturn, 1) := by decide +kernel
theorem dX6_table_0 : decode cX6_table 0 = .ok (.aload_n 0, 1) := by decide +kernel
theorem dX6_table_1 : decode cX6_table 1 = .ok (.iload_n 1, 1) := by decide +kernel
theorem dX6_table_2 : decode cX6_table 2 = .ok (.invokevirtual 95, 3) := by decide +kernel
theorem dX6_table_5 : decode cX6_table 5 = .ok (.istore_n 2, 1) := by decide +kernel
theorem dX6_table_6 : decode cX6_table 6 = .ok (.iload_n 2, 1) := by decide +kernel
theorem dX6_table_7 : decode cX6_table 7 = .ok (.ifCond .eq 9, 3) := by decide +kernel
theorem dX6_table_10 : decode cX6_table 10 = .ok (.aload_n 0, 1) := by decide +kernel
theorem dX6_table_11 : decode cX6_table 11 = .ok (.iload_n 2, 1) := by decide +kernel
theorem dX6_table_12 : decode cX6_table 12 = .ok (.invokevirtual 83, 3) := by decide +kernel
theorem dX6_table_15 : decode cX6_table 15 = .ok (.ireturn, 1) := by decide +kernel
theorem dX6_table_16 : decode cX6_table 16 = .ok (.aload_n 0, 1) := by decide +kernel
theorem dX6_table_17 : decode cX6_table 17 = .ok (.getfield 25, 3) := by decide +kernel
theorem dX6_table_20 : decode cX6_table 20 = .ok (.aload_n 0, 1) := by decide +kernel
theorem dX6_table_21 : decode cX6_table 21 = .ok (.getfield 18, 3) := by decide +kernel
theorem dX6_table_24 : decode cX6_table 24 = .ok (.invokevirtual 193, 3) := by decide +kernel
theorem dX6_table_27 : decode cX6_table 27 = .ok (.aload_n 0, 1) := by decide +kernel
theorem dX6_table_28 : decode cX6_table 28 = .ok (.getfield 43, 3) := by decide +kernel
theorem dX6_table_31 : decode cX6_table 31 = .ok (.aload_n 0, 1) := by decide +kernel
theorem dX6_table_32 : decode cX6_table 32 = .ok (.getfield 11, 3) := by decide +kernel
theorem dX6_table_35 : decode cX6_table 35 = .ok (.iload_n 1, 1) := by decide +kernel
theorem dX6_table_36 : decode cX6_table 36 = .ok (.aaload, 1) := by decide +kernel
theorem dX6_table_37 : decode cX6_table 37 = .ok (.invokevirtual 197, 3) := by decide +kernel
theorem dX6_table_40 : decode cX6_table 40 = .ok (.istore_n 3, 1) := by decide +kernel
theorem dX6_table_41 : decode cX6_table 41 = .ok (.aload_n 0, 1) := by decide +kernel
theorem dX6_table_42 : decode cX6_table 42 = .ok (.aload_n 0, 1) := by decide +kernel
theorem dX6_table_43 : decode cX6_table 43 = .ok (.getfield 43, 3) := by decide +kernel
theorem dX6_table_46 : decode cX6_table 46 = .ok (.getfield 201, 3) := by decide +kernel
theorem dX6_table_49 : decode cX6_table 49 = .ok (.putfield 74, 3) := by decide +kernel
theorem dX6_table_52 : decode cX6_table 52 = .ok (.aload_n 0, 1) := by decide +kernel
theorem dX6_table_53 : decode cX6_table 53 = .ok (.getfield 74, 3) := by decide +kernel
theorem dX6_table_56 : decode cX6_table 56 = .ok (.iconst (-1), 1) := by decide +kernel
theorem dX6_table_57 : decode cX6_table 57 = .ok (.if_icmp .eq 10, 3) := by decide +kernel
theorem dX6_table_60 : decode cX6_table 60 = .ok (.aload_n 0, 1) := by decide +kernel
theorem dX6_table_61 : decode cX6_table 61 = .ok (.bipush 6, 2) := by decide +kernel
theorem dX6_table_63 : decode cX6_table 63 = .ok (.invokevirtual 83, 3) := by decide +kernel
theorem dX6_table_66 : decode cX6_table 66 = .ok (.ireturn, 1) := by decide +kernel
theorem dX6_table_67 : decode cX6_table 67 = .ok (.aload_n 0, 1) := by decide +kernel
theorem dX6_table_68 : decode cX6_table 68 = .ok (.getfield 18, 3) := by decide +kernel
theorem dX6_table_71 : decode cX6_table 71 = .ok (.aload_n 0, 1) := by decide +kernel
theorem dX6_table_72 : decode cX6_table 72 = .ok (.getfield 25, 3) := by decide +kernel
theorem dX6_table_75 : decode cX6_table 75 = .ok (.invokevirtual 193, 3) := by decide +kernel
theorem dX6_table_78 : decode cX6_table 78 = .ok (.iload_n 3, 1) := by decide +kernel
theorem dX6_table_79 : decode cX6_table 79 = .ok (.ireturn, 1) := by decide +kernel
theorem dX6_fault_0 : decode cX6_fault 0 = .ok (.aload_n 0, 1) := by decide +kernel
theorem dX6_fault_1 : decode cX6_fault 1 = .ok (.getfield 74, 3) := by decide +kernel
theorem dX6_fault_4 : decode cX6_fault 4 = .ok (.ireturn, 1) := by decide +kernel
theorem dX6_soak_0 : decode cX6_soak 0 = .ok (.aload_n 0, 1) := by decide +kernel
theorem dX6_soak_1 : decode cX6_soak 1 = .ok (.getfield 18, 3) := by decide +kernel
theorem dX6_soak_4 : decode cX6_soak 4 = .ok (.iload_n 1, 1) := by decide +kernel
theorem dX6_soak_5 : decode cX6_soak 5 = .ok (.iload_n 2, 1) := by decide +kernel
theorem dX6_soak_6 : decode cX6_soak 6 = .ok (.invokevirtual 177, 3) := by decide +kernel
theorem dX6_soak_9 : decode cX6_soak 9 = .ok (.ifCond .ne 9, 3) := by decide +kernel
theorem dX6_soak_12 : decode cX6_soak 12 = .ok (.aload_n 0, 1) := by decide +kernel
theorem dX6_soak_13 : decode cX6_soak 13 = .ok (.iconst 1, 1) := by decide +kernel
theorem dX6_soak_14 : decode cX6_soak 14 = .ok (.invokevirtual 83, 3) := by decide +kernel
theorem dX6_soak_17 : decode cX6_soak 17 = .ok (.ireturn, 1) := by decide +kernel
theorem dX6_soak_18 : decode cX6_soak 18 = .ok (.aload_n 0, 1) := by decide +kernel
theorem dX6_soak_19 : decode cX6_soak 19 = .ok (.getfield 18, 3) := by decide +kernel
theorem dX6_soak_22 : decode cX6_soak 22 = .ok (.getfield 141, 3) := by decide +kernel
theorem dX6_soak_25 : decode cX6_soak 25 = .ok (.iload_n 1, 1) := by decide +kernel
theorem dX6_soak_26 : decode cX6_soak 26 = .ok (.aaload, 1) := by decide +kernel
theorem dX6_soak_27 : decode cX6_soak 27 = .ok (.iload_n 2, 1) := by decide +kernel
theorem dX6_soak_28 : decode cX6_soak 28 = .ok (.aload_n 0, 1) := by decide +kernel
theorem dX6_soak_29 : decode cX6_soak 29 = .ok (.getfield 18, 3) := by decide +kernel
theorem dX6_soak_32 : decode cX6_soak 32 = .ok (.getfield 181, 3) := by decide +kernel
theorem dX6_soak_35 : decode cX6_soak 35 = .ok (.invokevirtual 204, 3) := by decide +kernel
theorem dX6_soak_38 : decode cX6_soak 38 = .ok (.ireturn, 1) := by decide +kernel
theorem dX6_cellOf_0 : decode cX6_cellOf 0 = .ok (.aload_n 0, 1) := by decide +kernel
theorem dX6_cellOf_1 : decode cX6_cellOf 1 = .ok (.getfield 18, 3) := by decide +kernel
theorem dX6_cellOf_4 : decode cX6_cellOf 4 = .ok (.iload_n 1, 1) := by decide +kernel
theorem dX6_cellOf_5 : decode cX6_cellOf 5 = .ok (.iload_n 2, 1) := by decide +kernel
theorem dX6_cellOf_6 : decode cX6_cellOf 6 = .ok (.invokevirtual 177, 3) := by decide +kernel
theorem dX6_cellOf_9 : decode cX6_cellOf 9 = .ok (.ifCond .ne 13, 3) := by decide +kernel
theorem dX6_cellOf_12 : decode cX6_cellOf 12 = .ok (.aload_n 0, 1) := by decide +kernel
theorem dX6_cellOf_13 : decode cX6_cellOf 13 = .ok (.iconst 1, 1) := by decide +kernel
theorem dX6_cellOf_14 : decode cX6_cellOf 14 = .ok (.invokevirtual 83, 3) := by decide +kernel
theorem dX6_cellOf_17 : decode cX6_cellOf 17 = .ok (.sipush 1000, 3) := by decide +kernel
theorem dX6_cellOf_20 : decode cX6_cellOf 20 = .ok (.isub, 1) := by decide +kernel
theorem dX6_cellOf_21 : decode cX6_cellOf 21 = .ok (.ireturn, 1) := by decide +kernel
theorem dX6_cellOf_22 : decode cX6_cellOf 22 = .ok (.iload_n 3, 1) := by decide +kernel
theorem dX6_cellOf_23 : decode cX6_cellOf 23 = .ok (.ifCond .ne 17, 3) := by decide +kernel
theorem dX6_cellOf_26 : decode cX6_cellOf 26 = .ok (.aload_n 0, 1) := by decide +kernel
theorem dX6_cellOf_27 : decode cX6_cellOf 27 = .ok (.getfield 18, 3) := by decide +kernel
theorem dX6_cellOf_30 : decode cX6_cellOf 30 = .ok (.getfield 141, 3) := by decide +kernel
theorem dX6_cellOf_33 : decode cX6_cellOf 33 = .ok (.iload_n 1, 1) := by decide +kernel
theorem dX6_cellOf_34 : decode cX6_cellOf 34 = .ok (.aaload, 1) := by decide +kernel
theorem dX6_cellOf_35 : decode cX6_cellOf 35 = .ok (.iload_n 2, 1) := by decide +kernel
theorem dX6_cellOf_36 : decode cX6_cellOf 36 = .ok (.invokevirtual 208, 3) := by decide +kernel
theorem dX6_cellOf_39 : decode cX6_cellOf 39 = .ok (.ireturn, 1) := by decide +kernel
theorem dX6_cellOf_40 : decode cX6_cellOf 40 = .ok (.iload_n 3, 1) := by decide +kernel
theorem dX6_cellOf_41 : decode cX6_cellOf 41 = .ok (.iconst 1, 1) := by decide +kernel
theorem dX6_cellOf_42 : decode cX6_cellOf 42 = .ok (.if_icmp .ne 17, 3) := by decide +kernel
theorem dX6_cellOf_45 : decode cX6_cellOf 45 = .ok (.aload_n 0, 1) := by decide +kernel
theorem dX6_cellOf_46 : decode cX6_cellOf 46 = .ok (.getfield 18, 3) := by decide +kernel
theorem dX6_cellOf_49 : decode cX6_cellOf 49 = .ok (.getfield 141, 3) := by decide +kernel
theorem dX6_cellOf_52 : decode cX6_cellOf 52 = .ok (.iload_n 1, 1) := by decide +kernel
theorem dX6_cellOf_53 : decode cX6_cellOf 53 = .ok (.aaload, 1) := by decide +kernel
theorem dX6_cellOf_54 : decode cX6_cellOf 54 = .ok (.iload_n 2, 1) := by decide +kernel
theorem dX6_cellOf_55 : decode cX6_cellOf 55 = .ok (.invokevirtual 211, 3) := by decide +kernel
theorem dX6_cellOf_58 : decode cX6_cellOf 58 = .ok (.ireturn, 1) := by decide +kernel
theorem dX6_cellOf_59 : decode cX6_cellOf 59 = .ok (.aload_n 0, 1) := by decide +kernel
theorem dX6_cellOf_60 : decode cX6_cellOf 60 = .ok (.iconst 5, 1) := by decide +kernel
theorem dX6_cellOf_61 : decode cX6_cellOf 61 = .ok (.invokevirtual 83, 3) := by decide +kernel
theorem dX6_cellOf_64 : decode cX6_cellOf 64 = .ok (.sipush 1000, 3) := by decide +kernel
theorem dX6_cellOf_67 : decode cX6_cellOf 67 = .ok (.isub, 1) := by decide +kernel
theorem dX6_cellOf_68 : decode cX6_cellOf 68 = .ok (.ireturn, 1) := by decide +kernel
theorem dX6_breaks_0 : decode cX6_breaks 0 = .ok (.aload_n 0, 1) := by decide +kernel
theorem dX6_breaks_1 : decode cX6_breaks 1 = .ok (.getfield 18, 3) := by decide +kernel
theorem dX6_breaks_4 : decode cX6_breaks 4 = .ok (.iload_n 1, 1) := by decide +kernel
theorem dX6_breaks_5 : decode cX6_breaks 5 = .ok (.invokevirtual 123, 3) := by decide +kernel
theorem dX6_breaks_8 : decode cX6_breaks 8 = .ok (.ifCond .ne 12, 3) := by decide +kernel
theorem dX6_breaks_11 : decode cX6_breaks 11 = .ok (.aload_n 0, 1) := by decide +kernel
theorem dX6_breaks_12 : decode cX6_breaks 12 = .ok (.iconst 1, 1) := by decide +kernel
theorem dX6_breaks_13 : decode cX6_breaks 13 = .ok (.invokevirtual 83, 3) := by decide +kernel
theorem dX6_breaks_16 : decode cX6_breaks 16 = .ok (.bipush 10, 2) := by decide +kernel
theorem dX6_breaks_18 : decode cX6_breaks 18 = .ok (.isub, 1) := by decide +kernel
theorem dX6_breaks_19 : decode cX6_breaks 19 = .ok (.ireturn, 1) := by decide +kernel
theorem dX6_breaks_20 : decode cX6_breaks 20 = .ok (.aload_n 0, 1) := by decide +kernel
theorem dX6_breaks_21 : decode cX6_breaks 21 = .ok (.getfield 18, 3) := by decide +kernel
theorem dX6_breaks_24 : decode cX6_breaks 24 = .ok (.getfield 141, 3) := by decide +kernel
theorem dX6_breaks_27 : decode cX6_breaks 27 = .ok (.iload_n 1, 1) := by decide +kernel
theorem dX6_breaks_28 : decode cX6_breaks 28 = .ok (.aaload, 1) := by decide +kernel
theorem dX6_breaks_29 : decode cX6_breaks 29 = .ok (.invokevirtual 214, 3) := by decide +kernel
theorem dX6_breaks_32 : decode cX6_breaks 32 = .ok (.ireturn, 1) := by decide +kernel
theorem dX6_left_0 : decode cX6_left 0 = .ok (.aload_n 0, 1) := by decide +kernel
theorem dX6_left_1 : decode cX6_left 1 = .ok (.iload_n 1, 1) := by decide +kernel
theorem dX6_left_2 : decode cX6_left 2 = .ok (.iload_n 2, 1) := by decide +kernel
theorem dX6_left_3 : decode cX6_left 3 = .ok (.iload_n 3, 1) := by decide +kernel
theorem dX6_left_4 : decode cX6_left 4 = .ok (.iload 4, 2) := by decide +kernel
theorem dX6_left_6 : decode cX6_left 6 = .ok (.invokevirtual 217, 3) := by decide +kernel
theorem dX6_left_9 : decode cX6_left 9 = .ok (.istore 5, 2) := by decide +kernel
theorem dX6_left_11 : decode cX6_left 11 = .ok (.iload 5, 2) := by decide +kernel
theorem dX6_left_13 : decode cX6_left 13 = .ok (.ifCond .eq 10, 3) := by decide +kernel
theorem dX6_left_16 : decode cX6_left 16 = .ok (.aload_n 0, 1) := by decide +kernel
theorem dX6_left_17 : decode cX6_left 17 = .ok (.iload 5, 2) := by decide +kernel
theorem dX6_left_19 : decode cX6_left 19 = .ok (.invokevirtual 83, 3) := by decide +kernel
theorem dX6_left_22 : decode cX6_left 22 = .ok (.ireturn, 1) := by decide +kernel
theorem dX6_left_23 : decode cX6_left 23 = .ok (.aload_n 0, 1) := by decide +kernel
theorem dX6_left_24 : decode cX6_left 24 = .ok (.aload_n 0, 1) := by decide +kernel
theorem dX6_left_25 : decode cX6_left 25 = .ok (.getfield 18, 3) := by decide +kernel
theorem dX6_left_28 : decode cX6_left 28 = .ok (.getfield 141, 3) := by decide +kernel
theorem dX6_left_31 : decode cX6_left 31 = .ok (.iload_n 1, 1) := by decide +kernel
theorem dX6_left_32 : decode cX6_left 32 = .ok (.aaload, 1) := by decide +kernel
theorem dX6_left_33 : decode cX6_left 33 = .ok (.iload_n 2, 1) := by decide +kernel
theorem dX6_left_34 : decode cX6_left 34 = .ok (.iload_n 3, 1) := by decide +kernel
theorem dX6_left_35 : decode cX6_left 35 = .ok (.iload 4, 2) := by decide +kernel
theorem dX6_left_37 : decode cX6_left 37 = .ok (.invokevirtual 221, 3) := by decide +kernel
theorem dX6_left_40 : decode cX6_left 40 = .ok (.aload_n 0, 1) := by decide +kernel
theorem dX6_left_41 : decode cX6_left 41 = .ok (.getfield 31, 3) := by decide +kernel
theorem dX6_left_44 : decode cX6_left 44 = .ok (.getfield 225, 3) := by decide +kernel
theorem dX6_left_47 : decode cX6_left 47 = .ok (.getfield 162, 3) := by decide +kernel
theorem dX6_left_50 : decode cX6_left 50 = .ok (.ireturn, 1) := by decide +kernel
theorem dX6_wetness_0 : decode cX6_wetness 0 = .ok (.aload_n 0, 1) := by decide +kernel
theorem dX6_wetness_1 : decode cX6_wetness 1 = .ok (.getfield 18, 3) := by decide +kernel
theorem dX6_wetness_4 : decode cX6_wetness 4 = .ok (.iload_n 1, 1) := by decide +kernel
theorem dX6_wetness_5 : decode cX6_wetness 5 = .ok (.invokevirtual 123, 3) := by decide +kernel
theorem dX6_wetness_8 : decode cX6_wetness 8 = .ok (.ifCond .ne 9, 3) := by decide +kernel
theorem dX6_wetness_11 : decode cX6_wetness 11 = .ok (.aload_n 0, 1) := by decide +kernel
theorem dX6_wetness_12 : decode cX6_wetness 12 = .ok (.iconst 1, 1) := by decide +kernel
theorem dX6_wetness_13 : decode cX6_wetness 13 = .ok (.invokevirtual 83, 3) := by decide +kernel
theorem dX6_wetness_16 : decode cX6_wetness 16 = .ok (.ireturn, 1) := by decide +kernel
theorem dX6_wetness_17 : decode cX6_wetness 17 = .ok (.iload 5, 2) := by decide +kernel
theorem dX6_wetness_19 : decode cX6_wetness 19 = .ok (.ifCond .ge 9, 3) := by decide +kernel
theorem dX6_wetness_22 : decode cX6_wetness 22 = .ok (.aload_n 0, 1) := by decide +kernel
theorem dX6_wetness_23 : decode cX6_wetness 23 = .ok (.iconst 5, 1) := by decide +kernel
theorem dX6_wetness_24 : decode cX6_wetness 24 = .ok (.invokevirtual 83, 3) := by decide +kernel
theorem dX6_wetness_27 : decode cX6_wetness 27 = .ok (.ireturn, 1) := by decide +kernel
theorem dX6_wetness_28 : decode cX6_wetness 28 = .ok (.iload_n 2, 1) := by decide +kernel
theorem dX6_wetness_29 : decode cX6_wetness 29 = .ok (.iload_n 3, 1) := by decide +kernel
theorem dX6_wetness_30 : decode cX6_wetness 30 = .ok (.iload 4, 2) := by decide +kernel
theorem dX6_wetness_32 : decode cX6_wetness 32 = .ok (.invokestatic 227, 3) := by decide +kernel
theorem dX6_wetness_35 : decode cX6_wetness 35 = .ok (.ifCond .ne 10, 3) := by decide +kernel
theorem dX6_wetness_38 : decode cX6_wetness 38 = .ok (.aload_n 0, 1) := by decide +kernel
theorem dX6_wetness_39 : decode cX6_wetness 39 = .ok (.bipush 6, 2) := by decide +kernel
theorem dX6_wetness_41 : decode cX6_wetness 41 = .ok (.invokevirtual 83, 3) := by decide +kernel
theorem dX6_wetness_44 : decode cX6_wetness 44 = .ok (.ireturn, 1) := by decide +kernel
theorem dX6_wetness_45 : decode cX6_wetness 45 = .ok (.aload_n 0, 1) := by decide +kernel
theorem dX6_wetness_46 : decode cX6_wetness 46 = .ok (.aload_n 0, 1) := by decide +kernel
theorem dX6_wetness_47 : decode cX6_wetness 47 = .ok (.getfield 18, 3) := by decide +kernel
theorem dX6_wetness_50 : decode cX6_wetness 50 = .ok (.getfield 141, 3) := by decide +kernel
theorem dX6_wetness_53 : decode cX6_wetness 53 = .ok (.iload_n 1, 1) := by decide +kernel
theorem dX6_wetness_54 : decode cX6_wetness 54 = .ok (.aaload, 1) := by decide +kernel
theorem dX6_wetness_55 : decode cX6_wetness 55 = .ok (.iload_n 2, 1) := by decide +kernel
theorem dX6_wetness_56 : decode cX6_wetness 56 = .ok (.iload_n 3, 1) := by decide +kernel
theorem dX6_wetness_57 : decode cX6_wetness 57 = .ok (.iload 4, 2) := by decide +kernel
theorem dX6_wetness_59 : decode cX6_wetness 59 = .ok (.invokevirtual 221, 3) := by decide +kernel
theorem dX6_wetness_62 : decode cX6_wetness 62 = .ok (.aload_n 0, 1) := by decide +kernel
theorem dX6_wetness_63 : decode cX6_wetness 63 = .ok (.getfield 31, 3) := by decide +kernel
theorem dX6_wetness_66 : decode cX6_wetness 66 = .ok (.getfield 225, 3) := by decide +kernel
theorem dX6_wetness_69 : decode cX6_wetness 69 = .ok (.iload 5, 2) := by decide +kernel
theorem dX6_wetness_71 : decode cX6_wetness 71 = .ok (.invokevirtual 171, 3) := by decide +kernel
theorem dX6_wetness_74 : decode cX6_wetness 74 = .ok (.ifCond .ne 9, 3) := by decide +kernel
theorem dX6_wetness_77 : decode cX6_wetness 77 = .ok (.aload_n 0, 1) := by decide +kernel
theorem dX6_wetness_78 : decode cX6_wetness 78 = .ok (.iconst 5, 1) := by decide +kernel
theorem dX6_wetness_79 : decode cX6_wetness 79 = .ok (.invokevirtual 83, 3) := by decide +kernel
theorem dX6_wetness_82 : decode cX6_wetness 82 = .ok (.ireturn, 1) := by decide +kernel
theorem dX6_wetness_83 : decode cX6_wetness 83 = .ok (.aload_n 0, 1) := by decide +kernel
theorem dX6_wetness_84 : decode cX6_wetness 84 = .ok (.getfield 31, 3) := by decide +kernel
theorem dX6_wetness_87 : decode cX6_wetness 87 = .ok (.getfield 225, 3) := by decide +kernel
theorem dX6_wetness_90 : decode cX6_wetness 90 = .ok (.getfield 174, 3) := by decide +kernel
theorem dX6_wetness_93 : decode cX6_wetness 93 = .ok (.iload 5, 2) := by decide +kernel
theorem dX6_wetness_95 : decode cX6_wetness 95 = .ok (.iaload, 1) := by decide +kernel
theorem dX6_wetness_96 : decode cX6_wetness 96 = .ok (.ireturn, 1) := by decide +kernel
theorem dX6_when_0 : decode cX6_when 0 = .ok (.aload_n 0, 1) := by decide +kernel
theorem dX6_when_1 : decode cX6_when 1 = .ok (.iload_n 1, 1) := by decide +kernel
theorem dX6_when_2 : decode cX6_when 2 = .ok (.iload_n 2, 1) := by decide +kernel
theorem dX6_when_3 : decode cX6_when 3 = .ok (.iload_n 3, 1) := by decide +kernel
theorem dX6_when_4 : decode cX6_when 4 = .ok (.iload 4, 2) := by decide +kernel
theorem dX6_when_6 : decode cX6_when 6 = .ok (.invokevirtual 217, 3) := by decide +kernel
theorem dX6_when_9 : decode cX6_when 9 = .ok (.istore 5, 2) := by decide +kernel
theorem dX6_when_11 : decode cX6_when 11 = .ok (.iload 5, 2) := by decide +kernel
theorem dX6_when_13 : decode cX6_when 13 = .ok (.ifCond .eq 13, 3) := by decide +kernel
theorem dX6_when_16 : decode cX6_when 16 = .ok (.aload_n 0, 1) := by decide +kernel
theorem dX6_when_17 : decode cX6_when 17 = .ok (.iload 5, 2) := by decide +kernel
theorem dX6_when_19 : decode cX6_when 19 = .ok (.invokevirtual 83, 3) := by decide +kernel
theorem dX6_when_22 : decode cX6_when 22 = .ok (.bipush 10, 2) := by decide +kernel
theorem dX6_when_24 : decode cX6_when 24 = .ok (.isub, 1) := by decide +kernel
theorem dX6_when_25 : decode cX6_when 25 = .ok (.ireturn, 1) := by decide +kernel
theorem dX6_when_26 : decode cX6_when 26 = .ok (.aload_n 0, 1) := by decide +kernel
theorem dX6_when_27 : decode cX6_when 27 = .ok (.aload_n 0, 1) := by decide +kernel
theorem dX6_when_28 : decode cX6_when 28 = .ok (.getfield 18, 3) := by decide +kernel
theorem dX6_when_31 : decode cX6_when 31 = .ok (.getfield 141, 3) := by decide +kernel
theorem dX6_when_34 : decode cX6_when 34 = .ok (.iload_n 1, 1) := by decide +kernel
theorem dX6_when_35 : decode cX6_when 35 = .ok (.aaload, 1) := by decide +kernel
theorem dX6_when_36 : decode cX6_when 36 = .ok (.iload_n 2, 1) := by decide +kernel
theorem dX6_when_37 : decode cX6_when 37 = .ok (.iload_n 3, 1) := by decide +kernel
theorem dX6_when_38 : decode cX6_when 38 = .ok (.iload 4, 2) := by decide +kernel
theorem dX6_when_40 : decode cX6_when 40 = .ok (.invokevirtual 221, 3) := by decide +kernel
theorem dX6_when_43 : decode cX6_when 43 = .ok (.aload_n 0, 1) := by decide +kernel
theorem dX6_when_44 : decode cX6_when 44 = .ok (.getfield 31, 3) := by decide +kernel
theorem dX6_when_47 : decode cX6_when 47 = .ok (.getfield 230, 3) := by decide +kernel
theorem dX6_when_50 : decode cX6_when 50 = .ok (.ireturn, 1) := by decide +kernel
theorem dX6_longest_0 : decode cX6_longest 0 = .ok (.aload_n 0, 1) := by decide +kernel
theorem dX6_longest_1 : decode cX6_longest 1 = .ok (.iload_n 1, 1) := by decide +kernel
theorem dX6_longest_2 : decode cX6_longest 2 = .ok (.iload_n 2, 1) := by decide +kernel
theorem dX6_longest_3 : decode cX6_longest 3 = .ok (.iconst 0, 1) := by decide +kernel
theorem dX6_longest_4 : decode cX6_longest 4 = .ok (.iload_n 3, 1) := by decide +kernel
theorem dX6_longest_5 : decode cX6_longest 5 = .ok (.invokevirtual 217, 3) := by decide +kernel
theorem dX6_longest_8 : decode cX6_longest 8 = .ok (.istore 4, 2) := by decide +kernel
theorem dX6_longest_10 : decode cX6_longest 10 = .ok (.iload 4, 2) := by decide +kernel
theorem dX6_longest_12 : decode cX6_longest 12 = .ok (.ifCond .eq 13, 3) := by decide +kernel
theorem dX6_longest_15 : decode cX6_longest 15 = .ok (.aload_n 0, 1) := by decide +kernel
theorem dX6_longest_16 : decode cX6_longest 16 = .ok (.iload 4, 2) := by decide +kernel
theorem dX6_longest_18 : decode cX6_longest 18 = .ok (.invokevirtual 83, 3) := by decide +kernel
theorem dX6_longest_21 : decode cX6_longest 21 = .ok (.bipush 10, 2) := by decide +kernel
theorem dX6_longest_23 : decode cX6_longest 23 = .ok (.isub, 1) := by decide +kernel
theorem dX6_longest_24 : decode cX6_longest 24 = .ok (.ireturn, 1) := by decide +kernel
theorem dX6_longest_25 : decode cX6_longest 25 = .ok (.aload_n 0, 1) := by decide +kernel
theorem dX6_longest_26 : decode cX6_longest 26 = .ok (.getfield 31, 3) := by decide +kernel
theorem dX6_longest_29 : decode cX6_longest 29 = .ok (.aload_n 0, 1) := by decide +kernel
theorem dX6_longest_30 : decode cX6_longest 30 = .ok (.getfield 18, 3) := by decide +kernel
theorem dX6_longest_33 : decode cX6_longest 33 = .ok (.getfield 141, 3) := by decide +kernel
theorem dX6_longest_36 : decode cX6_longest 36 = .ok (.iload_n 1, 1) := by decide +kernel
theorem dX6_longest_37 : decode cX6_longest 37 = .ok (.aaload, 1) := by decide +kernel
theorem dX6_longest_38 : decode cX6_longest 38 = .ok (.aload_n 0, 1) := by decide +kernel
theorem dX6_longest_39 : decode cX6_longest 39 = .ok (.getfield 18, 3) := by decide +kernel
theorem dX6_longest_42 : decode cX6_longest 42 = .ok (.getfield 181, 3) := by decide +kernel
theorem dX6_longest_45 : decode cX6_longest 45 = .ok (.invokevirtual 233, 3) := by decide +kernel
theorem dX6_longest_48 : decode cX6_longest 48 = .ok (.aload_n 0, 1) := by decide +kernel
theorem dX6_longest_49 : decode cX6_longest 49 = .ok (.getfield 31, 3) := by decide +kernel
theorem dX6_longest_52 : decode cX6_longest 52 = .ok (.iload_n 2, 1) := by decide +kernel
theorem dX6_longest_53 : decode cX6_longest 53 = .ok (.invokevirtual 237, 3) := by decide +kernel
theorem dX6_longest_56 : decode cX6_longest 56 = .ok (.iconst 0, 1) := by decide +kernel
theorem dX6_longest_57 : decode cX6_longest 57 = .ok (.istore 5, 2) := by decide +kernel
theorem dX6_longest_59 : decode cX6_longest 59 = .ok (.iload 5, 2) := by decide +kernel
theorem dX6_longest_61 : decode cX6_longest 61 = .ok (.bipush 60, 2) := by decide +kernel
theorem dX6_longest_63 : decode cX6_longest 63 = .ok (.if_icmp .gt 57, 3) := by decide +kernel
theorem dX6_longest_66 : decode cX6_longest 66 = .ok (.iload 5, 2) := by decide +kernel
theorem dX6_longest_68 : decode cX6_longest 68 = .ok (.ifCond .le 11, 3) := by decide +kernel
theorem dX6_longest_71 : decode cX6_longest 71 = .ok (.aload_n 0, 1) := by decide +kernel
theorem dX6_longest_72 : decode cX6_longest 72 = .ok (.getfield 31, 3) := by decide +kernel
theorem dX6_longest_75 : decode cX6_longest 75 = .ok (.invokevirtual 240, 3) := by decide +kernel
theorem dX6_longest_78 : decode cX6_longest 78 = .ok (.pop, 1) := by decide +kernel
theorem dX6_longest_79 : decode cX6_longest 79 = .ok (.aload_n 0, 1) := by decide +kernel
theorem dX6_longest_80 : decode cX6_longest 80 = .ok (.getfield 35, 3) := by decide +kernel
theorem dX6_longest_83 : decode cX6_longest 83 = .ok (.aload_n 0, 1) := by decide +kernel
theorem dX6_longest_84 : decode cX6_longest 84 = .ok (.getfield 31, 3) := by decide +kernel
theorem dX6_longest_87 : decode cX6_longest 87 = .ok (.invokevirtual 243, 3) := by decide +kernel
theorem dX6_longest_90 : decode cX6_longest 90 = .ok (.aload_n 0, 1) := by decide +kernel
theorem dX6_longest_91 : decode cX6_longest 91 = .ok (.getfield 35, 3) := by decide +kernel
theorem dX6_longest_94 : decode cX6_longest 94 = .ok (.iconst 0, 1) := by decide +kernel
theorem dX6_longest_95 : decode cX6_longest 95 = .ok (.iload_n 3, 1) := by decide +kernel
theorem dX6_longest_96 : decode cX6_longest 96 = .ok (.invokevirtual 247, 3) := by decide +kernel
theorem dX6_longest_99 : decode cX6_longest 99 = .ok (.aload_n 0, 1) := by decide +kernel
theorem dX6_longest_100 : decode cX6_longest 100 = .ok (.getfield 35, 3) := by decide +kernel
theorem dX6_longest_103 : decode cX6_longest 103 = .ok (.invokevirtual 250, 3) := by decide +kernel
theorem dX6_longest_106 : decode cX6_longest 106 = .ok (.ifCond .ne 8, 3) := by decide +kernel
theorem dX6_longest_109 : decode cX6_longest 109 = .ok (.iload 5, 2) := by decide +kernel
theorem dX6_longest_111 : decode cX6_longest 111 = .ok (.iconst 1, 1) := by decide +kernel
theorem dX6_longest_112 : decode cX6_longest 112 = .ok (.isub, 1) := by decide +kernel
theorem dX6_longest_113 : decode cX6_longest 113 = .ok (.ireturn, 1) := by decide +kernel
theorem dX6_longest_114 : decode cX6_longest 114 = .ok (.iinc 5 1, 3) := by decide +kernel
theorem dX6_longest_117 : decode cX6_longest 117 = .ok (.goto (-58), 3) := by decide +kernel
theorem dX6_longest_120 : decode cX6_longest 120 = .ok (.bipush 60, 2) := by decide +kernel
theorem dX6_longest_122 : decode cX6_longest 122 = .ok (.ireturn, 1) := by decide +kernel
theorem dX6_far_0 : decode cX6_far 0 = .ok (.aload_n 0, 1) := by decide +kernel
theorem dX6_far_1 : decode cX6_far 1 = .ok (.iload_n 1, 1) := by decide +kernel
theorem dX6_far_2 : decode cX6_far 2 = .ok (.iload_n 2, 1) := by decide +kernel
theorem dX6_far_3 : decode cX6_far 3 = .ok (.iload_n 3, 1) := by decide +kernel
theorem dX6_far_4 : decode cX6_far 4 = .ok (.iconst 0, 1) := by decide +kernel
theorem dX6_far_5 : decode cX6_far 5 = .ok (.invokevirtual 217, 3) := by decide +kernel
theorem dX6_far_8 : decode cX6_far 8 = .ok (.istore 4, 2) := by decide +kernel
theorem dX6_far_10 : decode cX6_far 10 = .ok (.iload 4, 2) := by decide +kernel
theorem dX6_far_12 : decode cX6_far 12 = .ok (.ifCond .eq 13, 3) := by decide +kernel
theorem dX6_far_15 : decode cX6_far 15 = .ok (.aload_n 0, 1) := by decide +kernel
theorem dX6_far_16 : decode cX6_far 16 = .ok (.iload 4, 2) := by decide +kernel
theorem dX6_far_18 : decode cX6_far 18 = .ok (.invokevirtual 83, 3) := by decide +kernel
theorem dX6_far_21 : decode cX6_far 21 = .ok (.bipush 10, 2) := by decide +kernel
theorem dX6_far_23 : decode cX6_far 23 = .ok (.isub, 1) := by decide +kernel
theorem dX6_far_24 : decode cX6_far 24 = .ok (.ireturn, 1) := by decide +kernel
theorem dX6_far_25 : decode cX6_far 25 = .ok (.aload_n 0, 1) := by decide +kernel
theorem dX6_far_26 : decode cX6_far 26 = .ok (.getfield 31, 3) := by decide +kernel
theorem dX6_far_29 : decode cX6_far 29 = .ok (.aload_n 0, 1) := by decide +kernel
theorem dX6_far_30 : decode cX6_far 30 = .ok (.getfield 18, 3) := by decide +kernel
theorem dX6_far_33 : decode cX6_far 33 = .ok (.getfield 141, 3) := by decide +kernel
theorem dX6_far_36 : decode cX6_far 36 = .ok (.iload_n 1, 1) := by decide +kernel
theorem dX6_far_37 : decode cX6_far 37 = .ok (.aaload, 1) := by decide +kernel
theorem dX6_far_38 : decode cX6_far 38 = .ok (.aload_n 0, 1) := by decide +kernel
theorem dX6_far_39 : decode cX6_far 39 = .ok (.getfield 18, 3) := by decide +kernel
theorem dX6_far_42 : decode cX6_far 42 = .ok (.getfield 181, 3) := by decide +kernel
theorem dX6_far_45 : decode cX6_far 45 = .ok (.invokevirtual 233, 3) := by decide +kernel
theorem dX6_far_48 : decode cX6_far 48 = .ok (.aload_n 0, 1) := by decide +kernel
theorem dX6_far_49 : decode cX6_far 49 = .ok (.getfield 31, 3) := by decide +kernel
theorem dX6_far_52 : decode cX6_far 52 = .ok (.iload_n 2, 1) := by decide +kernel
theorem dX6_far_53 : decode cX6_far 53 = .ok (.iload_n 3, 1) := by decide +kernel
theorem dX6_far_54 : decode cX6_far 54 = .ok (.invokevirtual 247, 3) := by decide +kernel
theorem dX6_far_57 : decode cX6_far 57 = .ok (.iconst 0, 1) := by decide +kernel
theorem dX6_far_58 : decode cX6_far 58 = .ok (.istore 5, 2) := by decide +kernel
theorem dX6_far_60 : decode cX6_far 60 = .ok (.iload 5, 2) := by decide +kernel
theorem dX6_far_62 : decode cX6_far 62 = .ok (.bipush 60, 2) := by decide +kernel
theorem dX6_far_64 : decode cX6_far 64 = .ok (.if_icmp .gt 38, 3) := by decide +kernel
theorem dX6_far_67 : decode cX6_far 67 = .ok (.iload 5, 2) := by decide +kernel
theorem dX6_far_69 : decode cX6_far 69 = .ok (.ifCond .le 12, 3) := by decide +kernel
theorem dX6_far_72 : decode cX6_far 72 = .ok (.aload_n 0, 1) := by decide +kernel
theorem dX6_far_73 : decode cX6_far 73 = .ok (.getfield 31, 3) := by decide +kernel
theorem dX6_far_76 : decode cX6_far 76 = .ok (.iconst 0, 1) := by decide +kernel
theorem dX6_far_77 : decode cX6_far 77 = .ok (.iconst 1, 1) := by decide +kernel
theorem dX6_far_78 : decode cX6_far 78 = .ok (.invokevirtual 247, 3) := by decide +kernel
theorem dX6_far_81 : decode cX6_far 81 = .ok (.aload_n 0, 1) := by decide +kernel
theorem dX6_far_82 : decode cX6_far 82 = .ok (.getfield 31, 3) := by decide +kernel
theorem dX6_far_85 : decode cX6_far 85 = .ok (.invokevirtual 250, 3) := by decide +kernel
theorem dX6_far_88 : decode cX6_far 88 = .ok (.ifCond .ne 8, 3) := by decide +kernel
theorem dX6_far_91 : decode cX6_far 91 = .ok (.iload 5, 2) := by decide +kernel
theorem dX6_far_93 : decode cX6_far 93 = .ok (.iconst 1, 1) := by decide +kernel
theorem dX6_far_94 : decode cX6_far 94 = .ok (.isub, 1) := by decide +kernel
theorem dX6_far_95 : decode cX6_far 95 = .ok (.ireturn, 1) := by decide +kernel
theorem dX6_far_96 : decode cX6_far 96 = .ok (.iinc 5 1, 3) := by decide +kernel
theorem dX6_far_99 : decode cX6_far 99 = .ok (.goto (-39), 3) := by decide +kernel
theorem dX6_far_102 : decode cX6_far 102 = .ok (.bipush 60, 2) := by decide +kernel
theorem dX6_far_104 : decode cX6_far 104 = .ok (.ireturn, 1) := by decide +kernel
theorem dX6_worth_0 : decode cX6_worth 0 = .ok (.aload_n 0, 1) := by decide +kernel
theorem dX6_worth_1 : decode cX6_worth 1 = .ok (.iload_n 1, 1) := by decide +kernel
theorem dX6_worth_2 : decode cX6_worth 2 = .ok (.iload_n 2, 1) := by decide +kernel
theorem dX6_worth_3 : decode cX6_worth 3 = .ok (.iload_n 3, 1) := by decide +kernel
theorem dX6_worth_4 : decode cX6_worth 4 = .ok (.iload 4, 2) := by decide +kernel
theorem dX6_worth_6 : decode cX6_worth 6 = .ok (.invokevirtual 217, 3) := by decide +kernel
theorem dX6_worth_9 : decode cX6_worth 9 = .ok (.istore 5, 2) := by decide +kernel
theorem dX6_worth_11 : decode cX6_worth 11 = .ok (.iload 5, 2) := by decide +kernel
theorem dX6_worth_13 : decode cX6_worth 13 = .ok (.ifCond .eq 10, 3) := by decide +kernel
theorem dX6_worth_16 : decode cX6_worth 16 = .ok (.aload_n 0, 1) := by decide +kernel
theorem dX6_worth_17 : decode cX6_worth 17 = .ok (.iload 5, 2) := by decide +kernel
theorem dX6_worth_19 : decode cX6_worth 19 = .ok (.invokevirtual 83, 3) := by decide +kernel
theorem dX6_worth_22 : decode cX6_worth 22 = .ok (.ireturn, 1) := by decide +kernel
theorem dX6_worth_23 : decode cX6_worth 23 = .ok (.aload_n 0, 1) := by decide +kernel
theorem dX6_worth_24 : decode cX6_worth 24 = .ok (.aload_n 0, 1) := by decide +kernel
theorem dX6_worth_25 : decode cX6_worth 25 = .ok (.getfield 18, 3) := by decide +kernel
theorem dX6_worth_28 : decode cX6_worth 28 = .ok (.getfield 141, 3) := by decide +kernel
theorem dX6_worth_31 : decode cX6_worth 31 = .ok (.iload_n 1, 1) := by decide +kernel
theorem dX6_worth_32 : decode cX6_worth 32 = .ok (.aaload, 1) := by decide +kernel
theorem dX6_worth_33 : decode cX6_worth 33 = .ok (.iload_n 2, 1) := by decide +kernel
theorem dX6_worth_34 : decode cX6_worth 34 = .ok (.iload_n 3, 1) := by decide +kernel
theorem dX6_worth_35 : decode cX6_worth 35 = .ok (.iload 4, 2) := by decide +kernel
theorem dX6_worth_37 : decode cX6_worth 37 = .ok (.invokevirtual 221, 3) := by decide +kernel
theorem dX6_worth_40 : decode cX6_worth 40 = .ok (.aload_n 0, 1) := by decide +kernel
theorem dX6_worth_41 : decode cX6_worth 41 = .ok (.getfield 18, 3) := by decide +kernel
theorem dX6_worth_44 : decode cX6_worth 44 = .ok (.aload_n 0, 1) := by decide +kernel
theorem dX6_worth_45 : decode cX6_worth 45 = .ok (.getfield 31, 3) := by decide +kernel
theorem dX6_worth_48 : decode cX6_worth 48 = .ok (.getfield 225, 3) := by decide +kernel
theorem dX6_worth_51 : decode cX6_worth 51 = .ok (.invokevirtual 253, 3) := by decide +kernel
theorem dX6_worth_54 : decode cX6_worth 54 = .ok (.ireturn, 1) := by decide +kernel
theorem dX6_best_0 : decode cX6_best 0 = .ok (.aload_n 0, 1) := by decide +kernel
theorem dX6_best_1 : decode cX6_best 1 = .ok (.getfield 18, 3) := by decide +kernel
theorem dX6_best_4 : decode cX6_best 4 = .ok (.iload_n 1, 1) := by decide +kernel
theorem dX6_best_5 : decode cX6_best 5 = .ok (.invokevirtual 123, 3) := by decide +kernel
theorem dX6_best_8 : decode cX6_best 8 = .ok (.ifCond .ne 9, 3) := by decide +kernel
theorem dX6_best_11 : decode cX6_best 11 = .ok (.aload_n 0, 1) := by decide +kernel
theorem dX6_best_12 : decode cX6_best 12 = .ok (.iconst 1, 1) := by decide +kernel
theorem dX6_best_13 : decode cX6_best 13 = .ok (.invokevirtual 83, 3) := by decide +kernel
theorem dX6_best_16 : decode cX6_best 16 = .ok (.ireturn, 1) := by decide +kernel
theorem dX6_best_17 : decode cX6_best 17 = .ok (.iload_n 3, 1) := by decide +kernel
theorem dX6_best_18 : decode cX6_best 18 = .ok (.iconst 0, 1) := by decide +kernel
theorem dX6_best_19 : decode cX6_best 19 = .ok (.iconst 1, 1) := by decide +kernel
theorem dX6_best_20 : decode cX6_best 20 = .ok (.invokestatic 87, 3) := by decide +kernel
theorem dX6_best_23 : decode cX6_best 23 = .ok (.ifCond .ne 9, 3) := by decide +kernel
theorem dX6_best_26 : decode cX6_best 26 = .ok (.aload_n 0, 1) := by decide +kernel
theorem dX6_best_27 : decode cX6_best 27 = .ok (.iconst 5, 1) := by decide +kernel
theorem dX6_best_28 : decode cX6_best 28 = .ok (.invokevirtual 83, 3) := by decide +kernel
theorem dX6_best_31 : decode cX6_best 31 = .ok (.ireturn, 1) := by decide +kernel
theorem dX6_best_32 : decode cX6_best 32 = .ok (.iload_n 2, 1) := by decide +kernel
theorem dX6_best_33 : decode cX6_best 33 = .ok (.iconst 0, 1) := by decide +kernel
theorem dX6_best_34 : decode cX6_best 34 = .ok (.bipush 60, 2) := by decide +kernel
theorem dX6_best_36 : decode cX6_best 36 = .ok (.invokestatic 87, 3) := by decide +kernel
theorem dX6_best_39 : decode cX6_best 39 = .ok (.ifCond .ne 10, 3) := by decide +kernel
theorem dX6_best_42 : decode cX6_best 42 = .ok (.aload_n 0, 1) := by decide +kernel
theorem dX6_best_43 : decode cX6_best 43 = .ok (.bipush 6, 2) := by decide +kernel
theorem dX6_best_45 : decode cX6_best 45 = .ok (.invokevirtual 83, 3) := by decide +kernel
theorem dX6_best_48 : decode cX6_best 48 = .ok (.ireturn, 1) := by decide +kernel
theorem dX6_best_49 : decode cX6_best 49 = .ok (.aload_n 0, 1) := by decide +kernel
theorem dX6_best_50 : decode cX6_best 50 = .ok (.getfield 57, 3) := by decide +kernel
theorem dX6_best_53 : decode cX6_best 53 = .ok (.aload_n 0, 1) := by decide +kernel
theorem dX6_best_54 : decode cX6_best 54 = .ok (.getfield 18, 3) := by decide +kernel
theorem dX6_best_57 : decode cX6_best 57 = .ok (.getfield 141, 3) := by decide +kernel
theorem dX6_best_60 : decode cX6_best 60 = .ok (.iload_n 1, 1) := by decide +kernel
theorem dX6_best_61 : decode cX6_best 61 = .ok (.aaload, 1) := by decide +kernel
theorem dX6_best_62 : decode cX6_best 62 = .ok (.invokevirtual 257, 3) := by decide +kernel
theorem dX6_best_65 : decode cX6_best 65 = .ok (.iload_n 3, 1) := by decide +kernel
theorem dX6_best_66 : decode cX6_best 66 = .ok (.iconst 1, 1) := by decide +kernel
theorem dX6_best_67 : decode cX6_best 67 = .ok (.if_icmp .ne 10, 3) := by decide +kernel
theorem dX6_best_70 : decode cX6_best 70 = .ok (.aload_n 0, 1) := by decide +kernel
theorem dX6_best_71 : decode cX6_best 71 = .ok (.getfield 57, 3) := by decide +kernel
theorem dX6_best_74 : decode cX6_best 74 = .ok (.invokevirtual 261, 3) := by decide +kernel
theorem dX6_best_77 : decode cX6_best 77 = .ok (.aload_n 0, 1) := by decide +kernel
theorem dX6_best_78 : decode cX6_best 78 = .ok (.aload_n 0, 1) := by decide +kernel
theorem dX6_best_79 : decode cX6_best 79 = .ok (.getfield 57, 3) := by decide +kernel
theorem dX6_best_82 : decode cX6_best 82 = .ok (.iload_n 2, 1) := by decide +kernel
theorem dX6_best_83 : decode cX6_best 83 = .ok (.invokevirtual 264, 3) := by decide +kernel
theorem dX6_best_86 : decode cX6_best 86 = .ok (.ireturn, 1) := by decide +kernel
theorem dX6_twice_0 : decode cX6_twice 0 = .ok (.aload_n 0, 1) := by decide +kernel
theorem dX6_twice_1 : decode cX6_twice 1 = .ok (.getfield 18, 3) := by decide +kernel
theorem dX6_twice_4 : decode cX6_twice 4 = .ok (.iload_n 1, 1) := by decide +kernel
theorem dX6_twice_5 : decode cX6_twice 5 = .ok (.invokevirtual 123, 3) := by decide +kernel
theorem dX6_twice_8 : decode cX6_twice 8 = .ok (.ifCond .ne 9, 3) := by decide +kernel
theorem dX6_twice_11 : decode cX6_twice 11 = .ok (.aload_n 0, 1) := by decide +kernel
theorem dX6_twice_12 : decode cX6_twice 12 = .ok (.iconst 1, 1) := by decide +kernel
theorem dX6_twice_13 : decode cX6_twice 13 = .ok (.invokevirtual 83, 3) := by decide +kernel
theorem dX6_twice_16 : decode cX6_twice 16 = .ok (.ireturn, 1) := by decide +kernel
theorem dX6_twice_17 : decode cX6_twice 17 = .ok (.iload_n 2, 1) := by decide +kernel
theorem dX6_twice_18 : decode cX6_twice 18 = .ok (.iload_n 3, 1) := by decide +kernel
theorem dX6_twice_19 : decode cX6_twice 19 = .ok (.iconst 0, 1) := by decide +kernel
theorem dX6_twice_20 : decode cX6_twice 20 = .ok (.invokestatic 227, 3) := by decide +kernel
theorem dX6_twice_23 : decode cX6_twice 23 = .ok (.ifCond .eq 14, 3) := by decide +kernel
theorem dX6_twice_26 : decode cX6_twice 26 = .ok (.iload 4, 2) := by decide +kernel
theorem dX6_twice_28 : decode cX6_twice 28 = .ok (.iload 5, 2) := by decide +kernel
theorem dX6_twice_30 : decode cX6_twice 30 = .ok (.iconst 0, 1) := by decide +kernel
theorem dX6_twice_31 : decode cX6_twice 31 = .ok (.invokestatic 227, 3) := by decide +kernel
theorem dX6_twice_34 : decode cX6_twice 34 = .ok (.ifCond .ne 10, 3) := by decide +kernel
theorem dX6_twice_37 : decode cX6_twice 37 = .ok (.aload_n 0, 1) := by decide +kernel
theorem dX6_twice_38 : decode cX6_twice 38 = .ok (.bipush 6, 2) := by decide +kernel
theorem dX6_twice_40 : decode cX6_twice 40 = .ok (.invokevirtual 83, 3) := by decide +kernel
theorem dX6_twice_43 : decode cX6_twice 43 = .ok (.ireturn, 1) := by decide +kernel
theorem dX6_twice_44 : decode cX6_twice 44 = .ok (.aload_n 0, 1) := by decide +kernel
theorem dX6_twice_45 : decode cX6_twice 45 = .ok (.getfield 31, 3) := by decide +kernel
theorem dX6_twice_48 : decode cX6_twice 48 = .ok (.aload_n 0, 1) := by decide +kernel
theorem dX6_twice_49 : decode cX6_twice 49 = .ok (.getfield 18, 3) := by decide +kernel
theorem dX6_twice_52 : decode cX6_twice 52 = .ok (.getfield 141, 3) := by decide +kernel
theorem dX6_twice_55 : decode cX6_twice 55 = .ok (.iload_n 1, 1) := by decide +kernel
theorem dX6_twice_56 : decode cX6_twice 56 = .ok (.aaload, 1) := by decide +kernel
theorem dX6_twice_57 : decode cX6_twice 57 = .ok (.aload_n 0, 1) := by decide +kernel
theorem dX6_twice_58 : decode cX6_twice 58 = .ok (.getfield 18, 3) := by decide +kernel
theorem dX6_twice_61 : decode cX6_twice 61 = .ok (.getfield 181, 3) := by decide +kernel
theorem dX6_twice_64 : decode cX6_twice 64 = .ok (.invokevirtual 233, 3) := by decide +kernel
theorem dX6_twice_67 : decode cX6_twice 67 = .ok (.aload_n 0, 1) := by decide +kernel
theorem dX6_twice_68 : decode cX6_twice 68 = .ok (.getfield 31, 3) := by decide +kernel
theorem dX6_twice_71 : decode cX6_twice 71 = .ok (.iload_n 2, 1) := by decide +kernel
theorem dX6_twice_72 : decode cX6_twice 72 = .ok (.iload_n 3, 1) := by decide +kernel
theorem dX6_twice_73 : decode cX6_twice 73 = .ok (.invokevirtual 247, 3) := by decide +kernel
theorem dX6_twice_76 : decode cX6_twice 76 = .ok (.aload_n 0, 1) := by decide +kernel
theorem dX6_twice_77 : decode cX6_twice 77 = .ok (.getfield 31, 3) := by decide +kernel
theorem dX6_twice_80 : decode cX6_twice 80 = .ok (.getfield 225, 3) := by decide +kernel
theorem dX6_twice_83 : decode cX6_twice 83 = .ok (.invokevirtual 261, 3) := by decide +kernel
theorem dX6_twice_86 : decode cX6_twice 86 = .ok (.aload_n 0, 1) := by decide +kernel
theorem dX6_twice_87 : decode cX6_twice 87 = .ok (.getfield 31, 3) := by decide +kernel
theorem dX6_twice_90 : decode cX6_twice 90 = .ok (.iload 4, 2) := by decide +kernel
theorem dX6_twice_92 : decode cX6_twice 92 = .ok (.iload 5, 2) := by decide +kernel
theorem dX6_twice_94 : decode cX6_twice 94 = .ok (.invokevirtual 247, 3) := by decide +kernel
theorem dX6_twice_97 : decode cX6_twice 97 = .ok (.aload_n 0, 1) := by decide +kernel
theorem dX6_twice_98 : decode cX6_twice 98 = .ok (.getfield 18, 3) := by decide +kernel
theorem dX6_twice_101 : decode cX6_twice 101 = .ok (.aload_n 0, 1) := by decide +kernel
theorem dX6_twice_102 : decode cX6_twice 102 = .ok (.getfield 31, 3) := by decide +kernel
theorem dX6_twice_105 : decode cX6_twice 105 = .ok (.getfield 225, 3) := by decide +kernel
theorem dX6_twice_108 : decode cX6_twice 108 = .ok (.invokevirtual 253, 3) := by decide +kernel
theorem dX6_twice_111 : decode cX6_twice 111 = .ok (.ireturn, 1) := by decide +kernel
theorem dX6_goes_0 : decode cX6_goes 0 = .ok (.aload_n 0, 1) := by decide +kernel
theorem dX6_goes_1 : decode cX6_goes 1 = .ok (.iload_n 1, 1) := by decide +kernel
theorem dX6_goes_2 : decode cX6_goes 2 = .ok (.iload_n 2, 1) := by decide +kernel
theorem dX6_goes_3 : decode cX6_goes 3 = .ok (.iload_n 3, 1) := by decide +kernel
theorem dX6_goes_4 : decode cX6_goes 4 = .ok (.iconst 0, 1) := by decide +kernel
theorem dX6_goes_5 : decode cX6_goes 5 = .ok (.invokevirtual 217, 3) := by decide +kernel
theorem dX6_goes_8 : decode cX6_goes 8 = .ok (.istore 4, 2) := by decide +kernel
theorem dX6_goes_10 : decode cX6_goes 10 = .ok (.iload 4, 2) := by decide +kernel
theorem dX6_goes_12 : decode cX6_goes 12 = .ok (.ifCond .eq 10, 3) := by decide +kernel
theorem dX6_goes_15 : decode cX6_goes 15 = .ok (.aload_n 0, 1) := by decide +kernel
theorem dX6_goes_16 : decode cX6_goes 16 = .ok (.iload 4, 2) := by decide +kernel
theorem dX6_goes_18 : decode cX6_goes 18 = .ok (.invokevirtual 83, 3) := by decide +kernel
theorem dX6_goes_21 : decode cX6_goes 21 = .ok (.ireturn, 1) := by decide +kernel
theorem dX6_goes_22 : decode cX6_goes 22 = .ok (.aload_n 0, 1) := by decide +kernel
theorem dX6_goes_23 : decode cX6_goes 23 = .ok (.aload_n 0, 1) := by decide +kernel
theorem dX6_goes_24 : decode cX6_goes 24 = .ok (.getfield 18, 3) := by decide +kernel
theorem dX6_goes_27 : decode cX6_goes 27 = .ok (.getfield 141, 3) := by decide +kernel
theorem dX6_goes_30 : decode cX6_goes 30 = .ok (.iload_n 1, 1) := by decide +kernel
theorem dX6_goes_31 : decode cX6_goes 31 = .ok (.aaload, 1) := by decide +kernel
theorem dX6_goes_32 : decode cX6_goes 32 = .ok (.iload_n 2, 1) := by decide +kernel
theorem dX6_goes_33 : decode cX6_goes 33 = .ok (.iload_n 3, 1) := by decide +kernel
theorem dX6_goes_34 : decode cX6_goes 34 = .ok (.iconst 0, 1) := by decide +kernel
theorem dX6_goes_35 : decode cX6_goes 35 = .ok (.invokevirtual 221, 3) := by decide +kernel
theorem dX6_goes_38 : decode cX6_goes 38 = .ok (.aload_n 0, 1) := by decide +kernel
theorem dX6_goes_39 : decode cX6_goes 39 = .ok (.getfield 31, 3) := by decide +kernel
theorem dX6_goes_42 : decode cX6_goes 42 = .ok (.getfield 267, 3) := by decide +kernel
theorem dX6_goes_45 : decode cX6_goes 45 = .ok (.ireturn, 1) := by decide +kernel
theorem dX6_plate_0 : decode cX6_plate 0 = .ok (.iload 4, 2) := by decide +kernel
theorem dX6_plate_2 : decode cX6_plate 2 = .ok (.iconst (-1), 1) := by decide +kernel
theorem dX6_plate_3 : decode cX6_plate 3 = .ok (.if_icmp .eq 21, 3) := by decide +kernel
theorem dX6_plate_6 : decode cX6_plate 6 = .ok (.aload_n 0, 1) := by decide +kernel
theorem dX6_plate_7 : decode cX6_plate 7 = .ok (.getfield 18, 3) := by decide +kernel
theorem dX6_plate_10 : decode cX6_plate 10 = .ok (.iload 4, 2) := by decide +kernel
theorem dX6_plate_12 : decode cX6_plate 12 = .ok (.invokevirtual 123, 3) := by decide +kernel
theorem dX6_plate_15 : decode cX6_plate 15 = .ok (.ifCond .ne 9, 3) := by decide +kernel
theorem dX6_plate_18 : decode cX6_plate 18 = .ok (.aload_n 0, 1) := by decide +kernel
theorem dX6_plate_19 : decode cX6_plate 19 = .ok (.iconst 5, 1) := by decide +kernel
theorem dX6_plate_20 : decode cX6_plate 20 = .ok (.invokevirtual 83, 3) := by decide +kernel
theorem dX6_plate_23 : decode cX6_plate 23 = .ok (.ireturn, 1) := by decide +kernel
theorem dX6_plate_24 : decode cX6_plate 24 = .ok (.iload_n 1, 1) := by decide +kernel
theorem dX6_plate_25 : decode cX6_plate 25 = .ok (.iload_n 2, 1) := by decide +kernel
theorem dX6_plate_26 : decode cX6_plate 26 = .ok (.iload_n 3, 1) := by decide +kernel
theorem dX6_plate_27 : decode cX6_plate 27 = .ok (.invokestatic 227, 3) := by decide +kernel
theorem dX6_plate_30 : decode cX6_plate 30 = .ok (.ifCond .eq 14, 3) := by decide +kernel
theorem dX6_plate_33 : decode cX6_plate 33 = .ok (.aload_n 0, 1) := by decide +kernel
theorem dX6_plate_34 : decode cX6_plate 34 = .ok (.getfield 18, 3) := by decide +kernel
theorem dX6_plate_37 : decode cX6_plate 37 = .ok (.getfield 270, 3) := by decide +kernel
theorem dX6_plate_40 : decode cX6_plate 40 = .ok (.iconst 5, 1) := by decide +kernel
theorem dX6_plate_41 : decode cX6_plate 41 = .ok (.if_icmp .le 10, 3) := by decide +kernel
theorem dX6_plate_44 : decode cX6_plate 44 = .ok (.aload_n 0, 1) := by decide +kernel
theorem dX6_plate_45 : decode cX6_plate 45 = .ok (.bipush 6, 2) := by decide +kernel
theorem dX6_plate_47 : decode cX6_plate 47 = .ok (.invokevirtual 83, 3) := by decide +kernel
theorem dX6_plate_50 : decode cX6_plate 50 = .ok (.ireturn, 1) := by decide +kernel
theorem dX6_plate_51 : decode cX6_plate 51 = .ok (.aload_n 0, 1) := by decide +kernel
theorem dX6_plate_52 : decode cX6_plate 52 = .ok (.iload_n 1, 1) := by decide +kernel
theorem dX6_plate_53 : decode cX6_plate 53 = .ok (.iload_n 2, 1) := by decide +kernel
theorem dX6_plate_54 : decode cX6_plate 54 = .ok (.iload_n 3, 1) := by decide +kernel
theorem dX6_plate_55 : decode cX6_plate 55 = .ok (.invokevirtual 273, 3) := by decide +kernel
theorem dX6_plate_58 : decode cX6_plate 58 = .ok (.aload_n 0, 1) := by decide +kernel
theorem dX6_plate_59 : decode cX6_plate 59 = .ok (.invokevirtual 277, 3) := by decide +kernel
theorem dX6_plate_62 : decode cX6_plate 62 = .ok (.istore 5, 2) := by decide +kernel
theorem dX6_plate_64 : decode cX6_plate 64 = .ok (.iload 4, 2) := by decide +kernel
theorem dX6_plate_66 : decode cX6_plate 66 = .ok (.iconst (-1), 1) := by decide +kernel
theorem dX6_plate_67 : decode cX6_plate 67 = .ok (.if_icmp .ne 8, 3) := by decide +kernel
theorem dX6_plate_70 : decode cX6_plate 70 = .ok (.iload 5, 2) := by decide +kernel
theorem dX6_plate_72 : decode cX6_plate 72 = .ok (.goto 10, 3) := by decide +kernel
theorem dX6_plate_75 : decode cX6_plate 75 = .ok (.aload_n 0, 1) := by decide +kernel
theorem dX6_plate_76 : decode cX6_plate 76 = .ok (.getfield 71, 3) := by decide +kernel
theorem dX6_plate_79 : decode cX6_plate 79 = .ok (.iload 4, 2) := by decide +kernel
theorem dX6_plate_81 : decode cX6_plate 81 = .ok (.iaload, 1) := by decide +kernel
theorem dX6_plate_82 : decode cX6_plate 82 = .ok (.ireturn, 1) := by decide +kernel
theorem dX6_rule_0 : decode cX6_rule 0 = .ok (.iload_n 1, 1) := by decide +kernel
theorem dX6_rule_1 : decode cX6_rule 1 = .ok (.iconst 0, 1) := by decide +kernel
theorem dX6_rule_2 : decode cX6_rule 2 = .ok (.bipush 99, 2) := by decide +kernel
theorem dX6_rule_4 : decode cX6_rule 4 = .ok (.invokestatic 87, 3) := by decide +kernel
theorem dX6_rule_7 : decode cX6_rule 7 = .ok (.ifCond .eq 23, 3) := by decide +kernel
theorem dX6_rule_10 : decode cX6_rule 10 = .ok (.iload_n 2, 1) := by decide +kernel
theorem dX6_rule_11 : decode cX6_rule 11 = .ok (.iconst 1, 1) := by decide +kernel
theorem dX6_rule_12 : decode cX6_rule 12 = .ok (.bipush 99, 2) := by decide +kernel
theorem dX6_rule_14 : decode cX6_rule 14 = .ok (.invokestatic 87, 3) := by decide +kernel
theorem dX6_rule_17 : decode cX6_rule 17 = .ok (.ifCond .eq 13, 3) := by decide +kernel
theorem dX6_rule_20 : decode cX6_rule 20 = .ok (.iload_n 3, 1) := by decide +kernel
theorem dX6_rule_21 : decode cX6_rule 21 = .ok (.iconst 0, 1) := by decide +kernel
theorem dX6_rule_22 : decode cX6_rule 22 = .ok (.iload 4, 2) := by decide +kernel
theorem dX6_rule_24 : decode cX6_rule 24 = .ok (.invokestatic 227, 3) := by decide +kernel
theorem dX6_rule_27 : decode cX6_rule 27 = .ok (.ifCond .ne 10, 3) := by decide +kernel
theorem dX6_rule_30 : decode cX6_rule 30 = .ok (.aload_n 0, 1) := by decide +kernel
theorem dX6_rule_31 : decode cX6_rule 31 = .ok (.bipush 6, 2) := by decide +kernel
theorem dX6_rule_33 : decode cX6_rule 33 = .ok (.invokevirtual 83, 3) := by decide +kernel
theorem dX6_rule_36 : decode cX6_rule 36 = .ok (.ireturn, 1) := by decide +kernel
theorem dX6_rule_37 : decode cX6_rule 37 = .ok (.iconst 0, 1) := by decide +kernel
theorem dX6_rule_38 : decode cX6_rule 38 = .ok (.bipush 60, 2) := by decide +kernel
theorem dX6_rule_40 : decode cX6_rule 40 = .ok (.iload_n 1, 1) := by decide +kernel
theorem dX6_rule_41 : decode cX6_rule 41 = .ok (.aload_n 0, 1) := by decide +kernel
theorem dX6_rule_42 : decode cX6_rule 42 = .ok (.getfield 18, 3) := by decide +kernel
theorem dX6_rule_45 : decode cX6_rule 45 = .ok (.getfield 181, 3) := by decide +kernel
theorem dX6_rule_48 : decode cX6_rule 48 = .ok (.iload_n 2, 1) := by decide +kernel
theorem dX6_rule_49 : decode cX6_rule 49 = .ok (.idiv, 1) := by decide +kernel
theorem dX6_rule_50 : decode cX6_rule 50 = .ok (.isub, 1) := by decide +kernel
theorem dX6_rule_51 : decode cX6_rule 51 = .ok (.invokestatic 280, 3) := by decide +kernel
theorem dX6_rule_54 : decode cX6_rule 54 = .ok (.invokestatic 285, 3) := by decide +kernel
theorem dX6_rule_57 : decode cX6_rule 57 = .ok (.istore 5, 2) := by decide +kernel
theorem dX6_rule_59 : decode cX6_rule 59 = .ok (.iconst 0, 1) := by decide +kernel
theorem dX6_rule_60 : decode cX6_rule 60 = .ok (.istore 6, 2) := by decide +kernel
theorem dX6_rule_62 : decode cX6_rule 62 = .ok (.iconst 0, 1) := by decide +kernel
theorem dX6_rule_63 : decode cX6_rule 63 = .ok (.istore 7, 2) := by decide +kernel
theorem dX6_rule_65 : decode cX6_rule 65 = .ok (.iload 7, 2) := by decide +kernel
theorem dX6_rule_67 : decode cX6_rule 67 = .ok (.aload_n 0, 1) := by decide +kernel
theorem dX6_rule_68 : decode cX6_rule 68 = .ok (.getfield 18, 3) := by decide +kernel
theorem dX6_rule_71 : decode cX6_rule 71 = .ok (.getfield 270, 3) := by decide +kernel
theorem dX6_rule_74 : decode cX6_rule 74 = .ok (.if_icmp .ge 47, 3) := by decide +kernel
theorem dX6_rule_77 : decode cX6_rule 77 = .ok (.aload_n 0, 1) := by decide +kernel
theorem dX6_rule_78 : decode cX6_rule 78 = .ok (.aload_n 0, 1) := by decide +kernel
theorem dX6_rule_79 : decode cX6_rule 79 = .ok (.getfield 18, 3) := by decide +kernel
theorem dX6_rule_82 : decode cX6_rule 82 = .ok (.getfield 141, 3) := by decide +kernel
theorem dX6_rule_85 : decode cX6_rule 85 = .ok (.iload 7, 2) := by decide +kernel
theorem dX6_rule_87 : decode cX6_rule 87 = .ok (.aaload, 1) := by decide +kernel
theorem dX6_rule_88 : decode cX6_rule 88 = .ok (.iload_n 3, 1) := by decide +kernel
theorem dX6_rule_89 : decode cX6_rule 89 = .ok (.iload 5, 2) := by decide +kernel
theorem dX6_rule_91 : decode cX6_rule 91 = .ok (.iload 4, 2) := by decide +kernel
theorem dX6_rule_93 : decode cX6_rule 93 = .ok (.invokevirtual 221, 3) := by decide +kernel
theorem dX6_rule_96 : decode cX6_rule 96 = .ok (.iload 6, 2) := by decide +kernel
theorem dX6_rule_98 : decode cX6_rule 98 = .ok (.aload_n 0, 1) := by decide +kernel
theorem dX6_rule_99 : decode cX6_rule 99 = .ok (.getfield 18, 3) := by decide +kernel
theorem dX6_rule_102 : decode cX6_rule 102 = .ok (.aload_n 0, 1) := by decide +kernel
theorem dX6_rule_103 : decode cX6_rule 103 = .ok (.getfield 31, 3) := by decide +kernel
theorem dX6_rule_106 : decode cX6_rule 106 = .ok (.getfield 225, 3) := by decide +kernel
theorem dX6_rule_109 : decode cX6_rule 109 = .ok (.invokevirtual 253, 3) := by decide +kernel
theorem dX6_rule_112 : decode cX6_rule 112 = .ok (.iadd, 1) := by decide +kernel
theorem dX6_rule_113 : decode cX6_rule 113 = .ok (.istore 6, 2) := by decide +kernel
theorem dX6_rule_115 : decode cX6_rule 115 = .ok (.iinc 7 1, 3) := by decide +kernel
theorem dX6_rule_118 : decode cX6_rule 118 = .ok (.goto (-53), 3) := by decide +kernel
theorem dX6_rule_121 : decode cX6_rule 121 = .ok (.iload 6, 2) := by decide +kernel
theorem dX6_rule_123 : decode cX6_rule 123 = .ok (.ireturn, 1) := by decide +kernel
theorem dX6_back_0 : decode cX6_back 0 = .ok (.aload_n 0, 1) := by decide +kernel
theorem dX6_back_1 : decode cX6_back 1 = .ok (.iload_n 1, 1) := by decide +kernel
theorem dX6_back_2 : decode cX6_back 2 = .ok (.iload_n 2, 1) := by decide +kernel
theorem dX6_back_3 : decode cX6_back 3 = .ok (.invokevirtual 288, 3) := by decide +kernel
theorem dX6_back_6 : decode cX6_back 6 = .ok (.istore 4, 2) := by decide +kernel
theorem dX6_back_8 : decode cX6_back 8 = .ok (.iload 4, 2) := by decide +kernel
theorem dX6_back_10 : decode cX6_back 10 = .ok (.ifCond .ne 17, 3) := by decide +kernel
theorem dX6_back_13 : decode cX6_back 13 = .ok (.iload_n 3, 1) := by decide +kernel
theorem dX6_back_14 : decode cX6_back 14 = .ok (.iconst 0, 1) := by decide +kernel
theorem dX6_back_15 : decode cX6_back 15 = .ok (.bipush 12, 2) := by decide +kernel
theorem dX6_back_17 : decode cX6_back 17 = .ok (.invokestatic 87, 3) := by decide +kernel
theorem dX6_back_20 : decode cX6_back 20 = .ok (.ifCond .ne 7, 3) := by decide +kernel
theorem dX6_back_23 : decode cX6_back 23 = .ok (.bipush 6, 2) := by decide +kernel
theorem dX6_back_25 : decode cX6_back 25 = .ok (.istore 4, 2) := by decide +kernel
theorem dX6_back_27 : decode cX6_back 27 = .ok (.iload 4, 2) := by decide +kernel
theorem dX6_back_29 : decode cX6_back 29 = .ok (.ifCond .eq 11, 3) := by decide +kernel
theorem dX6_back_32 : decode cX6_back 32 = .ok (.aload_n 0, 1) := by decide +kernel
theorem dX6_back_33 : decode cX6_back 33 = .ok (.iload 4, 2) := by decide +kernel
theorem dX6_back_35 : decode cX6_back 35 = .ok (.invokevirtual 83, 3) := by decide +kernel
theorem dX6_back_38 : decode cX6_back 38 = .ok (.i2l, 1) := by decide +kernel
theorem dX6_back_39 : decode cX6_back 39 = .ok (.lreturn, 1) := by decide +kernel
theorem dX6_back_40 : decode cX6_back 40 = .ok (.aload_n 0, 1) := by decide +kernel
theorem dX6_back_41 : decode cX6_back 41 = .ok (.getfield 31, 3) := by decide +kernel
theorem dX6_back_44 : decode cX6_back 44 = .ok (.aload_n 0, 1) := by decide +kernel
theorem dX6_back_45 : decode cX6_back 45 = .ok (.getfield 18, 3) := by decide +kernel
theorem dX6_back_48 : decode cX6_back 48 = .ok (.getfield 141, 3) := by decide +kernel
theorem dX6_back_51 : decode cX6_back 51 = .ok (.iload_n 1, 1) := by decide +kernel
theorem dX6_back_52 : decode cX6_back 52 = .ok (.aaload, 1) := by decide +kernel
theorem dX6_back_53 : decode cX6_back 53 = .ok (.aload_n 0, 1) := by decide +kernel
theorem dX6_back_54 : decode cX6_back 54 = .ok (.getfield 18, 3) := by decide +kernel
theorem dX6_back_57 : decode cX6_back 57 = .ok (.getfield 181, 3) := by decide +kernel
theorem dX6_back_60 : decode cX6_back 60 = .ok (.invokevirtual 291, 3) := by decide +kernel
theorem dX6_back_63 : decode cX6_back 63 = .ok (.aload_n 0, 1) := by decide +kernel
theorem dX6_back_64 : decode cX6_back 64 = .ok (.getfield 31, 3) := by decide +kernel
theorem dX6_back_67 : decode cX6_back 67 = .ok (.iload_n 3, 1) := by decide +kernel
theorem dX6_back_68 : decode cX6_back 68 = .ok (.invokevirtual 237, 3) := by decide +kernel
theorem dX6_back_71 : decode cX6_back 71 = .ok (.lconst 0, 1) := by decide +kernel
theorem dX6_back_72 : decode cX6_back 72 = .ok (.lstore 5, 2) := by decide +kernel
theorem dX6_back_74 : decode cX6_back 74 = .ok (.iconst 0, 1) := by decide +kernel
theorem dX6_back_75 : decode cX6_back 75 = .ok (.istore 7, 2) := by decide +kernel
theorem dX6_back_77 : decode cX6_back 77 = .ok (.iload 7, 2) := by decide +kernel
theorem dX6_back_79 : decode cX6_back 79 = .ok (.bipush 60, 2) := by decide +kernel
theorem dX6_back_81 : decode cX6_back 81 = .ok (.if_icmp .gt 60, 3) := by decide +kernel
theorem dX6_back_84 : decode cX6_back 84 = .ok (.iload 7, 2) := by decide +kernel
theorem dX6_back_86 : decode cX6_back 86 = .ok (.ifCond .le 11, 3) := by decide +kernel
theorem dX6_back_89 : decode cX6_back 89 = .ok (.aload_n 0, 1) := by decide +kernel
theorem dX6_back_90 : decode cX6_back 90 = .ok (.getfield 31, 3) := by decide +kernel
theorem dX6_back_93 : decode cX6_back 93 = .ok (.invokevirtual 240, 3) := by decide +kernel
theorem dX6_back_96 : decode cX6_back 96 = .ok (.pop, 1) := by decide +kernel
theorem dX6_back_97 : decode cX6_back 97 = .ok (.aload_n 0, 1) := by decide +kernel
theorem dX6_back_98 : decode cX6_back 98 = .ok (.getfield 31, 3) := by decide +kernel
theorem dX6_back_101 : decode cX6_back 101 = .ok (.invokevirtual 250, 3) := by decide +kernel
theorem dX6_back_104 : decode cX6_back 104 = .ok (.ifCond .eq 31, 3) := by decide +kernel
theorem dX6_back_107 : decode cX6_back 107 = .ok (.aload_n 0, 1) := by decide +kernel
theorem dX6_back_108 : decode cX6_back 108 = .ok (.getfield 31, 3) := by decide +kernel
theorem dX6_back_111 : decode cX6_back 111 = .ok (.getfield 225, 3) := by decide +kernel
theorem dX6_back_114 : decode cX6_back 114 = .ok (.aload_n 0, 1) := by decide +kernel
theorem dX6_back_115 : decode cX6_back 115 = .ok (.getfield 11, 3) := by decide +kernel
theorem dX6_back_118 : decode cX6_back 118 = .ok (.iload_n 2, 1) := by decide +kernel
theorem dX6_back_119 : decode cX6_back 119 = .ok (.aaload, 1) := by decide +kernel
theorem dX6_back_120 : decode cX6_back 120 = .ok (.invokestatic 294, 3) := by decide +kernel
theorem dX6_back_123 : decode cX6_back 123 = .ok (.ifCond .eq 12, 3) := by decide +kernel
theorem dX6_back_126 : decode cX6_back 126 = .ok (.lload 5, 2) := by decide +kernel
theorem dX6_back_128 : decode cX6_back 128 = .ok (.lconst 1, 1) := by decide +kernel
theorem dX6_back_129 : decode cX6_back 129 = .ok (.iload 7, 2) := by decide +kernel
theorem dX6_back_131 : decode cX6_back 131 = .ok (.lshl, 1) := by decide +kernel
theorem dX6_back_132 : decode cX6_back 132 = .ok (.lor, 1) := by decide +kernel
theorem dX6_back_133 : decode cX6_back 133 = .ok (.lstore 5, 2) := by decide +kernel
theorem dX6_back_135 : decode cX6_back 135 = .ok (.iinc 7 1, 3) := by decide +kernel
theorem dX6_back_138 : decode cX6_back 138 = .ok (.goto (-61), 3) := by decide +kernel
theorem dX6_back_141 : decode cX6_back 141 = .ok (.lload 5, 2) := by decide +kernel
theorem dX6_back_143 : decode cX6_back 143 = .ok (.lreturn, 1) := by decide +kernel
theorem dX6_heats_0 : decode cX6_heats 0 = .ok (.aload_n 0, 1) := by decide +kernel
theorem dX6_heats_1 : decode cX6_heats 1 = .ok (.iload_n 1, 1) := by decide +kernel
theorem dX6_heats_2 : decode cX6_heats 2 = .ok (.iload_n 2, 1) := by decide +kernel
theorem dX6_heats_3 : decode cX6_heats 3 = .ok (.invokevirtual 288, 3) := by decide +kernel
theorem dX6_heats_6 : decode cX6_heats 6 = .ok (.istore 5, 2) := by decide +kernel
theorem dX6_heats_8 : decode cX6_heats 8 = .ok (.iload 5, 2) := by decide +kernel
theorem dX6_heats_10 : decode cX6_heats 10 = .ok (.ifCond .ne 17, 3) := by decide +kernel
theorem dX6_heats_13 : decode cX6_heats 13 = .ok (.iload_n 3, 1) := by decide +kernel
theorem dX6_heats_14 : decode cX6_heats 14 = .ok (.iload 4, 2) := by decide +kernel
theorem dX6_heats_16 : decode cX6_heats 16 = .ok (.iconst 0, 1) := by decide +kernel
theorem dX6_heats_17 : decode cX6_heats 17 = .ok (.invokestatic 227, 3) := by decide +kernel
theorem dX6_heats_20 : decode cX6_heats 20 = .ok (.ifCond .ne 7, 3) := by decide +kernel
theorem dX6_heats_23 : decode cX6_heats 23 = .ok (.bipush 6, 2) := by decide +kernel
theorem dX6_heats_25 : decode cX6_heats 25 = .ok (.istore 5, 2) := by decide +kernel
theorem dX6_heats_27 : decode cX6_heats 27 = .ok (.iload 5, 2) := by decide +kernel
theorem dX6_heats_29 : decode cX6_heats 29 = .ok (.ifCond .eq 13, 3) := by decide +kernel
theorem dX6_heats_32 : decode cX6_heats 32 = .ok (.aload_n 0, 1) := by decide +kernel
theorem dX6_heats_33 : decode cX6_heats 33 = .ok (.iload 5, 2) := by decide +kernel
theorem dX6_heats_35 : decode cX6_heats 35 = .ok (.invokevirtual 83, 3) := by decide +kernel
theorem dX6_heats_38 : decode cX6_heats 38 = .ok (.bipush 10, 2) := by decide +kernel
theorem dX6_heats_40 : decode cX6_heats 40 = .ok (.isub, 1) := by decide +kernel
theorem dX6_heats_41 : decode cX6_heats 41 = .ok (.ireturn, 1) := by decide +kernel
theorem dX6_heats_42 : decode cX6_heats 42 = .ok (.iconst 0, 1) := by decide +kernel
theorem dX6_heats_43 : decode cX6_heats 43 = .ok (.istore 6, 2) := by decide +kernel
theorem dX6_heats_45 : decode cX6_heats 45 = .ok (.iload 6, 2) := by decide +kernel
theorem dX6_heats_47 : decode cX6_heats 47 = .ok (.bipush 99, 2) := by decide +kernel
theorem dX6_heats_49 : decode cX6_heats 49 = .ok (.if_icmp .gt 69, 3) := by decide +kernel
theorem dX6_heats_52 : decode cX6_heats 52 = .ok (.aload_n 0, 1) := by decide +kernel
theorem dX6_heats_53 : decode cX6_heats 53 = .ok (.getfield 31, 3) := by decide +kernel
theorem dX6_heats_56 : decode cX6_heats 56 = .ok (.aload_n 0, 1) := by decide +kernel
theorem dX6_heats_57 : decode cX6_heats 57 = .ok (.getfield 18, 3) := by decide +kernel
theorem dX6_heats_60 : decode cX6_heats 60 = .ok (.getfield 141, 3) := by decide +kernel
theorem dX6_heats_63 : decode cX6_heats 63 = .ok (.iload_n 1, 1) := by decide +kernel
theorem dX6_heats_64 : decode cX6_heats 64 = .ok (.aaload, 1) := by decide +kernel
theorem dX6_heats_65 : decode cX6_heats 65 = .ok (.iload 6, 2) := by decide +kernel
theorem dX6_heats_67 : decode cX6_heats 67 = .ok (.invokevirtual 291, 3) := by decide +kernel
theorem dX6_heats_70 : decode cX6_heats 70 = .ok (.aload_n 0, 1) := by decide +kernel
theorem dX6_heats_71 : decode cX6_heats 71 = .ok (.getfield 31, 3) := by decide +kernel
theorem dX6_heats_74 : decode cX6_heats 74 = .ok (.iload_n 3, 1) := by decide +kernel
theorem dX6_heats_75 : decode cX6_heats 75 = .ok (.iload 4, 2) := by decide +kernel
theorem dX6_heats_77 : decode cX6_heats 77 = .ok (.invokevirtual 247, 3) := by decide +kernel
theorem dX6_heats_80 : decode cX6_heats 80 = .ok (.aload_n 0, 1) := by decide +kernel
theorem dX6_heats_81 : decode cX6_heats 81 = .ok (.getfield 31, 3) := by decide +kernel
theorem dX6_heats_84 : decode cX6_heats 84 = .ok (.invokevirtual 250, 3) := by decide +kernel
theorem dX6_heats_87 : decode cX6_heats 87 = .ok (.ifCond .eq 25, 3) := by decide +kernel
theorem dX6_heats_90 : decode cX6_heats 90 = .ok (.aload_n 0, 1) := by decide +kernel
theorem dX6_heats_91 : decode cX6_heats 91 = .ok (.getfield 31, 3) := by decide +kernel
theorem dX6_heats_94 : decode cX6_heats 94 = .ok (.getfield 225, 3) := by decide +kernel
theorem dX6_heats_97 : decode cX6_heats 97 = .ok (.aload_n 0, 1) := by decide +kernel
theorem dX6_heats_98 : decode cX6_heats 98 = .ok (.getfield 11, 3) := by decide +kernel
theorem dX6_heats_101 : decode cX6_heats 101 = .ok (.iload_n 2, 1) := by decide +kernel
theorem dX6_heats_102 : decode cX6_heats 102 = .ok (.aaload, 1) := by decide +kernel
theorem dX6_heats_103 : decode cX6_heats 103 = .ok (.invokestatic 294, 3) := by decide +kernel
theorem dX6_heats_106 : decode cX6_heats 106 = .ok (.ifCond .eq 6, 3) := by decide +kernel
theorem dX6_heats_109 : decode cX6_heats 109 = .ok (.iload 6, 2) := by decide +kernel
theorem dX6_heats_111 : decode cX6_heats 111 = .ok (.ireturn, 1) := by decide +kernel
theorem dX6_heats_112 : decode cX6_heats 112 = .ok (.iinc 6 10, 3) := by decide +kernel
theorem dX6_heats_115 : decode cX6_heats 115 = .ok (.goto (-70), 3) := by decide +kernel
theorem dX6_heats_118 : decode cX6_heats 118 = .ok (.iconst (-1), 1) := by decide +kernel
theorem dX6_heats_119 : decode cX6_heats 119 = .ok (.ireturn, 1) := by decide +kernel
theorem dX6_fetch_0 : decode cX6_fetch 0 = .ok (.iload_n 1, 1) := by decide +kernel
theorem dX6_fetch_1 : decode cX6_fetch 1 = .ok (.iconst 1, 1) := by decide +kernel
theorem dX6_fetch_2 : decode cX6_fetch 2 = .ok (.bipush 12, 2) := by decide +kernel
theorem dX6_fetch_4 : decode cX6_fetch 4 = .ok (.invokestatic 87, 3) := by decide +kernel
theorem dX6_fetch_7 : decode cX6_fetch 7 = .ok (.ifCond .eq 13, 3) := by decide +kernel
theorem dX6_fetch_10 : decode cX6_fetch 10 = .ok (.iload_n 2, 1) := by decide +kernel
theorem dX6_fetch_11 : decode cX6_fetch 11 = .ok (.iconst 0, 1) := by decide +kernel
theorem dX6_fetch_12 : decode cX6_fetch 12 = .ok (.bipush 60, 2) := by decide +kernel
theorem dX6_fetch_14 : decode cX6_fetch 14 = .ok (.invokestatic 87, 3) := by decide +kernel
theorem dX6_fetch_17 : decode cX6_fetch 17 = .ok (.ifCond .ne 10, 3) := by decide +kernel
theorem dX6_fetch_20 : decode cX6_fetch 20 = .ok (.aload_n 0, 1) := by decide +kernel
theorem dX6_fetch_21 : decode cX6_fetch 21 = .ok (.bipush 6, 2) := by decide +kernel
theorem dX6_fetch_23 : decode cX6_fetch 23 = .ok (.invokevirtual 83, 3) := by decide +kernel
theorem dX6_fetch_26 : decode cX6_fetch 26 = .ok (.ireturn, 1) := by decide +kernel
theorem dX6_fetch_27 : decode cX6_fetch 27 = .ok (.iconst 0, 1) := by decide +kernel
theorem dX6_fetch_28 : decode cX6_fetch 28 = .ok (.istore_n 3, 1) := by decide +kernel
theorem dX6_fetch_29 : decode cX6_fetch 29 = .ok (.iconst 0, 1) := by decide +kernel
theorem dX6_fetch_30 : decode cX6_fetch 30 = .ok (.istore 4, 2) := by decide +kernel
theorem dX6_fetch_32 : decode cX6_fetch 32 = .ok (.iload 4, 2) := by decide +kernel
theorem dX6_fetch_34 : decode cX6_fetch 34 = .ok (.aload_n 0, 1) := by decide +kernel
theorem dX6_fetch_35 : decode cX6_fetch 35 = .ok (.getfield 18, 3) := by decide +kernel
theorem dX6_fetch_38 : decode cX6_fetch 38 = .ok (.getfield 270, 3) := by decide +kernel
theorem dX6_fetch_41 : decode cX6_fetch 41 = .ok (.if_icmp .ge 60, 3) := by decide +kernel
theorem dX6_fetch_44 : decode cX6_fetch 44 = .ok (.aload_n 0, 1) := by decide +kernel
theorem dX6_fetch_45 : decode cX6_fetch 45 = .ok (.getfield 18, 3) := by decide +kernel
theorem dX6_fetch_48 : decode cX6_fetch 48 = .ok (.getfield 141, 3) := by decide +kernel
theorem dX6_fetch_51 : decode cX6_fetch 51 = .ok (.iload 4, 2) := by decide +kernel
theorem dX6_fetch_53 : decode cX6_fetch 53 = .ok (.aaload, 1) := by decide +kernel
theorem dX6_fetch_54 : decode cX6_fetch 54 = .ok (.getfield 162, 3) := by decide +kernel
theorem dX6_fetch_57 : decode cX6_fetch 57 = .ok (.iload_n 1, 1) := by decide +kernel
theorem dX6_fetch_58 : decode cX6_fetch 58 = .ok (.if_icmp .lt 37, 3) := by decide +kernel
theorem dX6_fetch_61 : decode cX6_fetch 61 = .ok (.aload_n 0, 1) := by decide +kernel
theorem dX6_fetch_62 : decode cX6_fetch 62 = .ok (.aload_n 0, 1) := by decide +kernel
theorem dX6_fetch_63 : decode cX6_fetch 63 = .ok (.getfield 18, 3) := by decide +kernel
theorem dX6_fetch_66 : decode cX6_fetch 66 = .ok (.getfield 141, 3) := by decide +kernel
theorem dX6_fetch_69 : decode cX6_fetch 69 = .ok (.iload 4, 2) := by decide +kernel
theorem dX6_fetch_71 : decode cX6_fetch 71 = .ok (.aaload, 1) := by decide +kernel
theorem dX6_fetch_72 : decode cX6_fetch 72 = .ok (.iload_n 1, 1) := by decide +kernel
theorem dX6_fetch_73 : decode cX6_fetch 73 = .ok (.iload_n 2, 1) := by decide +kernel
theorem dX6_fetch_74 : decode cX6_fetch 74 = .ok (.iconst 0, 1) := by decide +kernel
theorem dX6_fetch_75 : decode cX6_fetch 75 = .ok (.invokevirtual 221, 3) := by decide +kernel
theorem dX6_fetch_78 : decode cX6_fetch 78 = .ok (.aload_n 0, 1) := by decide +kernel
theorem dX6_fetch_79 : decode cX6_fetch 79 = .ok (.getfield 31, 3) := by decide +kernel
theorem dX6_fetch_82 : decode cX6_fetch 82 = .ok (.invokevirtual 250, 3) := by decide +kernel
theorem dX6_fetch_85 : decode cX6_fetch 85 = .ok (.ifCond .eq 10, 3) := by decide +kernel
theorem dX6_fetch_88 : decode cX6_fetch 88 = .ok (.iload_n 3, 1) := by decide +kernel
theorem dX6_fetch_89 : decode cX6_fetch 89 = .ok (.iconst 1, 1) := by decide +kernel
theorem dX6_fetch_90 : decode cX6_fetch 90 = .ok (.iload 4, 2) := by decide +kernel
theorem dX6_fetch_92 : decode cX6_fetch 92 = .ok (.ishl, 1) := by decide +kernel
theorem dX6_fetch_93 : decode cX6_fetch 93 = .ok (.ior, 1) := by decide +kernel
theorem dX6_fetch_94 : decode cX6_fetch 94 = .ok (.istore_n 3, 1) := by decide +kernel
theorem dX6_fetch_95 : decode cX6_fetch 95 = .ok (.iinc 4 1, 3) := by decide +kernel
theorem dX6_fetch_98 : decode cX6_fetch 98 = .ok (.goto (-66), 3) := by decide +kernel
theorem dX6_fetch_101 : decode cX6_fetch 101 = .ok (.iload_n 3, 1) := by decide +kernel
theorem dX6_fetch_102 : decode cX6_fetch 102 = .ok (.ireturn, 1) := by decide +kernel
theorem dX6_dip_0 : decode cX6_dip 0 = .ok (.aload_n 0, 1) := by decide +kernel
theorem dX6_dip_1 : decode cX6_dip 1 = .ok (.iload_n 1, 1) := by decide +kernel
theorem dX6_dip_2 : decode cX6_dip 2 = .ok (.iload_n 2, 1) := by decide +kernel
theorem dX6_dip_3 : decode cX6_dip 3 = .ok (.iload_n 3, 1) := by decide +kernel
theorem dX6_dip_4 : decode cX6_dip 4 = .ok (.iconst 0, 1) := by decide +kernel
theorem dX6_dip_5 : decode cX6_dip 5 = .ok (.invokevirtual 298, 3) := by decide +kernel
theorem dX6_dip_8 : decode cX6_dip 8 = .ok (.istore 4, 2) := by decide +kernel
theorem dX6_dip_10 : decode cX6_dip 10 = .ok (.iload 4, 2) := by decide +kernel
theorem dX6_dip_12 : decode cX6_dip 12 = .ok (.ifCond .eq 10, 3) := by decide +kernel
theorem dX6_dip_15 : decode cX6_dip 15 = .ok (.aload_n 0, 1) := by decide +kernel
theorem dX6_dip_16 : decode cX6_dip 16 = .ok (.iload 4, 2) := by decide +kernel
theorem dX6_dip_18 : decode cX6_dip 18 = .ok (.invokevirtual 83, 3) := by decide +kernel
theorem dX6_dip_21 : decode cX6_dip 21 = .ok (.ireturn, 1) := by decide +kernel
theorem dX6_dip_22 : decode cX6_dip 22 = .ok (.aload_n 0, 1) := by decide +kernel
theorem dX6_dip_23 : decode cX6_dip 23 = .ok (.getfield 18, 3) := by decide +kernel
theorem dX6_dip_26 : decode cX6_dip 26 = .ok (.iload_n 1, 1) := by decide +kernel
theorem dX6_dip_27 : decode cX6_dip 27 = .ok (.iload_n 2, 1) := by decide +kernel
theorem dX6_dip_28 : decode cX6_dip 28 = .ok (.iload_n 3, 1) := by decide +kernel
theorem dX6_dip_29 : decode cX6_dip 29 = .ok (.aload_n 0, 1) := by decide +kernel
theorem dX6_dip_30 : decode cX6_dip 30 = .ok (.getfield 31, 3) := by decide +kernel
theorem dX6_dip_33 : decode cX6_dip 33 = .ok (.invokevirtual 301, 3) := by decide +kernel
theorem dX6_dip_36 : decode cX6_dip 36 = .ok (.ireturn, 1) := by decide +kernel
theorem dX6_carry_0 : decode cX6_carry 0 = .ok (.aload_n 0, 1) := by decide +kernel
theorem dX6_carry_1 : decode cX6_carry 1 = .ok (.iload_n 1, 1) := by decide +kernel
theorem dX6_carry_2 : decode cX6_carry 2 = .ok (.iconst 0, 1) := by decide +kernel
theorem dX6_carry_3 : decode cX6_carry 3 = .ok (.iconst 0, 1) := by decide +kernel
theorem dX6_carry_4 : decode cX6_carry 4 = .ok (.iload_n 2, 1) := by decide +kernel
theorem dX6_carry_5 : decode cX6_carry 5 = .ok (.invokevirtual 298, 3) := by decide +kernel
theorem dX6_carry_8 : decode cX6_carry 8 = .ok (.istore_n 3, 1) := by decide +kernel
theorem dX6_carry_9 : decode cX6_carry 9 = .ok (.iload_n 3, 1) := by decide +kernel
theorem dX6_carry_10 : decode cX6_carry 10 = .ok (.ifCond .eq 9, 3) := by decide +kernel
theorem dX6_carry_13 : decode cX6_carry 13 = .ok (.aload_n 0, 1) := by decide +kernel
theorem dX6_carry_14 : decode cX6_carry 14 = .ok (.iload_n 3, 1) := by decide +kernel
theorem dX6_carry_15 : decode cX6_carry 15 = .ok (.invokevirtual 83, 3) := by decide +kernel
theorem dX6_carry_18 : decode cX6_carry 18 = .ok (.ireturn, 1) := by decide +kernel
theorem dX6_carry_19 : decode cX6_carry 19 = .ok (.aload_n 0, 1) := by decide +kernel
theorem dX6_carry_20 : decode cX6_carry 20 = .ok (.getfield 18, 3) := by decide +kernel
theorem dX6_carry_23 : decode cX6_carry 23 = .ok (.iload_n 1, 1) := by decide +kernel
theorem dX6_carry_24 : decode cX6_carry 24 = .ok (.iload_n 2, 1) := by decide +kernel
theorem dX6_carry_25 : decode cX6_carry 25 = .ok (.aload_n 0, 1) := by decide +kernel
theorem dX6_carry_26 : decode cX6_carry 26 = .ok (.getfield 31, 3) := by decide +kernel
theorem dX6_carry_29 : decode cX6_carry 29 = .ok (.invokevirtual 305, 3) := by decide +kernel
theorem dX6_carry_32 : decode cX6_carry 32 = .ok (.ireturn, 1) := by decide +kernel
theorem dX6_turn_0 : decode cX6_turn 0 = .ok (.aload_n 0, 1) := by decide +kernel
theorem dX6_turn_1 : decode cX6_turn 1 = .ok (.getfield 18, 3) := by decide +kernel
theorem dX6_turn_4 : decode cX6_turn 4 = .ok (.iload_n 1, 1) := by decide +kernel
theorem dX6_turn_5 : decode cX6_turn 5 = .ok (.invokevirtual 123, 3) := by decide +kernel
theorem dX6_turn_8 : decode cX6_turn 8 = .ok (.ifCond .ne 9, 3) := by decide +kernel
theorem dX6_turn_11 : decode cX6_turn 11 = .ok (.aload_n 0, 1) := by decide +kernel
theorem dX6_turn_12 : decode cX6_turn 12 = .ok (.iconst 1, 1) := by decide +kernel
theorem dX6_turn_13 : decode cX6_turn 13 = .ok (.invokevirtual 83, 3) := by decide +kernel
theorem dX6_turn_16 : decode cX6_turn 16 = .ok (.ireturn, 1) := by decide +kernel
theorem dX6_turn_17 : decode cX6_turn 17 = .ok (.aload_n 0, 1) := by decide +kernel
theorem dX6_turn_18 : decode cX6_turn 18 = .ok (.getfield 18, 3) := by decide +kernel
theorem dX6_turn_21 : decode cX6_turn 21 = .ok (.getfield 141, 3) := by decide +kernel
theorem dX6_turn_24 : decode cX6_turn 24 = .ok (.iload_n 1, 1) := by decide +kernel
theorem dX6_turn_25 : decode cX6_turn 25 = .ok (.aaload, 1) := by decide +kernel
theorem dX6_turn_26 : decode cX6_turn 26 = .ok (.invokevirtual 261, 3) := by decide +kernel
theorem dX6_turn_29 : decode cX6_turn 29 = .ok (.aload_n 0, 1) := by decide +kernel
theorem dX6_turn_30 : decode cX6_turn 30 = .ok (.getfield 18, 3) := by decide +kernel
theorem dX6_turn_33 : decode cX6_turn 33 = .ok (.getfield 141, 3) := by decide +kernel
theorem dX6_turn_36 : decode cX6_turn 36 = .ok (.iload_n 1, 1) := by decide +kernel
theorem dX6_turn_37 : decode cX6_turn 37 = .ok (.aaload, 1) := by decide +kernel
theorem dX6_turn_38 : decode cX6_turn 38 = .ok (.getfield 162, 3) := by decide +kernel
theorem dX6_turn_41 : decode cX6_turn 41 = .ok (.ireturn, 1) := by decide +kernel
theorem dX6_eats_0 : decode cX6_eats 0 = .ok (.aload_n 0, 1) := by decide +kernel
theorem dX6_eats_1 : decode cX6_eats 1 = .ok (.iload_n 1, 1) := by decide +kernel
theorem dX6_eats_2 : decode cX6_eats 2 = .ok (.iconst 0, 1) := by decide +kernel
theorem dX6_eats_3 : decode cX6_eats 3 = .ok (.iconst 0, 1) := by decide +kernel
theorem dX6_eats_4 : decode cX6_eats 4 = .ok (.iconst 0, 1) := by decide +kernel
theorem dX6_eats_5 : decode cX6_eats 5 = .ok (.invokevirtual 298, 3) := by decide +kernel
theorem dX6_eats_8 : decode cX6_eats 8 = .ok (.istore_n 2, 1) := by decide +kernel
theorem dX6_eats_9 : decode cX6_eats 9 = .ok (.iload_n 2, 1) := by decide +kernel
theorem dX6_eats_10 : decode cX6_eats 10 = .ok (.ifCond .eq 9, 3) := by decide +kernel
theorem dX6_eats_13 : decode cX6_eats 13 = .ok (.aload_n 0, 1) := by decide +kernel
theorem dX6_eats_14 : decode cX6_eats 14 = .ok (.iload_n 2, 1) := by decide +kernel
theorem dX6_eats_15 : decode cX6_eats 15 = .ok (.invokevirtual 83, 3) := by decide +kernel
theorem dX6_eats_18 : decode cX6_eats 18 = .ok (.ireturn, 1) := by decide +kernel
theorem dX6_eats_19 : decode cX6_eats 19 = .ok (.aload_n 0, 1) := by decide +kernel
theorem dX6_eats_20 : decode cX6_eats 20 = .ok (.getfield 18, 3) := by decide +kernel
theorem dX6_eats_23 : decode cX6_eats 23 = .ok (.iload_n 1, 1) := by decide +kernel
theorem dX6_eats_24 : decode cX6_eats 24 = .ok (.invokevirtual 309, 3) := by decide +kernel
theorem dX6_eats_27 : decode cX6_eats 27 = .ok (.ireturn, 1) := by decide +kernel
theorem dX6_teas_0 : decode cX6_teas 0 = .ok (.aload_n 0, 1) := by decide +kernel
theorem dX6_teas_1 : decode cX6_teas 1 = .ok (.getfield 18, 3) := by decide +kernel
theorem dX6_teas_4 : decode cX6_teas 4 = .ok (.getfield 270, 3) := by decide +kernel
theorem dX6_teas_7 : decode cX6_teas 7 = .ok (.ifCond .ne 9, 3) := by decide +kernel
theorem dX6_teas_10 : decode cX6_teas 10 = .ok (.aload_n 0, 1) := by decide +kernel
theorem dX6_teas_11 : decode cX6_teas 11 = .ok (.iconst 5, 1) := by decide +kernel
theorem dX6_teas_12 : decode cX6_teas 12 = .ok (.invokevirtual 83, 3) := by decide +kernel
theorem dX6_teas_15 : decode cX6_teas 15 = .ok (.ireturn, 1) := by decide +kernel
theorem dX6_teas_16 : decode cX6_teas 16 = .ok (.iload_n 1, 1) := by decide +kernel
theorem dX6_teas_17 : decode cX6_teas 17 = .ok (.iconst 1, 1) := by decide +kernel
theorem dX6_teas_18 : decode cX6_teas 18 = .ok (.bipush 20, 2) := by decide +kernel
theorem dX6_teas_20 : decode cX6_teas 20 = .ok (.invokestatic 87, 3) := by decide +kernel
theorem dX6_teas_23 : decode cX6_teas 23 = .ok (.ifCond .ne 10, 3) := by decide +kernel
theorem dX6_teas_26 : decode cX6_teas 26 = .ok (.aload_n 0, 1) := by decide +kernel
theorem dX6_teas_27 : decode cX6_teas 27 = .ok (.bipush 6, 2) := by decide +kernel
theorem dX6_teas_29 : decode cX6_teas 29 = .ok (.invokevirtual 83, 3) := by decide +kernel
theorem dX6_teas_32 : decode cX6_teas 32 = .ok (.ireturn, 1) := by decide +kernel
theorem dX6_teas_33 : decode cX6_teas 33 = .ok (.iconst 0, 1) := by decide +kernel
theorem dX6_teas_34 : decode cX6_teas 34 = .ok (.istore_n 2, 1) := by decide +kernel
theorem dX6_teas_35 : decode cX6_teas 35 = .ok (.iconst 0, 1) := by decide +kernel
theorem dX6_teas_36 : decode cX6_teas 36 = .ok (.istore_n 3, 1) := by decide +kernel
theorem dX6_teas_37 : decode cX6_teas 37 = .ok (.iload_n 3, 1) := by decide +kernel
theorem dX6_teas_38 : decode cX6_teas 38 = .ok (.iload_n 1, 1) := by decide +kernel
theorem dX6_teas_39 : decode cX6_teas 39 = .ok (.if_icmp .ge 23, 3) := by decide +kernel
theorem dX6_teas_42 : decode cX6_teas 42 = .ok (.iload_n 2, 1) := by decide +kernel
theorem dX6_teas_43 : decode cX6_teas 43 = .ok (.aload_n 0, 1) := by decide +kernel
theorem dX6_teas_44 : decode cX6_teas 44 = .ok (.getfield 18, 3) := by decide +kernel
theorem dX6_teas_47 : decode cX6_teas 47 = .ok (.aload_n 0, 1) := by decide +kernel
theorem dX6_teas_48 : decode cX6_teas 48 = .ok (.getfield 31, 3) := by decide +kernel
theorem dX6_teas_51 : decode cX6_teas 51 = .ok (.invokevirtual 312, 3) := by decide +kernel
theorem dX6_teas_54 : decode cX6_teas 54 = .ok (.iadd, 1) := by decide +kernel
theorem dX6_teas_55 : decode cX6_teas 55 = .ok (.istore_n 2, 1) := by decide +kernel
theorem dX6_teas_56 : decode cX6_teas 56 = .ok (.iinc 3 1, 3) := by decide +kernel
theorem dX6_teas_59 : decode cX6_teas 59 = .ok (.goto (-22), 3) := by decide +kernel
theorem dX6_teas_62 : decode cX6_teas 62 = .ok (.iload_n 2, 1) := by decide +kernel
theorem dX6_teas_63 : decode cX6_teas 63 = .ok (.ireturn, 1) := by decide +kernel
theorem dX6_seed_0 : decode cX6_seed 0 = .ok (.aload_n 0, 1) := by decide +kernel
theorem dX6_seed_1 : decode cX6_seed 1 = .ok (.getfield 18, 3) := by decide +kernel
theorem dX6_seed_4 : decode cX6_seed 4 = .ok (.getfield 316, 3) := by decide +kernel
theorem dX6_seed_7 : decode cX6_seed 7 = .ok (.istore_n 2, 1) := by decide +kernel
theorem dX6_seed_8 : decode cX6_seed 8 = .ok (.aload_n 0, 1) := by decide +kernel
theorem dX6_seed_9 : decode cX6_seed 9 = .ok (.getfield 18, 3) := by decide +kernel
theorem dX6_seed_12 : decode cX6_seed 12 = .ok (.iload_n 1, 1) := by decide +kernel
theorem dX6_seed_13 : decode cX6_seed 13 = .ok (.putfield 316, 3) := by decide +kernel
theorem dX6_seed_16 : decode cX6_seed 16 = .ok (.iload_n 2, 1) := by decide +kernel
theorem dX6_seed_17 : decode cX6_seed 17 = .ok (.ireturn, 1) := by decide +kernel
theorem dX6_act_0 : decode cX6_act 0 = .ok (.aload_n 0, 1) := by decide +kernel
theorem dX6_act_1 : decode cX6_act 1 = .ok (.getfield 50, 3) := by decide +kernel
theorem dX6_act_4 : decode cX6_act 4 = .ok (.iconst 0, 1) := by decide +kernel
theorem dX6_act_5 : decode cX6_act 5 = .ok (.putfield 319, 3) := by decide +kernel
theorem dX6_act_8 : decode cX6_act 8 = .ok (.aload_n 0, 1) := by decide +kernel
theorem dX6_act_9 : decode cX6_act 9 = .ok (.getfield 18, 3) := by decide +kernel
theorem dX6_act_12 : decode cX6_act 12 = .ok (.iload_n 1, 1) := by decide +kernel
theorem dX6_act_13 : decode cX6_act 13 = .ok (.invokevirtual 123, 3) := by decide +kernel
theorem dX6_act_16 : decode cX6_act 16 = .ok (.ifCond .eq 12, 3) := by decide +kernel
theorem dX6_act_19 : decode cX6_act 19 = .ok (.iload_n 2, 1) := by decide +kernel
theorem dX6_act_20 : decode cX6_act 20 = .ok (.iconst 0, 1) := by decide +kernel
theorem dX6_act_21 : decode cX6_act 21 = .ok (.iconst 2, 1) := by decide +kernel
theorem dX6_act_22 : decode cX6_act 22 = .ok (.invokestatic 87, 3) := by decide +kernel
theorem dX6_act_25 : decode cX6_act 25 = .ok (.ifCond .ne 5, 3) := by decide +kernel
theorem dX6_act_28 : decode cX6_act 28 = .ok (.iconst 0, 1) := by decide +kernel
theorem dX6_act_29 : decode cX6_act 29 = .ok (.ireturn, 1) := by decide +kernel
theorem dX6_act_30 : decode cX6_act 30 = .ok (.aload_n 0, 1) := by decide +kernel
theorem dX6_act_31 : decode cX6_act 31 = .ok (.getfield 50, 3) := by decide +kernel
theorem dX6_act_34 : decode cX6_act 34 = .ok (.aload_n 0, 1) := by decide +kernel
theorem dX6_act_35 : decode cX6_act 35 = .ok (.getfield 18, 3) := by decide +kernel
theorem dX6_act_38 : decode cX6_act 38 = .ok (.getfield 141, 3) := by decide +kernel
theorem dX6_act_41 : decode cX6_act 41 = .ok (.iload_n 1, 1) := by decide +kernel
theorem dX6_act_42 : decode cX6_act 42 = .ok (.aaload, 1) := by decide +kernel
theorem dX6_act_43 : decode cX6_act 43 = .ok (.getfield 159, 3) := by decide +kernel
theorem dX6_act_46 : decode cX6_act 46 = .ok (.putfield 322, 3) := by decide +kernel
theorem dX6_act_49 : decode cX6_act 49 = .ok (.aload_n 0, 1) := by decide +kernel
theorem dX6_act_50 : decode cX6_act 50 = .ok (.getfield 50, 3) := by decide +kernel
theorem dX6_act_53 : decode cX6_act 53 = .ok (.iload_n 1, 1) := by decide +kernel
theorem dX6_act_54 : decode cX6_act 54 = .ok (.putfield 323, 3) := by decide +kernel
theorem dX6_act_57 : decode cX6_act 57 = .ok (.aload_n 0, 1) := by decide +kernel
theorem dX6_act_58 : decode cX6_act 58 = .ok (.getfield 50, 3) := by decide +kernel
theorem dX6_act_61 : decode cX6_act 61 = .ok (.aload_n 0, 1) := by decide +kernel
theorem dX6_act_62 : decode cX6_act 62 = .ok (.getfield 18, 3) := by decide +kernel
theorem dX6_act_65 : decode cX6_act 65 = .ok (.getfield 141, 3) := by decide +kernel
theorem dX6_act_68 : decode cX6_act 68 = .ok (.iload_n 1, 1) := by decide +kernel
theorem dX6_act_69 : decode cX6_act 69 = .ok (.aaload, 1) := by decide +kernel
theorem dX6_act_70 : decode cX6_act 70 = .ok (.getfield 165, 3) := by decide +kernel
theorem dX6_act_73 : decode cX6_act 73 = .ok (.putfield 326, 3) := by decide +kernel
theorem dX6_act_76 : decode cX6_act 76 = .ok (.aload_n 0, 1) := by decide +kernel
theorem dX6_act_77 : decode cX6_act 77 = .ok (.getfield 50, 3) := by decide +kernel
theorem dX6_act_80 : decode cX6_act 80 = .ok (.iload_n 2, 1) := by decide +kernel
theorem dX6_act_81 : decode cX6_act 81 = .ok (.aload_n 0, 1) := by decide +kernel
theorem dX6_act_82 : decode cX6_act 82 = .ok (.getfield 50, 3) := by decide +kernel
theorem dX6_act_85 : decode cX6_act 85 = .ok (.getfield 322, 3) := by decide +kernel
theorem dX6_act_88 : decode cX6_act 88 = .ok (.iload_n 3, 1) := by decide +kernel
theorem dX6_act_89 : decode cX6_act 89 = .ok (.iconst 0, 1) := by decide +kernel
theorem dX6_act_90 : decode cX6_act 90 = .ok (.invokestatic 327, 3) := by decide +kernel
theorem dX6_act_93 : decode cX6_act 93 = .ok (.ireturn, 1) := by decide +kernel
theorem dX6_trace_0 : decode cX6_trace 0 = .ok (.iload_n 1, 1) := by decide +kernel
theorem dX6_trace_1 : decode cX6_trace 1 = .ok (.ifCond .lt 32, 3) := by decide +kernel
theorem dX6_trace_4 : decode cX6_trace 4 = .ok (.iload_n 1, 1) := by decide +kernel
theorem dX6_trace_5 : decode cX6_trace 5 = .ok (.aload_n 0, 1) := by decide +kernel
theorem dX6_trace_6 : decode cX6_trace 6 = .ok (.getfield 50, 3) := by decide +kernel
theorem dX6_trace_9 : decode cX6_trace 9 = .ok (.getfield 319, 3) := by decide +kernel
theorem dX6_trace_12 : decode cX6_trace 12 = .ok (.if_icmp .ge 21, 3) := by decide +kernel
theorem dX6_trace_15 : decode cX6_trace 15 = .ok (.iload_n 1, 1) := by decide +kernel
theorem dX6_trace_16 : decode cX6_trace 16 = .ok (.bipush 20, 2) := by decide +kernel
theorem dX6_trace_18 : decode cX6_trace 18 = .ok (.if_icmp .ge 15, 3) := by decide +kernel
theorem dX6_trace_21 : decode cX6_trace 21 = .ok (.aload_n 0, 1) := by decide +kernel
theorem dX6_trace_22 : decode cX6_trace 22 = .ok (.getfield 50, 3) := by decide +kernel
theorem dX6_trace_25 : decode cX6_trace 25 = .ok (.getfield 331, 3) := by decide +kernel
theorem dX6_trace_28 : decode cX6_trace 28 = .ok (.iload_n 1, 1) := by decide +kernel
theorem dX6_trace_29 : decode cX6_trace 29 = .ok (.iaload, 1) := by decide +kernel
theorem dX6_trace_30 : decode cX6_trace 30 = .ok (.goto 4, 3) := by decide +kernel
theorem dX6_trace_33 : decode cX6_trace 33 = .ok (.iconst (-1), 1) := by decide +kernel
theorem dX6_trace_34 : decode cX6_trace 34 = .ok (.ireturn, 1) := by decide +kernel
theorem dX6_image_0 : decode cX6_image 0 = .ok (.aload_n 0, 1) := by decide +kernel
theorem dX6_image_1 : decode cX6_image 1 = .ok (.getfield 22, 3) := by decide +kernel
theorem dX6_image_4 : decode cX6_image 4 = .ok (.aload_n 0, 1) := by decide +kernel
theorem dX6_image_5 : decode cX6_image 5 = .ok (.getfield 18, 3) := by decide +kernel
theorem dX6_image_8 : decode cX6_image 8 = .ok (.invokevirtual 193, 3) := by decide +kernel
theorem dX6_image_11 : decode cX6_image 11 = .ok (.aload_n 0, 1) := by decide +kernel
theorem dX6_image_12 : decode cX6_image 12 = .ok (.iconst 1, 1) := by decide +kernel
theorem dX6_image_13 : decode cX6_image 13 = .ok (.putfield 334, 3) := by decide +kernel
theorem dX6_image_16 : decode cX6_image 16 = .ok (.aload_n 0, 1) := by decide +kernel
theorem dX6_image_17 : decode cX6_image 17 = .ok (.getfield 18, 3) := by decide +kernel
theorem dX6_image_20 : decode cX6_image 20 = .ok (.getfield 270, 3) := by decide +kernel
theorem dX6_image_23 : decode cX6_image 23 = .ok (.ireturn, 1) := by decide +kernel
theorem dX6_restore_0 : decode cX6_restore 0 = .ok (.aload_n 0, 1) := by decide +kernel
theorem dX6_restore_1 : decode cX6_restore 1 = .ok (.getfield 334, 3) := by decide +kernel
theorem dX6_restore_4 : decode cX6_restore 4 = .ok (.ifCond .ne 10, 3) := by decide +kernel
theorem dX6_restore_7 : decode cX6_restore 7 = .ok (.aload_n 0, 1) := by decide +kernel
theorem dX6_restore_8 : decode cX6_restore 8 = .ok (.bipush 6, 2) := by decide +kernel
theorem dX6_restore_10 : decode cX6_restore 10 = .ok (.invokevirtual 83, 3) := by decide +kernel
theorem dX6_restore_13 : decode cX6_restore 13 = .ok (.ireturn, 1) := by decide +kernel
theorem dX6_restore_14 : decode cX6_restore 14 = .ok (.aload_n 0, 1) := by decide +kernel
theorem dX6_restore_15 : decode cX6_restore 15 = .ok (.getfield 18, 3) := by decide +kernel
theorem dX6_restore_18 : decode cX6_restore 18 = .ok (.aload_n 0, 1) := by decide +kernel
theorem dX6_restore_19 : decode cX6_restore 19 = .ok (.getfield 22, 3) := by decide +kernel
theorem dX6_restore_22 : decode cX6_restore 22 = .ok (.invokevirtual 193, 3) := by decide +kernel
theorem dX6_restore_25 : decode cX6_restore 25 = .ok (.iconst 0, 1) := by decide +kernel
theorem dX6_restore_26 : decode cX6_restore 26 = .ok (.istore_n 1, 1) := by decide +kernel
theorem dX6_restore_27 : decode cX6_restore 27 = .ok (.iload_n 1, 1) := by decide +kernel
theorem dX6_restore_28 : decode cX6_restore 28 = .ok (.bipush 8, 2) := by decide +kernel
theorem dX6_restore_30 : decode cX6_restore 30 = .ok (.if_icmp .ge 38, 3) := by decide +kernel
theorem dX6_restore_33 : decode cX6_restore 33 = .ok (.aload_n 0, 1) := by decide +kernel
theorem dX6_restore_34 : decode cX6_restore 34 = .ok (.getfield 11, 3) := by decide +kernel
theorem dX6_restore_37 : decode cX6_restore 37 = .ok (.iload_n 1, 1) := by decide +kernel
theorem dX6_restore_38 : decode cX6_restore 38 = .ok (.aaload, 1) := by decide +kernel
theorem dX6_restore_39 : decode cX6_restore 39 = .ok (.getfield 138, 3) := by decide +kernel
theorem dX6_restore_42 : decode cX6_restore 42 = .ok (.aload_n 0, 1) := by decide +kernel
theorem dX6_restore_43 : decode cX6_restore 43 = .ok (.getfield 18, 3) := by decide +kernel
theorem dX6_restore_46 : decode cX6_restore 46 = .ok (.getfield 270, 3) := by decide +kernel
theorem dX6_restore_49 : decode cX6_restore 49 = .ok (.if_icmp .lt 13, 3) := by decide +kernel
theorem dX6_restore_52 : decode cX6_restore 52 = .ok (.aload_n 0, 1) := by decide +kernel
theorem dX6_restore_53 : decode cX6_restore 53 = .ok (.getfield 11, 3) := by decide +kernel
theorem dX6_restore_56 : decode cX6_restore 56 = .ok (.iload_n 1, 1) := by decide +kernel
theorem dX6_restore_57 : decode cX6_restore 57 = .ok (.aaload, 1) := by decide +kernel
theorem dX6_restore_58 : decode cX6_restore 58 = .ok (.iconst (-1), 1) := by decide +kernel
theorem dX6_restore_59 : decode cX6_restore 59 = .ok (.invokevirtual 126, 3) := by decide +kernel
theorem dX6_restore_62 : decode cX6_restore 62 = .ok (.iinc 1 1, 3) := by decide +kernel
theorem dX6_restore_65 : decode cX6_restore 65 = .ok (.goto (-38), 3) := by decide +kernel
theorem dX6_restore_68 : decode cX6_restore 68 = .ok (.aload_n 0, 1) := by decide +kernel
theorem dX6_restore_69 : decode cX6_restore 69 = .ok (.getfield 18, 3) := by decide +kernel
theorem dX6_restore_72 : decode cX6_restore 72 = .ok (.getfield 270, 3) := by decide +kernel
theorem dX6_restore_75 : decode cX6_restore 75 = .ok (.ireturn, 1) := by decide +kernel
theorem dX6_status_0 : decode cX6_status 0 = .ok (.iload_n 1, 1) := by decide +kernel
theorem dX6_status_1 : decode cX6_status 1 = .ok (.tableswitch 135 0 9 #[55, 63, 71, 79, 87, 95, 103, 111, 119, 127], 55) := by decide +kernel
theorem dX6_status_56 : decode cX6_status 56 = .ok (.aload_n 0, 1) := by decide +kernel
theorem dX6_status_57 : decode cX6_status 57 = .ok (.getfield 18, 3) := by decide +kernel
theorem dX6_status_60 : decode cX6_status 60 = .ok (.getfield 270, 3) := by decide +kernel
theorem dX6_status_63 : decode cX6_status 63 = .ok (.ireturn, 1) := by decide +kernel
theorem dX6_status_64 : decode cX6_status 64 = .ok (.aload_n 0, 1) := by decide +kernel
theorem dX6_status_65 : decode cX6_status 65 = .ok (.getfield 18, 3) := by decide +kernel
theorem dX6_status_68 : decode cX6_status 68 = .ok (.invokevirtual 338, 3) := by decide +kernel
theorem dX6_status_71 : decode cX6_status 71 = .ok (.ireturn, 1) := by decide +kernel
theorem dX6_status_72 : decode cX6_status 72 = .ok (.aload_n 0, 1) := by decide +kernel
theorem dX6_status_73 : decode cX6_status 73 = .ok (.getfield 18, 3) := by decide +kernel
theorem dX6_status_76 : decode cX6_status 76 = .ok (.getfield 181, 3) := by decide +kernel
theorem dX6_status_79 : decode cX6_status 79 = .ok (.ireturn, 1) := by decide +kernel
theorem dX6_status_80 : decode cX6_status 80 = .ok (.aload_n 0, 1) := by decide +kernel
theorem dX6_status_81 : decode cX6_status 81 = .ok (.getfield 18, 3) := by decide +kernel
theorem dX6_status_84 : decode cX6_status 84 = .ok (.getfield 184, 3) := by decide +kernel
theorem dX6_status_87 : decode cX6_status 87 = .ok (.ireturn, 1) := by decide +kernel
theorem dX6_status_88 : decode cX6_status 88 = .ok (.aload_n 0, 1) := by decide +kernel
theorem dX6_status_89 : decode cX6_status 89 = .ok (.getfield 18, 3) := by decide +kernel
theorem dX6_status_92 : decode cX6_status 92 = .ok (.getfield 187, 3) := by decide +kernel
theorem dX6_status_95 : decode cX6_status 95 = .ok (.ireturn, 1) := by decide +kernel
theorem dX6_status_96 : decode cX6_status 96 = .ok (.aload_n 0, 1) := by decide +kernel
theorem dX6_status_97 : decode cX6_status 97 = .ok (.getfield 18, 3) := by decide +kernel
theorem dX6_status_100 : decode cX6_status 100 = .ok (.getfield 341, 3) := by decide +kernel
theorem dX6_status_103 : decode cX6_status 103 = .ok (.ireturn, 1) := by decide +kernel
theorem dX6_status_104 : decode cX6_status 104 = .ok (.aload_n 0, 1) := by decide +kernel
theorem dX6_status_105 : decode cX6_status 105 = .ok (.getfield 18, 3) := by decide +kernel
theorem dX6_status_108 : decode cX6_status 108 = .ok (.getfield 344, 3) := by decide +kernel
theorem dX6_status_111 : decode cX6_status 111 = .ok (.ireturn, 1) := by decide +kernel
theorem dX6_status_112 : decode cX6_status 112 = .ok (.aload_n 0, 1) := by decide +kernel
theorem dX6_status_113 : decode cX6_status 113 = .ok (.getfield 18, 3) := by decide +kernel
theorem dX6_status_116 : decode cX6_status 116 = .ok (.getfield 347, 3) := by decide +kernel
theorem dX6_status_119 : decode cX6_status 119 = .ok (.ireturn, 1) := by decide +kernel
theorem dX6_status_120 : decode cX6_status 120 = .ok (.aload_n 0, 1) := by decide +kernel
theorem dX6_status_121 : decode cX6_status 121 = .ok (.getfield 18, 3) := by decide +kernel
theorem dX6_status_124 : decode cX6_status 124 = .ok (.getfield 316, 3) := by decide +kernel
theorem dX6_status_127 : decode cX6_status 127 = .ok (.ireturn, 1) := by decide +kernel
theorem dX6_status_128 : decode cX6_status 128 = .ok (.aload_n 0, 1) := by decide +kernel
theorem dX6_status_129 : decode cX6_status 129 = .ok (.getfield 50, 3) := by decide +kernel
theorem dX6_status_132 : decode cX6_status 132 = .ok (.getfield 319, 3) := by decide +kernel
theorem dX6_status_135 : decode cX6_status 135 = .ok (.ireturn, 1) := by decide +kernel
theorem dX6_status_136 : decode cX6_status 136 = .ok (.iload_n 1, 1) := by decide +kernel
theorem dX6_status_137 : decode cX6_status 137 = .ok (.bipush 11, 2) := by decide +kernel
theorem dX6_status_139 : decode cX6_status 139 = .ok (.bipush 17, 2) := by decide +kernel
theorem dX6_status_141 : decode cX6_status 141 = .ok (.invokestatic 87, 3) := by decide +kernel
theorem dX6_status_144 : decode cX6_status 144 = .ok (.ifCond .eq 15, 3) := by decide +kernel
theorem dX6_status_147 : decode cX6_status 147 = .ok (.aload_n 0, 1) := by decide +kernel
theorem dX6_status_148 : decode cX6_status 148 = .ok (.getfield 61, 3) := by decide +kernel
theorem dX6_status_151 : decode cX6_status 151 = .ok (.iload_n 1, 1) := by decide +kernel
theorem dX6_status_152 : decode cX6_status 152 = .ok (.bipush 10, 2) := by decide +kernel
theorem dX6_status_154 : decode cX6_status 154 = .ok (.isub, 1) := by decide +kernel
theorem dX6_status_155 : decode cX6_status 155 = .ok (.iaload, 1) := by decide +kernel
theorem dX6_status_156 : decode cX6_status 156 = .ok (.goto 4, 3) := by decide +kernel
theorem dX6_status_159 : decode cX6_status 159 = .ok (.iconst (-1), 1) := by decide +kernel
theorem dX6_status_160 : decode cX6_status 160 = .ok (.ireturn, 1) := by decide +kernel
theorem dX6_refused_0 : decode cX6_refused 0 = .ok (.iload_n 1, 1) := by decide +kernel
theorem dX6_refused_1 : decode cX6_refused 1 = .ok (.ifCond .le 22, 3) := by decide +kernel
theorem dX6_refused_4 : decode cX6_refused 4 = .ok (.iload_n 1, 1) := by decide +kernel
theorem dX6_refused_5 : decode cX6_refused 5 = .ok (.aload_n 0, 1) := by decide +kernel
theorem dX6_refused_6 : decode cX6_refused 6 = .ok (.getfield 61, 3) := by decide +kernel
theorem dX6_refused_9 : decode cX6_refused 9 = .ok (.arraylength, 1) := by decide +kernel
theorem dX6_refused_10 : decode cX6_refused 10 = .ok (.if_icmp .ge 13, 3) := by decide +kernel
theorem dX6_refused_13 : decode cX6_refused 13 = .ok (.aload_n 0, 1) := by decide +kernel
theorem dX6_refused_14 : decode cX6_refused 14 = .ok (.getfield 61, 3) := by decide +kernel
theorem dX6_refused_17 : decode cX6_refused 17 = .ok (.iload_n 1, 1) := by decide +kernel
theorem dX6_refused_18 : decode cX6_refused 18 = .ok (.dup2, 1) := by decide +kernel
theorem dX6_refused_19 : decode cX6_refused 19 = .ok (.iaload, 1) := by decide +kernel
theorem dX6_refused_20 : decode cX6_refused 20 = .ok (.iconst 1, 1) := by decide +kernel
theorem dX6_refused_21 : decode cX6_refused 21 = .ok (.iadd, 1) := by decide +kernel
theorem dX6_refused_22 : decode cX6_refused 22 = .ok (.iastore, 1) := by decide +kernel
theorem dX6_refused_23 : decode cX6_refused 23 = .ok (.iload_n 1, 1) := by decide +kernel
theorem dX6_refused_24 : decode cX6_refused 24 = .ok (.ineg, 1) := by decide +kernel
theorem dX6_refused_25 : decode cX6_refused 25 = .ok (.ireturn, 1) := by decide +kernel
theorem dX6_isWithin_0 : decode cX6_isWithin 0 = .ok (.iload_n 0, 1) := by decide +kernel
theorem dX6_isWithin_1 : decode cX6_isWithin 1 = .ok (.iload_n 1, 1) := by decide +kernel
theorem dX6_isWithin_2 : decode cX6_isWithin 2 = .ok (.if_icmp .lt 12, 3) := by decide +kernel
theorem dX6_isWithin_5 : decode cX6_isWithin 5 = .ok (.iload_n 0, 1) := by decide +kernel
theorem dX6_isWithin_6 : decode cX6_isWithin 6 = .ok (.iload_n 2, 1) := by decide +kernel
theorem dX6_isWithin_7 : decode cX6_isWithin 7 = .ok (.if_icmp .gt 7, 3) := by decide +kernel
theorem dX6_isWithin_10 : decode cX6_isWithin 10 = .ok (.iconst 1, 1) := by decide +kernel
theorem dX6_isWithin_11 : decode cX6_isWithin 11 = .ok (.goto 4, 3) := by decide +kernel
theorem dX6_isWithin_14 : decode cX6_isWithin 14 = .ok (.iconst 0, 1) := by decide +kernel
theorem dX6_isWithin_15 : decode cX6_isWithin 15 = .ok (.ireturn, 1) := by decide +kernel
theorem dX6_isShelf_0 : decode cX6_isShelf 0 = .ok (.iload_n 0, 1) := by decide +kernel
theorem dX6_isShelf_1 : decode cX6_isShelf 1 = .ok (.ifCond .lt 13, 3) := by decide +kernel
theorem dX6_isShelf_4 : decode cX6_isShelf 4 = .ok (.iload_n 0, 1) := by decide +kernel
theorem dX6_isShelf_5 : decode cX6_isShelf 5 = .ok (.bipush 8, 2) := by decide +kernel
theorem dX6_isShelf_7 : decode cX6_isShelf 7 = .ok (.if_icmp .ge 7, 3) := by decide +kernel
theorem dX6_isShelf_10 : decode cX6_isShelf 10 = .ok (.iconst 1, 1) := by decide +kernel
theorem dX6_isShelf_11 : decode cX6_isShelf 11 = .ok (.goto 4, 3) := by decide +kernel
theorem dX6_isShelf_14 : decode cX6_isShelf 14 = .ok (.iconst 0, 1) := by decide +kernel
theorem dX6_isShelf_15 : decode cX6_isShelf 15 = .ok (.ireturn, 1) := by decide +kernel
theorem dX6_mayBeDunk_0 : decode cX6_mayBeDunk 0 = .ok (.iload_n 0, 1) := by decide +kernel
theorem dX6_mayBeDunk_1 : decode cX6_mayBeDunk 1 = .ok (.iconst 0, 1) := by decide +kernel
theorem dX6_mayBeDunk_2 : decode cX6_mayBeDunk 2 = .ok (.bipush 12, 2) := by decide +kernel
theorem dX6_mayBeDunk_4 : decode cX6_mayBeDunk 4 = .ok (.invokestatic 87, 3) := by decide +kernel
theorem dX6_mayBeDunk_7 : decode cX6_mayBeDunk 7 = .ok (.ifCond .eq 27, 3) := by decide +kernel
theorem dX6_mayBeDunk_10 : decode cX6_mayBeDunk 10 = .ok (.iload_n 1, 1) := by decide +kernel
theorem dX6_mayBeDunk_11 : decode cX6_mayBeDunk 11 = .ok (.iconst 0, 1) := by decide +kernel
theorem dX6_mayBeDunk_12 : decode cX6_mayBeDunk 12 = .ok (.bipush 60, 2) := by decide +kernel
theorem dX6_mayBeDunk_14 : decode cX6_mayBeDunk 14 = .ok (.invokestatic 87, 3) := by decide +kernel
theorem dX6_mayBeDunk_17 : decode cX6_mayBeDunk 17 = .ok (.ifCond .eq 17, 3) := by decide +kernel
theorem dX6_mayBeDunk_20 : decode cX6_mayBeDunk 20 = .ok (.iload_n 2, 1) := by decide +kernel
theorem dX6_mayBeDunk_21 : decode cX6_mayBeDunk 21 = .ok (.iconst 0, 1) := by decide +kernel
theorem dX6_mayBeDunk_22 : decode cX6_mayBeDunk 22 = .ok (.bipush 60, 2) := by decide +kernel
theorem dX6_mayBeDunk_24 : decode cX6_mayBeDunk 24 = .ok (.invokestatic 87, 3) := by decide +kernel
theorem dX6_mayBeDunk_27 : decode cX6_mayBeDunk 27 = .ok (.ifCond .eq 7, 3) := by decide +kernel
theorem dX6_mayBeDunk_30 : decode cX6_mayBeDunk 30 = .ok (.iconst 1, 1) := by decide +kernel
theorem dX6_mayBeDunk_31 : decode cX6_mayBeDunk 31 = .ok (.goto 4, 3) := by decide +kernel
theorem dX6_mayBeDunk_34 : decode cX6_mayBeDunk 34 = .ok (.iconst 0, 1) := by decide +kernel
theorem dX6_mayBeDunk_35 : decode cX6_mayBeDunk 35 = .ok (.ireturn, 1) := by decide +kernel
theorem dX6_whyNoRow_0 : decode cX6_whyNoRow 0 = .ok (.iload_n 1, 1) := by decide +kernel
theorem dX6_whyNoRow_1 : decode cX6_whyNoRow 1 = .ok (.invokestatic 79, 3) := by decide +kernel
theorem dX6_whyNoRow_4 : decode cX6_whyNoRow 4 = .ok (.ifCond .ne 5, 3) := by decide +kernel
theorem dX6_whyNoRow_7 : decode cX6_whyNoRow 7 = .ok (.iconst 1, 1) := by decide +kernel
theorem dX6_whyNoRow_8 : decode cX6_whyNoRow 8 = .ok (.ireturn, 1) := by decide +kernel
theorem dX6_whyNoRow_9 : decode cX6_whyNoRow 9 = .ok (.aload_n 0, 1) := by decide +kernel
theorem dX6_whyNoRow_10 : decode cX6_whyNoRow 10 = .ok (.getfield 11, 3) := by decide +kernel
theorem dX6_whyNoRow_13 : decode cX6_whyNoRow 13 = .ok (.iload_n 1, 1) := by decide +kernel
theorem dX6_whyNoRow_14 : decode cX6_whyNoRow 14 = .ok (.aaload, 1) := by decide +kernel
theorem dX6_whyNoRow_15 : decode cX6_whyNoRow 15 = .ok (.invokevirtual 134, 3) := by decide +kernel
theorem dX6_whyNoRow_18 : decode cX6_whyNoRow 18 = .ok (.ifCond .eq 5, 3) := by decide +kernel
theorem dX6_whyNoRow_21 : decode cX6_whyNoRow 21 = .ok (.iconst 0, 1) := by decide +kernel
theorem dX6_whyNoRow_22 : decode cX6_whyNoRow 22 = .ok (.ireturn, 1) := by decide +kernel
theorem dX6_whyNoRow_23 : decode cX6_whyNoRow 23 = .ok (.aload_n 0, 1) := by decide +kernel
theorem dX6_whyNoRow_24 : decode cX6_whyNoRow 24 = .ok (.getfield 11, 3) := by decide +kernel
theorem dX6_whyNoRow_27 : decode cX6_whyNoRow 27 = .ok (.iload_n 1, 1) := by decide +kernel
theorem dX6_whyNoRow_28 : decode cX6_whyNoRow 28 = .ok (.aaload, 1) := by decide +kernel
theorem dX6_whyNoRow_29 : decode cX6_whyNoRow 29 = .ok (.getfield 138, 3) := by decide +kernel
theorem dX6_whyNoRow_32 : decode cX6_whyNoRow 32 = .ok (.iconst (-1), 1) := by decide +kernel
theorem dX6_whyNoRow_33 : decode cX6_whyNoRow 33 = .ok (.if_icmp .ne 7, 3) := by decide +kernel
theorem dX6_whyNoRow_36 : decode cX6_whyNoRow 36 = .ok (.iconst 3, 1) := by decide +kernel
theorem dX6_whyNoRow_37 : decode cX6_whyNoRow 37 = .ok (.goto 4, 3) := by decide +kernel
theorem dX6_whyNoRow_40 : decode cX6_whyNoRow 40 = .ok (.iconst 2, 1) := by decide +kernel
theorem dX6_whyNoRow_41 : decode cX6_whyNoRow 41 = .ok (.ireturn, 1) := by decide +kernel
theorem dX6_whyNoCopy_0 : decode cX6_whyNoCopy 0 = .ok (.aload_n 0, 1) := by decide +kernel
theorem dX6_whyNoCopy_1 : decode cX6_whyNoCopy 1 = .ok (.iload_n 1, 1) := by decide +kernel
theorem dX6_whyNoCopy_2 : decode cX6_whyNoCopy 2 = .ok (.invokevirtual 95, 3) := by decide +kernel
theorem dX6_whyNoCopy_5 : decode cX6_whyNoCopy 5 = .ok (.istore 6, 2) := by decide +kernel
theorem dX6_whyNoCopy_7 : decode cX6_whyNoCopy 7 = .ok (.aload_n 0, 1) := by decide +kernel
theorem dX6_whyNoCopy_8 : decode cX6_whyNoCopy 8 = .ok (.iload_n 2, 1) := by decide +kernel
theorem dX6_whyNoCopy_9 : decode cX6_whyNoCopy 9 = .ok (.invokevirtual 95, 3) := by decide +kernel
theorem dX6_whyNoCopy_12 : decode cX6_whyNoCopy 12 = .ok (.istore 7, 2) := by decide +kernel
theorem dX6_whyNoCopy_14 : decode cX6_whyNoCopy 14 = .ok (.iload 6, 2) := by decide +kernel
theorem dX6_whyNoCopy_16 : decode cX6_whyNoCopy 16 = .ok (.iconst 1, 1) := by decide +kernel
theorem dX6_whyNoCopy_17 : decode cX6_whyNoCopy 17 = .ok (.if_icmp .eq 9, 3) := by decide +kernel
theorem dX6_whyNoCopy_20 : decode cX6_whyNoCopy 20 = .ok (.iload 7, 2) := by decide +kernel
theorem dX6_whyNoCopy_22 : decode cX6_whyNoCopy 22 = .ok (.iconst 1, 1) := by decide +kernel
theorem dX6_whyNoCopy_23 : decode cX6_whyNoCopy 23 = .ok (.if_icmp .ne 5, 3) := by decide +kernel
theorem dX6_whyNoCopy_26 : decode cX6_whyNoCopy 26 = .ok (.iconst 1, 1) := by decide +kernel
theorem dX6_whyNoCopy_27 : decode cX6_whyNoCopy 27 = .ok (.ireturn, 1) := by decide +kernel
theorem dX6_whyNoCopy_28 : decode cX6_whyNoCopy 28 = .ok (.iload 6, 2) := by decide +kernel
theorem dX6_whyNoCopy_30 : decode cX6_whyNoCopy 30 = .ok (.iconst 2, 1) := by decide +kernel
theorem dX6_whyNoCopy_31 : decode cX6_whyNoCopy 31 = .ok (.if_icmp .eq 9, 3) := by decide +kernel
theorem dX6_whyNoCopy_34 : decode cX6_whyNoCopy 34 = .ok (.iload 7, 2) := by decide +kernel
theorem dX6_whyNoCopy_36 : decode cX6_whyNoCopy 36 = .ok (.iconst 2, 1) := by decide +kernel
theorem dX6_whyNoCopy_37 : decode cX6_whyNoCopy 37 = .ok (.if_icmp .ne 5, 3) := by decide +kernel
theorem dX6_whyNoCopy_40 : decode cX6_whyNoCopy 40 = .ok (.iconst 2, 1) := by decide +kernel
theorem dX6_whyNoCopy_41 : decode cX6_whyNoCopy 41 = .ok (.ireturn, 1) := by decide +kernel
theorem dX6_whyNoCopy_42 : decode cX6_whyNoCopy 42 = .ok (.iload 6, 2) := by decide +kernel
theorem dX6_whyNoCopy_44 : decode cX6_whyNoCopy 44 = .ok (.iconst 3, 1) := by decide +kernel
theorem dX6_whyNoCopy_45 : decode cX6_whyNoCopy 45 = .ok (.if_icmp .eq 9, 3) := by decide +kernel
theorem dX6_whyNoCopy_48 : decode cX6_whyNoCopy 48 = .ok (.iload 7, 2) := by decide +kernel
theorem dX6_whyNoCopy_50 : decode cX6_whyNoCopy 50 = .ok (.iconst 3, 1) := by decide +kernel
theorem dX6_whyNoCopy_51 : decode cX6_whyNoCopy 51 = .ok (.if_icmp .ne 5, 3) := by decide +kernel
theorem dX6_whyNoCopy_54 : decode cX6_whyNoCopy 54 = .ok (.iconst 3, 1) := by decide +kernel
theorem dX6_whyNoCopy_55 : decode cX6_whyNoCopy 55 = .ok (.ireturn, 1) := by decide +kernel
theorem dX6_whyNoCopy_56 : decode cX6_whyNoCopy 56 = .ok (.aload_n 0, 1) := by decide +kernel
theorem dX6_whyNoCopy_57 : decode cX6_whyNoCopy 57 = .ok (.getfield 11, 3) := by decide +kernel
theorem dX6_whyNoCopy_60 : decode cX6_whyNoCopy 60 = .ok (.iload_n 1, 1) := by decide +kernel
theorem dX6_whyNoCopy_61 : decode cX6_whyNoCopy 61 = .ok (.aaload, 1) := by decide +kernel
theorem dX6_whyNoCopy_62 : decode cX6_whyNoCopy 62 = .ok (.astore 8, 2) := by decide +kernel
theorem dX6_whyNoCopy_64 : decode cX6_whyNoCopy 64 = .ok (.aload_n 0, 1) := by decide +kernel
theorem dX6_whyNoCopy_65 : decode cX6_whyNoCopy 65 = .ok (.getfield 11, 3) := by decide +kernel
theorem dX6_whyNoCopy_68 : decode cX6_whyNoCopy 68 = .ok (.iload_n 2, 1) := by decide +kernel
theorem dX6_whyNoCopy_69 : decode cX6_whyNoCopy 69 = .ok (.aaload, 1) := by decide +kernel
theorem dX6_whyNoCopy_70 : decode cX6_whyNoCopy 70 = .ok (.astore 9, 2) := by decide +kernel
theorem dX6_whyNoCopy_72 : decode cX6_whyNoCopy 72 = .ok (.aload 8, 2) := by decide +kernel
theorem dX6_whyNoCopy_74 : decode cX6_whyNoCopy 74 = .ok (.getfield 350, 3) := by decide +kernel
theorem dX6_whyNoCopy_77 : decode cX6_whyNoCopy 77 = .ok (.aload 9, 2) := by decide +kernel
theorem dX6_whyNoCopy_79 : decode cX6_whyNoCopy 79 = .ok (.getfield 350, 3) := by decide +kernel
theorem dX6_whyNoCopy_82 : decode cX6_whyNoCopy 82 = .ok (.if_icmp .eq 5, 3) := by decide +kernel
theorem dX6_whyNoCopy_85 : decode cX6_whyNoCopy 85 = .ok (.iconst 2, 1) := by decide +kernel
theorem dX6_whyNoCopy_86 : decode cX6_whyNoCopy 86 = .ok (.ireturn, 1) := by decide +kernel
theorem dX6_whyNoCopy_87 : decode cX6_whyNoCopy 87 = .ok (.iload 5, 2) := by decide +kernel
theorem dX6_whyNoCopy_89 : decode cX6_whyNoCopy 89 = .ok (.ifCond .ge 5, 3) := by decide +kernel
theorem dX6_whyNoCopy_92 : decode cX6_whyNoCopy 92 = .ok (.iconst 4, 1) := by decide +kernel
theorem dX6_whyNoCopy_93 : decode cX6_whyNoCopy 93 = .ok (.ireturn, 1) := by decide +kernel
theorem dX6_whyNoCopy_94 : decode cX6_whyNoCopy 94 = .ok (.iload_n 3, 1) := by decide +kernel
theorem dX6_whyNoCopy_95 : decode cX6_whyNoCopy 95 = .ok (.ifCond .lt 33, 3) := by decide +kernel
theorem dX6_whyNoCopy_98 : decode cX6_whyNoCopy 98 = .ok (.iload 4, 2) := by decide +kernel
theorem dX6_whyNoCopy_100 : decode cX6_whyNoCopy 100 = .ok (.ifCond .lt 28, 3) := by decide +kernel
theorem dX6_whyNoCopy_103 : decode cX6_whyNoCopy 103 = .ok (.iload_n 3, 1) := by decide +kernel
theorem dX6_whyNoCopy_104 : decode cX6_whyNoCopy 104 = .ok (.aload 8, 2) := by decide +kernel
theorem dX6_whyNoCopy_106 : decode cX6_whyNoCopy 106 = .ok (.getfield 353, 3) := by decide +kernel
theorem dX6_whyNoCopy_109 : decode cX6_whyNoCopy 109 = .ok (.iload 5, 2) := by decide +kernel
theorem dX6_whyNoCopy_111 : decode cX6_whyNoCopy 111 = .ok (.isub, 1) := by decide +kernel
theorem dX6_whyNoCopy_112 : decode cX6_whyNoCopy 112 = .ok (.if_icmp .gt 16, 3) := by decide +kernel
theorem dX6_whyNoCopy_115 : decode cX6_whyNoCopy 115 = .ok (.iload 4, 2) := by decide +kernel
theorem dX6_whyNoCopy_117 : decode cX6_whyNoCopy 117 = .ok (.aload 9, 2) := by decide +kernel
theorem dX6_whyNoCopy_119 : decode cX6_whyNoCopy 119 = .ok (.getfield 353, 3) := by decide +kernel
theorem dX6_whyNoCopy_122 : decode cX6_whyNoCopy 122 = .ok (.iload 5, 2) := by decide +kernel
theorem dX6_whyNoCopy_124 : decode cX6_whyNoCopy 124 = .ok (.isub, 1) := by decide +kernel
theorem dX6_whyNoCopy_125 : decode cX6_whyNoCopy 125 = .ok (.if_icmp .le 7, 3) := by decide +kernel
theorem dX6_whyNoCopy_128 : decode cX6_whyNoCopy 128 = .ok (.iconst 5, 1) := by decide +kernel
theorem dX6_whyNoCopy_129 : decode cX6_whyNoCopy 129 = .ok (.goto 4, 3) := by decide +kernel
theorem dX6_whyNoCopy_132 : decode cX6_whyNoCopy 132 = .ok (.iconst 0, 1) := by decide +kernel
theorem dX6_whyNoCopy_133 : decode cX6_whyNoCopy 133 = .ok (.ireturn, 1) := by decide +kernel
theorem dX6_whyNoDunk_0 : decode cX6_whyNoDunk 0 = .ok (.aload_n 0, 1) := by decide +kernel
theorem dX6_whyNoDunk_1 : decode cX6_whyNoDunk 1 = .ok (.getfield 18, 3) := by decide +kernel
theorem dX6_whyNoDunk_4 : decode cX6_whyNoDunk 4 = .ok (.iload_n 1, 1) := by decide +kernel
theorem dX6_whyNoDunk_5 : decode cX6_whyNoDunk 5 = .ok (.invokevirtual 123, 3) := by decide +kernel
theorem dX6_whyNoDunk_8 : decode cX6_whyNoDunk 8 = .ok (.ifCond .ne 5, 3) := by decide +kernel
theorem dX6_whyNoDunk_11 : decode cX6_whyNoDunk 11 = .ok (.iconst 1, 1) := by decide +kernel
theorem dX6_whyNoDunk_12 : decode cX6_whyNoDunk 12 = .ok (.ireturn, 1) := by decide +kernel
theorem dX6_whyNoDunk_13 : decode cX6_whyNoDunk 13 = .ok (.iload_n 2, 1) := by decide +kernel
theorem dX6_whyNoDunk_14 : decode cX6_whyNoDunk 14 = .ok (.iload_n 3, 1) := by decide +kernel
theorem dX6_whyNoDunk_15 : decode cX6_whyNoDunk 15 = .ok (.iload 4, 2) := by decide +kernel
theorem dX6_whyNoDunk_17 : decode cX6_whyNoDunk 17 = .ok (.invokestatic 227, 3) := by decide +kernel
theorem dX6_whyNoDunk_20 : decode cX6_whyNoDunk 20 = .ok (.ifCond .eq 7, 3) := by decide +kernel
theorem dX6_whyNoDunk_23 : decode cX6_whyNoDunk 23 = .ok (.iconst 0, 1) := by decide +kernel
theorem dX6_whyNoDunk_24 : decode cX6_whyNoDunk 24 = .ok (.goto 5, 3) := by decide +kernel
theorem dX6_whyNoDunk_27 : decode cX6_whyNoDunk 27 = .ok (.bipush 6, 2) := by decide +kernel
theorem dX6_whyNoDunk_29 : decode cX6_whyNoDunk 29 = .ok (.ireturn, 1) := by decide +kernel
theorem dX6_whyNotInTruth_0 : decode cX6_whyNotInTruth 0 = .ok (.aload_n 0, 1) := by decide +kernel
theorem dX6_whyNotInTruth_1 : decode cX6_whyNotInTruth 1 = .ok (.getfield 18, 3) := by decide +kernel
theorem dX6_whyNotInTruth_4 : decode cX6_whyNotInTruth 4 = .ok (.iload_n 1, 1) := by decide +kernel
theorem dX6_whyNotInTruth_5 : decode cX6_whyNotInTruth 5 = .ok (.invokevirtual 123, 3) := by decide +kernel
theorem dX6_whyNotInTruth_8 : decode cX6_whyNotInTruth 8 = .ok (.ifCond .ne 5, 3) := by decide +kernel
theorem dX6_whyNotInTruth_11 : decode cX6_whyNotInTruth 11 = .ok (.iconst 1, 1) := by decide +kernel
theorem dX6_whyNotInTruth_12 : decode cX6_whyNotInTruth 12 = .ok (.ireturn, 1) := by decide +kernel
theorem dX6_whyNotInTruth_13 : decode cX6_whyNotInTruth 13 = .ok (.aload_n 0, 1) := by decide +kernel
theorem dX6_whyNotInTruth_14 : decode cX6_whyNotInTruth 14 = .ok (.getfield 18, 3) := by decide +kernel
theorem dX6_whyNotInTruth_17 : decode cX6_whyNotInTruth 17 = .ok (.getfield 141, 3) := by decide +kernel
theorem dX6_whyNotInTruth_20 : decode cX6_whyNotInTruth 20 = .ok (.iload_n 1, 1) := by decide +kernel
theorem dX6_whyNotInTruth_21 : decode cX6_whyNotInTruth 21 = .ok (.aaload, 1) := by decide +kernel
theorem dX6_whyNotInTruth_22 : decode cX6_whyNotInTruth 22 = .ok (.getfield 162, 3) := by decide +kernel
theorem dX6_whyNotInTruth_25 : decode cX6_whyNotInTruth 25 = .ok (.ifCond .le 17, 3) := by decide +kernel
theorem dX6_whyNotInTruth_28 : decode cX6_whyNotInTruth 28 = .ok (.iload_n 2, 1) := by decide +kernel
theorem dX6_whyNotInTruth_29 : decode cX6_whyNotInTruth 29 = .ok (.iload_n 3, 1) := by decide +kernel
theorem dX6_whyNotInTruth_30 : decode cX6_whyNotInTruth 30 = .ok (.iload 4, 2) := by decide +kernel
theorem dX6_whyNotInTruth_32 : decode cX6_whyNotInTruth 32 = .ok (.invokestatic 227, 3) := by decide +kernel
theorem dX6_whyNotInTruth_35 : decode cX6_whyNotInTruth 35 = .ok (.ifCond .eq 7, 3) := by decide +kernel
theorem dX6_whyNotInTruth_38 : decode cX6_whyNotInTruth 38 = .ok (.iconst 0, 1) := by decide +kernel
theorem dX6_whyNotInTruth_39 : decode cX6_whyNotInTruth 39 = .ok (.goto 5, 3) := by decide +kernel
theorem dX6_whyNotInTruth_42 : decode cX6_whyNotInTruth 42 = .ok (.bipush 6, 2) := by decide +kernel
theorem dX6_whyNotInTruth_44 : decode cX6_whyNotInTruth 44 = .ok (.ireturn, 1) := by decide +kernel
theorem dX6_whyNotBack_0 : decode cX6_whyNotBack 0 = .ok (.aload_n 0, 1) := by decide +kernel
theorem dX6_whyNotBack_1 : decode cX6_whyNotBack 1 = .ok (.getfield 18, 3) := by decide +kernel
theorem dX6_whyNotBack_4 : decode cX6_whyNotBack 4 = .ok (.iload_n 1, 1) := by decide +kernel
theorem dX6_whyNotBack_5 : decode cX6_whyNotBack 5 = .ok (.invokevirtual 123, 3) := by decide +kernel
theorem dX6_whyNotBack_8 : decode cX6_whyNotBack 8 = .ok (.ifCond .ne 5, 3) := by decide +kernel
theorem dX6_whyNotBack_11 : decode cX6_whyNotBack 11 = .ok (.iconst 1, 1) := by decide +kernel
theorem dX6_whyNotBack_12 : decode cX6_whyNotBack 12 = .ok (.ireturn, 1) := by decide +kernel
theorem dX6_whyNotBack_13 : decode cX6_whyNotBack 13 = .ok (.aload_n 0, 1) := by decide +kernel
theorem dX6_whyNotBack_14 : decode cX6_whyNotBack 14 = .ok (.iload_n 2, 1) := by decide +kernel
theorem dX6_whyNotBack_15 : decode cX6_whyNotBack 15 = .ok (.invokevirtual 95, 3) := by decide +kernel
theorem dX6_whyNotBack_18 : decode cX6_whyNotBack 18 = .ok (.istore_n 3, 1) := by decide +kernel
theorem dX6_whyNotBack_19 : decode cX6_whyNotBack 19 = .ok (.iload_n 3, 1) := by decide +kernel
theorem dX6_whyNotBack_20 : decode cX6_whyNotBack 20 = .ok (.ifCond .eq 5, 3) := by decide +kernel
theorem dX6_whyNotBack_23 : decode cX6_whyNotBack 23 = .ok (.iload_n 3, 1) := by decide +kernel
theorem dX6_whyNotBack_24 : decode cX6_whyNotBack 24 = .ok (.ireturn, 1) := by decide +kernel
theorem dX6_whyNotBack_25 : decode cX6_whyNotBack 25 = .ok (.aload_n 0, 1) := by decide +kernel
theorem dX6_whyNotBack_26 : decode cX6_whyNotBack 26 = .ok (.getfield 11, 3) := by decide +kernel
theorem dX6_whyNotBack_29 : decode cX6_whyNotBack 29 = .ok (.iload_n 2, 1) := by decide +kernel
theorem dX6_whyNotBack_30 : decode cX6_whyNotBack 30 = .ok (.aaload, 1) := by decide +kernel
theorem dX6_whyNotBack_31 : decode cX6_whyNotBack 31 = .ok (.getfield 353, 3) := by decide +kernel
theorem dX6_whyNotBack_34 : decode cX6_whyNotBack 34 = .ok (.aload_n 0, 1) := by decide +kernel
theorem dX6_whyNotBack_35 : decode cX6_whyNotBack 35 = .ok (.getfield 18, 3) := by decide +kernel
theorem dX6_whyNotBack_38 : decode cX6_whyNotBack 38 = .ok (.getfield 141, 3) := by decide +kernel
theorem dX6_whyNotBack_41 : decode cX6_whyNotBack 41 = .ok (.iload_n 1, 1) := by decide +kernel
theorem dX6_whyNotBack_42 : decode cX6_whyNotBack 42 = .ok (.aaload, 1) := by decide +kernel
theorem dX6_whyNotBack_43 : decode cX6_whyNotBack 43 = .ok (.getfield 162, 3) := by decide +kernel
theorem dX6_whyNotBack_46 : decode cX6_whyNotBack 46 = .ok (.if_icmp .ge 7, 3) := by decide +kernel
theorem dX6_whyNotBack_49 : decode cX6_whyNotBack 49 = .ok (.iconst 5, 1) := by decide +kernel
theorem dX6_whyNotBack_50 : decode cX6_whyNotBack 50 = .ok (.goto 4, 3) := by decide +kernel
theorem dX6_whyNotBack_53 : decode cX6_whyNotBack 53 = .ok (.iconst 0, 1) := by decide +kernel
theorem dX6_whyNotBack_54 : decode cX6_whyNotBack 54 = .ok (.ireturn, 1) := by decide +kernel
theorem dX6_dunkAndCarry_0 : decode cX6_dunkAndCarry 0 = .ok (.aload_n 0, 1) := by decide +kernel
theorem dX6_dunkAndCarry_1 : decode cX6_dunkAndCarry 1 = .ok (.getfield 31, 3) := by decide +kernel
theorem dX6_dunkAndCarry_4 : decode cX6_dunkAndCarry 4 = .ok (.aload_n 1, 1) := by decide +kernel
theorem dX6_dunkAndCarry_5 : decode cX6_dunkAndCarry 5 = .ok (.aload_n 0, 1) := by decide +kernel
theorem dX6_dunkAndCarry_6 : decode cX6_dunkAndCarry 6 = .ok (.getfield 18, 3) := by decide +kernel
theorem dX6_dunkAndCarry_9 : decode cX6_dunkAndCarry 9 = .ok (.getfield 181, 3) := by decide +kernel
theorem dX6_dunkAndCarry_12 : decode cX6_dunkAndCarry 12 = .ok (.invokevirtual 233, 3) := by decide +kernel
theorem dX6_dunkAndCarry_15 : decode cX6_dunkAndCarry 15 = .ok (.aload_n 0, 1) := by decide +kernel
theorem dX6_dunkAndCarry_16 : decode cX6_dunkAndCarry 16 = .ok (.getfield 31, 3) := by decide +kernel
theorem dX6_dunkAndCarry_19 : decode cX6_dunkAndCarry 19 = .ok (.iload_n 2, 1) := by decide +kernel
theorem dX6_dunkAndCarry_20 : decode cX6_dunkAndCarry 20 = .ok (.iload_n 3, 1) := by decide +kernel
theorem dX6_dunkAndCarry_21 : decode cX6_dunkAndCarry 21 = .ok (.invokevirtual 247, 3) := by decide +kernel
theorem dX6_dunkAndCarry_24 : decode cX6_dunkAndCarry 24 = .ok (.aload_n 0, 1) := by decide +kernel
theorem dX6_dunkAndCarry_25 : decode cX6_dunkAndCarry 25 = .ok (.getfield 31, 3) := by decide +kernel
theorem dX6_dunkAndCarry_28 : decode cX6_dunkAndCarry 28 = .ok (.iconst 0, 1) := by decide +kernel
theorem dX6_dunkAndCarry_29 : decode cX6_dunkAndCarry 29 = .ok (.iload 4, 2) := by decide +kernel
theorem dX6_dunkAndCarry_31 : decode cX6_dunkAndCarry 31 = .ok (.invokevirtual 247, 3) := by decide +kernel
theorem dX6_dunkAndCarry_34 : decode cX6_dunkAndCarry 34 = .ok (.return_, 1) := by decide +kernel
theorem dX6_saysAs_0 : decode cX6_saysAs 0 = .ok (.iload_n 2, 1) := by decide +kernel
theorem dX6_saysAs_1 : decode cX6_saysAs 1 = .ok (.tableswitch 70 1 6 #[39, 39, 52, 39, 57, 63], 39) := by decide +kernel
theorem dX6_saysAs_40 : decode cX6_saysAs 40 = .ok (.aload_n 1, 1) := by decide +kernel
theorem dX6_saysAs_41 : decode cX6_saysAs 41 = .ok (.iconst 0, 1) := by decide +kernel
theorem dX6_saysAs_42 : decode cX6_saysAs 42 = .ok (.aload_n 0, 1) := by decide +kernel
theorem dX6_saysAs_43 : decode cX6_saysAs 43 = .ok (.getfield 18, 3) := by decide +kernel
theorem dX6_saysAs_46 : decode cX6_saysAs 46 = .ok (.getfield 181, 3) := by decide +kernel
theorem dX6_saysAs_49 : decode cX6_saysAs 49 = .ok (.invokevirtual 204, 3) := by decide +kernel
theorem dX6_saysAs_52 : decode cX6_saysAs 52 = .ok (.ireturn, 1) := by decide +kernel
theorem dX6_saysAs_53 : decode cX6_saysAs 53 = .ok (.aload_n 1, 1) := by decide +kernel
theorem dX6_saysAs_54 : decode cX6_saysAs 54 = .ok (.getfield 165, 3) := by decide +kernel
theorem dX6_saysAs_57 : decode cX6_saysAs 57 = .ok (.ireturn, 1) := by decide +kernel
theorem dX6_saysAs_58 : decode cX6_saysAs 58 = .ok (.aload_n 1, 1) := by decide +kernel
theorem dX6_saysAs_59 : decode cX6_saysAs 59 = .ok (.iconst 0, 1) := by decide +kernel
theorem dX6_saysAs_60 : decode cX6_saysAs 60 = .ok (.invokevirtual 356, 3) := by decide +kernel
theorem dX6_saysAs_63 : decode cX6_saysAs 63 = .ok (.ireturn, 1) := by decide +kernel
theorem dX6_saysAs_64 : decode cX6_saysAs 64 = .ok (.aload_n 1, 1) := by decide +kernel
theorem dX6_saysAs_65 : decode cX6_saysAs 65 = .ok (.bipush 10, 2) := by decide +kernel
theorem dX6_saysAs_67 : decode cX6_saysAs 67 = .ok (.invokevirtual 356, 3) := by decide +kernel
theorem dX6_saysAs_70 : decode cX6_saysAs 70 = .ok (.ireturn, 1) := by decide +kernel
theorem dX6_saysAs_71 : decode cX6_saysAs 71 = .ok (.aload_n 1, 1) := by decide +kernel
theorem dX6_saysAs_72 : decode cX6_saysAs 72 = .ok (.getfield 162, 3) := by decide +kernel
theorem dX6_saysAs_75 : decode cX6_saysAs 75 = .ok (.ireturn, 1) := by decide +kernel
theorem dX6_bestDip_0 : decode cX6_bestDip 0 = .ok (.iconst (-1), 1) := by decide +kernel
theorem dX6_bestDip_1 : decode cX6_bestDip 1 = .ok (.istore_n 3, 1) := by decide +kernel
theorem dX6_bestDip_2 : decode cX6_bestDip 2 = .ok (.iconst 0, 1) := by decide +kernel
theorem dX6_bestDip_3 : decode cX6_bestDip 3 = .ok (.istore 4, 2) := by decide +kernel
theorem dX6_bestDip_5 : decode cX6_bestDip 5 = .ok (.iconst 0, 1) := by decide +kernel
theorem dX6_bestDip_6 : decode cX6_bestDip 6 = .ok (.istore 5, 2) := by decide +kernel
theorem dX6_bestDip_8 : decode cX6_bestDip 8 = .ok (.iload 5, 2) := by decide +kernel
theorem dX6_bestDip_10 : decode cX6_bestDip 10 = .ok (.aload_n 1, 1) := by decide +kernel
theorem dX6_bestDip_11 : decode cX6_bestDip 11 = .ok (.getfield 162, 3) := by decide +kernel
theorem dX6_bestDip_14 : decode cX6_bestDip 14 = .ok (.if_icmp .gt 121, 3) := by decide +kernel
theorem dX6_bestDip_17 : decode cX6_bestDip 17 = .ok (.aload_n 0, 1) := by decide +kernel
theorem dX6_bestDip_18 : decode cX6_bestDip 18 = .ok (.getfield 31, 3) := by decide +kernel
theorem dX6_bestDip_21 : decode cX6_bestDip 21 = .ok (.aload_n 1, 1) := by decide +kernel
theorem dX6_bestDip_22 : decode cX6_bestDip 22 = .ok (.aload_n 0, 1) := by decide +kernel
theorem dX6_bestDip_23 : decode cX6_bestDip 23 = .ok (.getfield 18, 3) := by decide +kernel
theorem dX6_bestDip_26 : decode cX6_bestDip 26 = .ok (.getfield 181, 3) := by decide +kernel
theorem dX6_bestDip_29 : decode cX6_bestDip 29 = .ok (.invokevirtual 233, 3) := by decide +kernel
theorem dX6_bestDip_32 : decode cX6_bestDip 32 = .ok (.aload_n 0, 1) := by decide +kernel
theorem dX6_bestDip_33 : decode cX6_bestDip 33 = .ok (.getfield 31, 3) := by decide +kernel
theorem dX6_bestDip_36 : decode cX6_bestDip 36 = .ok (.iload 5, 2) := by decide +kernel
theorem dX6_bestDip_38 : decode cX6_bestDip 38 = .ok (.invokevirtual 237, 3) := by decide +kernel
theorem dX6_bestDip_41 : decode cX6_bestDip 41 = .ok (.iconst 1, 1) := by decide +kernel
theorem dX6_bestDip_42 : decode cX6_bestDip 42 = .ok (.istore 6, 2) := by decide +kernel
theorem dX6_bestDip_44 : decode cX6_bestDip 44 = .ok (.iconst 0, 1) := by decide +kernel
theorem dX6_bestDip_45 : decode cX6_bestDip 45 = .ok (.istore 7, 2) := by decide +kernel
theorem dX6_bestDip_47 : decode cX6_bestDip 47 = .ok (.iload 7, 2) := by decide +kernel
theorem dX6_bestDip_49 : decode cX6_bestDip 49 = .ok (.bipush 30, 2) := by decide +kernel
theorem dX6_bestDip_51 : decode cX6_bestDip 51 = .ok (.if_icmp .gt 78, 3) := by decide +kernel
theorem dX6_bestDip_54 : decode cX6_bestDip 54 = .ok (.iload 6, 2) := by decide +kernel
theorem dX6_bestDip_56 : decode cX6_bestDip 56 = .ok (.ifCond .eq 73, 3) := by decide +kernel
theorem dX6_bestDip_59 : decode cX6_bestDip 59 = .ok (.aload_n 0, 1) := by decide +kernel
theorem dX6_bestDip_60 : decode cX6_bestDip 60 = .ok (.getfield 35, 3) := by decide +kernel
theorem dX6_bestDip_63 : decode cX6_bestDip 63 = .ok (.aload_n 0, 1) := by decide +kernel
theorem dX6_bestDip_64 : decode cX6_bestDip 64 = .ok (.getfield 31, 3) := by decide +kernel
theorem dX6_bestDip_67 : decode cX6_bestDip 67 = .ok (.invokevirtual 243, 3) := by decide +kernel
theorem dX6_bestDip_70 : decode cX6_bestDip 70 = .ok (.aload_n 0, 1) := by decide +kernel
theorem dX6_bestDip_71 : decode cX6_bestDip 71 = .ok (.getfield 35, 3) := by decide +kernel
theorem dX6_bestDip_74 : decode cX6_bestDip 74 = .ok (.iconst 0, 1) := by decide +kernel
theorem dX6_bestDip_75 : decode cX6_bestDip 75 = .ok (.iload_n 2, 1) := by decide +kernel
theorem dX6_bestDip_76 : decode cX6_bestDip 76 = .ok (.invokevirtual 247, 3) := by decide +kernel
theorem dX6_bestDip_79 : decode cX6_bestDip 79 = .ok (.aload_n 0, 1) := by decide +kernel
theorem dX6_bestDip_80 : decode cX6_bestDip 80 = .ok (.getfield 18, 3) := by decide +kernel
theorem dX6_bestDip_83 : decode cX6_bestDip 83 = .ok (.aload_n 0, 1) := by decide +kernel
theorem dX6_bestDip_84 : decode cX6_bestDip 84 = .ok (.getfield 35, 3) := by decide +kernel
theorem dX6_bestDip_87 : decode cX6_bestDip 87 = .ok (.getfield 225, 3) := by decide +kernel
theorem dX6_bestDip_90 : decode cX6_bestDip 90 = .ok (.invokevirtual 253, 3) := by decide +kernel
theorem dX6_bestDip_93 : decode cX6_bestDip 93 = .ok (.istore 8, 2) := by decide +kernel
theorem dX6_bestDip_95 : decode cX6_bestDip 95 = .ok (.iload 8, 2) := by decide +kernel
theorem dX6_bestDip_97 : decode cX6_bestDip 97 = .ok (.iload_n 3, 1) := by decide +kernel
theorem dX6_bestDip_98 : decode cX6_bestDip 98 = .ok (.if_icmp .le 16, 3) := by decide +kernel
theorem dX6_bestDip_101 : decode cX6_bestDip 101 = .ok (.iload 8, 2) := by decide +kernel
theorem dX6_bestDip_103 : decode cX6_bestDip 103 = .ok (.istore_n 3, 1) := by decide +kernel
theorem dX6_bestDip_104 : decode cX6_bestDip 104 = .ok (.bipush 100, 2) := by decide +kernel
theorem dX6_bestDip_106 : decode cX6_bestDip 106 = .ok (.iload 5, 2) := by decide +kernel
theorem dX6_bestDip_108 : decode cX6_bestDip 108 = .ok (.imul, 1) := by decide +kernel
theorem dX6_bestDip_109 : decode cX6_bestDip 109 = .ok (.iload 7, 2) := by decide +kernel
theorem dX6_bestDip_111 : decode cX6_bestDip 111 = .ok (.iadd, 1) := by decide +kernel
theorem dX6_bestDip_112 : decode cX6_bestDip 112 = .ok (.istore 4, 2) := by decide +kernel
theorem dX6_bestDip_114 : decode cX6_bestDip 114 = .ok (.aload_n 0, 1) := by decide +kernel
theorem dX6_bestDip_115 : decode cX6_bestDip 115 = .ok (.getfield 31, 3) := by decide +kernel
theorem dX6_bestDip_118 : decode cX6_bestDip 118 = .ok (.invokevirtual 240, 3) := by decide +kernel
theorem dX6_bestDip_121 : decode cX6_bestDip 121 = .ok (.istore 6, 2) := by decide +kernel
theorem dX6_bestDip_123 : decode cX6_bestDip 123 = .ok (.iinc 7 1, 3) := by decide +kernel
theorem dX6_bestDip_126 : decode cX6_bestDip 126 = .ok (.goto (-79), 3) := by decide +kernel
theorem dX6_bestDip_129 : decode cX6_bestDip 129 = .ok (.iinc 5 1, 3) := by decide +kernel
theorem dX6_bestDip_132 : decode cX6_bestDip 132 = .ok (.goto (-124), 3) := by decide +kernel
theorem dX6_bestDip_135 : decode cX6_bestDip 135 = .ok (.iload 4, 2) := by decide +kernel
theorem dX6_bestDip_137 : decode cX6_bestDip 137 = .ok (.ireturn, 1) := by decide +kernel
theorem dX6_isAsWetAs_0 : decode cX6_isAsWetAs 0 = .ok (.iconst 0, 1) := by decide +kernel
theorem dX6_isAsWetAs_1 : decode cX6_isAsWetAs 1 = .ok (.istore_n 2, 1) := by decide +kernel
theorem dX6_isAsWetAs_2 : decode cX6_isAsWetAs 2 = .ok (.iload_n 2, 1) := by decide +kernel
theorem dX6_isAsWetAs_3 : decode cX6_isAsWetAs 3 = .ok (.aload_n 0, 1) := by decide +kernel
theorem dX6_isAsWetAs_4 : decode cX6_isAsWetAs 4 = .ok (.getfield 162, 3) := by decide +kernel
theorem dX6_isAsWetAs_7 : decode cX6_isAsWetAs 7 = .ok (.if_icmp .ge 26, 3) := by decide +kernel
theorem dX6_isAsWetAs_10 : decode cX6_isAsWetAs 10 = .ok (.aload_n 1, 1) := by decide +kernel
theorem dX6_isAsWetAs_11 : decode cX6_isAsWetAs 11 = .ok (.iload_n 2, 1) := by decide +kernel
theorem dX6_isAsWetAs_12 : decode cX6_isAsWetAs 12 = .ok (.invokevirtual 119, 3) := by decide +kernel
theorem dX6_isAsWetAs_15 : decode cX6_isAsWetAs 15 = .ok (.l2i, 1) := by decide +kernel
theorem dX6_isAsWetAs_16 : decode cX6_isAsWetAs 16 = .ok (.aload_n 0, 1) := by decide +kernel
theorem dX6_isAsWetAs_17 : decode cX6_isAsWetAs 17 = .ok (.getfield 174, 3) := by decide +kernel
theorem dX6_isAsWetAs_20 : decode cX6_isAsWetAs 20 = .ok (.iload_n 2, 1) := by decide +kernel
theorem dX6_isAsWetAs_21 : decode cX6_isAsWetAs 21 = .ok (.iaload, 1) := by decide +kernel
theorem dX6_isAsWetAs_22 : decode cX6_isAsWetAs 22 = .ok (.if_icmp .eq 5, 3) := by decide +kernel
theorem dX6_isAsWetAs_25 : decode cX6_isAsWetAs 25 = .ok (.iconst 0, 1) := by decide +kernel
theorem dX6_isAsWetAs_26 : decode cX6_isAsWetAs 26 = .ok (.ireturn, 1) := by decide +kernel
theorem dX6_isAsWetAs_27 : decode cX6_isAsWetAs 27 = .ok (.iinc 2 1, 3) := by decide +kernel
theorem dX6_isAsWetAs_30 : decode cX6_isAsWetAs 30 = .ok (.goto (-28), 3) := by decide +kernel
theorem dX6_isAsWetAs_33 : decode cX6_isAsWetAs 33 = .ok (.iconst 1, 1) := by decide +kernel
theorem dX6_isAsWetAs_34 : decode cX6_isAsWetAs 34 = .ok (.ireturn, 1) := by decide +kernel
theorem dX6_fillPlateWorths_0 : decode cX6_fillPlateWorths 0 = .ok (.iconst 0, 1) := by decide +kernel
theorem dX6_fillPlateWorths_1 : decode cX6_fillPlateWorths 1 = .ok (.istore 4, 2) := by decide +kernel
theorem dX6_fillPlateWorths_3 : decode cX6_fillPlateWorths 3 = .ok (.iload 4, 2) := by decide +kernel
theorem dX6_fillPlateWorths_5 : decode cX6_fillPlateWorths 5 = .ok (.aload_n 0, 1) := by decide +kernel
theorem dX6_fillPlateWorths_6 : decode cX6_fillPlateWorths 6 = .ok (.getfield 18, 3) := by decide +kernel
theorem dX6_fillPlateWorths_9 : decode cX6_fillPlateWorths 9 = .ok (.getfield 270, 3) := by decide +kernel
theorem dX6_fillPlateWorths_12 : decode cX6_fillPlateWorths 12 = .ok (.if_icmp .ge 108, 3) := by decide +kernel
theorem dX6_fillPlateWorths_15 : decode cX6_fillPlateWorths 15 = .ok (.aload_n 0, 1) := by decide +kernel
theorem dX6_fillPlateWorths_16 : decode cX6_fillPlateWorths 16 = .ok (.getfield 18, 3) := by decide +kernel
theorem dX6_fillPlateWorths_19 : decode cX6_fillPlateWorths 19 = .ok (.iload 4, 2) := by decide +kernel
theorem dX6_fillPlateWorths_21 : decode cX6_fillPlateWorths 21 = .ok (.iload_n 2, 1) := by decide +kernel
theorem dX6_fillPlateWorths_22 : decode cX6_fillPlateWorths 22 = .ok (.iload_n 3, 1) := by decide +kernel
theorem dX6_fillPlateWorths_23 : decode cX6_fillPlateWorths 23 = .ok (.iadd, 1) := by decide +kernel
theorem dX6_fillPlateWorths_24 : decode cX6_fillPlateWorths 24 = .ok (.imul, 1) := by decide +kernel
theorem dX6_fillPlateWorths_25 : decode cX6_fillPlateWorths 25 = .ok (.invokevirtual 359, 3) := by decide +kernel
theorem dX6_fillPlateWorths_28 : decode cX6_fillPlateWorths 28 = .ok (.istore 5, 2) := by decide +kernel
theorem dX6_fillPlateWorths_30 : decode cX6_fillPlateWorths 30 = .ok (.iconst 0, 1) := by decide +kernel
theorem dX6_fillPlateWorths_31 : decode cX6_fillPlateWorths 31 = .ok (.istore 6, 2) := by decide +kernel
theorem dX6_fillPlateWorths_33 : decode cX6_fillPlateWorths 33 = .ok (.iload 6, 2) := by decide +kernel
theorem dX6_fillPlateWorths_35 : decode cX6_fillPlateWorths 35 = .ok (.aload_n 0, 1) := by decide +kernel
theorem dX6_fillPlateWorths_36 : decode cX6_fillPlateWorths 36 = .ok (.getfield 18, 3) := by decide +kernel
theorem dX6_fillPlateWorths_39 : decode cX6_fillPlateWorths 39 = .ok (.getfield 270, 3) := by decide +kernel
theorem dX6_fillPlateWorths_42 : decode cX6_fillPlateWorths 42 = .ok (.if_icmp .ge 72, 3) := by decide +kernel
theorem dX6_fillPlateWorths_45 : decode cX6_fillPlateWorths 45 = .ok (.aload_n 0, 1) := by decide +kernel
theorem dX6_fillPlateWorths_46 : decode cX6_fillPlateWorths 46 = .ok (.getfield 31, 3) := by decide +kernel
theorem dX6_fillPlateWorths_49 : decode cX6_fillPlateWorths 49 = .ok (.aload_n 0, 1) := by decide +kernel
theorem dX6_fillPlateWorths_50 : decode cX6_fillPlateWorths 50 = .ok (.getfield 18, 3) := by decide +kernel
theorem dX6_fillPlateWorths_53 : decode cX6_fillPlateWorths 53 = .ok (.getfield 141, 3) := by decide +kernel
theorem dX6_fillPlateWorths_56 : decode cX6_fillPlateWorths 56 = .ok (.iload 6, 2) := by decide +kernel
theorem dX6_fillPlateWorths_58 : decode cX6_fillPlateWorths 58 = .ok (.aaload, 1) := by decide +kernel
theorem dX6_fillPlateWorths_59 : decode cX6_fillPlateWorths 59 = .ok (.iload 5, 2) := by decide +kernel
theorem dX6_fillPlateWorths_61 : decode cX6_fillPlateWorths 61 = .ok (.invokevirtual 233, 3) := by decide +kernel
theorem dX6_fillPlateWorths_64 : decode cX6_fillPlateWorths 64 = .ok (.aload_n 0, 1) := by decide +kernel
theorem dX6_fillPlateWorths_65 : decode cX6_fillPlateWorths 65 = .ok (.getfield 31, 3) := by decide +kernel
theorem dX6_fillPlateWorths_68 : decode cX6_fillPlateWorths 68 = .ok (.iload_n 1, 1) := by decide +kernel
theorem dX6_fillPlateWorths_69 : decode cX6_fillPlateWorths 69 = .ok (.iload_n 2, 1) := by decide +kernel
theorem dX6_fillPlateWorths_70 : decode cX6_fillPlateWorths 70 = .ok (.invokevirtual 247, 3) := by decide +kernel
theorem dX6_fillPlateWorths_73 : decode cX6_fillPlateWorths 73 = .ok (.aload_n 0, 1) := by decide +kernel
theorem dX6_fillPlateWorths_74 : decode cX6_fillPlateWorths 74 = .ok (.getfield 31, 3) := by decide +kernel
theorem dX6_fillPlateWorths_77 : decode cX6_fillPlateWorths 77 = .ok (.iconst 0, 1) := by decide +kernel
theorem dX6_fillPlateWorths_78 : decode cX6_fillPlateWorths 78 = .ok (.iload_n 3, 1) := by decide +kernel
theorem dX6_fillPlateWorths_79 : decode cX6_fillPlateWorths 79 = .ok (.invokevirtual 247, 3) := by decide +kernel
theorem dX6_fillPlateWorths_82 : decode cX6_fillPlateWorths 82 = .ok (.aload_n 0, 1) := by decide +kernel
theorem dX6_fillPlateWorths_83 : decode cX6_fillPlateWorths 83 = .ok (.getfield 65, 3) := by decide +kernel
theorem dX6_fillPlateWorths_86 : decode cX6_fillPlateWorths 86 = .ok (.iload 6, 2) := by decide +kernel
theorem dX6_fillPlateWorths_88 : decode cX6_fillPlateWorths 88 = .ok (.iconst 5, 1) := by decide +kernel
theorem dX6_fillPlateWorths_89 : decode cX6_fillPlateWorths 89 = .ok (.imul, 1) := by decide +kernel
theorem dX6_fillPlateWorths_90 : decode cX6_fillPlateWorths 90 = .ok (.iload 4, 2) := by decide +kernel
theorem dX6_fillPlateWorths_92 : decode cX6_fillPlateWorths 92 = .ok (.iadd, 1) := by decide +kernel
theorem dX6_fillPlateWorths_93 : decode cX6_fillPlateWorths 93 = .ok (.aload_n 0, 1) := by decide +kernel
theorem dX6_fillPlateWorths_94 : decode cX6_fillPlateWorths 94 = .ok (.getfield 18, 3) := by decide +kernel
theorem dX6_fillPlateWorths_97 : decode cX6_fillPlateWorths 97 = .ok (.aload_n 0, 1) := by decide +kernel
theorem dX6_fillPlateWorths_98 : decode cX6_fillPlateWorths 98 = .ok (.getfield 31, 3) := by decide +kernel
theorem dX6_fillPlateWorths_101 : decode cX6_fillPlateWorths 101 = .ok (.getfield 225, 3) := by decide +kernel
theorem dX6_fillPlateWorths_104 : decode cX6_fillPlateWorths 104 = .ok (.invokevirtual 253, 3) := by decide +kernel
theorem dX6_fillPlateWorths_107 : decode cX6_fillPlateWorths 107 = .ok (.iastore, 1) := by decide +kernel
theorem dX6_fillPlateWorths_108 : decode cX6_fillPlateWorths 108 = .ok (.iinc 6 1, 3) := by decide +kernel
theorem dX6_fillPlateWorths_111 : decode cX6_fillPlateWorths 111 = .ok (.goto (-78), 3) := by decide +kernel
theorem dX6_fillPlateWorths_114 : decode cX6_fillPlateWorths 114 = .ok (.iinc 4 1, 3) := by decide +kernel
theorem dX6_fillPlateWorths_117 : decode cX6_fillPlateWorths 117 = .ok (.goto (-114), 3) := by decide +kernel
theorem dX6_fillPlateWorths_120 : decode cX6_fillPlateWorths 120 = .ok (.return_, 1) := by decide +kernel
theorem dX6_findBestOrder_0 : decode cX6_findBestOrder 0 = .ok (.aload_n 0, 1) := by decide +kernel
theorem dX6_findBestOrder_1 : decode cX6_findBestOrder 1 = .ok (.getfield 18, 3) := by decide +kernel
theorem dX6_findBestOrder_4 : decode cX6_findBestOrder 4 = .ok (.getfield 270, 3) := by decide +kernel
theorem dX6_findBestOrder_7 : decode cX6_findBestOrder 7 = .ok (.istore_n 1, 1) := by decide +kernel
theorem dX6_findBestOrder_8 : decode cX6_findBestOrder 8 = .ok (.iconst 0, 1) := by decide +kernel
theorem dX6_findBestOrder_9 : decode cX6_findBestOrder 9 = .ok (.istore_n 2, 1) := by decide +kernel
theorem dX6_findBestOrder_10 : decode cX6_findBestOrder 10 = .ok (.iload_n 2, 1) := by decide +kernel
theorem dX6_findBestOrder_11 : decode cX6_findBestOrder 11 = .ok (.iload_n 1, 1) := by decide +kernel
theorem dX6_findBestOrder_12 : decode cX6_findBestOrder 12 = .ok (.if_icmp .ge 16, 3) := by decide +kernel
theorem dX6_findBestOrder_15 : decode cX6_findBestOrder 15 = .ok (.aload_n 0, 1) := by decide +kernel
theorem dX6_findBestOrder_16 : decode cX6_findBestOrder 16 = .ok (.getfield 68, 3) := by decide +kernel
theorem dX6_findBestOrder_19 : decode cX6_findBestOrder 19 = .ok (.iload_n 2, 1) := by decide +kernel
theorem dX6_findBestOrder_20 : decode cX6_findBestOrder 20 = .ok (.iload_n 2, 1) := by decide +kernel
theorem dX6_findBestOrder_21 : decode cX6_findBestOrder 21 = .ok (.iastore, 1) := by decide +kernel
theorem dX6_findBestOrder_22 : decode cX6_findBestOrder 22 = .ok (.iinc 2 1, 3) := by decide +kernel
theorem dX6_findBestOrder_25 : decode cX6_findBestOrder 25 = .ok (.goto (-15), 3) := by decide +kernel
theorem dX6_findBestOrder_28 : decode cX6_findBestOrder 28 = .ok (.iconst (-1), 1) := by decide +kernel
theorem dX6_findBestOrder_29 : decode cX6_findBestOrder 29 = .ok (.istore_n 2, 1) := by decide +kernel
theorem dX6_findBestOrder_30 : decode cX6_findBestOrder 30 = .ok (.iconst 1, 1) := by decide +kernel
theorem dX6_findBestOrder_31 : decode cX6_findBestOrder 31 = .ok (.istore_n 3, 1) := by decide +kernel
theorem dX6_findBestOrder_32 : decode cX6_findBestOrder 32 = .ok (.iconst 0, 1) := by decide +kernel
theorem dX6_findBestOrder_33 : decode cX6_findBestOrder 33 = .ok (.istore 4, 2) := by decide +kernel
theorem dX6_findBestOrder_35 : decode cX6_findBestOrder 35 = .ok (.iload 4, 2) := by decide +kernel
theorem dX6_findBestOrder_37 : decode cX6_findBestOrder 37 = .ok (.bipush 120, 2) := by decide +kernel
theorem dX6_findBestOrder_39 : decode cX6_findBestOrder 39 = .ok (.if_icmp .ge 82, 3) := by decide +kernel
theorem dX6_findBestOrder_42 : decode cX6_findBestOrder 42 = .ok (.iload_n 3, 1) := by decide +kernel
theorem dX6_findBestOrder_43 : decode cX6_findBestOrder 43 = .ok (.ifCond .eq 78, 3) := by decide +kernel
theorem dX6_findBestOrder_46 : decode cX6_findBestOrder 46 = .ok (.iconst 0, 1) := by decide +kernel
theorem dX6_findBestOrder_47 : decode cX6_findBestOrder 47 = .ok (.istore 5, 2) := by decide +kernel
theorem dX6_findBestOrder_49 : decode cX6_findBestOrder 49 = .ok (.iconst 0, 1) := by decide +kernel
theorem dX6_findBestOrder_50 : decode cX6_findBestOrder 50 = .ok (.istore 6, 2) := by decide +kernel
theorem dX6_findBestOrder_52 : decode cX6_findBestOrder 52 = .ok (.iload 6, 2) := by decide +kernel
theorem dX6_findBestOrder_54 : decode cX6_findBestOrder 54 = .ok (.iload_n 1, 1) := by decide +kernel
theorem dX6_findBestOrder_55 : decode cX6_findBestOrder 55 = .ok (.if_icmp .ge 31, 3) := by decide +kernel
theorem dX6_findBestOrder_58 : decode cX6_findBestOrder 58 = .ok (.iload 5, 2) := by decide +kernel
theorem dX6_findBestOrder_60 : decode cX6_findBestOrder 60 = .ok (.aload_n 0, 1) := by decide +kernel
theorem dX6_findBestOrder_61 : decode cX6_findBestOrder 61 = .ok (.getfield 65, 3) := by decide +kernel
theorem dX6_findBestOrder_64 : decode cX6_findBestOrder 64 = .ok (.aload_n 0, 1) := by decide +kernel
theorem dX6_findBestOrder_65 : decode cX6_findBestOrder 65 = .ok (.getfield 68, 3) := by decide +kernel
theorem dX6_findBestOrder_68 : decode cX6_findBestOrder 68 = .ok (.iload 6, 2) := by decide +kernel
theorem dX6_findBestOrder_70 : decode cX6_findBestOrder 70 = .ok (.iaload, 1) := by decide +kernel
theorem dX6_findBestOrder_71 : decode cX6_findBestOrder 71 = .ok (.iconst 5, 1) := by decide +kernel
theorem dX6_findBestOrder_72 : decode cX6_findBestOrder 72 = .ok (.imul, 1) := by decide +kernel
theorem dX6_findBestOrder_73 : decode cX6_findBestOrder 73 = .ok (.iload 6, 2) := by decide +kernel
theorem dX6_findBestOrder_75 : decode cX6_findBestOrder 75 = .ok (.iadd, 1) := by decide +kernel
theorem dX6_findBestOrder_76 : decode cX6_findBestOrder 76 = .ok (.iaload, 1) := by decide +kernel
theorem dX6_findBestOrder_77 : decode cX6_findBestOrder 77 = .ok (.iadd, 1) := by decide +kernel
theorem dX6_findBestOrder_78 : decode cX6_findBestOrder 78 = .ok (.istore 5, 2) := by decide +kernel
theorem dX6_findBestOrder_80 : decode cX6_findBestOrder 80 = .ok (.iinc 6 1, 3) := by decide +kernel
theorem dX6_findBestOrder_83 : decode cX6_findBestOrder 83 = .ok (.goto (-31), 3) := by decide +kernel
theorem dX6_findBestOrder_86 : decode cX6_findBestOrder 86 = .ok (.iload 5, 2) := by decide +kernel
theorem dX6_findBestOrder_88 : decode cX6_findBestOrder 88 = .ok (.iload_n 2, 1) := by decide +kernel
theorem dX6_findBestOrder_89 : decode cX6_findBestOrder 89 = .ok (.if_icmp .le 20, 3) := by decide +kernel
theorem dX6_findBestOrder_92 : decode cX6_findBestOrder 92 = .ok (.iload 5, 2) := by decide +kernel
theorem dX6_findBestOrder_94 : decode cX6_findBestOrder 94 = .ok (.istore_n 2, 1) := by decide +kernel
theorem dX6_findBestOrder_95 : decode cX6_findBestOrder 95 = .ok (.aload_n 0, 1) := by decide +kernel
theorem dX6_findBestOrder_96 : decode cX6_findBestOrder 96 = .ok (.getfield 68, 3) := by decide +kernel
theorem dX6_findBestOrder_99 : decode cX6_findBestOrder 99 = .ok (.iconst 0, 1) := by decide +kernel
theorem dX6_findBestOrder_100 : decode cX6_findBestOrder 100 = .ok (.aload_n 0, 1) := by decide +kernel
theorem dX6_findBestOrder_101 : decode cX6_findBestOrder 101 = .ok (.getfield 71, 3) := by decide +kernel
theorem dX6_findBestOrder_104 : decode cX6_findBestOrder 104 = .ok (.iconst 0, 1) := by decide +kernel
theorem dX6_findBestOrder_105 : decode cX6_findBestOrder 105 = .ok (.iload_n 1, 1) := by decide +kernel
theorem dX6_findBestOrder_106 : decode cX6_findBestOrder 106 = .ok (.invokestatic 113, 3) := by decide +kernel
theorem dX6_findBestOrder_109 : decode cX6_findBestOrder 109 = .ok (.aload_n 0, 1) := by decide +kernel
theorem dX6_findBestOrder_110 : decode cX6_findBestOrder 110 = .ok (.iload_n 1, 1) := by decide +kernel
theorem dX6_findBestOrder_111 : decode cX6_findBestOrder 111 = .ok (.invokevirtual 362, 3) := by decide +kernel
theorem dX6_findBestOrder_114 : decode cX6_findBestOrder 114 = .ok (.istore_n 3, 1) := by decide +kernel
theorem dX6_findBestOrder_115 : decode cX6_findBestOrder 115 = .ok (.iinc 4 1, 3) := by decide +kernel
theorem dX6_findBestOrder_118 : decode cX6_findBestOrder 118 = .ok (.goto (-83), 3) := by decide +kernel
theorem dX6_findBestOrder_121 : decode cX6_findBestOrder 121 = .ok (.iload_n 2, 1) := by decide +kernel
theorem dX6_findBestOrder_122 : decode cX6_findBestOrder 122 = .ok (.ireturn, 1) := by decide +kernel
theorem dX6_toNextOrder_0 : decode cX6_toNextOrder 0 = .ok (.iload_n 1, 1) := by decide +kernel
theorem dX6_toNextOrder_1 : decode cX6_toNextOrder 1 = .ok (.iconst 2, 1) := by decide +kernel
theorem dX6_toNextOrder_2 : decode cX6_toNextOrder 2 = .ok (.isub, 1) := by decide +kernel
theorem dX6_toNextOrder_3 : decode cX6_toNextOrder 3 = .ok (.istore_n 2, 1) := by decide +kernel
theorem dX6_toNextOrder_4 : decode cX6_toNextOrder 4 = .ok (.iload_n 2, 1) := by decide +kernel
theorem dX6_toNextOrder_5 : decode cX6_toNextOrder 5 = .ok (.ifCond .lt 26, 3) := by decide +kernel
theorem dX6_toNextOrder_8 : decode cX6_toNextOrder 8 = .ok (.aload_n 0, 1) := by decide +kernel
theorem dX6_toNextOrder_9 : decode cX6_toNextOrder 9 = .ok (.getfield 68, 3) := by decide +kernel
theorem dX6_toNextOrder_12 : decode cX6_toNextOrder 12 = .ok (.iload_n 2, 1) := by decide +kernel
theorem dX6_toNextOrder_13 : decode cX6_toNextOrder 13 = .ok (.iaload, 1) := by decide +kernel
theorem dX6_toNextOrder_14 : decode cX6_toNextOrder 14 = .ok (.aload_n 0, 1) := by decide +kernel
theorem dX6_toNextOrder_15 : decode cX6_toNextOrder 15 = .ok (.getfield 68, 3) := by decide +kernel
theorem dX6_toNextOrder_18 : decode cX6_toNextOrder 18 = .ok (.iload_n 2, 1) := by decide +kernel
theorem dX6_toNextOrder_19 : decode cX6_toNextOrder 19 = .ok (.iconst 1, 1) := by decide +kernel
theorem dX6_toNextOrder_20 : decode cX6_toNextOrder 20 = .ok (.iadd, 1) := by decide +kernel
theorem dX6_toNextOrder_21 : decode cX6_toNextOrder 21 = .ok (.iaload, 1) := by decide +kernel
theorem dX6_toNextOrder_22 : decode cX6_toNextOrder 22 = .ok (.if_icmp .le 9, 3) := by decide +kernel
theorem dX6_toNextOrder_25 : decode cX6_toNextOrder 25 = .ok (.iinc 2 (-1), 3) := by decide +kernel
theorem dX6_toNextOrder_28 : decode cX6_toNextOrder 28 = .ok (.goto (-24), 3) := by decide +kernel
theorem dX6_toNextOrder_31 : decode cX6_toNextOrder 31 = .ok (.iload_n 2, 1) := by decide +kernel
theorem dX6_toNextOrder_32 : decode cX6_toNextOrder 32 = .ok (.ifCond .ge 5, 3) := by decide +kernel
theorem dX6_toNextOrder_35 : decode cX6_toNextOrder 35 = .ok (.iconst 0, 1) := by decide +kernel
theorem dX6_toNextOrder_36 : decode cX6_toNextOrder 36 = .ok (.ireturn, 1) := by decide +kernel
theorem dX6_toNextOrder_37 : decode cX6_toNextOrder 37 = .ok (.iload_n 1, 1) := by decide +kernel
theorem dX6_toNextOrder_38 : decode cX6_toNextOrder 38 = .ok (.iconst 1, 1) := by decide +kernel
theorem dX6_toNextOrder_39 : decode cX6_toNextOrder 39 = .ok (.isub, 1) := by decide +kernel
theorem dX6_toNextOrder_40 : decode cX6_toNextOrder 40 = .ok (.istore_n 3, 1) := by decide +kernel
theorem dX6_toNextOrder_41 : decode cX6_toNextOrder 41 = .ok (.iload_n 3, 1) := by decide +kernel
theorem dX6_toNextOrder_42 : decode cX6_toNextOrder 42 = .ok (.iload_n 2, 1) := by decide +kernel
theorem dX6_toNextOrder_43 : decode cX6_toNextOrder 43 = .ok (.iconst 1, 1) := by decide +kernel
theorem dX6_toNextOrder_44 : decode cX6_toNextOrder 44 = .ok (.iadd, 1) := by decide +kernel
theorem dX6_toNextOrder_45 : decode cX6_toNextOrder 45 = .ok (.if_icmp .le 24, 3) := by decide +kernel
theorem dX6_toNextOrder_48 : decode cX6_toNextOrder 48 = .ok (.aload_n 0, 1) := by decide +kernel
theorem dX6_toNextOrder_49 : decode cX6_toNextOrder 49 = .ok (.getfield 68, 3) := by decide +kernel
theorem dX6_toNextOrder_52 : decode cX6_toNextOrder 52 = .ok (.iload_n 3, 1) := by decide +kernel
theorem dX6_toNextOrder_53 : decode cX6_toNextOrder 53 = .ok (.iaload, 1) := by decide +kernel
theorem dX6_toNextOrder_54 : decode cX6_toNextOrder 54 = .ok (.aload_n 0, 1) := by decide +kernel
theorem dX6_toNextOrder_55 : decode cX6_toNextOrder 55 = .ok (.getfield 68, 3) := by decide +kernel
theorem dX6_toNextOrder_58 : decode cX6_toNextOrder 58 = .ok (.iload_n 2, 1) := by decide +kernel
theorem dX6_toNextOrder_59 : decode cX6_toNextOrder 59 = .ok (.iaload, 1) := by decide +kernel
theorem dX6_toNextOrder_60 : decode cX6_toNextOrder 60 = .ok (.if_icmp .ge 9, 3) := by decide +kernel
theorem dX6_toNextOrder_63 : decode cX6_toNextOrder 63 = .ok (.iinc 3 (-1), 3) := by decide +kernel
theorem dX6_toNextOrder_66 : decode cX6_toNextOrder 66 = .ok (.goto (-25), 3) := by decide +kernel
theorem dX6_toNextOrder_69 : decode cX6_toNextOrder 69 = .ok (.aload_n 0, 1) := by decide +kernel
theorem dX6_toNextOrder_70 : decode cX6_toNextOrder 70 = .ok (.iload_n 2, 1) := by decide +kernel
theorem dX6_toNextOrder_71 : decode cX6_toNextOrder 71 = .ok (.iload_n 3, 1) := by decide +kernel
theorem dX6_toNextOrder_72 : decode cX6_toNextOrder 72 = .ok (.invokevirtual 365, 3) := by decide +kernel
theorem dX6_toNextOrder_75 : decode cX6_toNextOrder 75 = .ok (.iload_n 2, 1) := by decide +kernel
theorem dX6_toNextOrder_76 : decode cX6_toNextOrder 76 = .ok (.iconst 1, 1) := by decide +kernel
theorem dX6_toNextOrder_77 : decode cX6_toNextOrder 77 = .ok (.iadd, 1) := by decide +kernel
theorem dX6_toNextOrder_78 : decode cX6_toNextOrder 78 = .ok (.istore 4, 2) := by decide +kernel
theorem dX6_toNextOrder_80 : decode cX6_toNextOrder 80 = .ok (.iload_n 1, 1) := by decide +kernel
theorem dX6_toNextOrder_81 : decode cX6_toNextOrder 81 = .ok (.iconst 1, 1) := by decide +kernel
theorem dX6_toNextOrder_82 : decode cX6_toNextOrder 82 = .ok (.isub, 1) := by decide +kernel
theorem dX6_toNextOrder_83 : decode cX6_toNextOrder 83 = .ok (.istore 5, 2) := by decide +kernel
theorem dX6_toNextOrder_85 : decode cX6_toNextOrder 85 = .ok (.iload 4, 2) := by decide +kernel
theorem dX6_toNextOrder_87 : decode cX6_toNextOrder 87 = .ok (.iload 5, 2) := by decide +kernel
theorem dX6_toNextOrder_89 : decode cX6_toNextOrder 89 = .ok (.if_icmp .ge 20, 3) := by decide +kernel
theorem dX6_toNextOrder_92 : decode cX6_toNextOrder 92 = .ok (.aload_n 0, 1) := by decide +kernel
theorem dX6_toNextOrder_93 : decode cX6_toNextOrder 93 = .ok (.iload 4, 2) := by decide +kernel
theorem dX6_toNextOrder_95 : decode cX6_toNextOrder 95 = .ok (.iload 5, 2) := by decide +kernel
theorem dX6_toNextOrder_97 : decode cX6_toNextOrder 97 = .ok (.invokevirtual 365, 3) := by decide +kernel
theorem dX6_toNextOrder_100 : decode cX6_toNextOrder 100 = .ok (.iinc 4 1, 3) := by decide +kernel
theorem dX6_toNextOrder_103 : decode cX6_toNextOrder 103 = .ok (.iinc 5 (-1), 3) := by decide +kernel
theorem dX6_toNextOrder_106 : decode cX6_toNextOrder 106 = .ok (.goto (-21), 3) := by decide +kernel
theorem dX6_toNextOrder_109 : decode cX6_toNextOrder 109 = .ok (.iconst 1, 1) := by decide +kernel
theorem dX6_toNextOrder_110 : decode cX6_toNextOrder 110 = .ok (.ireturn, 1) := by decide +kernel
theorem dX6_swapInOrder_0 : decode cX6_swapInOrder 0 = .ok (.aload_n 0, 1) := by decide +kernel
theorem dX6_swapInOrder_1 : decode cX6_swapInOrder 1 = .ok (.getfield 68, 3) := by decide +kernel
theorem dX6_swapInOrder_4 : decode cX6_swapInOrder 4 = .ok (.iload_n 1, 1) := by decide +kernel
theorem dX6_swapInOrder_5 : decode cX6_swapInOrder 5 = .ok (.iaload, 1) := by decide +kernel
theorem dX6_swapInOrder_6 : decode cX6_swapInOrder 6 = .ok (.istore_n 3, 1) := by decide +kernel
theorem dX6_swapInOrder_7 : decode cX6_swapInOrder 7 = .ok (.aload_n 0, 1) := by decide +kernel
theorem dX6_swapInOrder_8 : decode cX6_swapInOrder 8 = .ok (.getfield 68, 3) := by decide +kernel
theorem dX6_swapInOrder_11 : decode cX6_swapInOrder 11 = .ok (.iload_n 1, 1) := by decide +kernel
theorem dX6_swapInOrder_12 : decode cX6_swapInOrder 12 = .ok (.aload_n 0, 1) := by decide +kernel
theorem dX6_swapInOrder_13 : decode cX6_swapInOrder 13 = .ok (.getfield 68, 3) := by decide +kernel
theorem dX6_swapInOrder_16 : decode cX6_swapInOrder 16 = .ok (.iload_n 2, 1) := by decide +kernel
theorem dX6_swapInOrder_17 : decode cX6_swapInOrder 17 = .ok (.iaload, 1) := by decide +kernel
theorem dX6_swapInOrder_18 : decode cX6_swapInOrder 18 = .ok (.iastore, 1) := by decide +kernel
theorem dX6_swapInOrder_19 : decode cX6_swapInOrder 19 = .ok (.aload_n 0, 1) := by decide +kernel
theorem dX6_swapInOrder_20 : decode cX6_swapInOrder 20 = .ok (.getfield 68, 3) := by decide +kernel
theorem dX6_swapInOrder_23 : decode cX6_swapInOrder 23 = .ok (.iload_n 2, 1) := by decide +kernel
theorem dX6_swapInOrder_24 : decode cX6_swapInOrder 24 = .ok (.iload_n 3, 1) := by decide +kernel
theorem dX6_swapInOrder_25 : decode cX6_swapInOrder 25 = .ok (.iastore, 1) := by decide +kernel
theorem dX6_swapInOrder_26 : decode cX6_swapInOrder 26 = .ok (.return_, 1) := by decide +kernel
