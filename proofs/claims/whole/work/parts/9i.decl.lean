theorem d_La_cell_0 : decode method_2_code 0 = .ok (.iload_n 1, 1) := by decide +kernel
theorem d_La_cell_1 : decode method_2_code 1 = .ok (.aload_n 0, 1) := by decide +kernel
theorem d_La_cell_2 : decode method_2_code 2 = .ok (.arraylength, 1) := by decide +kernel
theorem d_La_cell_3 : decode method_2_code 3 = .ok (.if_icmp .ge 9, 3) := by decide +kernel
theorem d_La_cell_6 : decode method_2_code 6 = .ok (.aload_n 0, 1) := by decide +kernel
theorem d_La_cell_7 : decode method_2_code 7 = .ok (.iload_n 1, 1) := by decide +kernel
theorem d_La_cell_8 : decode method_2_code 8 = .ok (.iaload, 1) := by decide +kernel
theorem d_La_cell_9 : decode method_2_code 9 = .ok (.goto 4, 3) := by decide +kernel
theorem d_La_cell_12 : decode method_2_code 12 = .ok (.iconst 0, 1) := by decide +kernel
theorem d_La_cell_13 : decode method_2_code 13 = .ok (.ireturn, 1) := by decide +kernel
theorem d_La_shape_0 : decode method_3_code 0 = .ok (.aload_n 3, 1) := by decide +kernel
theorem d_La_shape_1 : decode method_3_code 1 = .ok (.iconst 0, 1) := by decide +kernel
theorem d_La_shape_2 : decode method_3_code 2 = .ok (.aload_n 0, 1) := by decide +kernel
theorem d_La_shape_3 : decode method_3_code 3 = .ok (.iload_n 1, 1) := by decide +kernel
theorem d_La_shape_4 : decode method_3_code 4 = .ok (.iload_n 2, 1) := by decide +kernel
theorem d_La_shape_5 : decode method_3_code 5 = .ok (.invokevirtual 7, 3) := by decide +kernel
theorem d_La_shape_8 : decode method_3_code 8 = .ok (.i2l, 1) := by decide +kernel
theorem d_La_shape_9 : decode method_3_code 9 = .ok (.lastore, 1) := by decide +kernel
theorem d_La_shape_10 : decode method_3_code 10 = .ok (.goto 11, 3) := by decide +kernel
theorem d_La_shape_13 : decode method_3_code 13 = .ok (.astore 4, 2) := by decide +kernel
theorem d_La_shape_15 : decode method_3_code 15 = .ok (.iconst 1, 1) := by decide +kernel
theorem d_La_shape_16 : decode method_3_code 16 = .ok (.ireturn, 1) := by decide +kernel
theorem d_La_shape_17 : decode method_3_code 17 = .ok (.astore 4, 2) := by decide +kernel
theorem d_La_shape_19 : decode method_3_code 19 = .ok (.iconst 2, 1) := by decide +kernel
theorem d_La_shape_20 : decode method_3_code 20 = .ok (.ireturn, 1) := by decide +kernel
theorem d_La_shape_21 : decode method_3_code 21 = .ok (.iconst 0, 1) := by decide +kernel
theorem d_La_shape_22 : decode method_3_code 22 = .ok (.ireturn, 1) := by decide +kernel
theorem d_La_black_0 : decode method_4_code 0 = .ok (.aload_n 3, 1) := by decide +kernel
theorem d_La_black_1 : decode method_4_code 1 = .ok (.iconst 0, 1) := by decide +kernel
theorem d_La_black_2 : decode method_4_code 2 = .ok (.aload_n 0, 1) := by decide +kernel
theorem d_La_black_3 : decode method_4_code 3 = .ok (.iload_n 1, 1) := by decide +kernel
theorem d_La_black_4 : decode method_4_code 4 = .ok (.iload_n 2, 1) := by decide +kernel
theorem d_La_black_5 : decode method_4_code 5 = .ok (.invokevirtual 17, 3) := by decide +kernel
theorem d_La_black_8 : decode method_4_code 8 = .ok (.ifCond .eq 7, 3) := by decide +kernel
theorem d_La_black_11 : decode method_4_code 11 = .ok (.lconst 1, 1) := by decide +kernel
theorem d_La_black_12 : decode method_4_code 12 = .ok (.goto 4, 3) := by decide +kernel
theorem d_La_black_15 : decode method_4_code 15 = .ok (.lconst 0, 1) := by decide +kernel
theorem d_La_black_16 : decode method_4_code 16 = .ok (.lastore, 1) := by decide +kernel
theorem d_La_black_17 : decode method_4_code 17 = .ok (.goto 7, 3) := by decide +kernel
theorem d_La_black_20 : decode method_4_code 20 = .ok (.astore 4, 2) := by decide +kernel
theorem d_La_black_22 : decode method_4_code 22 = .ok (.iconst 1, 1) := by decide +kernel
theorem d_La_black_23 : decode method_4_code 23 = .ok (.ireturn, 1) := by decide +kernel
theorem d_La_black_24 : decode method_4_code 24 = .ok (.iconst 0, 1) := by decide +kernel
theorem d_La_black_25 : decode method_4_code 25 = .ok (.ireturn, 1) := by decide +kernel
theorem d_La_law_0 : decode code 0 = .ok (.new 8, 3) := by decide +kernel
theorem d_La_law_3 : decode code 3 = .ok (.dup, 1) := by decide +kernel
theorem d_La_law_4 : decode code 4 = .ok (.aload_n 0, 1) := by decide +kernel
theorem d_La_law_5 : decode code 5 = .ok (.iconst 0, 1) := by decide +kernel
theorem d_La_law_6 : decode code 6 = .ok (.invokestatic 23, 3) := by decide +kernel
theorem d_La_law_9 : decode code 9 = .ok (.aload_n 0, 1) := by decide +kernel
theorem d_La_law_10 : decode code 10 = .ok (.iconst 1, 1) := by decide +kernel
theorem d_La_law_11 : decode code 11 = .ok (.invokestatic 23, 3) := by decide +kernel
theorem d_La_law_14 : decode code 14 = .ok (.aload_n 0, 1) := by decide +kernel
theorem d_La_law_15 : decode code 15 = .ok (.iconst 2, 1) := by decide +kernel
theorem d_La_law_16 : decode code 16 = .ok (.invokestatic 23, 3) := by decide +kernel
theorem d_La_law_19 : decode code 19 = .ok (.invokespecial 29, 3) := by decide +kernel
theorem d_La_law_22 : decode code 22 = .ok (.astore_n 1, 1) := by decide +kernel
theorem d_La_law_23 : decode code 23 = .ok (.new 32, 3) := by decide +kernel
theorem d_La_law_26 : decode code 26 = .ok (.dup, 1) := by decide +kernel
theorem d_La_law_27 : decode code 27 = .ok (.aload_n 0, 1) := by decide +kernel
theorem d_La_law_28 : decode code 28 = .ok (.iconst 0, 1) := by decide +kernel
theorem d_La_law_29 : decode code 29 = .ok (.invokestatic 23, 3) := by decide +kernel
theorem d_La_law_32 : decode code 32 = .ok (.aload_n 0, 1) := by decide +kernel
theorem d_La_law_33 : decode code 33 = .ok (.iconst 1, 1) := by decide +kernel
theorem d_La_law_34 : decode code 34 = .ok (.invokestatic 23, 3) := by decide +kernel
theorem d_La_law_37 : decode code 37 = .ok (.aload_n 0, 1) := by decide +kernel
theorem d_La_law_38 : decode code 38 = .ok (.iconst 2, 1) := by decide +kernel
theorem d_La_law_39 : decode code 39 = .ok (.invokestatic 23, 3) := by decide +kernel
theorem d_La_law_42 : decode code 42 = .ok (.invokespecial 34, 3) := by decide +kernel
theorem d_La_law_45 : decode code 45 = .ok (.astore_n 2, 1) := by decide +kernel
theorem d_La_law_46 : decode code 46 = .ok (.iconst 1, 1) := by decide +kernel
theorem d_La_law_47 : decode code 47 = .ok (.newarray .long, 2) := by decide +kernel
theorem d_La_law_49 : decode code 49 = .ok (.astore_n 3, 1) := by decide +kernel
theorem d_La_law_50 : decode code 50 = .ok (.iconst 3, 1) := by decide +kernel
theorem d_La_law_51 : decode code 51 = .ok (.istore 4, 2) := by decide +kernel
theorem d_La_law_53 : decode code 53 = .ok (.iload 4, 2) := by decide +kernel
theorem d_La_law_55 : decode code 55 = .ok (.aload_n 0, 1) := by decide +kernel
theorem d_La_law_56 : decode code 56 = .ok (.arraylength, 1) := by decide +kernel
theorem d_La_law_57 : decode code 57 = .ok (.bipush 7, 2) := by decide +kernel
theorem d_La_law_59 : decode code 59 = .ok (.isub, 1) := by decide +kernel
theorem d_La_law_60 : decode code 60 = .ok (.if_icmp .gt 944, 3) := by decide +kernel
theorem d_La_law_63 : decode code 63 = .ok (.aload_n 0, 1) := by decide +kernel
theorem d_La_law_64 : decode code 64 = .ok (.iload 4, 2) := by decide +kernel
theorem d_La_law_66 : decode code 66 = .ok (.iaload, 1) := by decide +kernel
theorem d_La_law_67 : decode code 67 = .ok (.bipush 15, 2) := by decide +kernel
theorem d_La_law_69 : decode code 69 = .ok (.iand, 1) := by decide +kernel
theorem d_La_law_70 : decode code 70 = .ok (.tableswitch 928 0 15 #[78, 146, 273, 310, 377, 402, 463, 512, 573, 680, 691, 729, 804, 841, 866, 903], 78) := by decide +kernel
theorem d_La_law_148 : decode code 148 = .ok (.aload_n 1, 1) := by decide +kernel
theorem d_La_law_149 : decode code 149 = .ok (.aload_n 0, 1) := by decide +kernel
theorem d_La_law_150 : decode code 150 = .ok (.iload 4, 2) := by decide +kernel
theorem d_La_law_152 : decode code 152 = .ok (.iconst 1, 1) := by decide +kernel
theorem d_La_law_153 : decode code 153 = .ok (.iadd, 1) := by decide +kernel
theorem d_La_law_154 : decode code 154 = .ok (.iaload, 1) := by decide +kernel
theorem d_La_law_155 : decode code 155 = .ok (.aload_n 0, 1) := by decide +kernel
theorem d_La_law_156 : decode code 156 = .ok (.iload 4, 2) := by decide +kernel
theorem d_La_law_158 : decode code 158 = .ok (.iconst 2, 1) := by decide +kernel
theorem d_La_law_159 : decode code 159 = .ok (.iadd, 1) := by decide +kernel
theorem d_La_law_160 : decode code 160 = .ok (.iaload, 1) := by decide +kernel
theorem d_La_law_161 : decode code 161 = .ok (.aload_n 3, 1) := by decide +kernel
theorem d_La_law_162 : decode code 162 = .ok (.invokestatic 35, 3) := by decide +kernel
theorem d_La_law_165 : decode code 165 = .ok (.istore 5, 2) := by decide +kernel
theorem d_La_law_167 : decode code 167 = .ok (.aload_n 2, 1) := by decide +kernel
theorem d_La_law_168 : decode code 168 = .ok (.aload_n 0, 1) := by decide +kernel
theorem d_La_law_169 : decode code 169 = .ok (.iload 4, 2) := by decide +kernel
theorem d_La_law_171 : decode code 171 = .ok (.iconst 1, 1) := by decide +kernel
theorem d_La_law_172 : decode code 172 = .ok (.iadd, 1) := by decide +kernel
theorem d_La_law_173 : decode code 173 = .ok (.iaload, 1) := by decide +kernel
theorem d_La_law_174 : decode code 174 = .ok (.aload_n 0, 1) := by decide +kernel
theorem d_La_law_175 : decode code 175 = .ok (.iload 4, 2) := by decide +kernel
theorem d_La_law_177 : decode code 177 = .ok (.iconst 2, 1) := by decide +kernel
theorem d_La_law_178 : decode code 178 = .ok (.iadd, 1) := by decide +kernel
theorem d_La_law_179 : decode code 179 = .ok (.iaload, 1) := by decide +kernel
theorem d_La_law_180 : decode code 180 = .ok (.invokevirtual 38, 3) := by decide +kernel
theorem d_La_law_183 : decode code 183 = .ok (.istore 6, 2) := by decide +kernel
theorem d_La_law_185 : decode code 185 = .ok (.aload_n 2, 1) := by decide +kernel
theorem d_La_law_186 : decode code 186 = .ok (.invokevirtual 39, 3) := by decide +kernel
theorem d_La_law_189 : decode code 189 = .ok (.iload 5, 2) := by decide +kernel
theorem d_La_law_191 : decode code 191 = .ok (.if_icmp .eq 5, 3) := by decide +kernel
theorem d_La_law_194 : decode code 194 = .ok (.iconst 0, 1) := by decide +kernel
theorem d_La_law_195 : decode code 195 = .ok (.ireturn, 1) := by decide +kernel
theorem d_La_law_196 : decode code 196 = .ok (.iload 5, 2) := by decide +kernel
theorem d_La_law_198 : decode code 198 = .ok (.ifCond .ne 15, 3) := by decide +kernel
theorem d_La_law_201 : decode code 201 = .ok (.aload_n 3, 1) := by decide +kernel
theorem d_La_law_202 : decode code 202 = .ok (.iconst 0, 1) := by decide +kernel
theorem d_La_law_203 : decode code 203 = .ok (.laload, 1) := by decide +kernel
theorem d_La_law_204 : decode code 204 = .ok (.iload 6, 2) := by decide +kernel
theorem d_La_law_206 : decode code 206 = .ok (.i2l, 1) := by decide +kernel
theorem d_La_law_207 : decode code 207 = .ok (.lcmp, 1) := by decide +kernel
theorem d_La_law_208 : decode code 208 = .ok (.ifCond .eq 5, 3) := by decide +kernel
theorem d_La_law_211 : decode code 211 = .ok (.iconst 0, 1) := by decide +kernel
theorem d_La_law_212 : decode code 212 = .ok (.ireturn, 1) := by decide +kernel
theorem d_La_law_213 : decode code 213 = .ok (.goto 785, 3) := by decide +kernel
theorem d_La_law_216 : decode code 216 = .ok (.aload_n 1, 1) := by decide +kernel
theorem d_La_law_217 : decode code 217 = .ok (.aload_n 0, 1) := by decide +kernel
theorem d_La_law_218 : decode code 218 = .ok (.iload 4, 2) := by decide +kernel
theorem d_La_law_220 : decode code 220 = .ok (.iconst 1, 1) := by decide +kernel
theorem d_La_law_221 : decode code 221 = .ok (.iadd, 1) := by decide +kernel
theorem d_La_law_222 : decode code 222 = .ok (.iaload, 1) := by decide +kernel
theorem d_La_law_223 : decode code 223 = .ok (.aload_n 0, 1) := by decide +kernel
theorem d_La_law_224 : decode code 224 = .ok (.iload 4, 2) := by decide +kernel
theorem d_La_law_226 : decode code 226 = .ok (.iconst 2, 1) := by decide +kernel
theorem d_La_law_227 : decode code 227 = .ok (.iadd, 1) := by decide +kernel
theorem d_La_law_228 : decode code 228 = .ok (.iaload, 1) := by decide +kernel
theorem d_La_law_229 : decode code 229 = .ok (.aload_n 0, 1) := by decide +kernel
theorem d_La_law_230 : decode code 230 = .ok (.iload 4, 2) := by decide +kernel
theorem d_La_law_232 : decode code 232 = .ok (.iconst 3, 1) := by decide +kernel
theorem d_La_law_233 : decode code 233 = .ok (.iadd, 1) := by decide +kernel
theorem d_La_law_234 : decode code 234 = .ok (.iaload, 1) := by decide +kernel
theorem d_La_law_235 : decode code 235 = .ok (.i2l, 1) := by decide +kernel
theorem d_La_law_236 : decode code 236 = .ok (.bipush 32, 2) := by decide +kernel
theorem d_La_law_238 : decode code 238 = .ok (.lshl, 1) := by decide +kernel
theorem d_La_law_239 : decode code 239 = .ok (.aload_n 0, 1) := by decide +kernel
theorem d_La_law_240 : decode code 240 = .ok (.iload 4, 2) := by decide +kernel
theorem d_La_law_242 : decode code 242 = .ok (.iconst 4, 1) := by decide +kernel
theorem d_La_law_243 : decode code 243 = .ok (.iadd, 1) := by decide +kernel
theorem d_La_law_244 : decode code 244 = .ok (.iaload, 1) := by decide +kernel
theorem d_La_law_245 : decode code 245 = .ok (.i2l, 1) := by decide +kernel
theorem d_La_law_246 : decode code 246 = .ok (.ldc2_w 43, 3) := by decide +kernel
theorem d_La_law_249 : decode code 249 = .ok (.land, 1) := by decide +kernel
theorem d_La_law_250 : decode code 250 = .ok (.lor, 1) := by decide +kernel
theorem d_La_law_251 : decode code 251 = .ok (.aload_n 0, 1) := by decide +kernel
theorem d_La_law_252 : decode code 252 = .ok (.iload 4, 2) := by decide +kernel
theorem d_La_law_254 : decode code 254 = .ok (.iconst 5, 1) := by decide +kernel
theorem d_La_law_255 : decode code 255 = .ok (.iadd, 1) := by decide +kernel
theorem d_La_law_256 : decode code 256 = .ok (.iaload, 1) := by decide +kernel
theorem d_La_law_257 : decode code 257 = .ok (.i2l, 1) := by decide +kernel
theorem d_La_law_258 : decode code 258 = .ok (.bipush 32, 2) := by decide +kernel
theorem d_La_law_260 : decode code 260 = .ok (.lshl, 1) := by decide +kernel
theorem d_La_law_261 : decode code 261 = .ok (.aload_n 0, 1) := by decide +kernel
theorem d_La_law_262 : decode code 262 = .ok (.iload 4, 2) := by decide +kernel
theorem d_La_law_264 : decode code 264 = .ok (.bipush 6, 2) := by decide +kernel
theorem d_La_law_266 : decode code 266 = .ok (.iadd, 1) := by decide +kernel
theorem d_La_law_267 : decode code 267 = .ok (.iaload, 1) := by decide +kernel
theorem d_La_law_268 : decode code 268 = .ok (.i2l, 1) := by decide +kernel
theorem d_La_law_269 : decode code 269 = .ok (.ldc2_w 43, 3) := by decide +kernel
theorem d_La_law_272 : decode code 272 = .ok (.land, 1) := by decide +kernel
theorem d_La_law_273 : decode code 273 = .ok (.lor, 1) := by decide +kernel
theorem d_La_law_274 : decode code 274 = .ok (.invokevirtual 45, 3) := by decide +kernel
theorem d_La_law_277 : decode code 277 = .ok (.aload_n 2, 1) := by decide +kernel
theorem d_La_law_278 : decode code 278 = .ok (.aload_n 0, 1) := by decide +kernel
theorem d_La_law_279 : decode code 279 = .ok (.iload 4, 2) := by decide +kernel
theorem d_La_law_281 : decode code 281 = .ok (.iconst 1, 1) := by decide +kernel
theorem d_La_law_282 : decode code 282 = .ok (.iadd, 1) := by decide +kernel
theorem d_La_law_283 : decode code 283 = .ok (.iaload, 1) := by decide +kernel
theorem d_La_law_284 : decode code 284 = .ok (.aload_n 0, 1) := by decide +kernel
theorem d_La_law_285 : decode code 285 = .ok (.iload 4, 2) := by decide +kernel
theorem d_La_law_287 : decode code 287 = .ok (.iconst 2, 1) := by decide +kernel
theorem d_La_law_288 : decode code 288 = .ok (.iadd, 1) := by decide +kernel
theorem d_La_law_289 : decode code 289 = .ok (.iaload, 1) := by decide +kernel
theorem d_La_law_290 : decode code 290 = .ok (.aload_n 0, 1) := by decide +kernel
theorem d_La_law_291 : decode code 291 = .ok (.iload 4, 2) := by decide +kernel
theorem d_La_law_293 : decode code 293 = .ok (.iconst 3, 1) := by decide +kernel
theorem d_La_law_294 : decode code 294 = .ok (.iadd, 1) := by decide +kernel
theorem d_La_law_295 : decode code 295 = .ok (.iaload, 1) := by decide +kernel
theorem d_La_law_296 : decode code 296 = .ok (.i2l, 1) := by decide +kernel
theorem d_La_law_297 : decode code 297 = .ok (.bipush 32, 2) := by decide +kernel
theorem d_La_law_299 : decode code 299 = .ok (.lshl, 1) := by decide +kernel
theorem d_La_law_300 : decode code 300 = .ok (.aload_n 0, 1) := by decide +kernel
theorem d_La_law_301 : decode code 301 = .ok (.iload 4, 2) := by decide +kernel
theorem d_La_law_303 : decode code 303 = .ok (.iconst 4, 1) := by decide +kernel
theorem d_La_law_304 : decode code 304 = .ok (.iadd, 1) := by decide +kernel
theorem d_La_law_305 : decode code 305 = .ok (.iaload, 1) := by decide +kernel
theorem d_La_law_306 : decode code 306 = .ok (.i2l, 1) := by decide +kernel
theorem d_La_law_307 : decode code 307 = .ok (.ldc2_w 43, 3) := by decide +kernel
theorem d_La_law_310 : decode code 310 = .ok (.land, 1) := by decide +kernel
theorem d_La_law_311 : decode code 311 = .ok (.lor, 1) := by decide +kernel
theorem d_La_law_312 : decode code 312 = .ok (.aload_n 0, 1) := by decide +kernel
theorem d_La_law_313 : decode code 313 = .ok (.iload 4, 2) := by decide +kernel
theorem d_La_law_315 : decode code 315 = .ok (.iconst 5, 1) := by decide +kernel
theorem d_La_law_316 : decode code 316 = .ok (.iadd, 1) := by decide +kernel
theorem d_La_law_317 : decode code 317 = .ok (.iaload, 1) := by decide +kernel
theorem d_La_law_318 : decode code 318 = .ok (.i2l, 1) := by decide +kernel
theorem d_La_law_319 : decode code 319 = .ok (.bipush 32, 2) := by decide +kernel
theorem d_La_law_321 : decode code 321 = .ok (.lshl, 1) := by decide +kernel
theorem d_La_law_322 : decode code 322 = .ok (.aload_n 0, 1) := by decide +kernel
theorem d_La_law_323 : decode code 323 = .ok (.iload 4, 2) := by decide +kernel
theorem d_La_law_325 : decode code 325 = .ok (.bipush 6, 2) := by decide +kernel
theorem d_La_law_327 : decode code 327 = .ok (.iadd, 1) := by decide +kernel
theorem d_La_law_328 : decode code 328 = .ok (.iaload, 1) := by decide +kernel
theorem d_La_law_329 : decode code 329 = .ok (.i2l, 1) := by decide +kernel
theorem d_La_law_330 : decode code 330 = .ok (.ldc2_w 43, 3) := by decide +kernel
theorem d_La_law_333 : decode code 333 = .ok (.land, 1) := by decide +kernel
theorem d_La_law_334 : decode code 334 = .ok (.lor, 1) := by decide +kernel
theorem d_La_law_335 : decode code 335 = .ok (.invokevirtual 49, 3) := by decide +kernel
theorem d_La_law_338 : decode code 338 = .ok (.if_icmp .eq 660, 3) := by decide +kernel
theorem d_La_law_341 : decode code 341 = .ok (.iconst 0, 1) := by decide +kernel
theorem d_La_law_342 : decode code 342 = .ok (.ireturn, 1) := by decide +kernel
theorem d_La_law_343 : decode code 343 = .ok (.aload_n 1, 1) := by decide +kernel
theorem d_La_law_344 : decode code 344 = .ok (.aload_n 0, 1) := by decide +kernel
theorem d_La_law_345 : decode code 345 = .ok (.iload 4, 2) := by decide +kernel
theorem d_La_law_347 : decode code 347 = .ok (.iconst 1, 1) := by decide +kernel
theorem d_La_law_348 : decode code 348 = .ok (.iadd, 1) := by decide +kernel
theorem d_La_law_349 : decode code 349 = .ok (.iaload, 1) := by decide +kernel
theorem d_La_law_350 : decode code 350 = .ok (.aload_n 0, 1) := by decide +kernel
theorem d_La_law_351 : decode code 351 = .ok (.iload 4, 2) := by decide +kernel
theorem d_La_law_353 : decode code 353 = .ok (.iconst 2, 1) := by decide +kernel
theorem d_La_law_354 : decode code 354 = .ok (.iadd, 1) := by decide +kernel
theorem d_La_law_355 : decode code 355 = .ok (.iaload, 1) := by decide +kernel
theorem d_La_law_356 : decode code 356 = .ok (.invokevirtual 50, 3) := by decide +kernel
theorem d_La_law_359 : decode code 359 = .ok (.aload_n 2, 1) := by decide +kernel
theorem d_La_law_360 : decode code 360 = .ok (.aload_n 0, 1) := by decide +kernel
theorem d_La_law_361 : decode code 361 = .ok (.iload 4, 2) := by decide +kernel
theorem d_La_law_363 : decode code 363 = .ok (.iconst 1, 1) := by decide +kernel
theorem d_La_law_364 : decode code 364 = .ok (.iadd, 1) := by decide +kernel
theorem d_La_law_365 : decode code 365 = .ok (.iaload, 1) := by decide +kernel
theorem d_La_law_366 : decode code 366 = .ok (.aload_n 0, 1) := by decide +kernel
theorem d_La_law_367 : decode code 367 = .ok (.iload 4, 2) := by decide +kernel
theorem d_La_law_369 : decode code 369 = .ok (.iconst 2, 1) := by decide +kernel
theorem d_La_law_370 : decode code 370 = .ok (.iadd, 1) := by decide +kernel
theorem d_La_law_371 : decode code 371 = .ok (.iaload, 1) := by decide +kernel
theorem d_La_law_372 : decode code 372 = .ok (.invokevirtual 53, 3) := by decide +kernel
theorem d_La_law_375 : decode code 375 = .ok (.if_icmp .eq 623, 3) := by decide +kernel
theorem d_La_law_378 : decode code 378 = .ok (.iconst 0, 1) := by decide +kernel
theorem d_La_law_379 : decode code 379 = .ok (.ireturn, 1) := by decide +kernel
theorem d_La_law_380 : decode code 380 = .ok (.aload_n 1, 1) := by decide +kernel
theorem d_La_law_381 : decode code 381 = .ok (.aload_n 0, 1) := by decide +kernel
theorem d_La_law_382 : decode code 382 = .ok (.iload 4, 2) := by decide +kernel
theorem d_La_law_384 : decode code 384 = .ok (.iconst 1, 1) := by decide +kernel
theorem d_La_law_385 : decode code 385 = .ok (.iadd, 1) := by decide +kernel
theorem d_La_law_386 : decode code 386 = .ok (.iaload, 1) := by decide +kernel
theorem d_La_law_387 : decode code 387 = .ok (.ifCond .eq 7, 3) := by decide +kernel
theorem d_La_law_390 : decode code 390 = .ok (.iconst 1, 1) := by decide +kernel
theorem d_La_law_391 : decode code 391 = .ok (.goto 4, 3) := by decide +kernel
theorem d_La_law_394 : decode code 394 = .ok (.iconst 0, 1) := by decide +kernel
theorem d_La_law_395 : decode code 395 = .ok (.aload_n 0, 1) := by decide +kernel
theorem d_La_law_396 : decode code 396 = .ok (.iload 4, 2) := by decide +kernel
theorem d_La_law_398 : decode code 398 = .ok (.iconst 2, 1) := by decide +kernel
theorem d_La_law_399 : decode code 399 = .ok (.iadd, 1) := by decide +kernel
theorem d_La_law_400 : decode code 400 = .ok (.iaload, 1) := by decide +kernel
theorem d_La_law_401 : decode code 401 = .ok (.ifCond .eq 7, 3) := by decide +kernel
theorem d_La_law_404 : decode code 404 = .ok (.iconst 1, 1) := by decide +kernel
theorem d_La_law_405 : decode code 405 = .ok (.goto 4, 3) := by decide +kernel
theorem d_La_law_408 : decode code 408 = .ok (.iconst 0, 1) := by decide +kernel
theorem d_La_law_409 : decode code 409 = .ok (.invokevirtual 54, 3) := by decide +kernel
theorem d_La_law_412 : decode code 412 = .ok (.aload_n 2, 1) := by decide +kernel
theorem d_La_law_413 : decode code 413 = .ok (.aload_n 0, 1) := by decide +kernel
theorem d_La_law_414 : decode code 414 = .ok (.iload 4, 2) := by decide +kernel
theorem d_La_law_416 : decode code 416 = .ok (.iconst 1, 1) := by decide +kernel
theorem d_La_law_417 : decode code 417 = .ok (.iadd, 1) := by decide +kernel
theorem d_La_law_418 : decode code 418 = .ok (.iaload, 1) := by decide +kernel
theorem d_La_law_419 : decode code 419 = .ok (.ifCond .eq 7, 3) := by decide +kernel
theorem d_La_law_422 : decode code 422 = .ok (.iconst 1, 1) := by decide +kernel
theorem d_La_law_423 : decode code 423 = .ok (.goto 4, 3) := by decide +kernel
theorem d_La_law_426 : decode code 426 = .ok (.iconst 0, 1) := by decide +kernel
theorem d_La_law_427 : decode code 427 = .ok (.aload_n 0, 1) := by decide +kernel
theorem d_La_law_428 : decode code 428 = .ok (.iload 4, 2) := by decide +kernel
theorem d_La_law_430 : decode code 430 = .ok (.iconst 2, 1) := by decide +kernel
theorem d_La_law_431 : decode code 431 = .ok (.iadd, 1) := by decide +kernel
theorem d_La_law_432 : decode code 432 = .ok (.iaload, 1) := by decide +kernel
theorem d_La_law_433 : decode code 433 = .ok (.ifCond .eq 7, 3) := by decide +kernel
theorem d_La_law_436 : decode code 436 = .ok (.iconst 1, 1) := by decide +kernel
theorem d_La_law_437 : decode code 437 = .ok (.goto 4, 3) := by decide +kernel
theorem d_La_law_440 : decode code 440 = .ok (.iconst 0, 1) := by decide +kernel
theorem d_La_law_441 : decode code 441 = .ok (.invokevirtual 58, 3) := by decide +kernel
theorem d_La_law_444 : decode code 444 = .ok (.goto 554, 3) := by decide +kernel
theorem d_La_law_447 : decode code 447 = .ok (.aload_n 1, 1) := by decide +kernel
theorem d_La_law_448 : decode code 448 = .ok (.aload_n 0, 1) := by decide +kernel
theorem d_La_law_449 : decode code 449 = .ok (.iload 4, 2) := by decide +kernel
theorem d_La_law_451 : decode code 451 = .ok (.iconst 1, 1) := by decide +kernel
theorem d_La_law_452 : decode code 452 = .ok (.iadd, 1) := by decide +kernel
theorem d_La_law_453 : decode code 453 = .ok (.iaload, 1) := by decide +kernel
theorem d_La_law_454 : decode code 454 = .ok (.invokevirtual 59, 3) := by decide +kernel
theorem d_La_law_457 : decode code 457 = .ok (.aload_n 2, 1) := by decide +kernel
theorem d_La_law_458 : decode code 458 = .ok (.aload_n 0, 1) := by decide +kernel
theorem d_La_law_459 : decode code 459 = .ok (.iload 4, 2) := by decide +kernel
theorem d_La_law_461 : decode code 461 = .ok (.iconst 1, 1) := by decide +kernel
theorem d_La_law_462 : decode code 462 = .ok (.iadd, 1) := by decide +kernel
theorem d_La_law_463 : decode code 463 = .ok (.iaload, 1) := by decide +kernel
theorem d_La_law_464 : decode code 464 = .ok (.invokevirtual 63, 3) := by decide +kernel
theorem d_La_law_467 : decode code 467 = .ok (.if_icmp .eq 531, 3) := by decide +kernel
theorem d_La_law_470 : decode code 470 = .ok (.iconst 0, 1) := by decide +kernel
theorem d_La_law_471 : decode code 471 = .ok (.ireturn, 1) := by decide +kernel
theorem d_La_law_472 : decode code 472 = .ok (.aload_n 1, 1) := by decide +kernel
theorem d_La_law_473 : decode code 473 = .ok (.aload_n 0, 1) := by decide +kernel
theorem d_La_law_474 : decode code 474 = .ok (.iload 4, 2) := by decide +kernel
theorem d_La_law_476 : decode code 476 = .ok (.iconst 1, 1) := by decide +kernel
theorem d_La_law_477 : decode code 477 = .ok (.iadd, 1) := by decide +kernel
theorem d_La_law_478 : decode code 478 = .ok (.iaload, 1) := by decide +kernel
theorem d_La_law_479 : decode code 479 = .ok (.aload_n 0, 1) := by decide +kernel
theorem d_La_law_480 : decode code 480 = .ok (.iload 4, 2) := by decide +kernel
theorem d_La_law_482 : decode code 482 = .ok (.iconst 2, 1) := by decide +kernel
theorem d_La_law_483 : decode code 483 = .ok (.iadd, 1) := by decide +kernel
theorem d_La_law_484 : decode code 484 = .ok (.iaload, 1) := by decide +kernel
theorem d_La_law_485 : decode code 485 = .ok (.aload_n 0, 1) := by decide +kernel
theorem d_La_law_486 : decode code 486 = .ok (.iload 4, 2) := by decide +kernel
theorem d_La_law_488 : decode code 488 = .ok (.iconst 3, 1) := by decide +kernel
theorem d_La_law_489 : decode code 489 = .ok (.iadd, 1) := by decide +kernel
theorem d_La_law_490 : decode code 490 = .ok (.iaload, 1) := by decide +kernel
theorem d_La_law_491 : decode code 491 = .ok (.aload_n 0, 1) := by decide +kernel
theorem d_La_law_492 : decode code 492 = .ok (.iload 4, 2) := by decide +kernel
theorem d_La_law_494 : decode code 494 = .ok (.iconst 4, 1) := by decide +kernel
theorem d_La_law_495 : decode code 495 = .ok (.iadd, 1) := by decide +kernel
theorem d_La_law_496 : decode code 496 = .ok (.iaload, 1) := by decide +kernel
theorem d_La_law_497 : decode code 497 = .ok (.invokevirtual 64, 3) := by decide +kernel
theorem d_La_law_500 : decode code 500 = .ok (.aload_n 2, 1) := by decide +kernel
theorem d_La_law_501 : decode code 501 = .ok (.aload_n 0, 1) := by decide +kernel
theorem d_La_law_502 : decode code 502 = .ok (.iload 4, 2) := by decide +kernel
theorem d_La_law_504 : decode code 504 = .ok (.iconst 1, 1) := by decide +kernel
theorem d_La_law_505 : decode code 505 = .ok (.iadd, 1) := by decide +kernel
theorem d_La_law_506 : decode code 506 = .ok (.iaload, 1) := by decide +kernel
theorem d_La_law_507 : decode code 507 = .ok (.aload_n 0, 1) := by decide +kernel
theorem d_La_law_508 : decode code 508 = .ok (.iload 4, 2) := by decide +kernel
theorem d_La_law_510 : decode code 510 = .ok (.iconst 2, 1) := by decide +kernel
theorem d_La_law_511 : decode code 511 = .ok (.iadd, 1) := by decide +kernel
theorem d_La_law_512 : decode code 512 = .ok (.iaload, 1) := by decide +kernel
theorem d_La_law_513 : decode code 513 = .ok (.aload_n 0, 1) := by decide +kernel
theorem d_La_law_514 : decode code 514 = .ok (.iload 4, 2) := by decide +kernel
theorem d_La_law_516 : decode code 516 = .ok (.iconst 3, 1) := by decide +kernel
theorem d_La_law_517 : decode code 517 = .ok (.iadd, 1) := by decide +kernel
theorem d_La_law_518 : decode code 518 = .ok (.iaload, 1) := by decide +kernel
theorem d_La_law_519 : decode code 519 = .ok (.aload_n 0, 1) := by decide +kernel
theorem d_La_law_520 : decode code 520 = .ok (.iload 4, 2) := by decide +kernel
theorem d_La_law_522 : decode code 522 = .ok (.iconst 4, 1) := by decide +kernel
theorem d_La_law_523 : decode code 523 = .ok (.iadd, 1) := by decide +kernel
theorem d_La_law_524 : decode code 524 = .ok (.iaload, 1) := by decide +kernel
theorem d_La_law_525 : decode code 525 = .ok (.invokevirtual 68, 3) := by decide +kernel
theorem d_La_law_528 : decode code 528 = .ok (.if_icmp .eq 470, 3) := by decide +kernel
theorem d_La_law_531 : decode code 531 = .ok (.iconst 0, 1) := by decide +kernel
theorem d_La_law_532 : decode code 532 = .ok (.ireturn, 1) := by decide +kernel
theorem d_La_law_533 : decode code 533 = .ok (.aload_n 1, 1) := by decide +kernel
theorem d_La_law_534 : decode code 534 = .ok (.aload_n 0, 1) := by decide +kernel
theorem d_La_law_535 : decode code 535 = .ok (.iload 4, 2) := by decide +kernel
theorem d_La_law_537 : decode code 537 = .ok (.iconst 1, 1) := by decide +kernel
theorem d_La_law_538 : decode code 538 = .ok (.iadd, 1) := by decide +kernel
theorem d_La_law_539 : decode code 539 = .ok (.iaload, 1) := by decide +kernel
theorem d_La_law_540 : decode code 540 = .ok (.aload_n 0, 1) := by decide +kernel
theorem d_La_law_541 : decode code 541 = .ok (.iload 4, 2) := by decide +kernel
theorem d_La_law_543 : decode code 543 = .ok (.iconst 2, 1) := by decide +kernel
theorem d_La_law_544 : decode code 544 = .ok (.iadd, 1) := by decide +kernel
theorem d_La_law_545 : decode code 545 = .ok (.iaload, 1) := by decide +kernel
theorem d_La_law_546 : decode code 546 = .ok (.aload_n 0, 1) := by decide +kernel
theorem d_La_law_547 : decode code 547 = .ok (.iload 4, 2) := by decide +kernel
theorem d_La_law_549 : decode code 549 = .ok (.iconst 3, 1) := by decide +kernel
theorem d_La_law_550 : decode code 550 = .ok (.iadd, 1) := by decide +kernel
theorem d_La_law_551 : decode code 551 = .ok (.iaload, 1) := by decide +kernel
theorem d_La_law_552 : decode code 552 = .ok (.invokevirtual 69, 3) := by decide +kernel
theorem d_La_law_555 : decode code 555 = .ok (.aload_n 2, 1) := by decide +kernel
theorem d_La_law_556 : decode code 556 = .ok (.aload_n 0, 1) := by decide +kernel
theorem d_La_law_557 : decode code 557 = .ok (.iload 4, 2) := by decide +kernel
theorem d_La_law_559 : decode code 559 = .ok (.iconst 1, 1) := by decide +kernel
theorem d_La_law_560 : decode code 560 = .ok (.iadd, 1) := by decide +kernel
theorem d_La_law_561 : decode code 561 = .ok (.iaload, 1) := by decide +kernel
theorem d_La_law_562 : decode code 562 = .ok (.aload_n 0, 1) := by decide +kernel
theorem d_La_law_563 : decode code 563 = .ok (.iload 4, 2) := by decide +kernel
theorem d_La_law_565 : decode code 565 = .ok (.iconst 2, 1) := by decide +kernel
theorem d_La_law_566 : decode code 566 = .ok (.iadd, 1) := by decide +kernel
theorem d_La_law_567 : decode code 567 = .ok (.iaload, 1) := by decide +kernel
theorem d_La_law_568 : decode code 568 = .ok (.aload_n 0, 1) := by decide +kernel
theorem d_La_law_569 : decode code 569 = .ok (.iload 4, 2) := by decide +kernel
theorem d_La_law_571 : decode code 571 = .ok (.iconst 3, 1) := by decide +kernel
theorem d_La_law_572 : decode code 572 = .ok (.iadd, 1) := by decide +kernel
theorem d_La_law_573 : decode code 573 = .ok (.iaload, 1) := by decide +kernel
theorem d_La_law_574 : decode code 574 = .ok (.invokevirtual 73, 3) := by decide +kernel
theorem d_La_law_577 : decode code 577 = .ok (.if_icmp .eq 421, 3) := by decide +kernel
theorem d_La_law_580 : decode code 580 = .ok (.iconst 0, 1) := by decide +kernel
theorem d_La_law_581 : decode code 581 = .ok (.ireturn, 1) := by decide +kernel
theorem d_La_law_582 : decode code 582 = .ok (.aload_n 1, 1) := by decide +kernel
theorem d_La_law_583 : decode code 583 = .ok (.aload_n 0, 1) := by decide +kernel
theorem d_La_law_584 : decode code 584 = .ok (.iload 4, 2) := by decide +kernel
theorem d_La_law_586 : decode code 586 = .ok (.iconst 1, 1) := by decide +kernel
theorem d_La_law_587 : decode code 587 = .ok (.iadd, 1) := by decide +kernel
theorem d_La_law_588 : decode code 588 = .ok (.iaload, 1) := by decide +kernel
theorem d_La_law_589 : decode code 589 = .ok (.aload_n 0, 1) := by decide +kernel
theorem d_La_law_590 : decode code 590 = .ok (.iload 4, 2) := by decide +kernel
theorem d_La_law_592 : decode code 592 = .ok (.iconst 2, 1) := by decide +kernel
theorem d_La_law_593 : decode code 593 = .ok (.iadd, 1) := by decide +kernel
theorem d_La_law_594 : decode code 594 = .ok (.iaload, 1) := by decide +kernel
theorem d_La_law_595 : decode code 595 = .ok (.aload_n 0, 1) := by decide +kernel
theorem d_La_law_596 : decode code 596 = .ok (.iload 4, 2) := by decide +kernel
theorem d_La_law_598 : decode code 598 = .ok (.iconst 3, 1) := by decide +kernel
theorem d_La_law_599 : decode code 599 = .ok (.iadd, 1) := by decide +kernel
theorem d_La_law_600 : decode code 600 = .ok (.iaload, 1) := by decide +kernel
theorem d_La_law_601 : decode code 601 = .ok (.aload_n 0, 1) := by decide +kernel
theorem d_La_law_602 : decode code 602 = .ok (.iload 4, 2) := by decide +kernel
theorem d_La_law_604 : decode code 604 = .ok (.iconst 4, 1) := by decide +kernel
theorem d_La_law_605 : decode code 605 = .ok (.iadd, 1) := by decide +kernel
theorem d_La_law_606 : decode code 606 = .ok (.iaload, 1) := by decide +kernel
theorem d_La_law_607 : decode code 607 = .ok (.invokevirtual 74, 3) := by decide +kernel
theorem d_La_law_610 : decode code 610 = .ok (.aload_n 2, 1) := by decide +kernel
theorem d_La_law_611 : decode code 611 = .ok (.aload_n 0, 1) := by decide +kernel
theorem d_La_law_612 : decode code 612 = .ok (.iload 4, 2) := by decide +kernel
theorem d_La_law_614 : decode code 614 = .ok (.iconst 1, 1) := by decide +kernel
theorem d_La_law_615 : decode code 615 = .ok (.iadd, 1) := by decide +kernel
theorem d_La_law_616 : decode code 616 = .ok (.iaload, 1) := by decide +kernel
theorem d_La_law_617 : decode code 617 = .ok (.aload_n 0, 1) := by decide +kernel
theorem d_La_law_618 : decode code 618 = .ok (.iload 4, 2) := by decide +kernel
theorem d_La_law_620 : decode code 620 = .ok (.iconst 2, 1) := by decide +kernel
theorem d_La_law_621 : decode code 621 = .ok (.iadd, 1) := by decide +kernel
theorem d_La_law_622 : decode code 622 = .ok (.iaload, 1) := by decide +kernel
theorem d_La_law_623 : decode code 623 = .ok (.aload_n 0, 1) := by decide +kernel
theorem d_La_law_624 : decode code 624 = .ok (.iload 4, 2) := by decide +kernel
theorem d_La_law_626 : decode code 626 = .ok (.iconst 3, 1) := by decide +kernel
theorem d_La_law_627 : decode code 627 = .ok (.iadd, 1) := by decide +kernel
theorem d_La_law_628 : decode code 628 = .ok (.iaload, 1) := by decide +kernel
theorem d_La_law_629 : decode code 629 = .ok (.aload_n 0, 1) := by decide +kernel
theorem d_La_law_630 : decode code 630 = .ok (.iload 4, 2) := by decide +kernel
theorem d_La_law_632 : decode code 632 = .ok (.iconst 4, 1) := by decide +kernel
theorem d_La_law_633 : decode code 633 = .ok (.iadd, 1) := by decide +kernel
theorem d_La_law_634 : decode code 634 = .ok (.iaload, 1) := by decide +kernel
theorem d_La_law_635 : decode code 635 = .ok (.invokevirtual 77, 3) := by decide +kernel
theorem d_La_law_638 : decode code 638 = .ok (.if_icmp .eq 360, 3) := by decide +kernel
theorem d_La_law_641 : decode code 641 = .ok (.iconst 0, 1) := by decide +kernel
theorem d_La_law_642 : decode code 642 = .ok (.ireturn, 1) := by decide +kernel
theorem d_La_law_643 : decode code 643 = .ok (.aload_n 1, 1) := by decide +kernel
theorem d_La_law_644 : decode code 644 = .ok (.aload_n 0, 1) := by decide +kernel
theorem d_La_law_645 : decode code 645 = .ok (.iload 4, 2) := by decide +kernel
theorem d_La_law_647 : decode code 647 = .ok (.iconst 1, 1) := by decide +kernel
theorem d_La_law_648 : decode code 648 = .ok (.iadd, 1) := by decide +kernel
theorem d_La_law_649 : decode code 649 = .ok (.iaload, 1) := by decide +kernel
theorem d_La_law_650 : decode code 650 = .ok (.aload_n 0, 1) := by decide +kernel
theorem d_La_law_651 : decode code 651 = .ok (.iload 4, 2) := by decide +kernel
theorem d_La_law_653 : decode code 653 = .ok (.iconst 2, 1) := by decide +kernel
theorem d_La_law_654 : decode code 654 = .ok (.iadd, 1) := by decide +kernel
theorem d_La_law_655 : decode code 655 = .ok (.iaload, 1) := by decide +kernel
theorem d_La_law_656 : decode code 656 = .ok (.aload_n 0, 1) := by decide +kernel
theorem d_La_law_657 : decode code 657 = .ok (.iload 4, 2) := by decide +kernel
theorem d_La_law_659 : decode code 659 = .ok (.iconst 3, 1) := by decide +kernel
theorem d_La_law_660 : decode code 660 = .ok (.iadd, 1) := by decide +kernel
theorem d_La_law_661 : decode code 661 = .ok (.iaload, 1) := by decide +kernel
theorem d_La_law_662 : decode code 662 = .ok (.aload_n 0, 1) := by decide +kernel
theorem d_La_law_663 : decode code 663 = .ok (.iload 4, 2) := by decide +kernel
theorem d_La_law_665 : decode code 665 = .ok (.iconst 4, 1) := by decide +kernel
theorem d_La_law_666 : decode code 666 = .ok (.iadd, 1) := by decide +kernel
theorem d_La_law_667 : decode code 667 = .ok (.iaload, 1) := by decide +kernel
theorem d_La_law_668 : decode code 668 = .ok (.aload_n 0, 1) := by decide +kernel
theorem d_La_law_669 : decode code 669 = .ok (.iload 4, 2) := by decide +kernel
theorem d_La_law_671 : decode code 671 = .ok (.iconst 5, 1) := by decide +kernel
theorem d_La_law_672 : decode code 672 = .ok (.iadd, 1) := by decide +kernel
theorem d_La_law_673 : decode code 673 = .ok (.iaload, 1) := by decide +kernel
theorem d_La_law_674 : decode code 674 = .ok (.i2l, 1) := by decide +kernel
theorem d_La_law_675 : decode code 675 = .ok (.bipush 32, 2) := by decide +kernel
theorem d_La_law_677 : decode code 677 = .ok (.lshl, 1) := by decide +kernel
theorem d_La_law_678 : decode code 678 = .ok (.aload_n 0, 1) := by decide +kernel
theorem d_La_law_679 : decode code 679 = .ok (.iload 4, 2) := by decide +kernel
theorem d_La_law_681 : decode code 681 = .ok (.bipush 6, 2) := by decide +kernel
theorem d_La_law_683 : decode code 683 = .ok (.iadd, 1) := by decide +kernel
theorem d_La_law_684 : decode code 684 = .ok (.iaload, 1) := by decide +kernel
theorem d_La_law_685 : decode code 685 = .ok (.i2l, 1) := by decide +kernel
theorem d_La_law_686 : decode code 686 = .ok (.ldc2_w 43, 3) := by decide +kernel
theorem d_La_law_689 : decode code 689 = .ok (.land, 1) := by decide +kernel
theorem d_La_law_690 : decode code 690 = .ok (.lor, 1) := by decide +kernel
theorem d_La_law_691 : decode code 691 = .ok (.invokevirtual 78, 3) := by decide +kernel
theorem d_La_law_694 : decode code 694 = .ok (.aload_n 2, 1) := by decide +kernel
theorem d_La_law_695 : decode code 695 = .ok (.aload_n 0, 1) := by decide +kernel
theorem d_La_law_696 : decode code 696 = .ok (.iload 4, 2) := by decide +kernel
theorem d_La_law_698 : decode code 698 = .ok (.iconst 1, 1) := by decide +kernel
theorem d_La_law_699 : decode code 699 = .ok (.iadd, 1) := by decide +kernel
theorem d_La_law_700 : decode code 700 = .ok (.iaload, 1) := by decide +kernel
theorem d_La_law_701 : decode code 701 = .ok (.aload_n 0, 1) := by decide +kernel
theorem d_La_law_702 : decode code 702 = .ok (.iload 4, 2) := by decide +kernel
theorem d_La_law_704 : decode code 704 = .ok (.iconst 2, 1) := by decide +kernel
theorem d_La_law_705 : decode code 705 = .ok (.iadd, 1) := by decide +kernel
theorem d_La_law_706 : decode code 706 = .ok (.iaload, 1) := by decide +kernel
theorem d_La_law_707 : decode code 707 = .ok (.aload_n 0, 1) := by decide +kernel
theorem d_La_law_708 : decode code 708 = .ok (.iload 4, 2) := by decide +kernel
theorem d_La_law_710 : decode code 710 = .ok (.iconst 3, 1) := by decide +kernel
theorem d_La_law_711 : decode code 711 = .ok (.iadd, 1) := by decide +kernel
theorem d_La_law_712 : decode code 712 = .ok (.iaload, 1) := by decide +kernel
theorem d_La_law_713 : decode code 713 = .ok (.aload_n 0, 1) := by decide +kernel
theorem d_La_law_714 : decode code 714 = .ok (.iload 4, 2) := by decide +kernel
theorem d_La_law_716 : decode code 716 = .ok (.iconst 4, 1) := by decide +kernel
theorem d_La_law_717 : decode code 717 = .ok (.iadd, 1) := by decide +kernel
theorem d_La_law_718 : decode code 718 = .ok (.iaload, 1) := by decide +kernel
theorem d_La_law_719 : decode code 719 = .ok (.aload_n 0, 1) := by decide +kernel
theorem d_La_law_720 : decode code 720 = .ok (.iload 4, 2) := by decide +kernel
theorem d_La_law_722 : decode code 722 = .ok (.iconst 5, 1) := by decide +kernel
theorem d_La_law_723 : decode code 723 = .ok (.iadd, 1) := by decide +kernel
theorem d_La_law_724 : decode code 724 = .ok (.iaload, 1) := by decide +kernel
theorem d_La_law_725 : decode code 725 = .ok (.i2l, 1) := by decide +kernel
theorem d_La_law_726 : decode code 726 = .ok (.bipush 32, 2) := by decide +kernel
theorem d_La_law_728 : decode code 728 = .ok (.lshl, 1) := by decide +kernel
theorem d_La_law_729 : decode code 729 = .ok (.aload_n 0, 1) := by decide +kernel
theorem d_La_law_730 : decode code 730 = .ok (.iload 4, 2) := by decide +kernel
theorem d_La_law_732 : decode code 732 = .ok (.bipush 6, 2) := by decide +kernel
theorem d_La_law_734 : decode code 734 = .ok (.iadd, 1) := by decide +kernel
theorem d_La_law_735 : decode code 735 = .ok (.iaload, 1) := by decide +kernel
theorem d_La_law_736 : decode code 736 = .ok (.i2l, 1) := by decide +kernel
theorem d_La_law_737 : decode code 737 = .ok (.ldc2_w 43, 3) := by decide +kernel
theorem d_La_law_740 : decode code 740 = .ok (.land, 1) := by decide +kernel
theorem d_La_law_741 : decode code 741 = .ok (.lor, 1) := by decide +kernel
theorem d_La_law_742 : decode code 742 = .ok (.invokevirtual 82, 3) := by decide +kernel
theorem d_La_law_745 : decode code 745 = .ok (.if_icmp .eq 253, 3) := by decide +kernel
theorem d_La_law_748 : decode code 748 = .ok (.iconst 0, 1) := by decide +kernel
theorem d_La_law_749 : decode code 749 = .ok (.ireturn, 1) := by decide +kernel
theorem d_La_law_750 : decode code 750 = .ok (.aload_n 1, 1) := by decide +kernel
theorem d_La_law_751 : decode code 751 = .ok (.invokevirtual 83, 3) := by decide +kernel
theorem d_La_law_754 : decode code 754 = .ok (.aload_n 2, 1) := by decide +kernel
theorem d_La_law_755 : decode code 755 = .ok (.invokevirtual 86, 3) := by decide +kernel
theorem d_La_law_758 : decode code 758 = .ok (.goto 240, 3) := by decide +kernel
theorem d_La_law_761 : decode code 761 = .ok (.aload_n 1, 1) := by decide +kernel
theorem d_La_law_762 : decode code 762 = .ok (.aload_n 0, 1) := by decide +kernel
theorem d_La_law_763 : decode code 763 = .ok (.iload 4, 2) := by decide +kernel
theorem d_La_law_765 : decode code 765 = .ok (.iconst 1, 1) := by decide +kernel
theorem d_La_law_766 : decode code 766 = .ok (.iadd, 1) := by decide +kernel
theorem d_La_law_767 : decode code 767 = .ok (.iaload, 1) := by decide +kernel
theorem d_La_law_768 : decode code 768 = .ok (.aload_n 0, 1) := by decide +kernel
theorem d_La_law_769 : decode code 769 = .ok (.iload 4, 2) := by decide +kernel
theorem d_La_law_771 : decode code 771 = .ok (.iconst 2, 1) := by decide +kernel
theorem d_La_law_772 : decode code 772 = .ok (.iadd, 1) := by decide +kernel
theorem d_La_law_773 : decode code 773 = .ok (.iaload, 1) := by decide +kernel
theorem d_La_law_774 : decode code 774 = .ok (.invokevirtual 87, 3) := by decide +kernel
theorem d_La_law_777 : decode code 777 = .ok (.aload_n 2, 1) := by decide +kernel
theorem d_La_law_778 : decode code 778 = .ok (.aload_n 0, 1) := by decide +kernel
theorem d_La_law_779 : decode code 779 = .ok (.iload 4, 2) := by decide +kernel
theorem d_La_law_781 : decode code 781 = .ok (.iconst 1, 1) := by decide +kernel
theorem d_La_law_782 : decode code 782 = .ok (.iadd, 1) := by decide +kernel
theorem d_La_law_783 : decode code 783 = .ok (.iaload, 1) := by decide +kernel
theorem d_La_law_784 : decode code 784 = .ok (.aload_n 0, 1) := by decide +kernel
theorem d_La_law_785 : decode code 785 = .ok (.iload 4, 2) := by decide +kernel
theorem d_La_law_787 : decode code 787 = .ok (.iconst 2, 1) := by decide +kernel
theorem d_La_law_788 : decode code 788 = .ok (.iadd, 1) := by decide +kernel
theorem d_La_law_789 : decode code 789 = .ok (.iaload, 1) := by decide +kernel
theorem d_La_law_790 : decode code 790 = .ok (.invokevirtual 91, 3) := by decide +kernel
theorem d_La_law_793 : decode code 793 = .ok (.lcmp, 1) := by decide +kernel
theorem d_La_law_794 : decode code 794 = .ok (.ifCond .eq 204, 3) := by decide +kernel
theorem d_La_law_797 : decode code 797 = .ok (.iconst 0, 1) := by decide +kernel
theorem d_La_law_798 : decode code 798 = .ok (.ireturn, 1) := by decide +kernel
theorem d_La_law_799 : decode code 799 = .ok (.aload_n 1, 1) := by decide +kernel
theorem d_La_law_800 : decode code 800 = .ok (.aload_n 0, 1) := by decide +kernel
theorem d_La_law_801 : decode code 801 = .ok (.iload 4, 2) := by decide +kernel
theorem d_La_law_803 : decode code 803 = .ok (.iconst 1, 1) := by decide +kernel
theorem d_La_law_804 : decode code 804 = .ok (.iadd, 1) := by decide +kernel
theorem d_La_law_805 : decode code 805 = .ok (.iaload, 1) := by decide +kernel
theorem d_La_law_806 : decode code 806 = .ok (.aload_n 0, 1) := by decide +kernel
theorem d_La_law_807 : decode code 807 = .ok (.iload 4, 2) := by decide +kernel
theorem d_La_law_809 : decode code 809 = .ok (.iconst 2, 1) := by decide +kernel
theorem d_La_law_810 : decode code 810 = .ok (.iadd, 1) := by decide +kernel
theorem d_La_law_811 : decode code 811 = .ok (.iaload, 1) := by decide +kernel
theorem d_La_law_812 : decode code 812 = .ok (.aload_n 3, 1) := by decide +kernel
theorem d_La_law_813 : decode code 813 = .ok (.invokestatic 92, 3) := by decide +kernel
theorem d_La_law_816 : decode code 816 = .ok (.istore 5, 2) := by decide +kernel
theorem d_La_law_818 : decode code 818 = .ok (.aload_n 2, 1) := by decide +kernel
theorem d_La_law_819 : decode code 819 = .ok (.aload_n 0, 1) := by decide +kernel
theorem d_La_law_820 : decode code 820 = .ok (.iload 4, 2) := by decide +kernel
theorem d_La_law_822 : decode code 822 = .ok (.iconst 1, 1) := by decide +kernel
theorem d_La_law_823 : decode code 823 = .ok (.iadd, 1) := by decide +kernel
theorem d_La_law_824 : decode code 824 = .ok (.iaload, 1) := by decide +kernel
theorem d_La_law_825 : decode code 825 = .ok (.aload_n 0, 1) := by decide +kernel
theorem d_La_law_826 : decode code 826 = .ok (.iload 4, 2) := by decide +kernel
theorem d_La_law_828 : decode code 828 = .ok (.iconst 2, 1) := by decide +kernel
theorem d_La_law_829 : decode code 829 = .ok (.iadd, 1) := by decide +kernel
theorem d_La_law_830 : decode code 830 = .ok (.iaload, 1) := by decide +kernel
theorem d_La_law_831 : decode code 831 = .ok (.invokevirtual 94, 3) := by decide +kernel
theorem d_La_law_834 : decode code 834 = .ok (.istore 6, 2) := by decide +kernel
theorem d_La_law_836 : decode code 836 = .ok (.aload_n 2, 1) := by decide +kernel
theorem d_La_law_837 : decode code 837 = .ok (.invokevirtual 39, 3) := by decide +kernel
theorem d_La_law_840 : decode code 840 = .ok (.iload 5, 2) := by decide +kernel
theorem d_La_law_842 : decode code 842 = .ok (.if_icmp .eq 5, 3) := by decide +kernel
theorem d_La_law_845 : decode code 845 = .ok (.iconst 0, 1) := by decide +kernel
theorem d_La_law_846 : decode code 846 = .ok (.ireturn, 1) := by decide +kernel
theorem d_La_law_847 : decode code 847 = .ok (.iload 5, 2) := by decide +kernel
theorem d_La_law_849 : decode code 849 = .ok (.ifCond .ne 22, 3) := by decide +kernel
theorem d_La_law_852 : decode code 852 = .ok (.aload_n 3, 1) := by decide +kernel
theorem d_La_law_853 : decode code 853 = .ok (.iconst 0, 1) := by decide +kernel
theorem d_La_law_854 : decode code 854 = .ok (.laload, 1) := by decide +kernel
theorem d_La_law_855 : decode code 855 = .ok (.iload 6, 2) := by decide +kernel
theorem d_La_law_857 : decode code 857 = .ok (.ifCond .eq 7, 3) := by decide +kernel
theorem d_La_law_860 : decode code 860 = .ok (.lconst 1, 1) := by decide +kernel
theorem d_La_law_861 : decode code 861 = .ok (.goto 4, 3) := by decide +kernel
theorem d_La_law_864 : decode code 864 = .ok (.lconst 0, 1) := by decide +kernel
theorem d_La_law_865 : decode code 865 = .ok (.lcmp, 1) := by decide +kernel
theorem d_La_law_866 : decode code 866 = .ok (.ifCond .eq 5, 3) := by decide +kernel
theorem d_La_law_869 : decode code 869 = .ok (.iconst 0, 1) := by decide +kernel
theorem d_La_law_870 : decode code 870 = .ok (.ireturn, 1) := by decide +kernel
theorem d_La_law_871 : decode code 871 = .ok (.goto 127, 3) := by decide +kernel
theorem d_La_law_874 : decode code 874 = .ok (.aload_n 1, 1) := by decide +kernel
theorem d_La_law_875 : decode code 875 = .ok (.aload_n 0, 1) := by decide +kernel
theorem d_La_law_876 : decode code 876 = .ok (.iload 4, 2) := by decide +kernel
theorem d_La_law_878 : decode code 878 = .ok (.iconst 1, 1) := by decide +kernel
theorem d_La_law_879 : decode code 879 = .ok (.iadd, 1) := by decide +kernel
theorem d_La_law_880 : decode code 880 = .ok (.iaload, 1) := by decide +kernel
theorem d_La_law_881 : decode code 881 = .ok (.aload_n 0, 1) := by decide +kernel
theorem d_La_law_882 : decode code 882 = .ok (.iload 4, 2) := by decide +kernel
theorem d_La_law_884 : decode code 884 = .ok (.iconst 2, 1) := by decide +kernel
theorem d_La_law_885 : decode code 885 = .ok (.iadd, 1) := by decide +kernel
theorem d_La_law_886 : decode code 886 = .ok (.iaload, 1) := by decide +kernel
theorem d_La_law_887 : decode code 887 = .ok (.invokevirtual 95, 3) := by decide +kernel
theorem d_La_law_890 : decode code 890 = .ok (.aload_n 2, 1) := by decide +kernel
theorem d_La_law_891 : decode code 891 = .ok (.aload_n 0, 1) := by decide +kernel
theorem d_La_law_892 : decode code 892 = .ok (.iload 4, 2) := by decide +kernel
theorem d_La_law_894 : decode code 894 = .ok (.iconst 1, 1) := by decide +kernel
theorem d_La_law_895 : decode code 895 = .ok (.iadd, 1) := by decide +kernel
theorem d_La_law_896 : decode code 896 = .ok (.iaload, 1) := by decide +kernel
theorem d_La_law_897 : decode code 897 = .ok (.aload_n 0, 1) := by decide +kernel
theorem d_La_law_898 : decode code 898 = .ok (.iload 4, 2) := by decide +kernel
theorem d_La_law_900 : decode code 900 = .ok (.iconst 2, 1) := by decide +kernel
theorem d_La_law_901 : decode code 901 = .ok (.iadd, 1) := by decide +kernel
theorem d_La_law_902 : decode code 902 = .ok (.iaload, 1) := by decide +kernel
theorem d_La_law_903 : decode code 903 = .ok (.invokevirtual 98, 3) := by decide +kernel
theorem d_La_law_906 : decode code 906 = .ok (.if_icmp .eq 92, 3) := by decide +kernel
theorem d_La_law_909 : decode code 909 = .ok (.iconst 0, 1) := by decide +kernel
theorem d_La_law_910 : decode code 910 = .ok (.ireturn, 1) := by decide +kernel
theorem d_La_law_911 : decode code 911 = .ok (.aload_n 1, 1) := by decide +kernel
theorem d_La_law_912 : decode code 912 = .ok (.aload_n 0, 1) := by decide +kernel
theorem d_La_law_913 : decode code 913 = .ok (.iload 4, 2) := by decide +kernel
theorem d_La_law_915 : decode code 915 = .ok (.iconst 1, 1) := by decide +kernel
theorem d_La_law_916 : decode code 916 = .ok (.iadd, 1) := by decide +kernel
theorem d_La_law_917 : decode code 917 = .ok (.iaload, 1) := by decide +kernel
theorem d_La_law_918 : decode code 918 = .ok (.invokevirtual 99, 3) := by decide +kernel
theorem d_La_law_921 : decode code 921 = .ok (.aload_n 2, 1) := by decide +kernel
theorem d_La_law_922 : decode code 922 = .ok (.aload_n 0, 1) := by decide +kernel
theorem d_La_law_923 : decode code 923 = .ok (.iload 4, 2) := by decide +kernel
theorem d_La_law_925 : decode code 925 = .ok (.iconst 1, 1) := by decide +kernel
theorem d_La_law_926 : decode code 926 = .ok (.iadd, 1) := by decide +kernel
theorem d_La_law_927 : decode code 927 = .ok (.iaload, 1) := by decide +kernel
theorem d_La_law_928 : decode code 928 = .ok (.invokevirtual 103, 3) := by decide +kernel
theorem d_La_law_931 : decode code 931 = .ok (.if_icmp .eq 67, 3) := by decide +kernel
theorem d_La_law_934 : decode code 934 = .ok (.iconst 0, 1) := by decide +kernel
theorem d_La_law_935 : decode code 935 = .ok (.ireturn, 1) := by decide +kernel
theorem d_La_law_936 : decode code 936 = .ok (.aload_n 1, 1) := by decide +kernel
theorem d_La_law_937 : decode code 937 = .ok (.aload_n 0, 1) := by decide +kernel
theorem d_La_law_938 : decode code 938 = .ok (.iload 4, 2) := by decide +kernel
theorem d_La_law_940 : decode code 940 = .ok (.iconst 1, 1) := by decide +kernel
theorem d_La_law_941 : decode code 941 = .ok (.iadd, 1) := by decide +kernel
theorem d_La_law_942 : decode code 942 = .ok (.iaload, 1) := by decide +kernel
theorem d_La_law_943 : decode code 943 = .ok (.aload_n 0, 1) := by decide +kernel
theorem d_La_law_944 : decode code 944 = .ok (.iload 4, 2) := by decide +kernel
theorem d_La_law_946 : decode code 946 = .ok (.iconst 2, 1) := by decide +kernel
theorem d_La_law_947 : decode code 947 = .ok (.iadd, 1) := by decide +kernel
theorem d_La_law_948 : decode code 948 = .ok (.iaload, 1) := by decide +kernel
theorem d_La_law_949 : decode code 949 = .ok (.invokevirtual 104, 3) := by decide +kernel
theorem d_La_law_952 : decode code 952 = .ok (.aload_n 2, 1) := by decide +kernel
theorem d_La_law_953 : decode code 953 = .ok (.aload_n 0, 1) := by decide +kernel
theorem d_La_law_954 : decode code 954 = .ok (.iload 4, 2) := by decide +kernel
theorem d_La_law_956 : decode code 956 = .ok (.iconst 1, 1) := by decide +kernel
theorem d_La_law_957 : decode code 957 = .ok (.iadd, 1) := by decide +kernel
theorem d_La_law_958 : decode code 958 = .ok (.iaload, 1) := by decide +kernel
theorem d_La_law_959 : decode code 959 = .ok (.aload_n 0, 1) := by decide +kernel
theorem d_La_law_960 : decode code 960 = .ok (.iload 4, 2) := by decide +kernel
theorem d_La_law_962 : decode code 962 = .ok (.iconst 2, 1) := by decide +kernel
theorem d_La_law_963 : decode code 963 = .ok (.iadd, 1) := by decide +kernel
theorem d_La_law_964 : decode code 964 = .ok (.iaload, 1) := by decide +kernel
theorem d_La_law_965 : decode code 965 = .ok (.invokevirtual 107, 3) := by decide +kernel
theorem d_La_law_968 : decode code 968 = .ok (.if_icmp .eq 30, 3) := by decide +kernel
theorem d_La_law_971 : decode code 971 = .ok (.iconst 0, 1) := by decide +kernel
theorem d_La_law_972 : decode code 972 = .ok (.ireturn, 1) := by decide +kernel
theorem d_La_law_973 : decode code 973 = .ok (.aload_n 1, 1) := by decide +kernel
theorem d_La_law_974 : decode code 974 = .ok (.aload_n 0, 1) := by decide +kernel
theorem d_La_law_975 : decode code 975 = .ok (.iload 4, 2) := by decide +kernel
theorem d_La_law_977 : decode code 977 = .ok (.iconst 1, 1) := by decide +kernel
theorem d_La_law_978 : decode code 978 = .ok (.iadd, 1) := by decide +kernel
theorem d_La_law_979 : decode code 979 = .ok (.iaload, 1) := by decide +kernel
theorem d_La_law_980 : decode code 980 = .ok (.invokevirtual 108, 3) := by decide +kernel
theorem d_La_law_983 : decode code 983 = .ok (.aload_n 2, 1) := by decide +kernel
theorem d_La_law_984 : decode code 984 = .ok (.aload_n 0, 1) := by decide +kernel
theorem d_La_law_985 : decode code 985 = .ok (.iload 4, 2) := by decide +kernel
theorem d_La_law_987 : decode code 987 = .ok (.iconst 1, 1) := by decide +kernel
theorem d_La_law_988 : decode code 988 = .ok (.iadd, 1) := by decide +kernel
theorem d_La_law_989 : decode code 989 = .ok (.iaload, 1) := by decide +kernel
theorem d_La_law_990 : decode code 990 = .ok (.invokevirtual 111, 3) := by decide +kernel
theorem d_La_law_993 : decode code 993 = .ok (.if_icmp .eq 5, 3) := by decide +kernel
theorem d_La_law_996 : decode code 996 = .ok (.iconst 0, 1) := by decide +kernel
theorem d_La_law_997 : decode code 997 = .ok (.ireturn, 1) := by decide +kernel
theorem d_La_law_998 : decode code 998 = .ok (.iinc 4 7, 3) := by decide +kernel
theorem d_La_law_1001 : decode code 1001 = .ok (.goto (-948), 3) := by decide +kernel
theorem d_La_law_1004 : decode code 1004 = .ok (.iconst 1, 1) := by decide +kernel
theorem d_La_law_1005 : decode code 1005 = .ok (.ireturn, 1) := by decide +kernel
