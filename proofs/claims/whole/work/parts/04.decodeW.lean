theorem d_W_cell_0 : decode method_2_code 0 = .ok (.iload_n 1, 1) := by decide +kernel
theorem d_W_cell_1 : decode method_2_code 1 = .ok (.aload_n 0, 1) := by decide +kernel
theorem d_W_cell_2 : decode method_2_code 2 = .ok (.arraylength, 1) := by decide +kernel
theorem d_W_cell_3 : decode method_2_code 3 = .ok (.if_icmp .ge 9, 3) := by decide +kernel
theorem d_W_cell_6 : decode method_2_code 6 = .ok (.aload_n 0, 1) := by decide +kernel
theorem d_W_cell_7 : decode method_2_code 7 = .ok (.iload_n 1, 1) := by decide +kernel
theorem d_W_cell_8 : decode method_2_code 8 = .ok (.iaload, 1) := by decide +kernel
theorem d_W_cell_9 : decode method_2_code 9 = .ok (.goto 4, 3) := by decide +kernel
theorem d_W_cell_12 : decode method_2_code 12 = .ok (.iconst 0, 1) := by decide +kernel
theorem d_W_cell_13 : decode method_2_code 13 = .ok (.ireturn, 1) := by decide +kernel
theorem d_W_law_0 : decode code 0 = .ok (.new 7, 3) := by decide +kernel
theorem d_W_law_3 : decode code 3 = .ok (.dup, 1) := by decide +kernel
theorem d_W_law_4 : decode code 4 = .ok (.aload_n 0, 1) := by decide +kernel
theorem d_W_law_5 : decode code 5 = .ok (.iconst 0, 1) := by decide +kernel
theorem d_W_law_6 : decode code 6 = .ok (.invokestatic 9, 3) := by decide +kernel
theorem d_W_law_9 : decode code 9 = .ok (.aload_n 0, 1) := by decide +kernel
theorem d_W_law_10 : decode code 10 = .ok (.iconst 1, 1) := by decide +kernel
theorem d_W_law_11 : decode code 11 = .ok (.invokestatic 9, 3) := by decide +kernel
theorem d_W_law_14 : decode code 14 = .ok (.aload_n 0, 1) := by decide +kernel
theorem d_W_law_15 : decode code 15 = .ok (.iconst 2, 1) := by decide +kernel
theorem d_W_law_16 : decode code 16 = .ok (.invokestatic 9, 3) := by decide +kernel
theorem d_W_law_19 : decode code 19 = .ok (.invokespecial 15, 3) := by decide +kernel
theorem d_W_law_22 : decode code 22 = .ok (.astore_n 1, 1) := by decide +kernel
theorem d_W_law_23 : decode code 23 = .ok (.new 18, 3) := by decide +kernel
theorem d_W_law_26 : decode code 26 = .ok (.dup, 1) := by decide +kernel
theorem d_W_law_27 : decode code 27 = .ok (.aload_n 0, 1) := by decide +kernel
theorem d_W_law_28 : decode code 28 = .ok (.iconst 0, 1) := by decide +kernel
theorem d_W_law_29 : decode code 29 = .ok (.invokestatic 9, 3) := by decide +kernel
theorem d_W_law_32 : decode code 32 = .ok (.aload_n 0, 1) := by decide +kernel
theorem d_W_law_33 : decode code 33 = .ok (.iconst 1, 1) := by decide +kernel
theorem d_W_law_34 : decode code 34 = .ok (.invokestatic 9, 3) := by decide +kernel
theorem d_W_law_37 : decode code 37 = .ok (.aload_n 0, 1) := by decide +kernel
theorem d_W_law_38 : decode code 38 = .ok (.iconst 2, 1) := by decide +kernel
theorem d_W_law_39 : decode code 39 = .ok (.invokestatic 9, 3) := by decide +kernel
theorem d_W_law_42 : decode code 42 = .ok (.invokespecial 20, 3) := by decide +kernel
theorem d_W_law_45 : decode code 45 = .ok (.astore_n 2, 1) := by decide +kernel
theorem d_W_law_46 : decode code 46 = .ok (.iconst 3, 1) := by decide +kernel
theorem d_W_law_47 : decode code 47 = .ok (.istore_n 3, 1) := by decide +kernel
theorem d_W_law_48 : decode code 48 = .ok (.iload_n 3, 1) := by decide +kernel
theorem d_W_law_49 : decode code 49 = .ok (.aload_n 0, 1) := by decide +kernel
theorem d_W_law_50 : decode code 50 = .ok (.arraylength, 1) := by decide +kernel
theorem d_W_law_51 : decode code 51 = .ok (.iconst 3, 1) := by decide +kernel
theorem d_W_law_52 : decode code 52 = .ok (.isub, 1) := by decide +kernel
theorem d_W_law_53 : decode code 53 = .ok (.if_icmp .gt 602, 3) := by decide +kernel
theorem d_W_law_56 : decode code 56 = .ok (.aload_n 0, 1) := by decide +kernel
theorem d_W_law_57 : decode code 57 = .ok (.iload_n 3, 1) := by decide +kernel
theorem d_W_law_58 : decode code 58 = .ok (.iaload, 1) := by decide +kernel
theorem d_W_law_59 : decode code 59 = .ok (.bipush 31, 2) := by decide +kernel
theorem d_W_law_61 : decode code 61 = .ok (.iand, 1) := by decide +kernel
theorem d_W_law_62 : decode code 62 = .ok (.tableswitch 587 0 18 #[90, 123, 156, 189, 212, 235, 258, 281, 294, 327, 350, 373, 396, 419, 442, 465, 488, 521, 554], 90) := by decide +kernel
theorem d_W_law_152 : decode code 152 = .ok (.aload_n 1, 1) := by decide +kernel
theorem d_W_law_153 : decode code 153 = .ok (.aload_n 0, 1) := by decide +kernel
theorem d_W_law_154 : decode code 154 = .ok (.iload_n 3, 1) := by decide +kernel
theorem d_W_law_155 : decode code 155 = .ok (.iconst 1, 1) := by decide +kernel
theorem d_W_law_156 : decode code 156 = .ok (.iadd, 1) := by decide +kernel
theorem d_W_law_157 : decode code 157 = .ok (.iaload, 1) := by decide +kernel
theorem d_W_law_158 : decode code 158 = .ok (.aload_n 0, 1) := by decide +kernel
theorem d_W_law_159 : decode code 159 = .ok (.iload_n 3, 1) := by decide +kernel
theorem d_W_law_160 : decode code 160 = .ok (.iconst 2, 1) := by decide +kernel
theorem d_W_law_161 : decode code 161 = .ok (.iadd, 1) := by decide +kernel
theorem d_W_law_162 : decode code 162 = .ok (.iaload, 1) := by decide +kernel
theorem d_W_law_163 : decode code 163 = .ok (.invokevirtual 21, 3) := by decide +kernel
theorem d_W_law_166 : decode code 166 = .ok (.aload_n 2, 1) := by decide +kernel
theorem d_W_law_167 : decode code 167 = .ok (.aload_n 0, 1) := by decide +kernel
theorem d_W_law_168 : decode code 168 = .ok (.iload_n 3, 1) := by decide +kernel
theorem d_W_law_169 : decode code 169 = .ok (.iconst 1, 1) := by decide +kernel
theorem d_W_law_170 : decode code 170 = .ok (.iadd, 1) := by decide +kernel
theorem d_W_law_171 : decode code 171 = .ok (.iaload, 1) := by decide +kernel
theorem d_W_law_172 : decode code 172 = .ok (.aload_n 0, 1) := by decide +kernel
theorem d_W_law_173 : decode code 173 = .ok (.iload_n 3, 1) := by decide +kernel
theorem d_W_law_174 : decode code 174 = .ok (.iconst 2, 1) := by decide +kernel
theorem d_W_law_175 : decode code 175 = .ok (.iadd, 1) := by decide +kernel
theorem d_W_law_176 : decode code 176 = .ok (.iaload, 1) := by decide +kernel
theorem d_W_law_177 : decode code 177 = .ok (.invokevirtual 25, 3) := by decide +kernel
theorem d_W_law_180 : decode code 180 = .ok (.if_icmp .eq 469, 3) := by decide +kernel
theorem d_W_law_183 : decode code 183 = .ok (.iconst 0, 1) := by decide +kernel
theorem d_W_law_184 : decode code 184 = .ok (.ireturn, 1) := by decide +kernel
theorem d_W_law_185 : decode code 185 = .ok (.aload_n 1, 1) := by decide +kernel
theorem d_W_law_186 : decode code 186 = .ok (.aload_n 0, 1) := by decide +kernel
theorem d_W_law_187 : decode code 187 = .ok (.iload_n 3, 1) := by decide +kernel
theorem d_W_law_188 : decode code 188 = .ok (.iconst 1, 1) := by decide +kernel
theorem d_W_law_189 : decode code 189 = .ok (.iadd, 1) := by decide +kernel
theorem d_W_law_190 : decode code 190 = .ok (.iaload, 1) := by decide +kernel
theorem d_W_law_191 : decode code 191 = .ok (.aload_n 0, 1) := by decide +kernel
theorem d_W_law_192 : decode code 192 = .ok (.iload_n 3, 1) := by decide +kernel
theorem d_W_law_193 : decode code 193 = .ok (.iconst 2, 1) := by decide +kernel
theorem d_W_law_194 : decode code 194 = .ok (.iadd, 1) := by decide +kernel
theorem d_W_law_195 : decode code 195 = .ok (.iaload, 1) := by decide +kernel
theorem d_W_law_196 : decode code 196 = .ok (.invokevirtual 26, 3) := by decide +kernel
theorem d_W_law_199 : decode code 199 = .ok (.aload_n 2, 1) := by decide +kernel
theorem d_W_law_200 : decode code 200 = .ok (.aload_n 0, 1) := by decide +kernel
theorem d_W_law_201 : decode code 201 = .ok (.iload_n 3, 1) := by decide +kernel
theorem d_W_law_202 : decode code 202 = .ok (.iconst 1, 1) := by decide +kernel
theorem d_W_law_203 : decode code 203 = .ok (.iadd, 1) := by decide +kernel
theorem d_W_law_204 : decode code 204 = .ok (.iaload, 1) := by decide +kernel
theorem d_W_law_205 : decode code 205 = .ok (.aload_n 0, 1) := by decide +kernel
theorem d_W_law_206 : decode code 206 = .ok (.iload_n 3, 1) := by decide +kernel
theorem d_W_law_207 : decode code 207 = .ok (.iconst 2, 1) := by decide +kernel
theorem d_W_law_208 : decode code 208 = .ok (.iadd, 1) := by decide +kernel
theorem d_W_law_209 : decode code 209 = .ok (.iaload, 1) := by decide +kernel
theorem d_W_law_210 : decode code 210 = .ok (.invokevirtual 29, 3) := by decide +kernel
theorem d_W_law_213 : decode code 213 = .ok (.if_icmp .eq 436, 3) := by decide +kernel
theorem d_W_law_216 : decode code 216 = .ok (.iconst 0, 1) := by decide +kernel
theorem d_W_law_217 : decode code 217 = .ok (.ireturn, 1) := by decide +kernel
theorem d_W_law_218 : decode code 218 = .ok (.aload_n 1, 1) := by decide +kernel
theorem d_W_law_219 : decode code 219 = .ok (.aload_n 0, 1) := by decide +kernel
theorem d_W_law_220 : decode code 220 = .ok (.iload_n 3, 1) := by decide +kernel
theorem d_W_law_221 : decode code 221 = .ok (.iconst 1, 1) := by decide +kernel
theorem d_W_law_222 : decode code 222 = .ok (.iadd, 1) := by decide +kernel
theorem d_W_law_223 : decode code 223 = .ok (.iaload, 1) := by decide +kernel
theorem d_W_law_224 : decode code 224 = .ok (.aload_n 0, 1) := by decide +kernel
theorem d_W_law_225 : decode code 225 = .ok (.iload_n 3, 1) := by decide +kernel
theorem d_W_law_226 : decode code 226 = .ok (.iconst 2, 1) := by decide +kernel
theorem d_W_law_227 : decode code 227 = .ok (.iadd, 1) := by decide +kernel
theorem d_W_law_228 : decode code 228 = .ok (.iaload, 1) := by decide +kernel
theorem d_W_law_229 : decode code 229 = .ok (.invokevirtual 30, 3) := by decide +kernel
theorem d_W_law_232 : decode code 232 = .ok (.aload_n 2, 1) := by decide +kernel
theorem d_W_law_233 : decode code 233 = .ok (.aload_n 0, 1) := by decide +kernel
theorem d_W_law_234 : decode code 234 = .ok (.iload_n 3, 1) := by decide +kernel
theorem d_W_law_235 : decode code 235 = .ok (.iconst 1, 1) := by decide +kernel
theorem d_W_law_236 : decode code 236 = .ok (.iadd, 1) := by decide +kernel
theorem d_W_law_237 : decode code 237 = .ok (.iaload, 1) := by decide +kernel
theorem d_W_law_238 : decode code 238 = .ok (.aload_n 0, 1) := by decide +kernel
theorem d_W_law_239 : decode code 239 = .ok (.iload_n 3, 1) := by decide +kernel
theorem d_W_law_240 : decode code 240 = .ok (.iconst 2, 1) := by decide +kernel
theorem d_W_law_241 : decode code 241 = .ok (.iadd, 1) := by decide +kernel
theorem d_W_law_242 : decode code 242 = .ok (.iaload, 1) := by decide +kernel
theorem d_W_law_243 : decode code 243 = .ok (.invokevirtual 33, 3) := by decide +kernel
theorem d_W_law_246 : decode code 246 = .ok (.if_icmp .eq 403, 3) := by decide +kernel
theorem d_W_law_249 : decode code 249 = .ok (.iconst 0, 1) := by decide +kernel
theorem d_W_law_250 : decode code 250 = .ok (.ireturn, 1) := by decide +kernel
theorem d_W_law_251 : decode code 251 = .ok (.aload_n 1, 1) := by decide +kernel
theorem d_W_law_252 : decode code 252 = .ok (.aload_n 0, 1) := by decide +kernel
theorem d_W_law_253 : decode code 253 = .ok (.iload_n 3, 1) := by decide +kernel
theorem d_W_law_254 : decode code 254 = .ok (.iconst 1, 1) := by decide +kernel
theorem d_W_law_255 : decode code 255 = .ok (.iadd, 1) := by decide +kernel
theorem d_W_law_256 : decode code 256 = .ok (.iaload, 1) := by decide +kernel
theorem d_W_law_257 : decode code 257 = .ok (.invokevirtual 34, 3) := by decide +kernel
theorem d_W_law_260 : decode code 260 = .ok (.aload_n 2, 1) := by decide +kernel
theorem d_W_law_261 : decode code 261 = .ok (.aload_n 0, 1) := by decide +kernel
theorem d_W_law_262 : decode code 262 = .ok (.iload_n 3, 1) := by decide +kernel
theorem d_W_law_263 : decode code 263 = .ok (.iconst 1, 1) := by decide +kernel
theorem d_W_law_264 : decode code 264 = .ok (.iadd, 1) := by decide +kernel
theorem d_W_law_265 : decode code 265 = .ok (.iaload, 1) := by decide +kernel
theorem d_W_law_266 : decode code 266 = .ok (.invokevirtual 38, 3) := by decide +kernel
theorem d_W_law_269 : decode code 269 = .ok (.if_icmp .eq 380, 3) := by decide +kernel
theorem d_W_law_272 : decode code 272 = .ok (.iconst 0, 1) := by decide +kernel
theorem d_W_law_273 : decode code 273 = .ok (.ireturn, 1) := by decide +kernel
theorem d_W_law_274 : decode code 274 = .ok (.aload_n 1, 1) := by decide +kernel
theorem d_W_law_275 : decode code 275 = .ok (.aload_n 0, 1) := by decide +kernel
theorem d_W_law_276 : decode code 276 = .ok (.iload_n 3, 1) := by decide +kernel
theorem d_W_law_277 : decode code 277 = .ok (.iconst 1, 1) := by decide +kernel
theorem d_W_law_278 : decode code 278 = .ok (.iadd, 1) := by decide +kernel
theorem d_W_law_279 : decode code 279 = .ok (.iaload, 1) := by decide +kernel
theorem d_W_law_280 : decode code 280 = .ok (.invokevirtual 39, 3) := by decide +kernel
theorem d_W_law_283 : decode code 283 = .ok (.aload_n 2, 1) := by decide +kernel
theorem d_W_law_284 : decode code 284 = .ok (.aload_n 0, 1) := by decide +kernel
theorem d_W_law_285 : decode code 285 = .ok (.iload_n 3, 1) := by decide +kernel
theorem d_W_law_286 : decode code 286 = .ok (.iconst 1, 1) := by decide +kernel
theorem d_W_law_287 : decode code 287 = .ok (.iadd, 1) := by decide +kernel
theorem d_W_law_288 : decode code 288 = .ok (.iaload, 1) := by decide +kernel
theorem d_W_law_289 : decode code 289 = .ok (.invokevirtual 43, 3) := by decide +kernel
theorem d_W_law_292 : decode code 292 = .ok (.if_icmp .eq 357, 3) := by decide +kernel
theorem d_W_law_295 : decode code 295 = .ok (.iconst 0, 1) := by decide +kernel
theorem d_W_law_296 : decode code 296 = .ok (.ireturn, 1) := by decide +kernel
theorem d_W_law_297 : decode code 297 = .ok (.aload_n 1, 1) := by decide +kernel
theorem d_W_law_298 : decode code 298 = .ok (.aload_n 0, 1) := by decide +kernel
theorem d_W_law_299 : decode code 299 = .ok (.iload_n 3, 1) := by decide +kernel
theorem d_W_law_300 : decode code 300 = .ok (.iconst 1, 1) := by decide +kernel
theorem d_W_law_301 : decode code 301 = .ok (.iadd, 1) := by decide +kernel
theorem d_W_law_302 : decode code 302 = .ok (.iaload, 1) := by decide +kernel
theorem d_W_law_303 : decode code 303 = .ok (.invokevirtual 44, 3) := by decide +kernel
theorem d_W_law_306 : decode code 306 = .ok (.aload_n 2, 1) := by decide +kernel
theorem d_W_law_307 : decode code 307 = .ok (.aload_n 0, 1) := by decide +kernel
theorem d_W_law_308 : decode code 308 = .ok (.iload_n 3, 1) := by decide +kernel
theorem d_W_law_309 : decode code 309 = .ok (.iconst 1, 1) := by decide +kernel
theorem d_W_law_310 : decode code 310 = .ok (.iadd, 1) := by decide +kernel
theorem d_W_law_311 : decode code 311 = .ok (.iaload, 1) := by decide +kernel
theorem d_W_law_312 : decode code 312 = .ok (.invokevirtual 47, 3) := by decide +kernel
theorem d_W_law_315 : decode code 315 = .ok (.if_icmp .eq 334, 3) := by decide +kernel
theorem d_W_law_318 : decode code 318 = .ok (.iconst 0, 1) := by decide +kernel
theorem d_W_law_319 : decode code 319 = .ok (.ireturn, 1) := by decide +kernel
theorem d_W_law_320 : decode code 320 = .ok (.aload_n 1, 1) := by decide +kernel
theorem d_W_law_321 : decode code 321 = .ok (.aload_n 0, 1) := by decide +kernel
theorem d_W_law_322 : decode code 322 = .ok (.iload_n 3, 1) := by decide +kernel
theorem d_W_law_323 : decode code 323 = .ok (.iconst 1, 1) := by decide +kernel
theorem d_W_law_324 : decode code 324 = .ok (.iadd, 1) := by decide +kernel
theorem d_W_law_325 : decode code 325 = .ok (.iaload, 1) := by decide +kernel
theorem d_W_law_326 : decode code 326 = .ok (.invokevirtual 48, 3) := by decide +kernel
theorem d_W_law_329 : decode code 329 = .ok (.aload_n 2, 1) := by decide +kernel
theorem d_W_law_330 : decode code 330 = .ok (.aload_n 0, 1) := by decide +kernel
theorem d_W_law_331 : decode code 331 = .ok (.iload_n 3, 1) := by decide +kernel
theorem d_W_law_332 : decode code 332 = .ok (.iconst 1, 1) := by decide +kernel
theorem d_W_law_333 : decode code 333 = .ok (.iadd, 1) := by decide +kernel
theorem d_W_law_334 : decode code 334 = .ok (.iaload, 1) := by decide +kernel
theorem d_W_law_335 : decode code 335 = .ok (.invokevirtual 51, 3) := by decide +kernel
theorem d_W_law_338 : decode code 338 = .ok (.if_icmp .eq 311, 3) := by decide +kernel
theorem d_W_law_341 : decode code 341 = .ok (.iconst 0, 1) := by decide +kernel
theorem d_W_law_342 : decode code 342 = .ok (.ireturn, 1) := by decide +kernel
theorem d_W_law_343 : decode code 343 = .ok (.aload_n 1, 1) := by decide +kernel
theorem d_W_law_344 : decode code 344 = .ok (.invokevirtual 52, 3) := by decide +kernel
theorem d_W_law_347 : decode code 347 = .ok (.aload_n 2, 1) := by decide +kernel
theorem d_W_law_348 : decode code 348 = .ok (.invokevirtual 56, 3) := by decide +kernel
theorem d_W_law_351 : decode code 351 = .ok (.if_icmp .eq 298, 3) := by decide +kernel
theorem d_W_law_354 : decode code 354 = .ok (.iconst 0, 1) := by decide +kernel
theorem d_W_law_355 : decode code 355 = .ok (.ireturn, 1) := by decide +kernel
theorem d_W_law_356 : decode code 356 = .ok (.aload_n 1, 1) := by decide +kernel
theorem d_W_law_357 : decode code 357 = .ok (.aload_n 0, 1) := by decide +kernel
theorem d_W_law_358 : decode code 358 = .ok (.iload_n 3, 1) := by decide +kernel
theorem d_W_law_359 : decode code 359 = .ok (.iconst 1, 1) := by decide +kernel
theorem d_W_law_360 : decode code 360 = .ok (.iadd, 1) := by decide +kernel
theorem d_W_law_361 : decode code 361 = .ok (.iaload, 1) := by decide +kernel
theorem d_W_law_362 : decode code 362 = .ok (.aload_n 0, 1) := by decide +kernel
theorem d_W_law_363 : decode code 363 = .ok (.iload_n 3, 1) := by decide +kernel
theorem d_W_law_364 : decode code 364 = .ok (.iconst 2, 1) := by decide +kernel
theorem d_W_law_365 : decode code 365 = .ok (.iadd, 1) := by decide +kernel
theorem d_W_law_366 : decode code 366 = .ok (.iaload, 1) := by decide +kernel
theorem d_W_law_367 : decode code 367 = .ok (.invokevirtual 57, 3) := by decide +kernel
theorem d_W_law_370 : decode code 370 = .ok (.aload_n 2, 1) := by decide +kernel
theorem d_W_law_371 : decode code 371 = .ok (.aload_n 0, 1) := by decide +kernel
theorem d_W_law_372 : decode code 372 = .ok (.iload_n 3, 1) := by decide +kernel
theorem d_W_law_373 : decode code 373 = .ok (.iconst 1, 1) := by decide +kernel
theorem d_W_law_374 : decode code 374 = .ok (.iadd, 1) := by decide +kernel
theorem d_W_law_375 : decode code 375 = .ok (.iaload, 1) := by decide +kernel
theorem d_W_law_376 : decode code 376 = .ok (.aload_n 0, 1) := by decide +kernel
theorem d_W_law_377 : decode code 377 = .ok (.iload_n 3, 1) := by decide +kernel
theorem d_W_law_378 : decode code 378 = .ok (.iconst 2, 1) := by decide +kernel
theorem d_W_law_379 : decode code 379 = .ok (.iadd, 1) := by decide +kernel
theorem d_W_law_380 : decode code 380 = .ok (.iaload, 1) := by decide +kernel
theorem d_W_law_381 : decode code 381 = .ok (.invokevirtual 60, 3) := by decide +kernel
theorem d_W_law_384 : decode code 384 = .ok (.if_icmp .eq 265, 3) := by decide +kernel
theorem d_W_law_387 : decode code 387 = .ok (.iconst 0, 1) := by decide +kernel
theorem d_W_law_388 : decode code 388 = .ok (.ireturn, 1) := by decide +kernel
theorem d_W_law_389 : decode code 389 = .ok (.aload_n 1, 1) := by decide +kernel
theorem d_W_law_390 : decode code 390 = .ok (.aload_n 0, 1) := by decide +kernel
theorem d_W_law_391 : decode code 391 = .ok (.iload_n 3, 1) := by decide +kernel
theorem d_W_law_392 : decode code 392 = .ok (.iconst 1, 1) := by decide +kernel
theorem d_W_law_393 : decode code 393 = .ok (.iadd, 1) := by decide +kernel
theorem d_W_law_394 : decode code 394 = .ok (.iaload, 1) := by decide +kernel
theorem d_W_law_395 : decode code 395 = .ok (.invokevirtual 61, 3) := by decide +kernel
theorem d_W_law_398 : decode code 398 = .ok (.aload_n 2, 1) := by decide +kernel
theorem d_W_law_399 : decode code 399 = .ok (.aload_n 0, 1) := by decide +kernel
theorem d_W_law_400 : decode code 400 = .ok (.iload_n 3, 1) := by decide +kernel
theorem d_W_law_401 : decode code 401 = .ok (.iconst 1, 1) := by decide +kernel
theorem d_W_law_402 : decode code 402 = .ok (.iadd, 1) := by decide +kernel
theorem d_W_law_403 : decode code 403 = .ok (.iaload, 1) := by decide +kernel
theorem d_W_law_404 : decode code 404 = .ok (.invokevirtual 64, 3) := by decide +kernel
theorem d_W_law_407 : decode code 407 = .ok (.if_icmp .eq 242, 3) := by decide +kernel
theorem d_W_law_410 : decode code 410 = .ok (.iconst 0, 1) := by decide +kernel
theorem d_W_law_411 : decode code 411 = .ok (.ireturn, 1) := by decide +kernel
theorem d_W_law_412 : decode code 412 = .ok (.aload_n 1, 1) := by decide +kernel
theorem d_W_law_413 : decode code 413 = .ok (.aload_n 0, 1) := by decide +kernel
theorem d_W_law_414 : decode code 414 = .ok (.iload_n 3, 1) := by decide +kernel
theorem d_W_law_415 : decode code 415 = .ok (.iconst 1, 1) := by decide +kernel
theorem d_W_law_416 : decode code 416 = .ok (.iadd, 1) := by decide +kernel
theorem d_W_law_417 : decode code 417 = .ok (.iaload, 1) := by decide +kernel
theorem d_W_law_418 : decode code 418 = .ok (.invokevirtual 65, 3) := by decide +kernel
theorem d_W_law_421 : decode code 421 = .ok (.aload_n 2, 1) := by decide +kernel
theorem d_W_law_422 : decode code 422 = .ok (.aload_n 0, 1) := by decide +kernel
theorem d_W_law_423 : decode code 423 = .ok (.iload_n 3, 1) := by decide +kernel
theorem d_W_law_424 : decode code 424 = .ok (.iconst 1, 1) := by decide +kernel
theorem d_W_law_425 : decode code 425 = .ok (.iadd, 1) := by decide +kernel
theorem d_W_law_426 : decode code 426 = .ok (.iaload, 1) := by decide +kernel
theorem d_W_law_427 : decode code 427 = .ok (.invokevirtual 68, 3) := by decide +kernel
theorem d_W_law_430 : decode code 430 = .ok (.if_icmp .eq 219, 3) := by decide +kernel
theorem d_W_law_433 : decode code 433 = .ok (.iconst 0, 1) := by decide +kernel
theorem d_W_law_434 : decode code 434 = .ok (.ireturn, 1) := by decide +kernel
theorem d_W_law_435 : decode code 435 = .ok (.aload_n 1, 1) := by decide +kernel
theorem d_W_law_436 : decode code 436 = .ok (.aload_n 0, 1) := by decide +kernel
theorem d_W_law_437 : decode code 437 = .ok (.iload_n 3, 1) := by decide +kernel
theorem d_W_law_438 : decode code 438 = .ok (.iconst 1, 1) := by decide +kernel
theorem d_W_law_439 : decode code 439 = .ok (.iadd, 1) := by decide +kernel
theorem d_W_law_440 : decode code 440 = .ok (.iaload, 1) := by decide +kernel
theorem d_W_law_441 : decode code 441 = .ok (.invokevirtual 69, 3) := by decide +kernel
theorem d_W_law_444 : decode code 444 = .ok (.aload_n 2, 1) := by decide +kernel
theorem d_W_law_445 : decode code 445 = .ok (.aload_n 0, 1) := by decide +kernel
theorem d_W_law_446 : decode code 446 = .ok (.iload_n 3, 1) := by decide +kernel
theorem d_W_law_447 : decode code 447 = .ok (.iconst 1, 1) := by decide +kernel
theorem d_W_law_448 : decode code 448 = .ok (.iadd, 1) := by decide +kernel
theorem d_W_law_449 : decode code 449 = .ok (.iaload, 1) := by decide +kernel
theorem d_W_law_450 : decode code 450 = .ok (.invokevirtual 72, 3) := by decide +kernel
theorem d_W_law_453 : decode code 453 = .ok (.if_icmp .eq 196, 3) := by decide +kernel
theorem d_W_law_456 : decode code 456 = .ok (.iconst 0, 1) := by decide +kernel
theorem d_W_law_457 : decode code 457 = .ok (.ireturn, 1) := by decide +kernel
theorem d_W_law_458 : decode code 458 = .ok (.aload_n 1, 1) := by decide +kernel
theorem d_W_law_459 : decode code 459 = .ok (.aload_n 0, 1) := by decide +kernel
theorem d_W_law_460 : decode code 460 = .ok (.iload_n 3, 1) := by decide +kernel
theorem d_W_law_461 : decode code 461 = .ok (.iconst 1, 1) := by decide +kernel
theorem d_W_law_462 : decode code 462 = .ok (.iadd, 1) := by decide +kernel
theorem d_W_law_463 : decode code 463 = .ok (.iaload, 1) := by decide +kernel
theorem d_W_law_464 : decode code 464 = .ok (.invokevirtual 73, 3) := by decide +kernel
theorem d_W_law_467 : decode code 467 = .ok (.aload_n 2, 1) := by decide +kernel
theorem d_W_law_468 : decode code 468 = .ok (.aload_n 0, 1) := by decide +kernel
theorem d_W_law_469 : decode code 469 = .ok (.iload_n 3, 1) := by decide +kernel
theorem d_W_law_470 : decode code 470 = .ok (.iconst 1, 1) := by decide +kernel
theorem d_W_law_471 : decode code 471 = .ok (.iadd, 1) := by decide +kernel
theorem d_W_law_472 : decode code 472 = .ok (.iaload, 1) := by decide +kernel
theorem d_W_law_473 : decode code 473 = .ok (.invokevirtual 76, 3) := by decide +kernel
theorem d_W_law_476 : decode code 476 = .ok (.if_icmp .eq 173, 3) := by decide +kernel
theorem d_W_law_479 : decode code 479 = .ok (.iconst 0, 1) := by decide +kernel
theorem d_W_law_480 : decode code 480 = .ok (.ireturn, 1) := by decide +kernel
theorem d_W_law_481 : decode code 481 = .ok (.aload_n 1, 1) := by decide +kernel
theorem d_W_law_482 : decode code 482 = .ok (.aload_n 0, 1) := by decide +kernel
theorem d_W_law_483 : decode code 483 = .ok (.iload_n 3, 1) := by decide +kernel
theorem d_W_law_484 : decode code 484 = .ok (.iconst 1, 1) := by decide +kernel
theorem d_W_law_485 : decode code 485 = .ok (.iadd, 1) := by decide +kernel
theorem d_W_law_486 : decode code 486 = .ok (.iaload, 1) := by decide +kernel
theorem d_W_law_487 : decode code 487 = .ok (.invokevirtual 77, 3) := by decide +kernel
theorem d_W_law_490 : decode code 490 = .ok (.aload_n 2, 1) := by decide +kernel
theorem d_W_law_491 : decode code 491 = .ok (.aload_n 0, 1) := by decide +kernel
theorem d_W_law_492 : decode code 492 = .ok (.iload_n 3, 1) := by decide +kernel
theorem d_W_law_493 : decode code 493 = .ok (.iconst 1, 1) := by decide +kernel
theorem d_W_law_494 : decode code 494 = .ok (.iadd, 1) := by decide +kernel
theorem d_W_law_495 : decode code 495 = .ok (.iaload, 1) := by decide +kernel
theorem d_W_law_496 : decode code 496 = .ok (.invokevirtual 80, 3) := by decide +kernel
theorem d_W_law_499 : decode code 499 = .ok (.if_icmp .eq 150, 3) := by decide +kernel
theorem d_W_law_502 : decode code 502 = .ok (.iconst 0, 1) := by decide +kernel
theorem d_W_law_503 : decode code 503 = .ok (.ireturn, 1) := by decide +kernel
theorem d_W_law_504 : decode code 504 = .ok (.aload_n 1, 1) := by decide +kernel
theorem d_W_law_505 : decode code 505 = .ok (.aload_n 0, 1) := by decide +kernel
theorem d_W_law_506 : decode code 506 = .ok (.iload_n 3, 1) := by decide +kernel
theorem d_W_law_507 : decode code 507 = .ok (.iconst 1, 1) := by decide +kernel
theorem d_W_law_508 : decode code 508 = .ok (.iadd, 1) := by decide +kernel
theorem d_W_law_509 : decode code 509 = .ok (.iaload, 1) := by decide +kernel
theorem d_W_law_510 : decode code 510 = .ok (.invokevirtual 81, 3) := by decide +kernel
theorem d_W_law_513 : decode code 513 = .ok (.aload_n 2, 1) := by decide +kernel
theorem d_W_law_514 : decode code 514 = .ok (.aload_n 0, 1) := by decide +kernel
theorem d_W_law_515 : decode code 515 = .ok (.iload_n 3, 1) := by decide +kernel
theorem d_W_law_516 : decode code 516 = .ok (.iconst 1, 1) := by decide +kernel
theorem d_W_law_517 : decode code 517 = .ok (.iadd, 1) := by decide +kernel
theorem d_W_law_518 : decode code 518 = .ok (.iaload, 1) := by decide +kernel
theorem d_W_law_519 : decode code 519 = .ok (.invokevirtual 84, 3) := by decide +kernel
theorem d_W_law_522 : decode code 522 = .ok (.if_icmp .eq 127, 3) := by decide +kernel
theorem d_W_law_525 : decode code 525 = .ok (.iconst 0, 1) := by decide +kernel
theorem d_W_law_526 : decode code 526 = .ok (.ireturn, 1) := by decide +kernel
theorem d_W_law_527 : decode code 527 = .ok (.aload_n 1, 1) := by decide +kernel
theorem d_W_law_528 : decode code 528 = .ok (.aload_n 0, 1) := by decide +kernel
theorem d_W_law_529 : decode code 529 = .ok (.iload_n 3, 1) := by decide +kernel
theorem d_W_law_530 : decode code 530 = .ok (.iconst 1, 1) := by decide +kernel
theorem d_W_law_531 : decode code 531 = .ok (.iadd, 1) := by decide +kernel
theorem d_W_law_532 : decode code 532 = .ok (.iaload, 1) := by decide +kernel
theorem d_W_law_533 : decode code 533 = .ok (.invokevirtual 85, 3) := by decide +kernel
theorem d_W_law_536 : decode code 536 = .ok (.aload_n 2, 1) := by decide +kernel
theorem d_W_law_537 : decode code 537 = .ok (.aload_n 0, 1) := by decide +kernel
theorem d_W_law_538 : decode code 538 = .ok (.iload_n 3, 1) := by decide +kernel
theorem d_W_law_539 : decode code 539 = .ok (.iconst 1, 1) := by decide +kernel
theorem d_W_law_540 : decode code 540 = .ok (.iadd, 1) := by decide +kernel
theorem d_W_law_541 : decode code 541 = .ok (.iaload, 1) := by decide +kernel
theorem d_W_law_542 : decode code 542 = .ok (.invokevirtual 88, 3) := by decide +kernel
theorem d_W_law_545 : decode code 545 = .ok (.if_icmp .eq 104, 3) := by decide +kernel
theorem d_W_law_548 : decode code 548 = .ok (.iconst 0, 1) := by decide +kernel
theorem d_W_law_549 : decode code 549 = .ok (.ireturn, 1) := by decide +kernel
theorem d_W_law_550 : decode code 550 = .ok (.aload_n 1, 1) := by decide +kernel
theorem d_W_law_551 : decode code 551 = .ok (.aload_n 0, 1) := by decide +kernel
theorem d_W_law_552 : decode code 552 = .ok (.iload_n 3, 1) := by decide +kernel
theorem d_W_law_553 : decode code 553 = .ok (.iconst 1, 1) := by decide +kernel
theorem d_W_law_554 : decode code 554 = .ok (.iadd, 1) := by decide +kernel
theorem d_W_law_555 : decode code 555 = .ok (.iaload, 1) := by decide +kernel
theorem d_W_law_556 : decode code 556 = .ok (.aload_n 0, 1) := by decide +kernel
theorem d_W_law_557 : decode code 557 = .ok (.iload_n 3, 1) := by decide +kernel
theorem d_W_law_558 : decode code 558 = .ok (.iconst 2, 1) := by decide +kernel
theorem d_W_law_559 : decode code 559 = .ok (.iadd, 1) := by decide +kernel
theorem d_W_law_560 : decode code 560 = .ok (.iaload, 1) := by decide +kernel
theorem d_W_law_561 : decode code 561 = .ok (.invokevirtual 89, 3) := by decide +kernel
theorem d_W_law_564 : decode code 564 = .ok (.aload_n 2, 1) := by decide +kernel
theorem d_W_law_565 : decode code 565 = .ok (.aload_n 0, 1) := by decide +kernel
theorem d_W_law_566 : decode code 566 = .ok (.iload_n 3, 1) := by decide +kernel
theorem d_W_law_567 : decode code 567 = .ok (.iconst 1, 1) := by decide +kernel
theorem d_W_law_568 : decode code 568 = .ok (.iadd, 1) := by decide +kernel
theorem d_W_law_569 : decode code 569 = .ok (.iaload, 1) := by decide +kernel
theorem d_W_law_570 : decode code 570 = .ok (.aload_n 0, 1) := by decide +kernel
theorem d_W_law_571 : decode code 571 = .ok (.iload_n 3, 1) := by decide +kernel
theorem d_W_law_572 : decode code 572 = .ok (.iconst 2, 1) := by decide +kernel
theorem d_W_law_573 : decode code 573 = .ok (.iadd, 1) := by decide +kernel
theorem d_W_law_574 : decode code 574 = .ok (.iaload, 1) := by decide +kernel
theorem d_W_law_575 : decode code 575 = .ok (.invokevirtual 92, 3) := by decide +kernel
theorem d_W_law_578 : decode code 578 = .ok (.if_icmp .eq 71, 3) := by decide +kernel
theorem d_W_law_581 : decode code 581 = .ok (.iconst 0, 1) := by decide +kernel
theorem d_W_law_582 : decode code 582 = .ok (.ireturn, 1) := by decide +kernel
theorem d_W_law_583 : decode code 583 = .ok (.aload_n 1, 1) := by decide +kernel
theorem d_W_law_584 : decode code 584 = .ok (.aload_n 0, 1) := by decide +kernel
theorem d_W_law_585 : decode code 585 = .ok (.iload_n 3, 1) := by decide +kernel
theorem d_W_law_586 : decode code 586 = .ok (.iconst 1, 1) := by decide +kernel
theorem d_W_law_587 : decode code 587 = .ok (.iadd, 1) := by decide +kernel
theorem d_W_law_588 : decode code 588 = .ok (.iaload, 1) := by decide +kernel
theorem d_W_law_589 : decode code 589 = .ok (.aload_n 0, 1) := by decide +kernel
theorem d_W_law_590 : decode code 590 = .ok (.iload_n 3, 1) := by decide +kernel
theorem d_W_law_591 : decode code 591 = .ok (.iconst 2, 1) := by decide +kernel
theorem d_W_law_592 : decode code 592 = .ok (.iadd, 1) := by decide +kernel
theorem d_W_law_593 : decode code 593 = .ok (.iaload, 1) := by decide +kernel
theorem d_W_law_594 : decode code 594 = .ok (.invokevirtual 93, 3) := by decide +kernel
theorem d_W_law_597 : decode code 597 = .ok (.aload_n 2, 1) := by decide +kernel
theorem d_W_law_598 : decode code 598 = .ok (.aload_n 0, 1) := by decide +kernel
theorem d_W_law_599 : decode code 599 = .ok (.iload_n 3, 1) := by decide +kernel
theorem d_W_law_600 : decode code 600 = .ok (.iconst 1, 1) := by decide +kernel
theorem d_W_law_601 : decode code 601 = .ok (.iadd, 1) := by decide +kernel
theorem d_W_law_602 : decode code 602 = .ok (.iaload, 1) := by decide +kernel
theorem d_W_law_603 : decode code 603 = .ok (.aload_n 0, 1) := by decide +kernel
theorem d_W_law_604 : decode code 604 = .ok (.iload_n 3, 1) := by decide +kernel
theorem d_W_law_605 : decode code 605 = .ok (.iconst 2, 1) := by decide +kernel
theorem d_W_law_606 : decode code 606 = .ok (.iadd, 1) := by decide +kernel
theorem d_W_law_607 : decode code 607 = .ok (.iaload, 1) := by decide +kernel
theorem d_W_law_608 : decode code 608 = .ok (.invokevirtual 96, 3) := by decide +kernel
theorem d_W_law_611 : decode code 611 = .ok (.if_icmp .eq 38, 3) := by decide +kernel
theorem d_W_law_614 : decode code 614 = .ok (.iconst 0, 1) := by decide +kernel
theorem d_W_law_615 : decode code 615 = .ok (.ireturn, 1) := by decide +kernel
theorem d_W_law_616 : decode code 616 = .ok (.aload_n 1, 1) := by decide +kernel
theorem d_W_law_617 : decode code 617 = .ok (.aload_n 0, 1) := by decide +kernel
theorem d_W_law_618 : decode code 618 = .ok (.iload_n 3, 1) := by decide +kernel
theorem d_W_law_619 : decode code 619 = .ok (.iconst 1, 1) := by decide +kernel
theorem d_W_law_620 : decode code 620 = .ok (.iadd, 1) := by decide +kernel
theorem d_W_law_621 : decode code 621 = .ok (.iaload, 1) := by decide +kernel
theorem d_W_law_622 : decode code 622 = .ok (.aload_n 0, 1) := by decide +kernel
theorem d_W_law_623 : decode code 623 = .ok (.iload_n 3, 1) := by decide +kernel
theorem d_W_law_624 : decode code 624 = .ok (.iconst 2, 1) := by decide +kernel
theorem d_W_law_625 : decode code 625 = .ok (.iadd, 1) := by decide +kernel
theorem d_W_law_626 : decode code 626 = .ok (.iaload, 1) := by decide +kernel
theorem d_W_law_627 : decode code 627 = .ok (.invokevirtual 97, 3) := by decide +kernel
theorem d_W_law_630 : decode code 630 = .ok (.aload_n 2, 1) := by decide +kernel
theorem d_W_law_631 : decode code 631 = .ok (.aload_n 0, 1) := by decide +kernel
theorem d_W_law_632 : decode code 632 = .ok (.iload_n 3, 1) := by decide +kernel
theorem d_W_law_633 : decode code 633 = .ok (.iconst 1, 1) := by decide +kernel
theorem d_W_law_634 : decode code 634 = .ok (.iadd, 1) := by decide +kernel
theorem d_W_law_635 : decode code 635 = .ok (.iaload, 1) := by decide +kernel
theorem d_W_law_636 : decode code 636 = .ok (.aload_n 0, 1) := by decide +kernel
theorem d_W_law_637 : decode code 637 = .ok (.iload_n 3, 1) := by decide +kernel
theorem d_W_law_638 : decode code 638 = .ok (.iconst 2, 1) := by decide +kernel
theorem d_W_law_639 : decode code 639 = .ok (.iadd, 1) := by decide +kernel
theorem d_W_law_640 : decode code 640 = .ok (.iaload, 1) := by decide +kernel
theorem d_W_law_641 : decode code 641 = .ok (.invokevirtual 100, 3) := by decide +kernel
theorem d_W_law_644 : decode code 644 = .ok (.if_icmp .eq 5, 3) := by decide +kernel
theorem d_W_law_647 : decode code 647 = .ok (.iconst 0, 1) := by decide +kernel
theorem d_W_law_648 : decode code 648 = .ok (.ireturn, 1) := by decide +kernel
theorem d_W_law_649 : decode code 649 = .ok (.iinc 3 3, 3) := by decide +kernel
theorem d_W_law_652 : decode code 652 = .ok (.goto (-604), 3) := by decide +kernel
theorem d_W_law_655 : decode code 655 = .ok (.iconst 1, 1) := by decide +kernel
theorem d_W_law_656 : decode code 656 = .ok (.ireturn, 1) := by decide +kernel
