theorem d_Z_law_0 : decode b_Z_law 0 = .ok (.new 7, 3) := by decide +kernel
theorem d_Z_law_3 : decode b_Z_law 3 = .ok (.dup, 1) := by decide +kernel
theorem d_Z_law_4 : decode b_Z_law 4 = .ok (.invokespecial 9, 3) := by decide +kernel
theorem d_Z_law_7 : decode b_Z_law 7 = .ok (.astore_n 1, 1) := by decide +kernel
theorem d_Z_law_8 : decode b_Z_law 8 = .ok (.new 10, 3) := by decide +kernel
theorem d_Z_law_11 : decode b_Z_law 11 = .ok (.dup, 1) := by decide +kernel
theorem d_Z_law_12 : decode b_Z_law 12 = .ok (.invokespecial 12, 3) := by decide +kernel
theorem d_Z_law_15 : decode b_Z_law 15 = .ok (.astore_n 2, 1) := by decide +kernel
theorem d_Z_law_16 : decode b_Z_law 16 = .ok (.iconst 0, 1) := by decide +kernel
theorem d_Z_law_17 : decode b_Z_law 17 = .ok (.istore_n 3, 1) := by decide +kernel
theorem d_Z_law_18 : decode b_Z_law 18 = .ok (.iload_n 3, 1) := by decide +kernel
theorem d_Z_law_19 : decode b_Z_law 19 = .ok (.aload_n 0, 1) := by decide +kernel
theorem d_Z_law_20 : decode b_Z_law 20 = .ok (.arraylength, 1) := by decide +kernel
theorem d_Z_law_21 : decode b_Z_law 21 = .ok (.bipush 6, 2) := by decide +kernel
theorem d_Z_law_23 : decode b_Z_law 23 = .ok (.isub, 1) := by decide +kernel
theorem d_Z_law_24 : decode b_Z_law 24 = .ok (.if_icmp .gt 947, 3) := by decide +kernel
theorem d_Z_law_27 : decode b_Z_law 27 = .ok (.aload_n 0, 1) := by decide +kernel
theorem d_Z_law_28 : decode b_Z_law 28 = .ok (.iload_n 3, 1) := by decide +kernel
theorem d_Z_law_29 : decode b_Z_law 29 = .ok (.iaload, 1) := by decide +kernel
theorem d_Z_law_30 : decode b_Z_law 30 = .ok (.bipush 31, 2) := by decide +kernel
theorem d_Z_law_32 : decode b_Z_law 32 = .ok (.iand, 1) := by decide +kernel
theorem d_Z_law_33 : decode b_Z_law 33 = .ok (.tableswitch 932 0 24 #[115, 138, 217, 260, 303, 346, 369, 402, 445, 468, 481, 494, 527, 560, 629, 662, 695, 708, 731, 764, 787, 810, 833, 856, 909], 115) := by decide +kernel
theorem d_Z_law_148 : decode b_Z_law 148 = .ok (.aload_n 1, 1) := by decide +kernel
theorem d_Z_law_149 : decode b_Z_law 149 = .ok (.aload_n 0, 1) := by decide +kernel
theorem d_Z_law_150 : decode b_Z_law 150 = .ok (.iload_n 3, 1) := by decide +kernel
theorem d_Z_law_151 : decode b_Z_law 151 = .ok (.iconst 1, 1) := by decide +kernel
theorem d_Z_law_152 : decode b_Z_law 152 = .ok (.iadd, 1) := by decide +kernel
theorem d_Z_law_153 : decode b_Z_law 153 = .ok (.iaload, 1) := by decide +kernel
theorem d_Z_law_154 : decode b_Z_law 154 = .ok (.invokevirtual 13, 3) := by decide +kernel
theorem d_Z_law_157 : decode b_Z_law 157 = .ok (.aload_n 2, 1) := by decide +kernel
theorem d_Z_law_158 : decode b_Z_law 158 = .ok (.aload_n 0, 1) := by decide +kernel
theorem d_Z_law_159 : decode b_Z_law 159 = .ok (.iload_n 3, 1) := by decide +kernel
theorem d_Z_law_160 : decode b_Z_law 160 = .ok (.iconst 1, 1) := by decide +kernel
theorem d_Z_law_161 : decode b_Z_law 161 = .ok (.iadd, 1) := by decide +kernel
theorem d_Z_law_162 : decode b_Z_law 162 = .ok (.iaload, 1) := by decide +kernel
theorem d_Z_law_163 : decode b_Z_law 163 = .ok (.invokevirtual 17, 3) := by decide +kernel
theorem d_Z_law_166 : decode b_Z_law 166 = .ok (.if_icmp .eq 799, 3) := by decide +kernel
theorem d_Z_law_169 : decode b_Z_law 169 = .ok (.iconst 0, 1) := by decide +kernel
theorem d_Z_law_170 : decode b_Z_law 170 = .ok (.ireturn, 1) := by decide +kernel
theorem d_Z_law_171 : decode b_Z_law 171 = .ok (.aload_n 1, 1) := by decide +kernel
theorem d_Z_law_172 : decode b_Z_law 172 = .ok (.aload_n 0, 1) := by decide +kernel
theorem d_Z_law_173 : decode b_Z_law 173 = .ok (.iload_n 3, 1) := by decide +kernel
theorem d_Z_law_174 : decode b_Z_law 174 = .ok (.iconst 1, 1) := by decide +kernel
theorem d_Z_law_175 : decode b_Z_law 175 = .ok (.iadd, 1) := by decide +kernel
theorem d_Z_law_176 : decode b_Z_law 176 = .ok (.iaload, 1) := by decide +kernel
theorem d_Z_law_177 : decode b_Z_law 177 = .ok (.aload_n 0, 1) := by decide +kernel
theorem d_Z_law_178 : decode b_Z_law 178 = .ok (.iload_n 3, 1) := by decide +kernel
theorem d_Z_law_179 : decode b_Z_law 179 = .ok (.iconst 2, 1) := by decide +kernel
theorem d_Z_law_180 : decode b_Z_law 180 = .ok (.iadd, 1) := by decide +kernel
theorem d_Z_law_181 : decode b_Z_law 181 = .ok (.iaload, 1) := by decide +kernel
theorem d_Z_law_182 : decode b_Z_law 182 = .ok (.aload_n 0, 1) := by decide +kernel
theorem d_Z_law_183 : decode b_Z_law 183 = .ok (.iload_n 3, 1) := by decide +kernel
theorem d_Z_law_184 : decode b_Z_law 184 = .ok (.iconst 3, 1) := by decide +kernel
theorem d_Z_law_185 : decode b_Z_law 185 = .ok (.iadd, 1) := by decide +kernel
theorem d_Z_law_186 : decode b_Z_law 186 = .ok (.iaload, 1) := by decide +kernel
theorem d_Z_law_187 : decode b_Z_law 187 = .ok (.aload_n 0, 1) := by decide +kernel
theorem d_Z_law_188 : decode b_Z_law 188 = .ok (.iload_n 3, 1) := by decide +kernel
theorem d_Z_law_189 : decode b_Z_law 189 = .ok (.iconst 4, 1) := by decide +kernel
theorem d_Z_law_190 : decode b_Z_law 190 = .ok (.iadd, 1) := by decide +kernel
theorem d_Z_law_191 : decode b_Z_law 191 = .ok (.iaload, 1) := by decide +kernel
theorem d_Z_law_192 : decode b_Z_law 192 = .ok (.aload_n 0, 1) := by decide +kernel
theorem d_Z_law_193 : decode b_Z_law 193 = .ok (.iload_n 3, 1) := by decide +kernel
theorem d_Z_law_194 : decode b_Z_law 194 = .ok (.iconst 5, 1) := by decide +kernel
theorem d_Z_law_195 : decode b_Z_law 195 = .ok (.iadd, 1) := by decide +kernel
theorem d_Z_law_196 : decode b_Z_law 196 = .ok (.iaload, 1) := by decide +kernel
theorem d_Z_law_197 : decode b_Z_law 197 = .ok (.ifCond .eq 7, 3) := by decide +kernel
theorem d_Z_law_200 : decode b_Z_law 200 = .ok (.iconst 1, 1) := by decide +kernel
theorem d_Z_law_201 : decode b_Z_law 201 = .ok (.goto 4, 3) := by decide +kernel
theorem d_Z_law_204 : decode b_Z_law 204 = .ok (.iconst 0, 1) := by decide +kernel
theorem d_Z_law_205 : decode b_Z_law 205 = .ok (.invokevirtual 18, 3) := by decide +kernel
theorem d_Z_law_208 : decode b_Z_law 208 = .ok (.aload_n 2, 1) := by decide +kernel
theorem d_Z_law_209 : decode b_Z_law 209 = .ok (.aload_n 0, 1) := by decide +kernel
theorem d_Z_law_210 : decode b_Z_law 210 = .ok (.iload_n 3, 1) := by decide +kernel
theorem d_Z_law_211 : decode b_Z_law 211 = .ok (.iconst 1, 1) := by decide +kernel
theorem d_Z_law_212 : decode b_Z_law 212 = .ok (.iadd, 1) := by decide +kernel
theorem d_Z_law_213 : decode b_Z_law 213 = .ok (.iaload, 1) := by decide +kernel
theorem d_Z_law_214 : decode b_Z_law 214 = .ok (.aload_n 0, 1) := by decide +kernel
theorem d_Z_law_215 : decode b_Z_law 215 = .ok (.iload_n 3, 1) := by decide +kernel
theorem d_Z_law_216 : decode b_Z_law 216 = .ok (.iconst 2, 1) := by decide +kernel
theorem d_Z_law_217 : decode b_Z_law 217 = .ok (.iadd, 1) := by decide +kernel
theorem d_Z_law_218 : decode b_Z_law 218 = .ok (.iaload, 1) := by decide +kernel
theorem d_Z_law_219 : decode b_Z_law 219 = .ok (.aload_n 0, 1) := by decide +kernel
theorem d_Z_law_220 : decode b_Z_law 220 = .ok (.iload_n 3, 1) := by decide +kernel
theorem d_Z_law_221 : decode b_Z_law 221 = .ok (.iconst 3, 1) := by decide +kernel
theorem d_Z_law_222 : decode b_Z_law 222 = .ok (.iadd, 1) := by decide +kernel
theorem d_Z_law_223 : decode b_Z_law 223 = .ok (.iaload, 1) := by decide +kernel
theorem d_Z_law_224 : decode b_Z_law 224 = .ok (.aload_n 0, 1) := by decide +kernel
theorem d_Z_law_225 : decode b_Z_law 225 = .ok (.iload_n 3, 1) := by decide +kernel
theorem d_Z_law_226 : decode b_Z_law 226 = .ok (.iconst 4, 1) := by decide +kernel
theorem d_Z_law_227 : decode b_Z_law 227 = .ok (.iadd, 1) := by decide +kernel
theorem d_Z_law_228 : decode b_Z_law 228 = .ok (.iaload, 1) := by decide +kernel
theorem d_Z_law_229 : decode b_Z_law 229 = .ok (.aload_n 0, 1) := by decide +kernel
theorem d_Z_law_230 : decode b_Z_law 230 = .ok (.iload_n 3, 1) := by decide +kernel
theorem d_Z_law_231 : decode b_Z_law 231 = .ok (.iconst 5, 1) := by decide +kernel
theorem d_Z_law_232 : decode b_Z_law 232 = .ok (.iadd, 1) := by decide +kernel
theorem d_Z_law_233 : decode b_Z_law 233 = .ok (.iaload, 1) := by decide +kernel
theorem d_Z_law_234 : decode b_Z_law 234 = .ok (.ifCond .eq 7, 3) := by decide +kernel
theorem d_Z_law_237 : decode b_Z_law 237 = .ok (.iconst 1, 1) := by decide +kernel
theorem d_Z_law_238 : decode b_Z_law 238 = .ok (.goto 4, 3) := by decide +kernel
theorem d_Z_law_241 : decode b_Z_law 241 = .ok (.iconst 0, 1) := by decide +kernel
theorem d_Z_law_242 : decode b_Z_law 242 = .ok (.invokevirtual 22, 3) := by decide +kernel
theorem d_Z_law_245 : decode b_Z_law 245 = .ok (.if_icmp .eq 720, 3) := by decide +kernel
theorem d_Z_law_248 : decode b_Z_law 248 = .ok (.iconst 0, 1) := by decide +kernel
theorem d_Z_law_249 : decode b_Z_law 249 = .ok (.ireturn, 1) := by decide +kernel
theorem d_Z_law_250 : decode b_Z_law 250 = .ok (.aload_n 1, 1) := by decide +kernel
theorem d_Z_law_251 : decode b_Z_law 251 = .ok (.aload_n 0, 1) := by decide +kernel
theorem d_Z_law_252 : decode b_Z_law 252 = .ok (.iload_n 3, 1) := by decide +kernel
theorem d_Z_law_253 : decode b_Z_law 253 = .ok (.iconst 1, 1) := by decide +kernel
theorem d_Z_law_254 : decode b_Z_law 254 = .ok (.iadd, 1) := by decide +kernel
theorem d_Z_law_255 : decode b_Z_law 255 = .ok (.iaload, 1) := by decide +kernel
theorem d_Z_law_256 : decode b_Z_law 256 = .ok (.aload_n 0, 1) := by decide +kernel
theorem d_Z_law_257 : decode b_Z_law 257 = .ok (.iload_n 3, 1) := by decide +kernel
theorem d_Z_law_258 : decode b_Z_law 258 = .ok (.iconst 2, 1) := by decide +kernel
theorem d_Z_law_259 : decode b_Z_law 259 = .ok (.iadd, 1) := by decide +kernel
theorem d_Z_law_260 : decode b_Z_law 260 = .ok (.iaload, 1) := by decide +kernel
theorem d_Z_law_261 : decode b_Z_law 261 = .ok (.aload_n 0, 1) := by decide +kernel
theorem d_Z_law_262 : decode b_Z_law 262 = .ok (.iload_n 3, 1) := by decide +kernel
theorem d_Z_law_263 : decode b_Z_law 263 = .ok (.iconst 3, 1) := by decide +kernel
theorem d_Z_law_264 : decode b_Z_law 264 = .ok (.iadd, 1) := by decide +kernel
theorem d_Z_law_265 : decode b_Z_law 265 = .ok (.iaload, 1) := by decide +kernel
theorem d_Z_law_266 : decode b_Z_law 266 = .ok (.invokevirtual 23, 3) := by decide +kernel
theorem d_Z_law_269 : decode b_Z_law 269 = .ok (.aload_n 2, 1) := by decide +kernel
theorem d_Z_law_270 : decode b_Z_law 270 = .ok (.aload_n 0, 1) := by decide +kernel
theorem d_Z_law_271 : decode b_Z_law 271 = .ok (.iload_n 3, 1) := by decide +kernel
theorem d_Z_law_272 : decode b_Z_law 272 = .ok (.iconst 1, 1) := by decide +kernel
theorem d_Z_law_273 : decode b_Z_law 273 = .ok (.iadd, 1) := by decide +kernel
theorem d_Z_law_274 : decode b_Z_law 274 = .ok (.iaload, 1) := by decide +kernel
theorem d_Z_law_275 : decode b_Z_law 275 = .ok (.aload_n 0, 1) := by decide +kernel
theorem d_Z_law_276 : decode b_Z_law 276 = .ok (.iload_n 3, 1) := by decide +kernel
theorem d_Z_law_277 : decode b_Z_law 277 = .ok (.iconst 2, 1) := by decide +kernel
theorem d_Z_law_278 : decode b_Z_law 278 = .ok (.iadd, 1) := by decide +kernel
theorem d_Z_law_279 : decode b_Z_law 279 = .ok (.iaload, 1) := by decide +kernel
theorem d_Z_law_280 : decode b_Z_law 280 = .ok (.aload_n 0, 1) := by decide +kernel
theorem d_Z_law_281 : decode b_Z_law 281 = .ok (.iload_n 3, 1) := by decide +kernel
theorem d_Z_law_282 : decode b_Z_law 282 = .ok (.iconst 3, 1) := by decide +kernel
theorem d_Z_law_283 : decode b_Z_law 283 = .ok (.iadd, 1) := by decide +kernel
theorem d_Z_law_284 : decode b_Z_law 284 = .ok (.iaload, 1) := by decide +kernel
theorem d_Z_law_285 : decode b_Z_law 285 = .ok (.invokevirtual 27, 3) := by decide +kernel
theorem d_Z_law_288 : decode b_Z_law 288 = .ok (.if_icmp .eq 677, 3) := by decide +kernel
theorem d_Z_law_291 : decode b_Z_law 291 = .ok (.iconst 0, 1) := by decide +kernel
theorem d_Z_law_292 : decode b_Z_law 292 = .ok (.ireturn, 1) := by decide +kernel
theorem d_Z_law_293 : decode b_Z_law 293 = .ok (.aload_n 1, 1) := by decide +kernel
theorem d_Z_law_294 : decode b_Z_law 294 = .ok (.aload_n 0, 1) := by decide +kernel
theorem d_Z_law_295 : decode b_Z_law 295 = .ok (.iload_n 3, 1) := by decide +kernel
theorem d_Z_law_296 : decode b_Z_law 296 = .ok (.iconst 1, 1) := by decide +kernel
theorem d_Z_law_297 : decode b_Z_law 297 = .ok (.iadd, 1) := by decide +kernel
theorem d_Z_law_298 : decode b_Z_law 298 = .ok (.iaload, 1) := by decide +kernel
theorem d_Z_law_299 : decode b_Z_law 299 = .ok (.aload_n 0, 1) := by decide +kernel
theorem d_Z_law_300 : decode b_Z_law 300 = .ok (.iload_n 3, 1) := by decide +kernel
theorem d_Z_law_301 : decode b_Z_law 301 = .ok (.iconst 2, 1) := by decide +kernel
theorem d_Z_law_302 : decode b_Z_law 302 = .ok (.iadd, 1) := by decide +kernel
theorem d_Z_law_303 : decode b_Z_law 303 = .ok (.iaload, 1) := by decide +kernel
theorem d_Z_law_304 : decode b_Z_law 304 = .ok (.aload_n 0, 1) := by decide +kernel
theorem d_Z_law_305 : decode b_Z_law 305 = .ok (.iload_n 3, 1) := by decide +kernel
theorem d_Z_law_306 : decode b_Z_law 306 = .ok (.iconst 3, 1) := by decide +kernel
theorem d_Z_law_307 : decode b_Z_law 307 = .ok (.iadd, 1) := by decide +kernel
theorem d_Z_law_308 : decode b_Z_law 308 = .ok (.iaload, 1) := by decide +kernel
theorem d_Z_law_309 : decode b_Z_law 309 = .ok (.invokevirtual 28, 3) := by decide +kernel
theorem d_Z_law_312 : decode b_Z_law 312 = .ok (.aload_n 2, 1) := by decide +kernel
theorem d_Z_law_313 : decode b_Z_law 313 = .ok (.aload_n 0, 1) := by decide +kernel
theorem d_Z_law_314 : decode b_Z_law 314 = .ok (.iload_n 3, 1) := by decide +kernel
theorem d_Z_law_315 : decode b_Z_law 315 = .ok (.iconst 1, 1) := by decide +kernel
theorem d_Z_law_316 : decode b_Z_law 316 = .ok (.iadd, 1) := by decide +kernel
theorem d_Z_law_317 : decode b_Z_law 317 = .ok (.iaload, 1) := by decide +kernel
theorem d_Z_law_318 : decode b_Z_law 318 = .ok (.aload_n 0, 1) := by decide +kernel
theorem d_Z_law_319 : decode b_Z_law 319 = .ok (.iload_n 3, 1) := by decide +kernel
theorem d_Z_law_320 : decode b_Z_law 320 = .ok (.iconst 2, 1) := by decide +kernel
theorem d_Z_law_321 : decode b_Z_law 321 = .ok (.iadd, 1) := by decide +kernel
theorem d_Z_law_322 : decode b_Z_law 322 = .ok (.iaload, 1) := by decide +kernel
theorem d_Z_law_323 : decode b_Z_law 323 = .ok (.aload_n 0, 1) := by decide +kernel
theorem d_Z_law_324 : decode b_Z_law 324 = .ok (.iload_n 3, 1) := by decide +kernel
theorem d_Z_law_325 : decode b_Z_law 325 = .ok (.iconst 3, 1) := by decide +kernel
theorem d_Z_law_326 : decode b_Z_law 326 = .ok (.iadd, 1) := by decide +kernel
theorem d_Z_law_327 : decode b_Z_law 327 = .ok (.iaload, 1) := by decide +kernel
theorem d_Z_law_328 : decode b_Z_law 328 = .ok (.invokevirtual 31, 3) := by decide +kernel
theorem d_Z_law_331 : decode b_Z_law 331 = .ok (.if_icmp .eq 634, 3) := by decide +kernel
theorem d_Z_law_334 : decode b_Z_law 334 = .ok (.iconst 0, 1) := by decide +kernel
theorem d_Z_law_335 : decode b_Z_law 335 = .ok (.ireturn, 1) := by decide +kernel
theorem d_Z_law_336 : decode b_Z_law 336 = .ok (.aload_n 1, 1) := by decide +kernel
theorem d_Z_law_337 : decode b_Z_law 337 = .ok (.aload_n 0, 1) := by decide +kernel
theorem d_Z_law_338 : decode b_Z_law 338 = .ok (.iload_n 3, 1) := by decide +kernel
theorem d_Z_law_339 : decode b_Z_law 339 = .ok (.iconst 1, 1) := by decide +kernel
theorem d_Z_law_340 : decode b_Z_law 340 = .ok (.iadd, 1) := by decide +kernel
theorem d_Z_law_341 : decode b_Z_law 341 = .ok (.iaload, 1) := by decide +kernel
theorem d_Z_law_342 : decode b_Z_law 342 = .ok (.aload_n 0, 1) := by decide +kernel
theorem d_Z_law_343 : decode b_Z_law 343 = .ok (.iload_n 3, 1) := by decide +kernel
theorem d_Z_law_344 : decode b_Z_law 344 = .ok (.iconst 2, 1) := by decide +kernel
theorem d_Z_law_345 : decode b_Z_law 345 = .ok (.iadd, 1) := by decide +kernel
theorem d_Z_law_346 : decode b_Z_law 346 = .ok (.iaload, 1) := by decide +kernel
theorem d_Z_law_347 : decode b_Z_law 347 = .ok (.aload_n 0, 1) := by decide +kernel
theorem d_Z_law_348 : decode b_Z_law 348 = .ok (.iload_n 3, 1) := by decide +kernel
theorem d_Z_law_349 : decode b_Z_law 349 = .ok (.iconst 3, 1) := by decide +kernel
theorem d_Z_law_350 : decode b_Z_law 350 = .ok (.iadd, 1) := by decide +kernel
theorem d_Z_law_351 : decode b_Z_law 351 = .ok (.iaload, 1) := by decide +kernel
theorem d_Z_law_352 : decode b_Z_law 352 = .ok (.invokevirtual 32, 3) := by decide +kernel
theorem d_Z_law_355 : decode b_Z_law 355 = .ok (.aload_n 2, 1) := by decide +kernel
theorem d_Z_law_356 : decode b_Z_law 356 = .ok (.aload_n 0, 1) := by decide +kernel
theorem d_Z_law_357 : decode b_Z_law 357 = .ok (.iload_n 3, 1) := by decide +kernel
theorem d_Z_law_358 : decode b_Z_law 358 = .ok (.iconst 1, 1) := by decide +kernel
theorem d_Z_law_359 : decode b_Z_law 359 = .ok (.iadd, 1) := by decide +kernel
theorem d_Z_law_360 : decode b_Z_law 360 = .ok (.iaload, 1) := by decide +kernel
theorem d_Z_law_361 : decode b_Z_law 361 = .ok (.aload_n 0, 1) := by decide +kernel
theorem d_Z_law_362 : decode b_Z_law 362 = .ok (.iload_n 3, 1) := by decide +kernel
theorem d_Z_law_363 : decode b_Z_law 363 = .ok (.iconst 2, 1) := by decide +kernel
theorem d_Z_law_364 : decode b_Z_law 364 = .ok (.iadd, 1) := by decide +kernel
theorem d_Z_law_365 : decode b_Z_law 365 = .ok (.iaload, 1) := by decide +kernel
theorem d_Z_law_366 : decode b_Z_law 366 = .ok (.aload_n 0, 1) := by decide +kernel
theorem d_Z_law_367 : decode b_Z_law 367 = .ok (.iload_n 3, 1) := by decide +kernel
theorem d_Z_law_368 : decode b_Z_law 368 = .ok (.iconst 3, 1) := by decide +kernel
theorem d_Z_law_369 : decode b_Z_law 369 = .ok (.iadd, 1) := by decide +kernel
theorem d_Z_law_370 : decode b_Z_law 370 = .ok (.iaload, 1) := by decide +kernel
theorem d_Z_law_371 : decode b_Z_law 371 = .ok (.invokevirtual 35, 3) := by decide +kernel
theorem d_Z_law_374 : decode b_Z_law 374 = .ok (.if_icmp .eq 591, 3) := by decide +kernel
theorem d_Z_law_377 : decode b_Z_law 377 = .ok (.iconst 0, 1) := by decide +kernel
theorem d_Z_law_378 : decode b_Z_law 378 = .ok (.ireturn, 1) := by decide +kernel
theorem d_Z_law_379 : decode b_Z_law 379 = .ok (.aload_n 1, 1) := by decide +kernel
theorem d_Z_law_380 : decode b_Z_law 380 = .ok (.aload_n 0, 1) := by decide +kernel
theorem d_Z_law_381 : decode b_Z_law 381 = .ok (.iload_n 3, 1) := by decide +kernel
theorem d_Z_law_382 : decode b_Z_law 382 = .ok (.iconst 1, 1) := by decide +kernel
theorem d_Z_law_383 : decode b_Z_law 383 = .ok (.iadd, 1) := by decide +kernel
theorem d_Z_law_384 : decode b_Z_law 384 = .ok (.iaload, 1) := by decide +kernel
theorem d_Z_law_385 : decode b_Z_law 385 = .ok (.invokevirtual 36, 3) := by decide +kernel
theorem d_Z_law_388 : decode b_Z_law 388 = .ok (.aload_n 2, 1) := by decide +kernel
theorem d_Z_law_389 : decode b_Z_law 389 = .ok (.aload_n 0, 1) := by decide +kernel
theorem d_Z_law_390 : decode b_Z_law 390 = .ok (.iload_n 3, 1) := by decide +kernel
theorem d_Z_law_391 : decode b_Z_law 391 = .ok (.iconst 1, 1) := by decide +kernel
theorem d_Z_law_392 : decode b_Z_law 392 = .ok (.iadd, 1) := by decide +kernel
theorem d_Z_law_393 : decode b_Z_law 393 = .ok (.iaload, 1) := by decide +kernel
theorem d_Z_law_394 : decode b_Z_law 394 = .ok (.invokevirtual 40, 3) := by decide +kernel
theorem d_Z_law_397 : decode b_Z_law 397 = .ok (.if_icmp .eq 568, 3) := by decide +kernel
theorem d_Z_law_400 : decode b_Z_law 400 = .ok (.iconst 0, 1) := by decide +kernel
theorem d_Z_law_401 : decode b_Z_law 401 = .ok (.ireturn, 1) := by decide +kernel
theorem d_Z_law_402 : decode b_Z_law 402 = .ok (.aload_n 1, 1) := by decide +kernel
theorem d_Z_law_403 : decode b_Z_law 403 = .ok (.aload_n 0, 1) := by decide +kernel
theorem d_Z_law_404 : decode b_Z_law 404 = .ok (.iload_n 3, 1) := by decide +kernel
theorem d_Z_law_405 : decode b_Z_law 405 = .ok (.iconst 1, 1) := by decide +kernel
theorem d_Z_law_406 : decode b_Z_law 406 = .ok (.iadd, 1) := by decide +kernel
theorem d_Z_law_407 : decode b_Z_law 407 = .ok (.iaload, 1) := by decide +kernel
theorem d_Z_law_408 : decode b_Z_law 408 = .ok (.aload_n 0, 1) := by decide +kernel
theorem d_Z_law_409 : decode b_Z_law 409 = .ok (.iload_n 3, 1) := by decide +kernel
theorem d_Z_law_410 : decode b_Z_law 410 = .ok (.iconst 2, 1) := by decide +kernel
theorem d_Z_law_411 : decode b_Z_law 411 = .ok (.iadd, 1) := by decide +kernel
theorem d_Z_law_412 : decode b_Z_law 412 = .ok (.iaload, 1) := by decide +kernel
theorem d_Z_law_413 : decode b_Z_law 413 = .ok (.invokevirtual 41, 3) := by decide +kernel
theorem d_Z_law_416 : decode b_Z_law 416 = .ok (.aload_n 2, 1) := by decide +kernel
theorem d_Z_law_417 : decode b_Z_law 417 = .ok (.aload_n 0, 1) := by decide +kernel
theorem d_Z_law_418 : decode b_Z_law 418 = .ok (.iload_n 3, 1) := by decide +kernel
theorem d_Z_law_419 : decode b_Z_law 419 = .ok (.iconst 1, 1) := by decide +kernel
theorem d_Z_law_420 : decode b_Z_law 420 = .ok (.iadd, 1) := by decide +kernel
theorem d_Z_law_421 : decode b_Z_law 421 = .ok (.iaload, 1) := by decide +kernel
theorem d_Z_law_422 : decode b_Z_law 422 = .ok (.aload_n 0, 1) := by decide +kernel
theorem d_Z_law_423 : decode b_Z_law 423 = .ok (.iload_n 3, 1) := by decide +kernel
theorem d_Z_law_424 : decode b_Z_law 424 = .ok (.iconst 2, 1) := by decide +kernel
theorem d_Z_law_425 : decode b_Z_law 425 = .ok (.iadd, 1) := by decide +kernel
theorem d_Z_law_426 : decode b_Z_law 426 = .ok (.iaload, 1) := by decide +kernel
theorem d_Z_law_427 : decode b_Z_law 427 = .ok (.invokevirtual 45, 3) := by decide +kernel
theorem d_Z_law_430 : decode b_Z_law 430 = .ok (.if_icmp .eq 535, 3) := by decide +kernel
theorem d_Z_law_433 : decode b_Z_law 433 = .ok (.iconst 0, 1) := by decide +kernel
theorem d_Z_law_434 : decode b_Z_law 434 = .ok (.ireturn, 1) := by decide +kernel
theorem d_Z_law_435 : decode b_Z_law 435 = .ok (.aload_n 1, 1) := by decide +kernel
theorem d_Z_law_436 : decode b_Z_law 436 = .ok (.aload_n 0, 1) := by decide +kernel
theorem d_Z_law_437 : decode b_Z_law 437 = .ok (.iload_n 3, 1) := by decide +kernel
theorem d_Z_law_438 : decode b_Z_law 438 = .ok (.iconst 1, 1) := by decide +kernel
theorem d_Z_law_439 : decode b_Z_law 439 = .ok (.iadd, 1) := by decide +kernel
theorem d_Z_law_440 : decode b_Z_law 440 = .ok (.iaload, 1) := by decide +kernel
theorem d_Z_law_441 : decode b_Z_law 441 = .ok (.aload_n 0, 1) := by decide +kernel
theorem d_Z_law_442 : decode b_Z_law 442 = .ok (.iload_n 3, 1) := by decide +kernel
theorem d_Z_law_443 : decode b_Z_law 443 = .ok (.iconst 2, 1) := by decide +kernel
theorem d_Z_law_444 : decode b_Z_law 444 = .ok (.iadd, 1) := by decide +kernel
theorem d_Z_law_445 : decode b_Z_law 445 = .ok (.iaload, 1) := by decide +kernel
theorem d_Z_law_446 : decode b_Z_law 446 = .ok (.aload_n 0, 1) := by decide +kernel
theorem d_Z_law_447 : decode b_Z_law 447 = .ok (.iload_n 3, 1) := by decide +kernel
theorem d_Z_law_448 : decode b_Z_law 448 = .ok (.iconst 3, 1) := by decide +kernel
theorem d_Z_law_449 : decode b_Z_law 449 = .ok (.iadd, 1) := by decide +kernel
theorem d_Z_law_450 : decode b_Z_law 450 = .ok (.iaload, 1) := by decide +kernel
theorem d_Z_law_451 : decode b_Z_law 451 = .ok (.invokevirtual 46, 3) := by decide +kernel
theorem d_Z_law_454 : decode b_Z_law 454 = .ok (.aload_n 2, 1) := by decide +kernel
theorem d_Z_law_455 : decode b_Z_law 455 = .ok (.aload_n 0, 1) := by decide +kernel
theorem d_Z_law_456 : decode b_Z_law 456 = .ok (.iload_n 3, 1) := by decide +kernel
theorem d_Z_law_457 : decode b_Z_law 457 = .ok (.iconst 1, 1) := by decide +kernel
theorem d_Z_law_458 : decode b_Z_law 458 = .ok (.iadd, 1) := by decide +kernel
theorem d_Z_law_459 : decode b_Z_law 459 = .ok (.iaload, 1) := by decide +kernel
theorem d_Z_law_460 : decode b_Z_law 460 = .ok (.aload_n 0, 1) := by decide +kernel
theorem d_Z_law_461 : decode b_Z_law 461 = .ok (.iload_n 3, 1) := by decide +kernel
theorem d_Z_law_462 : decode b_Z_law 462 = .ok (.iconst 2, 1) := by decide +kernel
theorem d_Z_law_463 : decode b_Z_law 463 = .ok (.iadd, 1) := by decide +kernel
theorem d_Z_law_464 : decode b_Z_law 464 = .ok (.iaload, 1) := by decide +kernel
theorem d_Z_law_465 : decode b_Z_law 465 = .ok (.aload_n 0, 1) := by decide +kernel
theorem d_Z_law_466 : decode b_Z_law 466 = .ok (.iload_n 3, 1) := by decide +kernel
theorem d_Z_law_467 : decode b_Z_law 467 = .ok (.iconst 3, 1) := by decide +kernel
theorem d_Z_law_468 : decode b_Z_law 468 = .ok (.iadd, 1) := by decide +kernel
theorem d_Z_law_469 : decode b_Z_law 469 = .ok (.iaload, 1) := by decide +kernel
theorem d_Z_law_470 : decode b_Z_law 470 = .ok (.invokevirtual 50, 3) := by decide +kernel
theorem d_Z_law_473 : decode b_Z_law 473 = .ok (.if_icmp .eq 492, 3) := by decide +kernel
theorem d_Z_law_476 : decode b_Z_law 476 = .ok (.iconst 0, 1) := by decide +kernel
theorem d_Z_law_477 : decode b_Z_law 477 = .ok (.ireturn, 1) := by decide +kernel
theorem d_Z_law_478 : decode b_Z_law 478 = .ok (.aload_n 1, 1) := by decide +kernel
theorem d_Z_law_479 : decode b_Z_law 479 = .ok (.aload_n 0, 1) := by decide +kernel
theorem d_Z_law_480 : decode b_Z_law 480 = .ok (.iload_n 3, 1) := by decide +kernel
theorem d_Z_law_481 : decode b_Z_law 481 = .ok (.iconst 1, 1) := by decide +kernel
theorem d_Z_law_482 : decode b_Z_law 482 = .ok (.iadd, 1) := by decide +kernel
theorem d_Z_law_483 : decode b_Z_law 483 = .ok (.iaload, 1) := by decide +kernel
theorem d_Z_law_484 : decode b_Z_law 484 = .ok (.invokevirtual 51, 3) := by decide +kernel
theorem d_Z_law_487 : decode b_Z_law 487 = .ok (.aload_n 2, 1) := by decide +kernel
theorem d_Z_law_488 : decode b_Z_law 488 = .ok (.aload_n 0, 1) := by decide +kernel
theorem d_Z_law_489 : decode b_Z_law 489 = .ok (.iload_n 3, 1) := by decide +kernel
theorem d_Z_law_490 : decode b_Z_law 490 = .ok (.iconst 1, 1) := by decide +kernel
theorem d_Z_law_491 : decode b_Z_law 491 = .ok (.iadd, 1) := by decide +kernel
theorem d_Z_law_492 : decode b_Z_law 492 = .ok (.iaload, 1) := by decide +kernel
theorem d_Z_law_493 : decode b_Z_law 493 = .ok (.invokevirtual 54, 3) := by decide +kernel
theorem d_Z_law_496 : decode b_Z_law 496 = .ok (.if_icmp .eq 469, 3) := by decide +kernel
theorem d_Z_law_499 : decode b_Z_law 499 = .ok (.iconst 0, 1) := by decide +kernel
theorem d_Z_law_500 : decode b_Z_law 500 = .ok (.ireturn, 1) := by decide +kernel
theorem d_Z_law_501 : decode b_Z_law 501 = .ok (.aload_n 1, 1) := by decide +kernel
theorem d_Z_law_502 : decode b_Z_law 502 = .ok (.invokevirtual 55, 3) := by decide +kernel
theorem d_Z_law_505 : decode b_Z_law 505 = .ok (.aload_n 2, 1) := by decide +kernel
theorem d_Z_law_506 : decode b_Z_law 506 = .ok (.invokevirtual 59, 3) := by decide +kernel
theorem d_Z_law_509 : decode b_Z_law 509 = .ok (.if_icmp .eq 456, 3) := by decide +kernel
theorem d_Z_law_512 : decode b_Z_law 512 = .ok (.iconst 0, 1) := by decide +kernel
theorem d_Z_law_513 : decode b_Z_law 513 = .ok (.ireturn, 1) := by decide +kernel
theorem d_Z_law_514 : decode b_Z_law 514 = .ok (.aload_n 1, 1) := by decide +kernel
theorem d_Z_law_515 : decode b_Z_law 515 = .ok (.invokevirtual 60, 3) := by decide +kernel
theorem d_Z_law_518 : decode b_Z_law 518 = .ok (.aload_n 2, 1) := by decide +kernel
theorem d_Z_law_519 : decode b_Z_law 519 = .ok (.invokevirtual 64, 3) := by decide +kernel
theorem d_Z_law_522 : decode b_Z_law 522 = .ok (.if_icmp .eq 443, 3) := by decide +kernel
theorem d_Z_law_525 : decode b_Z_law 525 = .ok (.iconst 0, 1) := by decide +kernel
theorem d_Z_law_526 : decode b_Z_law 526 = .ok (.ireturn, 1) := by decide +kernel
theorem d_Z_law_527 : decode b_Z_law 527 = .ok (.aload_n 1, 1) := by decide +kernel
theorem d_Z_law_528 : decode b_Z_law 528 = .ok (.aload_n 0, 1) := by decide +kernel
theorem d_Z_law_529 : decode b_Z_law 529 = .ok (.iload_n 3, 1) := by decide +kernel
theorem d_Z_law_530 : decode b_Z_law 530 = .ok (.iconst 1, 1) := by decide +kernel
theorem d_Z_law_531 : decode b_Z_law 531 = .ok (.iadd, 1) := by decide +kernel
theorem d_Z_law_532 : decode b_Z_law 532 = .ok (.iaload, 1) := by decide +kernel
theorem d_Z_law_533 : decode b_Z_law 533 = .ok (.aload_n 0, 1) := by decide +kernel
theorem d_Z_law_534 : decode b_Z_law 534 = .ok (.iload_n 3, 1) := by decide +kernel
theorem d_Z_law_535 : decode b_Z_law 535 = .ok (.iconst 2, 1) := by decide +kernel
theorem d_Z_law_536 : decode b_Z_law 536 = .ok (.iadd, 1) := by decide +kernel
theorem d_Z_law_537 : decode b_Z_law 537 = .ok (.iaload, 1) := by decide +kernel
theorem d_Z_law_538 : decode b_Z_law 538 = .ok (.invokevirtual 65, 3) := by decide +kernel
theorem d_Z_law_541 : decode b_Z_law 541 = .ok (.aload_n 2, 1) := by decide +kernel
theorem d_Z_law_542 : decode b_Z_law 542 = .ok (.aload_n 0, 1) := by decide +kernel
theorem d_Z_law_543 : decode b_Z_law 543 = .ok (.iload_n 3, 1) := by decide +kernel
theorem d_Z_law_544 : decode b_Z_law 544 = .ok (.iconst 1, 1) := by decide +kernel
theorem d_Z_law_545 : decode b_Z_law 545 = .ok (.iadd, 1) := by decide +kernel
theorem d_Z_law_546 : decode b_Z_law 546 = .ok (.iaload, 1) := by decide +kernel
theorem d_Z_law_547 : decode b_Z_law 547 = .ok (.aload_n 0, 1) := by decide +kernel
theorem d_Z_law_548 : decode b_Z_law 548 = .ok (.iload_n 3, 1) := by decide +kernel
theorem d_Z_law_549 : decode b_Z_law 549 = .ok (.iconst 2, 1) := by decide +kernel
theorem d_Z_law_550 : decode b_Z_law 550 = .ok (.iadd, 1) := by decide +kernel
theorem d_Z_law_551 : decode b_Z_law 551 = .ok (.iaload, 1) := by decide +kernel
theorem d_Z_law_552 : decode b_Z_law 552 = .ok (.invokevirtual 68, 3) := by decide +kernel
theorem d_Z_law_555 : decode b_Z_law 555 = .ok (.if_icmp .eq 410, 3) := by decide +kernel
theorem d_Z_law_558 : decode b_Z_law 558 = .ok (.iconst 0, 1) := by decide +kernel
theorem d_Z_law_559 : decode b_Z_law 559 = .ok (.ireturn, 1) := by decide +kernel
theorem d_Z_law_560 : decode b_Z_law 560 = .ok (.aload_n 1, 1) := by decide +kernel
theorem d_Z_law_561 : decode b_Z_law 561 = .ok (.aload_n 0, 1) := by decide +kernel
theorem d_Z_law_562 : decode b_Z_law 562 = .ok (.iload_n 3, 1) := by decide +kernel
theorem d_Z_law_563 : decode b_Z_law 563 = .ok (.iconst 1, 1) := by decide +kernel
theorem d_Z_law_564 : decode b_Z_law 564 = .ok (.iadd, 1) := by decide +kernel
theorem d_Z_law_565 : decode b_Z_law 565 = .ok (.iaload, 1) := by decide +kernel
theorem d_Z_law_566 : decode b_Z_law 566 = .ok (.aload_n 0, 1) := by decide +kernel
theorem d_Z_law_567 : decode b_Z_law 567 = .ok (.iload_n 3, 1) := by decide +kernel
theorem d_Z_law_568 : decode b_Z_law 568 = .ok (.iconst 2, 1) := by decide +kernel
theorem d_Z_law_569 : decode b_Z_law 569 = .ok (.iadd, 1) := by decide +kernel
theorem d_Z_law_570 : decode b_Z_law 570 = .ok (.iaload, 1) := by decide +kernel
theorem d_Z_law_571 : decode b_Z_law 571 = .ok (.invokevirtual 69, 3) := by decide +kernel
theorem d_Z_law_574 : decode b_Z_law 574 = .ok (.aload_n 2, 1) := by decide +kernel
theorem d_Z_law_575 : decode b_Z_law 575 = .ok (.aload_n 0, 1) := by decide +kernel
theorem d_Z_law_576 : decode b_Z_law 576 = .ok (.iload_n 3, 1) := by decide +kernel
theorem d_Z_law_577 : decode b_Z_law 577 = .ok (.iconst 1, 1) := by decide +kernel
theorem d_Z_law_578 : decode b_Z_law 578 = .ok (.iadd, 1) := by decide +kernel
theorem d_Z_law_579 : decode b_Z_law 579 = .ok (.iaload, 1) := by decide +kernel
theorem d_Z_law_580 : decode b_Z_law 580 = .ok (.aload_n 0, 1) := by decide +kernel
theorem d_Z_law_581 : decode b_Z_law 581 = .ok (.iload_n 3, 1) := by decide +kernel
theorem d_Z_law_582 : decode b_Z_law 582 = .ok (.iconst 2, 1) := by decide +kernel
theorem d_Z_law_583 : decode b_Z_law 583 = .ok (.iadd, 1) := by decide +kernel
theorem d_Z_law_584 : decode b_Z_law 584 = .ok (.iaload, 1) := by decide +kernel
theorem d_Z_law_585 : decode b_Z_law 585 = .ok (.invokevirtual 72, 3) := by decide +kernel
theorem d_Z_law_588 : decode b_Z_law 588 = .ok (.if_icmp .eq 377, 3) := by decide +kernel
theorem d_Z_law_591 : decode b_Z_law 591 = .ok (.iconst 0, 1) := by decide +kernel
theorem d_Z_law_592 : decode b_Z_law 592 = .ok (.ireturn, 1) := by decide +kernel
theorem d_Z_law_593 : decode b_Z_law 593 = .ok (.aload_n 1, 1) := by decide +kernel
theorem d_Z_law_594 : decode b_Z_law 594 = .ok (.aload_n 0, 1) := by decide +kernel
theorem d_Z_law_595 : decode b_Z_law 595 = .ok (.iload_n 3, 1) := by decide +kernel
theorem d_Z_law_596 : decode b_Z_law 596 = .ok (.iconst 1, 1) := by decide +kernel
theorem d_Z_law_597 : decode b_Z_law 597 = .ok (.iadd, 1) := by decide +kernel
theorem d_Z_law_598 : decode b_Z_law 598 = .ok (.iaload, 1) := by decide +kernel
theorem d_Z_law_599 : decode b_Z_law 599 = .ok (.aload_n 0, 1) := by decide +kernel
theorem d_Z_law_600 : decode b_Z_law 600 = .ok (.iload_n 3, 1) := by decide +kernel
theorem d_Z_law_601 : decode b_Z_law 601 = .ok (.iconst 2, 1) := by decide +kernel
theorem d_Z_law_602 : decode b_Z_law 602 = .ok (.iadd, 1) := by decide +kernel
theorem d_Z_law_603 : decode b_Z_law 603 = .ok (.iaload, 1) := by decide +kernel
theorem d_Z_law_604 : decode b_Z_law 604 = .ok (.aload_n 0, 1) := by decide +kernel
theorem d_Z_law_605 : decode b_Z_law 605 = .ok (.iload_n 3, 1) := by decide +kernel
theorem d_Z_law_606 : decode b_Z_law 606 = .ok (.iconst 3, 1) := by decide +kernel
theorem d_Z_law_607 : decode b_Z_law 607 = .ok (.iadd, 1) := by decide +kernel
theorem d_Z_law_608 : decode b_Z_law 608 = .ok (.iaload, 1) := by decide +kernel
theorem d_Z_law_609 : decode b_Z_law 609 = .ok (.ifCond .eq 7, 3) := by decide +kernel
theorem d_Z_law_612 : decode b_Z_law 612 = .ok (.iconst 1, 1) := by decide +kernel
theorem d_Z_law_613 : decode b_Z_law 613 = .ok (.goto 4, 3) := by decide +kernel
theorem d_Z_law_616 : decode b_Z_law 616 = .ok (.iconst 0, 1) := by decide +kernel
theorem d_Z_law_617 : decode b_Z_law 617 = .ok (.aload_n 0, 1) := by decide +kernel
theorem d_Z_law_618 : decode b_Z_law 618 = .ok (.iload_n 3, 1) := by decide +kernel
theorem d_Z_law_619 : decode b_Z_law 619 = .ok (.iconst 4, 1) := by decide +kernel
theorem d_Z_law_620 : decode b_Z_law 620 = .ok (.iadd, 1) := by decide +kernel
theorem d_Z_law_621 : decode b_Z_law 621 = .ok (.iaload, 1) := by decide +kernel
theorem d_Z_law_622 : decode b_Z_law 622 = .ok (.invokevirtual 73, 3) := by decide +kernel
theorem d_Z_law_625 : decode b_Z_law 625 = .ok (.aload_n 2, 1) := by decide +kernel
theorem d_Z_law_626 : decode b_Z_law 626 = .ok (.aload_n 0, 1) := by decide +kernel
theorem d_Z_law_627 : decode b_Z_law 627 = .ok (.iload_n 3, 1) := by decide +kernel
theorem d_Z_law_628 : decode b_Z_law 628 = .ok (.iconst 1, 1) := by decide +kernel
theorem d_Z_law_629 : decode b_Z_law 629 = .ok (.iadd, 1) := by decide +kernel
theorem d_Z_law_630 : decode b_Z_law 630 = .ok (.iaload, 1) := by decide +kernel
theorem d_Z_law_631 : decode b_Z_law 631 = .ok (.aload_n 0, 1) := by decide +kernel
theorem d_Z_law_632 : decode b_Z_law 632 = .ok (.iload_n 3, 1) := by decide +kernel
theorem d_Z_law_633 : decode b_Z_law 633 = .ok (.iconst 2, 1) := by decide +kernel
theorem d_Z_law_634 : decode b_Z_law 634 = .ok (.iadd, 1) := by decide +kernel
theorem d_Z_law_635 : decode b_Z_law 635 = .ok (.iaload, 1) := by decide +kernel
theorem d_Z_law_636 : decode b_Z_law 636 = .ok (.aload_n 0, 1) := by decide +kernel
theorem d_Z_law_637 : decode b_Z_law 637 = .ok (.iload_n 3, 1) := by decide +kernel
theorem d_Z_law_638 : decode b_Z_law 638 = .ok (.iconst 3, 1) := by decide +kernel
theorem d_Z_law_639 : decode b_Z_law 639 = .ok (.iadd, 1) := by decide +kernel
theorem d_Z_law_640 : decode b_Z_law 640 = .ok (.iaload, 1) := by decide +kernel
theorem d_Z_law_641 : decode b_Z_law 641 = .ok (.ifCond .eq 7, 3) := by decide +kernel
theorem d_Z_law_644 : decode b_Z_law 644 = .ok (.iconst 1, 1) := by decide +kernel
theorem d_Z_law_645 : decode b_Z_law 645 = .ok (.goto 4, 3) := by decide +kernel
theorem d_Z_law_648 : decode b_Z_law 648 = .ok (.iconst 0, 1) := by decide +kernel
theorem d_Z_law_649 : decode b_Z_law 649 = .ok (.aload_n 0, 1) := by decide +kernel
theorem d_Z_law_650 : decode b_Z_law 650 = .ok (.iload_n 3, 1) := by decide +kernel
theorem d_Z_law_651 : decode b_Z_law 651 = .ok (.iconst 4, 1) := by decide +kernel
theorem d_Z_law_652 : decode b_Z_law 652 = .ok (.iadd, 1) := by decide +kernel
theorem d_Z_law_653 : decode b_Z_law 653 = .ok (.iaload, 1) := by decide +kernel
theorem d_Z_law_654 : decode b_Z_law 654 = .ok (.invokevirtual 77, 3) := by decide +kernel
theorem d_Z_law_657 : decode b_Z_law 657 = .ok (.if_icmp .eq 308, 3) := by decide +kernel
theorem d_Z_law_660 : decode b_Z_law 660 = .ok (.iconst 0, 1) := by decide +kernel
theorem d_Z_law_661 : decode b_Z_law 661 = .ok (.ireturn, 1) := by decide +kernel
theorem d_Z_law_662 : decode b_Z_law 662 = .ok (.aload_n 1, 1) := by decide +kernel
theorem d_Z_law_663 : decode b_Z_law 663 = .ok (.aload_n 0, 1) := by decide +kernel
theorem d_Z_law_664 : decode b_Z_law 664 = .ok (.iload_n 3, 1) := by decide +kernel
theorem d_Z_law_665 : decode b_Z_law 665 = .ok (.iconst 1, 1) := by decide +kernel
theorem d_Z_law_666 : decode b_Z_law 666 = .ok (.iadd, 1) := by decide +kernel
theorem d_Z_law_667 : decode b_Z_law 667 = .ok (.iaload, 1) := by decide +kernel
theorem d_Z_law_668 : decode b_Z_law 668 = .ok (.aload_n 0, 1) := by decide +kernel
theorem d_Z_law_669 : decode b_Z_law 669 = .ok (.iload_n 3, 1) := by decide +kernel
theorem d_Z_law_670 : decode b_Z_law 670 = .ok (.iconst 2, 1) := by decide +kernel
theorem d_Z_law_671 : decode b_Z_law 671 = .ok (.iadd, 1) := by decide +kernel
theorem d_Z_law_672 : decode b_Z_law 672 = .ok (.iaload, 1) := by decide +kernel
theorem d_Z_law_673 : decode b_Z_law 673 = .ok (.invokevirtual 78, 3) := by decide +kernel
theorem d_Z_law_676 : decode b_Z_law 676 = .ok (.aload_n 2, 1) := by decide +kernel
theorem d_Z_law_677 : decode b_Z_law 677 = .ok (.aload_n 0, 1) := by decide +kernel
theorem d_Z_law_678 : decode b_Z_law 678 = .ok (.iload_n 3, 1) := by decide +kernel
theorem d_Z_law_679 : decode b_Z_law 679 = .ok (.iconst 1, 1) := by decide +kernel
theorem d_Z_law_680 : decode b_Z_law 680 = .ok (.iadd, 1) := by decide +kernel
theorem d_Z_law_681 : decode b_Z_law 681 = .ok (.iaload, 1) := by decide +kernel
theorem d_Z_law_682 : decode b_Z_law 682 = .ok (.aload_n 0, 1) := by decide +kernel
theorem d_Z_law_683 : decode b_Z_law 683 = .ok (.iload_n 3, 1) := by decide +kernel
theorem d_Z_law_684 : decode b_Z_law 684 = .ok (.iconst 2, 1) := by decide +kernel
theorem d_Z_law_685 : decode b_Z_law 685 = .ok (.iadd, 1) := by decide +kernel
theorem d_Z_law_686 : decode b_Z_law 686 = .ok (.iaload, 1) := by decide +kernel
theorem d_Z_law_687 : decode b_Z_law 687 = .ok (.invokevirtual 82, 3) := by decide +kernel
theorem d_Z_law_690 : decode b_Z_law 690 = .ok (.if_icmp .eq 275, 3) := by decide +kernel
theorem d_Z_law_693 : decode b_Z_law 693 = .ok (.iconst 0, 1) := by decide +kernel
theorem d_Z_law_694 : decode b_Z_law 694 = .ok (.ireturn, 1) := by decide +kernel
theorem d_Z_law_695 : decode b_Z_law 695 = .ok (.aload_n 1, 1) := by decide +kernel
theorem d_Z_law_696 : decode b_Z_law 696 = .ok (.aload_n 0, 1) := by decide +kernel
theorem d_Z_law_697 : decode b_Z_law 697 = .ok (.iload_n 3, 1) := by decide +kernel
theorem d_Z_law_698 : decode b_Z_law 698 = .ok (.iconst 1, 1) := by decide +kernel
theorem d_Z_law_699 : decode b_Z_law 699 = .ok (.iadd, 1) := by decide +kernel
theorem d_Z_law_700 : decode b_Z_law 700 = .ok (.iaload, 1) := by decide +kernel
theorem d_Z_law_701 : decode b_Z_law 701 = .ok (.aload_n 0, 1) := by decide +kernel
theorem d_Z_law_702 : decode b_Z_law 702 = .ok (.iload_n 3, 1) := by decide +kernel
theorem d_Z_law_703 : decode b_Z_law 703 = .ok (.iconst 2, 1) := by decide +kernel
theorem d_Z_law_704 : decode b_Z_law 704 = .ok (.iadd, 1) := by decide +kernel
theorem d_Z_law_705 : decode b_Z_law 705 = .ok (.iaload, 1) := by decide +kernel
theorem d_Z_law_706 : decode b_Z_law 706 = .ok (.invokevirtual 83, 3) := by decide +kernel
theorem d_Z_law_709 : decode b_Z_law 709 = .ok (.aload_n 2, 1) := by decide +kernel
theorem d_Z_law_710 : decode b_Z_law 710 = .ok (.aload_n 0, 1) := by decide +kernel
theorem d_Z_law_711 : decode b_Z_law 711 = .ok (.iload_n 3, 1) := by decide +kernel
theorem d_Z_law_712 : decode b_Z_law 712 = .ok (.iconst 1, 1) := by decide +kernel
theorem d_Z_law_713 : decode b_Z_law 713 = .ok (.iadd, 1) := by decide +kernel
theorem d_Z_law_714 : decode b_Z_law 714 = .ok (.iaload, 1) := by decide +kernel
theorem d_Z_law_715 : decode b_Z_law 715 = .ok (.aload_n 0, 1) := by decide +kernel
theorem d_Z_law_716 : decode b_Z_law 716 = .ok (.iload_n 3, 1) := by decide +kernel
theorem d_Z_law_717 : decode b_Z_law 717 = .ok (.iconst 2, 1) := by decide +kernel
theorem d_Z_law_718 : decode b_Z_law 718 = .ok (.iadd, 1) := by decide +kernel
theorem d_Z_law_719 : decode b_Z_law 719 = .ok (.iaload, 1) := by decide +kernel
theorem d_Z_law_720 : decode b_Z_law 720 = .ok (.invokevirtual 86, 3) := by decide +kernel
theorem d_Z_law_723 : decode b_Z_law 723 = .ok (.if_icmp .eq 242, 3) := by decide +kernel
theorem d_Z_law_726 : decode b_Z_law 726 = .ok (.iconst 0, 1) := by decide +kernel
theorem d_Z_law_727 : decode b_Z_law 727 = .ok (.ireturn, 1) := by decide +kernel
theorem d_Z_law_728 : decode b_Z_law 728 = .ok (.aload_n 1, 1) := by decide +kernel
theorem d_Z_law_729 : decode b_Z_law 729 = .ok (.invokevirtual 87, 3) := by decide +kernel
theorem d_Z_law_732 : decode b_Z_law 732 = .ok (.aload_n 2, 1) := by decide +kernel
theorem d_Z_law_733 : decode b_Z_law 733 = .ok (.invokevirtual 90, 3) := by decide +kernel
theorem d_Z_law_736 : decode b_Z_law 736 = .ok (.if_icmp .eq 229, 3) := by decide +kernel
theorem d_Z_law_739 : decode b_Z_law 739 = .ok (.iconst 0, 1) := by decide +kernel
theorem d_Z_law_740 : decode b_Z_law 740 = .ok (.ireturn, 1) := by decide +kernel
theorem d_Z_law_741 : decode b_Z_law 741 = .ok (.aload_n 1, 1) := by decide +kernel
theorem d_Z_law_742 : decode b_Z_law 742 = .ok (.aload_n 0, 1) := by decide +kernel
theorem d_Z_law_743 : decode b_Z_law 743 = .ok (.iload_n 3, 1) := by decide +kernel
theorem d_Z_law_744 : decode b_Z_law 744 = .ok (.iconst 1, 1) := by decide +kernel
theorem d_Z_law_745 : decode b_Z_law 745 = .ok (.iadd, 1) := by decide +kernel
theorem d_Z_law_746 : decode b_Z_law 746 = .ok (.iaload, 1) := by decide +kernel
theorem d_Z_law_747 : decode b_Z_law 747 = .ok (.invokevirtual 91, 3) := by decide +kernel
theorem d_Z_law_750 : decode b_Z_law 750 = .ok (.aload_n 2, 1) := by decide +kernel
theorem d_Z_law_751 : decode b_Z_law 751 = .ok (.aload_n 0, 1) := by decide +kernel
theorem d_Z_law_752 : decode b_Z_law 752 = .ok (.iload_n 3, 1) := by decide +kernel
theorem d_Z_law_753 : decode b_Z_law 753 = .ok (.iconst 1, 1) := by decide +kernel
theorem d_Z_law_754 : decode b_Z_law 754 = .ok (.iadd, 1) := by decide +kernel
theorem d_Z_law_755 : decode b_Z_law 755 = .ok (.iaload, 1) := by decide +kernel
theorem d_Z_law_756 : decode b_Z_law 756 = .ok (.invokevirtual 94, 3) := by decide +kernel
theorem d_Z_law_759 : decode b_Z_law 759 = .ok (.if_icmp .eq 206, 3) := by decide +kernel
theorem d_Z_law_762 : decode b_Z_law 762 = .ok (.iconst 0, 1) := by decide +kernel
theorem d_Z_law_763 : decode b_Z_law 763 = .ok (.ireturn, 1) := by decide +kernel
theorem d_Z_law_764 : decode b_Z_law 764 = .ok (.aload_n 1, 1) := by decide +kernel
theorem d_Z_law_765 : decode b_Z_law 765 = .ok (.aload_n 0, 1) := by decide +kernel
theorem d_Z_law_766 : decode b_Z_law 766 = .ok (.iload_n 3, 1) := by decide +kernel
theorem d_Z_law_767 : decode b_Z_law 767 = .ok (.iconst 1, 1) := by decide +kernel
theorem d_Z_law_768 : decode b_Z_law 768 = .ok (.iadd, 1) := by decide +kernel
theorem d_Z_law_769 : decode b_Z_law 769 = .ok (.iaload, 1) := by decide +kernel
theorem d_Z_law_770 : decode b_Z_law 770 = .ok (.aload_n 0, 1) := by decide +kernel
theorem d_Z_law_771 : decode b_Z_law 771 = .ok (.iload_n 3, 1) := by decide +kernel
theorem d_Z_law_772 : decode b_Z_law 772 = .ok (.iconst 2, 1) := by decide +kernel
theorem d_Z_law_773 : decode b_Z_law 773 = .ok (.iadd, 1) := by decide +kernel
theorem d_Z_law_774 : decode b_Z_law 774 = .ok (.iaload, 1) := by decide +kernel
theorem d_Z_law_775 : decode b_Z_law 775 = .ok (.invokevirtual 95, 3) := by decide +kernel
theorem d_Z_law_778 : decode b_Z_law 778 = .ok (.aload_n 2, 1) := by decide +kernel
theorem d_Z_law_779 : decode b_Z_law 779 = .ok (.aload_n 0, 1) := by decide +kernel
theorem d_Z_law_780 : decode b_Z_law 780 = .ok (.iload_n 3, 1) := by decide +kernel
theorem d_Z_law_781 : decode b_Z_law 781 = .ok (.iconst 1, 1) := by decide +kernel
theorem d_Z_law_782 : decode b_Z_law 782 = .ok (.iadd, 1) := by decide +kernel
theorem d_Z_law_783 : decode b_Z_law 783 = .ok (.iaload, 1) := by decide +kernel
theorem d_Z_law_784 : decode b_Z_law 784 = .ok (.aload_n 0, 1) := by decide +kernel
theorem d_Z_law_785 : decode b_Z_law 785 = .ok (.iload_n 3, 1) := by decide +kernel
theorem d_Z_law_786 : decode b_Z_law 786 = .ok (.iconst 2, 1) := by decide +kernel
theorem d_Z_law_787 : decode b_Z_law 787 = .ok (.iadd, 1) := by decide +kernel
theorem d_Z_law_788 : decode b_Z_law 788 = .ok (.iaload, 1) := by decide +kernel
theorem d_Z_law_789 : decode b_Z_law 789 = .ok (.invokevirtual 98, 3) := by decide +kernel
theorem d_Z_law_792 : decode b_Z_law 792 = .ok (.if_icmp .eq 173, 3) := by decide +kernel
theorem d_Z_law_795 : decode b_Z_law 795 = .ok (.iconst 0, 1) := by decide +kernel
theorem d_Z_law_796 : decode b_Z_law 796 = .ok (.ireturn, 1) := by decide +kernel
theorem d_Z_law_797 : decode b_Z_law 797 = .ok (.aload_n 1, 1) := by decide +kernel
theorem d_Z_law_798 : decode b_Z_law 798 = .ok (.aload_n 0, 1) := by decide +kernel
theorem d_Z_law_799 : decode b_Z_law 799 = .ok (.iload_n 3, 1) := by decide +kernel
theorem d_Z_law_800 : decode b_Z_law 800 = .ok (.iconst 1, 1) := by decide +kernel
theorem d_Z_law_801 : decode b_Z_law 801 = .ok (.iadd, 1) := by decide +kernel
theorem d_Z_law_802 : decode b_Z_law 802 = .ok (.iaload, 1) := by decide +kernel
theorem d_Z_law_803 : decode b_Z_law 803 = .ok (.invokevirtual 99, 3) := by decide +kernel
theorem d_Z_law_806 : decode b_Z_law 806 = .ok (.aload_n 2, 1) := by decide +kernel
theorem d_Z_law_807 : decode b_Z_law 807 = .ok (.aload_n 0, 1) := by decide +kernel
theorem d_Z_law_808 : decode b_Z_law 808 = .ok (.iload_n 3, 1) := by decide +kernel
theorem d_Z_law_809 : decode b_Z_law 809 = .ok (.iconst 1, 1) := by decide +kernel
theorem d_Z_law_810 : decode b_Z_law 810 = .ok (.iadd, 1) := by decide +kernel
theorem d_Z_law_811 : decode b_Z_law 811 = .ok (.iaload, 1) := by decide +kernel
theorem d_Z_law_812 : decode b_Z_law 812 = .ok (.invokevirtual 102, 3) := by decide +kernel
theorem d_Z_law_815 : decode b_Z_law 815 = .ok (.if_icmp .eq 150, 3) := by decide +kernel
theorem d_Z_law_818 : decode b_Z_law 818 = .ok (.iconst 0, 1) := by decide +kernel
theorem d_Z_law_819 : decode b_Z_law 819 = .ok (.ireturn, 1) := by decide +kernel
theorem d_Z_law_820 : decode b_Z_law 820 = .ok (.aload_n 1, 1) := by decide +kernel
theorem d_Z_law_821 : decode b_Z_law 821 = .ok (.aload_n 0, 1) := by decide +kernel
theorem d_Z_law_822 : decode b_Z_law 822 = .ok (.iload_n 3, 1) := by decide +kernel
theorem d_Z_law_823 : decode b_Z_law 823 = .ok (.iconst 1, 1) := by decide +kernel
theorem d_Z_law_824 : decode b_Z_law 824 = .ok (.iadd, 1) := by decide +kernel
theorem d_Z_law_825 : decode b_Z_law 825 = .ok (.iaload, 1) := by decide +kernel
theorem d_Z_law_826 : decode b_Z_law 826 = .ok (.invokevirtual 103, 3) := by decide +kernel
theorem d_Z_law_829 : decode b_Z_law 829 = .ok (.aload_n 2, 1) := by decide +kernel
theorem d_Z_law_830 : decode b_Z_law 830 = .ok (.aload_n 0, 1) := by decide +kernel
theorem d_Z_law_831 : decode b_Z_law 831 = .ok (.iload_n 3, 1) := by decide +kernel
theorem d_Z_law_832 : decode b_Z_law 832 = .ok (.iconst 1, 1) := by decide +kernel
theorem d_Z_law_833 : decode b_Z_law 833 = .ok (.iadd, 1) := by decide +kernel
theorem d_Z_law_834 : decode b_Z_law 834 = .ok (.iaload, 1) := by decide +kernel
theorem d_Z_law_835 : decode b_Z_law 835 = .ok (.invokevirtual 106, 3) := by decide +kernel
theorem d_Z_law_838 : decode b_Z_law 838 = .ok (.if_icmp .eq 127, 3) := by decide +kernel
theorem d_Z_law_841 : decode b_Z_law 841 = .ok (.iconst 0, 1) := by decide +kernel
theorem d_Z_law_842 : decode b_Z_law 842 = .ok (.ireturn, 1) := by decide +kernel
theorem d_Z_law_843 : decode b_Z_law 843 = .ok (.aload_n 1, 1) := by decide +kernel
theorem d_Z_law_844 : decode b_Z_law 844 = .ok (.aload_n 0, 1) := by decide +kernel
theorem d_Z_law_845 : decode b_Z_law 845 = .ok (.iload_n 3, 1) := by decide +kernel
theorem d_Z_law_846 : decode b_Z_law 846 = .ok (.iconst 1, 1) := by decide +kernel
theorem d_Z_law_847 : decode b_Z_law 847 = .ok (.iadd, 1) := by decide +kernel
theorem d_Z_law_848 : decode b_Z_law 848 = .ok (.iaload, 1) := by decide +kernel
theorem d_Z_law_849 : decode b_Z_law 849 = .ok (.invokevirtual 107, 3) := by decide +kernel
theorem d_Z_law_852 : decode b_Z_law 852 = .ok (.aload_n 2, 1) := by decide +kernel
theorem d_Z_law_853 : decode b_Z_law 853 = .ok (.aload_n 0, 1) := by decide +kernel
theorem d_Z_law_854 : decode b_Z_law 854 = .ok (.iload_n 3, 1) := by decide +kernel
theorem d_Z_law_855 : decode b_Z_law 855 = .ok (.iconst 1, 1) := by decide +kernel
theorem d_Z_law_856 : decode b_Z_law 856 = .ok (.iadd, 1) := by decide +kernel
theorem d_Z_law_857 : decode b_Z_law 857 = .ok (.iaload, 1) := by decide +kernel
theorem d_Z_law_858 : decode b_Z_law 858 = .ok (.invokevirtual 110, 3) := by decide +kernel
theorem d_Z_law_861 : decode b_Z_law 861 = .ok (.if_icmp .eq 104, 3) := by decide +kernel
theorem d_Z_law_864 : decode b_Z_law 864 = .ok (.iconst 0, 1) := by decide +kernel
theorem d_Z_law_865 : decode b_Z_law 865 = .ok (.ireturn, 1) := by decide +kernel
theorem d_Z_law_866 : decode b_Z_law 866 = .ok (.aload_n 1, 1) := by decide +kernel
theorem d_Z_law_867 : decode b_Z_law 867 = .ok (.aload_n 0, 1) := by decide +kernel
theorem d_Z_law_868 : decode b_Z_law 868 = .ok (.iload_n 3, 1) := by decide +kernel
theorem d_Z_law_869 : decode b_Z_law 869 = .ok (.iconst 1, 1) := by decide +kernel
theorem d_Z_law_870 : decode b_Z_law 870 = .ok (.iadd, 1) := by decide +kernel
theorem d_Z_law_871 : decode b_Z_law 871 = .ok (.iaload, 1) := by decide +kernel
theorem d_Z_law_872 : decode b_Z_law 872 = .ok (.invokevirtual 111, 3) := by decide +kernel
theorem d_Z_law_875 : decode b_Z_law 875 = .ok (.aload_n 2, 1) := by decide +kernel
theorem d_Z_law_876 : decode b_Z_law 876 = .ok (.aload_n 0, 1) := by decide +kernel
theorem d_Z_law_877 : decode b_Z_law 877 = .ok (.iload_n 3, 1) := by decide +kernel
theorem d_Z_law_878 : decode b_Z_law 878 = .ok (.iconst 1, 1) := by decide +kernel
theorem d_Z_law_879 : decode b_Z_law 879 = .ok (.iadd, 1) := by decide +kernel
theorem d_Z_law_880 : decode b_Z_law 880 = .ok (.iaload, 1) := by decide +kernel
theorem d_Z_law_881 : decode b_Z_law 881 = .ok (.invokevirtual 114, 3) := by decide +kernel
theorem d_Z_law_884 : decode b_Z_law 884 = .ok (.if_icmp .eq 81, 3) := by decide +kernel
theorem d_Z_law_887 : decode b_Z_law 887 = .ok (.iconst 0, 1) := by decide +kernel
theorem d_Z_law_888 : decode b_Z_law 888 = .ok (.ireturn, 1) := by decide +kernel
theorem d_Z_law_889 : decode b_Z_law 889 = .ok (.aload_n 1, 1) := by decide +kernel
theorem d_Z_law_890 : decode b_Z_law 890 = .ok (.aload_n 0, 1) := by decide +kernel
theorem d_Z_law_891 : decode b_Z_law 891 = .ok (.iload_n 3, 1) := by decide +kernel
theorem d_Z_law_892 : decode b_Z_law 892 = .ok (.iconst 1, 1) := by decide +kernel
theorem d_Z_law_893 : decode b_Z_law 893 = .ok (.iadd, 1) := by decide +kernel
theorem d_Z_law_894 : decode b_Z_law 894 = .ok (.iaload, 1) := by decide +kernel
theorem d_Z_law_895 : decode b_Z_law 895 = .ok (.aload_n 0, 1) := by decide +kernel
theorem d_Z_law_896 : decode b_Z_law 896 = .ok (.iload_n 3, 1) := by decide +kernel
theorem d_Z_law_897 : decode b_Z_law 897 = .ok (.iconst 2, 1) := by decide +kernel
theorem d_Z_law_898 : decode b_Z_law 898 = .ok (.iadd, 1) := by decide +kernel
theorem d_Z_law_899 : decode b_Z_law 899 = .ok (.iaload, 1) := by decide +kernel
theorem d_Z_law_900 : decode b_Z_law 900 = .ok (.aload_n 0, 1) := by decide +kernel
theorem d_Z_law_901 : decode b_Z_law 901 = .ok (.iload_n 3, 1) := by decide +kernel
theorem d_Z_law_902 : decode b_Z_law 902 = .ok (.iconst 3, 1) := by decide +kernel
theorem d_Z_law_903 : decode b_Z_law 903 = .ok (.iadd, 1) := by decide +kernel
theorem d_Z_law_904 : decode b_Z_law 904 = .ok (.iaload, 1) := by decide +kernel
theorem d_Z_law_905 : decode b_Z_law 905 = .ok (.aload_n 0, 1) := by decide +kernel
theorem d_Z_law_906 : decode b_Z_law 906 = .ok (.iload_n 3, 1) := by decide +kernel
theorem d_Z_law_907 : decode b_Z_law 907 = .ok (.iconst 4, 1) := by decide +kernel
theorem d_Z_law_908 : decode b_Z_law 908 = .ok (.iadd, 1) := by decide +kernel
theorem d_Z_law_909 : decode b_Z_law 909 = .ok (.iaload, 1) := by decide +kernel
theorem d_Z_law_910 : decode b_Z_law 910 = .ok (.invokevirtual 115, 3) := by decide +kernel
theorem d_Z_law_913 : decode b_Z_law 913 = .ok (.aload_n 2, 1) := by decide +kernel
theorem d_Z_law_914 : decode b_Z_law 914 = .ok (.aload_n 0, 1) := by decide +kernel
theorem d_Z_law_915 : decode b_Z_law 915 = .ok (.iload_n 3, 1) := by decide +kernel
theorem d_Z_law_916 : decode b_Z_law 916 = .ok (.iconst 1, 1) := by decide +kernel
theorem d_Z_law_917 : decode b_Z_law 917 = .ok (.iadd, 1) := by decide +kernel
theorem d_Z_law_918 : decode b_Z_law 918 = .ok (.iaload, 1) := by decide +kernel
theorem d_Z_law_919 : decode b_Z_law 919 = .ok (.aload_n 0, 1) := by decide +kernel
theorem d_Z_law_920 : decode b_Z_law 920 = .ok (.iload_n 3, 1) := by decide +kernel
theorem d_Z_law_921 : decode b_Z_law 921 = .ok (.iconst 2, 1) := by decide +kernel
theorem d_Z_law_922 : decode b_Z_law 922 = .ok (.iadd, 1) := by decide +kernel
theorem d_Z_law_923 : decode b_Z_law 923 = .ok (.iaload, 1) := by decide +kernel
theorem d_Z_law_924 : decode b_Z_law 924 = .ok (.aload_n 0, 1) := by decide +kernel
theorem d_Z_law_925 : decode b_Z_law 925 = .ok (.iload_n 3, 1) := by decide +kernel
theorem d_Z_law_926 : decode b_Z_law 926 = .ok (.iconst 3, 1) := by decide +kernel
theorem d_Z_law_927 : decode b_Z_law 927 = .ok (.iadd, 1) := by decide +kernel
theorem d_Z_law_928 : decode b_Z_law 928 = .ok (.iaload, 1) := by decide +kernel
theorem d_Z_law_929 : decode b_Z_law 929 = .ok (.aload_n 0, 1) := by decide +kernel
theorem d_Z_law_930 : decode b_Z_law 930 = .ok (.iload_n 3, 1) := by decide +kernel
theorem d_Z_law_931 : decode b_Z_law 931 = .ok (.iconst 4, 1) := by decide +kernel
theorem d_Z_law_932 : decode b_Z_law 932 = .ok (.iadd, 1) := by decide +kernel
theorem d_Z_law_933 : decode b_Z_law 933 = .ok (.iaload, 1) := by decide +kernel
theorem d_Z_law_934 : decode b_Z_law 934 = .ok (.invokevirtual 119, 3) := by decide +kernel
theorem d_Z_law_937 : decode b_Z_law 937 = .ok (.if_icmp .eq 28, 3) := by decide +kernel
theorem d_Z_law_940 : decode b_Z_law 940 = .ok (.iconst 0, 1) := by decide +kernel
theorem d_Z_law_941 : decode b_Z_law 941 = .ok (.ireturn, 1) := by decide +kernel
theorem d_Z_law_942 : decode b_Z_law 942 = .ok (.aload_n 1, 1) := by decide +kernel
theorem d_Z_law_943 : decode b_Z_law 943 = .ok (.aload_n 0, 1) := by decide +kernel
theorem d_Z_law_944 : decode b_Z_law 944 = .ok (.iload_n 3, 1) := by decide +kernel
theorem d_Z_law_945 : decode b_Z_law 945 = .ok (.iconst 1, 1) := by decide +kernel
theorem d_Z_law_946 : decode b_Z_law 946 = .ok (.iadd, 1) := by decide +kernel
theorem d_Z_law_947 : decode b_Z_law 947 = .ok (.iaload, 1) := by decide +kernel
theorem d_Z_law_948 : decode b_Z_law 948 = .ok (.invokevirtual 120, 3) := by decide +kernel
theorem d_Z_law_951 : decode b_Z_law 951 = .ok (.aload_n 2, 1) := by decide +kernel
theorem d_Z_law_952 : decode b_Z_law 952 = .ok (.aload_n 0, 1) := by decide +kernel
theorem d_Z_law_953 : decode b_Z_law 953 = .ok (.iload_n 3, 1) := by decide +kernel
theorem d_Z_law_954 : decode b_Z_law 954 = .ok (.iconst 1, 1) := by decide +kernel
theorem d_Z_law_955 : decode b_Z_law 955 = .ok (.iadd, 1) := by decide +kernel
theorem d_Z_law_956 : decode b_Z_law 956 = .ok (.iaload, 1) := by decide +kernel
theorem d_Z_law_957 : decode b_Z_law 957 = .ok (.invokevirtual 123, 3) := by decide +kernel
theorem d_Z_law_960 : decode b_Z_law 960 = .ok (.if_icmp .eq 5, 3) := by decide +kernel
theorem d_Z_law_963 : decode b_Z_law 963 = .ok (.iconst 0, 1) := by decide +kernel
theorem d_Z_law_964 : decode b_Z_law 964 = .ok (.ireturn, 1) := by decide +kernel
theorem d_Z_law_965 : decode b_Z_law 965 = .ok (.iinc 3 6, 3) := by decide +kernel
theorem d_Z_law_968 : decode b_Z_law 968 = .ok (.goto (-950), 3) := by decide +kernel
theorem d_Z_law_971 : decode b_Z_law 971 = .ok (.iconst 1, 1) := by decide +kernel
theorem d_Z_law_972 : decode b_Z_law 972 = .ok (.ireturn, 1) := by decide +kernel
