theorem d_L_220 : decode code 220 = .ok (.invokevirtual 23, 3) := by decide +kernel
theorem d_L_223 : decode code 223 = .ok (.aload_n 2, 1) := by decide +kernel
theorem d_L_224 : decode code 224 = .ok (.aload_n 0, 1) := by decide +kernel
theorem d_L_225 : decode code 225 = .ok (.iload_n 3, 1) := by decide +kernel
theorem d_L_226 : decode code 226 = .ok (.iconst 1, 1) := by decide +kernel
theorem d_L_227 : decode code 227 = .ok (.iadd, 1) := by decide +kernel
theorem d_L_228 : decode code 228 = .ok (.iaload, 1) := by decide +kernel
theorem d_L_229 : decode code 229 = .ok (.invokevirtual 27, 3) := by decide +kernel
theorem d_L_232 : decode code 232 = .ok (.if_icmp .eq 377, 3) := by decide +kernel
theorem d_L_235 : decode code 235 = .ok (.iconst 0, 1) := by decide +kernel
theorem d_L_236 : decode code 236 = .ok (.ireturn, 1) := by decide +kernel
theorem d_L_237 : decode code 237 = .ok (.aload_n 1, 1) := by decide +kernel
theorem d_L_238 : decode code 238 = .ok (.aload_n 0, 1) := by decide +kernel
theorem d_L_239 : decode code 239 = .ok (.iload_n 3, 1) := by decide +kernel
theorem d_L_240 : decode code 240 = .ok (.iconst 1, 1) := by decide +kernel
theorem d_L_241 : decode code 241 = .ok (.iadd, 1) := by decide +kernel
theorem d_L_242 : decode code 242 = .ok (.iaload, 1) := by decide +kernel
theorem d_L_243 : decode code 243 = .ok (.aload_n 0, 1) := by decide +kernel
theorem d_L_244 : decode code 244 = .ok (.iload_n 3, 1) := by decide +kernel
theorem d_L_245 : decode code 245 = .ok (.iconst 2, 1) := by decide +kernel
theorem d_L_246 : decode code 246 = .ok (.iadd, 1) := by decide +kernel
theorem d_L_247 : decode code 247 = .ok (.iaload, 1) := by decide +kernel
theorem d_L_248 : decode code 248 = .ok (.aload_n 0, 1) := by decide +kernel
theorem d_L_249 : decode code 249 = .ok (.iload_n 3, 1) := by decide +kernel
theorem d_L_250 : decode code 250 = .ok (.iconst 3, 1) := by decide +kernel
theorem d_L_251 : decode code 251 = .ok (.iadd, 1) := by decide +kernel
theorem d_L_252 : decode code 252 = .ok (.iaload, 1) := by decide +kernel
theorem d_L_253 : decode code 253 = .ok (.ifCond .eq 7, 3) := by decide +kernel
theorem d_L_256 : decode code 256 = .ok (.iconst 1, 1) := by decide +kernel
theorem d_L_257 : decode code 257 = .ok (.goto 4, 3) := by decide +kernel
theorem d_L_260 : decode code 260 = .ok (.iconst 0, 1) := by decide +kernel
theorem d_L_261 : decode code 261 = .ok (.invokevirtual 28, 3) := by decide +kernel
theorem d_L_264 : decode code 264 = .ok (.aload_n 2, 1) := by decide +kernel
theorem d_L_265 : decode code 265 = .ok (.aload_n 0, 1) := by decide +kernel
theorem d_L_266 : decode code 266 = .ok (.iload_n 3, 1) := by decide +kernel
theorem d_L_267 : decode code 267 = .ok (.iconst 1, 1) := by decide +kernel
theorem d_L_268 : decode code 268 = .ok (.iadd, 1) := by decide +kernel
theorem d_L_269 : decode code 269 = .ok (.iaload, 1) := by decide +kernel
theorem d_L_270 : decode code 270 = .ok (.aload_n 0, 1) := by decide +kernel
theorem d_L_271 : decode code 271 = .ok (.iload_n 3, 1) := by decide +kernel
theorem d_L_272 : decode code 272 = .ok (.iconst 2, 1) := by decide +kernel
theorem d_L_273 : decode code 273 = .ok (.iadd, 1) := by decide +kernel
theorem d_L_274 : decode code 274 = .ok (.iaload, 1) := by decide +kernel
theorem d_L_275 : decode code 275 = .ok (.aload_n 0, 1) := by decide +kernel
theorem d_L_276 : decode code 276 = .ok (.iload_n 3, 1) := by decide +kernel
theorem d_L_277 : decode code 277 = .ok (.iconst 3, 1) := by decide +kernel
theorem d_L_278 : decode code 278 = .ok (.iadd, 1) := by decide +kernel
theorem d_L_279 : decode code 279 = .ok (.iaload, 1) := by decide +kernel
theorem d_L_280 : decode code 280 = .ok (.ifCond .eq 7, 3) := by decide +kernel
theorem d_L_283 : decode code 283 = .ok (.iconst 1, 1) := by decide +kernel
theorem d_L_284 : decode code 284 = .ok (.goto 4, 3) := by decide +kernel
theorem d_L_287 : decode code 287 = .ok (.iconst 0, 1) := by decide +kernel
theorem d_L_288 : decode code 288 = .ok (.invokevirtual 32, 3) := by decide +kernel
theorem d_L_291 : decode code 291 = .ok (.if_icmp .eq 318, 3) := by decide +kernel
theorem d_L_294 : decode code 294 = .ok (.iconst 0, 1) := by decide +kernel
theorem d_L_295 : decode code 295 = .ok (.ireturn, 1) := by decide +kernel
theorem d_L_296 : decode code 296 = .ok (.aload_n 1, 1) := by decide +kernel
theorem d_L_297 : decode code 297 = .ok (.aload_n 0, 1) := by decide +kernel
theorem d_L_298 : decode code 298 = .ok (.iload_n 3, 1) := by decide +kernel
theorem d_L_299 : decode code 299 = .ok (.iconst 1, 1) := by decide +kernel
theorem d_L_300 : decode code 300 = .ok (.iadd, 1) := by decide +kernel
theorem d_L_301 : decode code 301 = .ok (.iaload, 1) := by decide +kernel
theorem d_L_302 : decode code 302 = .ok (.aload_n 0, 1) := by decide +kernel
theorem d_L_303 : decode code 303 = .ok (.iload_n 3, 1) := by decide +kernel
theorem d_L_304 : decode code 304 = .ok (.iconst 2, 1) := by decide +kernel
theorem d_L_305 : decode code 305 = .ok (.iadd, 1) := by decide +kernel
theorem d_L_306 : decode code 306 = .ok (.iaload, 1) := by decide +kernel
theorem d_L_307 : decode code 307 = .ok (.aload_n 0, 1) := by decide +kernel
theorem d_L_308 : decode code 308 = .ok (.iload_n 3, 1) := by decide +kernel
theorem d_L_309 : decode code 309 = .ok (.iconst 3, 1) := by decide +kernel
theorem d_L_310 : decode code 310 = .ok (.iadd, 1) := by decide +kernel
theorem d_L_311 : decode code 311 = .ok (.iaload, 1) := by decide +kernel
theorem d_L_312 : decode code 312 = .ok (.aload_n 0, 1) := by decide +kernel
theorem d_L_313 : decode code 313 = .ok (.iload_n 3, 1) := by decide +kernel
theorem d_L_314 : decode code 314 = .ok (.iconst 4, 1) := by decide +kernel
theorem d_L_315 : decode code 315 = .ok (.iadd, 1) := by decide +kernel
theorem d_L_316 : decode code 316 = .ok (.iaload, 1) := by decide +kernel
theorem d_L_317 : decode code 317 = .ok (.ifCond .eq 7, 3) := by decide +kernel
theorem d_L_320 : decode code 320 = .ok (.iconst 1, 1) := by decide +kernel
theorem d_L_321 : decode code 321 = .ok (.goto 4, 3) := by decide +kernel
theorem d_L_324 : decode code 324 = .ok (.iconst 0, 1) := by decide +kernel
theorem d_L_325 : decode code 325 = .ok (.invokevirtual 33, 3) := by decide +kernel
theorem d_L_328 : decode code 328 = .ok (.aload_n 2, 1) := by decide +kernel
theorem d_L_329 : decode code 329 = .ok (.aload_n 0, 1) := by decide +kernel
theorem d_L_330 : decode code 330 = .ok (.iload_n 3, 1) := by decide +kernel
theorem d_L_331 : decode code 331 = .ok (.iconst 1, 1) := by decide +kernel
theorem d_L_332 : decode code 332 = .ok (.iadd, 1) := by decide +kernel
theorem d_L_333 : decode code 333 = .ok (.iaload, 1) := by decide +kernel
theorem d_L_334 : decode code 334 = .ok (.aload_n 0, 1) := by decide +kernel
theorem d_L_335 : decode code 335 = .ok (.iload_n 3, 1) := by decide +kernel
theorem d_L_336 : decode code 336 = .ok (.iconst 2, 1) := by decide +kernel
theorem d_L_337 : decode code 337 = .ok (.iadd, 1) := by decide +kernel
theorem d_L_338 : decode code 338 = .ok (.iaload, 1) := by decide +kernel
theorem d_L_339 : decode code 339 = .ok (.aload_n 0, 1) := by decide +kernel
theorem d_L_340 : decode code 340 = .ok (.iload_n 3, 1) := by decide +kernel
theorem d_L_341 : decode code 341 = .ok (.iconst 3, 1) := by decide +kernel
theorem d_L_342 : decode code 342 = .ok (.iadd, 1) := by decide +kernel
theorem d_L_343 : decode code 343 = .ok (.iaload, 1) := by decide +kernel
theorem d_L_344 : decode code 344 = .ok (.aload_n 0, 1) := by decide +kernel
theorem d_L_345 : decode code 345 = .ok (.iload_n 3, 1) := by decide +kernel
theorem d_L_346 : decode code 346 = .ok (.iconst 4, 1) := by decide +kernel
theorem d_L_347 : decode code 347 = .ok (.iadd, 1) := by decide +kernel
theorem d_L_348 : decode code 348 = .ok (.iaload, 1) := by decide +kernel
theorem d_L_349 : decode code 349 = .ok (.ifCond .eq 7, 3) := by decide +kernel
theorem d_L_352 : decode code 352 = .ok (.iconst 1, 1) := by decide +kernel
theorem d_L_353 : decode code 353 = .ok (.goto 4, 3) := by decide +kernel
theorem d_L_356 : decode code 356 = .ok (.iconst 0, 1) := by decide +kernel
theorem d_L_357 : decode code 357 = .ok (.invokevirtual 37, 3) := by decide +kernel
theorem d_L_360 : decode code 360 = .ok (.if_icmp .eq 249, 3) := by decide +kernel
theorem d_L_363 : decode code 363 = .ok (.iconst 0, 1) := by decide +kernel
