theorem d_law_law_229 : decode code 229 = .ok (.iconst 1, 1) := by decide +kernel
theorem d_law_law_230 : decode code 230 = .ok (.iadd, 1) := by decide +kernel
theorem d_law_law_231 : decode code 231 = .ok (.iaload, 1) := by decide +kernel
theorem d_law_law_232 : decode code 232 = .ok (.invokevirtual 39, 3) := by decide +kernel
theorem d_law_law_235 : decode code 235 = .ok (.if_icmp .eq 352, 3) := by decide +kernel
theorem d_law_law_238 : decode code 238 = .ok (.iconst 0, 1) := by decide +kernel
theorem d_law_law_239 : decode code 239 = .ok (.ireturn, 1) := by decide +kernel
theorem d_law_law_240 : decode code 240 = .ok (.aload_n 1, 1) := by decide +kernel
theorem d_law_law_241 : decode code 241 = .ok (.aload_n 0, 1) := by decide +kernel
theorem d_law_law_242 : decode code 242 = .ok (.iload_n 3, 1) := by decide +kernel
theorem d_law_law_243 : decode code 243 = .ok (.iconst 1, 1) := by decide +kernel
theorem d_law_law_244 : decode code 244 = .ok (.iadd, 1) := by decide +kernel
theorem d_law_law_245 : decode code 245 = .ok (.iaload, 1) := by decide +kernel
theorem d_law_law_246 : decode code 246 = .ok (.aload_n 0, 1) := by decide +kernel
theorem d_law_law_247 : decode code 247 = .ok (.iload_n 3, 1) := by decide +kernel
theorem d_law_law_248 : decode code 248 = .ok (.iconst 2, 1) := by decide +kernel
theorem d_law_law_249 : decode code 249 = .ok (.iadd, 1) := by decide +kernel
theorem d_law_law_250 : decode code 250 = .ok (.iaload, 1) := by decide +kernel
theorem d_law_law_251 : decode code 251 = .ok (.invokevirtual 40, 3) := by decide +kernel
theorem d_law_law_254 : decode code 254 = .ok (.aload_n 2, 1) := by decide +kernel
theorem d_law_law_255 : decode code 255 = .ok (.aload_n 0, 1) := by decide +kernel
theorem d_law_law_256 : decode code 256 = .ok (.iload_n 3, 1) := by decide +kernel
theorem d_law_law_257 : decode code 257 = .ok (.iconst 1, 1) := by decide +kernel
theorem d_law_law_258 : decode code 258 = .ok (.iadd, 1) := by decide +kernel
theorem d_law_law_259 : decode code 259 = .ok (.iaload, 1) := by decide +kernel
theorem d_law_law_260 : decode code 260 = .ok (.aload_n 0, 1) := by decide +kernel
theorem d_law_law_261 : decode code 261 = .ok (.iload_n 3, 1) := by decide +kernel
theorem d_law_law_262 : decode code 262 = .ok (.iconst 2, 1) := by decide +kernel
theorem d_law_law_263 : decode code 263 = .ok (.iadd, 1) := by decide +kernel
theorem d_law_law_264 : decode code 264 = .ok (.iaload, 1) := by decide +kernel
theorem d_law_law_265 : decode code 265 = .ok (.invokevirtual 44, 3) := by decide +kernel
theorem d_law_law_268 : decode code 268 = .ok (.if_icmp .eq 319, 3) := by decide +kernel
theorem d_law_law_271 : decode code 271 = .ok (.iconst 0, 1) := by decide +kernel
theorem d_law_law_272 : decode code 272 = .ok (.ireturn, 1) := by decide +kernel
theorem d_law_law_273 : decode code 273 = .ok (.aload_n 1, 1) := by decide +kernel
theorem d_law_law_274 : decode code 274 = .ok (.aload_n 0, 1) := by decide +kernel
theorem d_law_law_275 : decode code 275 = .ok (.iload_n 3, 1) := by decide +kernel
theorem d_law_law_276 : decode code 276 = .ok (.iconst 1, 1) := by decide +kernel
theorem d_law_law_277 : decode code 277 = .ok (.iadd, 1) := by decide +kernel
theorem d_law_law_278 : decode code 278 = .ok (.iaload, 1) := by decide +kernel
theorem d_law_law_279 : decode code 279 = .ok (.aload_n 0, 1) := by decide +kernel
theorem d_law_law_280 : decode code 280 = .ok (.iload_n 3, 1) := by decide +kernel
theorem d_law_law_281 : decode code 281 = .ok (.iconst 2, 1) := by decide +kernel
theorem d_law_law_282 : decode code 282 = .ok (.iadd, 1) := by decide +kernel
theorem d_law_law_283 : decode code 283 = .ok (.iaload, 1) := by decide +kernel
theorem d_law_law_284 : decode code 284 = .ok (.aload_n 0, 1) := by decide +kernel
theorem d_law_law_285 : decode code 285 = .ok (.iload_n 3, 1) := by decide +kernel
theorem d_law_law_286 : decode code 286 = .ok (.iconst 3, 1) := by decide +kernel
theorem d_law_law_287 : decode code 287 = .ok (.iadd, 1) := by decide +kernel
theorem d_law_law_288 : decode code 288 = .ok (.iaload, 1) := by decide +kernel
theorem d_law_law_289 : decode code 289 = .ok (.aload_n 0, 1) := by decide +kernel
theorem d_law_law_290 : decode code 290 = .ok (.iload_n 3, 1) := by decide +kernel
theorem d_law_law_291 : decode code 291 = .ok (.iconst 4, 1) := by decide +kernel
theorem d_law_law_292 : decode code 292 = .ok (.iadd, 1) := by decide +kernel
theorem d_law_law_293 : decode code 293 = .ok (.iaload, 1) := by decide +kernel
theorem d_law_law_294 : decode code 294 = .ok (.invokevirtual 45, 3) := by decide +kernel
theorem d_law_law_297 : decode code 297 = .ok (.aload_n 2, 1) := by decide +kernel
theorem d_law_law_298 : decode code 298 = .ok (.aload_n 0, 1) := by decide +kernel
theorem d_law_law_299 : decode code 299 = .ok (.iload_n 3, 1) := by decide +kernel
theorem d_law_law_300 : decode code 300 = .ok (.iconst 1, 1) := by decide +kernel
theorem d_law_law_301 : decode code 301 = .ok (.iadd, 1) := by decide +kernel
theorem d_law_law_302 : decode code 302 = .ok (.iaload, 1) := by decide +kernel
theorem d_law_law_303 : decode code 303 = .ok (.aload_n 0, 1) := by decide +kernel
theorem d_law_law_304 : decode code 304 = .ok (.iload_n 3, 1) := by decide +kernel
theorem d_law_law_305 : decode code 305 = .ok (.iconst 2, 1) := by decide +kernel
theorem d_law_law_306 : decode code 306 = .ok (.iadd, 1) := by decide +kernel
theorem d_law_law_307 : decode code 307 = .ok (.iaload, 1) := by decide +kernel
theorem d_law_law_308 : decode code 308 = .ok (.aload_n 0, 1) := by decide +kernel
theorem d_law_law_309 : decode code 309 = .ok (.iload_n 3, 1) := by decide +kernel
theorem d_law_law_310 : decode code 310 = .ok (.iconst 3, 1) := by decide +kernel
theorem d_law_law_311 : decode code 311 = .ok (.iadd, 1) := by decide +kernel
theorem d_law_law_312 : decode code 312 = .ok (.iaload, 1) := by decide +kernel
theorem d_law_law_313 : decode code 313 = .ok (.aload_n 0, 1) := by decide +kernel
theorem d_law_law_314 : decode code 314 = .ok (.iload_n 3, 1) := by decide +kernel
theorem d_law_law_315 : decode code 315 = .ok (.iconst 4, 1) := by decide +kernel
theorem d_law_law_316 : decode code 316 = .ok (.iadd, 1) := by decide +kernel
theorem d_law_law_317 : decode code 317 = .ok (.iaload, 1) := by decide +kernel
theorem d_law_law_318 : decode code 318 = .ok (.invokevirtual 49, 3) := by decide +kernel
theorem d_law_law_321 : decode code 321 = .ok (.if_icmp .eq 266, 3) := by decide +kernel
theorem d_law_law_324 : decode code 324 = .ok (.iconst 0, 1) := by decide +kernel
theorem d_law_law_325 : decode code 325 = .ok (.ireturn, 1) := by decide +kernel
theorem d_law_law_326 : decode code 326 = .ok (.aload_n 1, 1) := by decide +kernel
theorem d_law_law_327 : decode code 327 = .ok (.aload_n 0, 1) := by decide +kernel
theorem d_law_law_328 : decode code 328 = .ok (.iload_n 3, 1) := by decide +kernel
theorem d_law_law_329 : decode code 329 = .ok (.iconst 1, 1) := by decide +kernel
theorem d_law_law_330 : decode code 330 = .ok (.iadd, 1) := by decide +kernel
theorem d_law_law_331 : decode code 331 = .ok (.iaload, 1) := by decide +kernel
theorem d_law_law_332 : decode code 332 = .ok (.aload_n 0, 1) := by decide +kernel
theorem d_law_law_333 : decode code 333 = .ok (.iload_n 3, 1) := by decide +kernel
theorem d_law_law_334 : decode code 334 = .ok (.iconst 2, 1) := by decide +kernel
theorem d_law_law_335 : decode code 335 = .ok (.iadd, 1) := by decide +kernel
theorem d_law_law_336 : decode code 336 = .ok (.iaload, 1) := by decide +kernel
theorem d_law_law_337 : decode code 337 = .ok (.invokevirtual 50, 3) := by decide +kernel
theorem d_law_law_340 : decode code 340 = .ok (.aload_n 2, 1) := by decide +kernel
theorem d_law_law_341 : decode code 341 = .ok (.aload_n 0, 1) := by decide +kernel
