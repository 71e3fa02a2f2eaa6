/-! ===== the law, decoded ===== -/
theorem dLA_246 : decode code 246 = .ok (.aload_n 0, 1) := by decide +kernel
theorem dLA_247 : decode code 247 = .ok (.iload_n 3, 1) := by decide +kernel
theorem dLA_248 : decode code 248 = .ok (.iconst 1, 1) := by decide +kernel
theorem dLA_249 : decode code 249 = .ok (.iadd, 1) := by decide +kernel
theorem dLA_250 : decode code 250 = .ok (.iaload, 1) := by decide +kernel
theorem dLA_251 : decode code 251 = .ok (.aload_n 0, 1) := by decide +kernel
theorem dLA_252 : decode code 252 = .ok (.iload_n 3, 1) := by decide +kernel
theorem dLA_253 : decode code 253 = .ok (.iconst 2, 1) := by decide +kernel
theorem dLA_254 : decode code 254 = .ok (.iadd, 1) := by decide +kernel
theorem dLA_255 : decode code 255 = .ok (.iaload, 1) := by decide +kernel
theorem dLA_256 : decode code 256 = .ok (.invokevirtual 39, 3) := by decide +kernel
theorem dLA_259 : decode code 259 = .ok (.if_icmp .eq 328, 3) := by decide +kernel
theorem dLA_262 : decode code 262 = .ok (.iconst 0, 1) := by decide +kernel
theorem dLA_263 : decode code 263 = .ok (.ireturn, 1) := by decide +kernel
theorem dLA_264 : decode code 264 = .ok (.aload_n 1, 1) := by decide +kernel
theorem dLA_265 : decode code 265 = .ok (.aload_n 0, 1) := by decide +kernel
theorem dLA_266 : decode code 266 = .ok (.iload_n 3, 1) := by decide +kernel
theorem dLA_267 : decode code 267 = .ok (.iconst 1, 1) := by decide +kernel
theorem dLA_268 : decode code 268 = .ok (.iadd, 1) := by decide +kernel
theorem dLA_269 : decode code 269 = .ok (.iaload, 1) := by decide +kernel
theorem dLA_270 : decode code 270 = .ok (.aload_n 0, 1) := by decide +kernel
theorem dLA_271 : decode code 271 = .ok (.iload_n 3, 1) := by decide +kernel
theorem dLA_272 : decode code 272 = .ok (.iconst 2, 1) := by decide +kernel
theorem dLA_273 : decode code 273 = .ok (.iadd, 1) := by decide +kernel
theorem dLA_274 : decode code 274 = .ok (.iaload, 1) := by decide +kernel
theorem dLA_275 : decode code 275 = .ok (.aload_n 0, 1) := by decide +kernel
theorem dLA_276 : decode code 276 = .ok (.iload_n 3, 1) := by decide +kernel
theorem dLA_277 : decode code 277 = .ok (.iconst 3, 1) := by decide +kernel
theorem dLA_278 : decode code 278 = .ok (.iadd, 1) := by decide +kernel
theorem dLA_279 : decode code 279 = .ok (.iaload, 1) := by decide +kernel
theorem dLA_280 : decode code 280 = .ok (.invokevirtual 40, 3) := by decide +kernel
theorem dLA_283 : decode code 283 = .ok (.aload_n 2, 1) := by decide +kernel
theorem dLA_284 : decode code 284 = .ok (.aload_n 0, 1) := by decide +kernel
theorem dLA_285 : decode code 285 = .ok (.iload_n 3, 1) := by decide +kernel
theorem dLA_286 : decode code 286 = .ok (.iconst 1, 1) := by decide +kernel
theorem dLA_287 : decode code 287 = .ok (.iadd, 1) := by decide +kernel
theorem dLA_288 : decode code 288 = .ok (.iaload, 1) := by decide +kernel
theorem dLA_289 : decode code 289 = .ok (.aload_n 0, 1) := by decide +kernel
theorem dLA_290 : decode code 290 = .ok (.iload_n 3, 1) := by decide +kernel
theorem dLA_291 : decode code 291 = .ok (.iconst 2, 1) := by decide +kernel
theorem dLA_292 : decode code 292 = .ok (.iadd, 1) := by decide +kernel
theorem dLA_293 : decode code 293 = .ok (.iaload, 1) := by decide +kernel
theorem dLA_294 : decode code 294 = .ok (.aload_n 0, 1) := by decide +kernel
theorem dLA_295 : decode code 295 = .ok (.iload_n 3, 1) := by decide +kernel
theorem dLA_296 : decode code 296 = .ok (.iconst 3, 1) := by decide +kernel
theorem dLA_297 : decode code 297 = .ok (.iadd, 1) := by decide +kernel
theorem dLA_298 : decode code 298 = .ok (.iaload, 1) := by decide +kernel
theorem dLA_299 : decode code 299 = .ok (.invokevirtual 44, 3) := by decide +kernel
theorem dLA_302 : decode code 302 = .ok (.if_icmp .eq 285, 3) := by decide +kernel
theorem dLA_305 : decode code 305 = .ok (.iconst 0, 1) := by decide +kernel
theorem dLA_306 : decode code 306 = .ok (.ireturn, 1) := by decide +kernel
theorem dLA_307 : decode code 307 = .ok (.aload_n 1, 1) := by decide +kernel
theorem dLA_308 : decode code 308 = .ok (.aload_n 0, 1) := by decide +kernel
theorem dLA_309 : decode code 309 = .ok (.iload_n 3, 1) := by decide +kernel
theorem dLA_310 : decode code 310 = .ok (.iconst 1, 1) := by decide +kernel
theorem dLA_311 : decode code 311 = .ok (.iadd, 1) := by decide +kernel
theorem dLA_312 : decode code 312 = .ok (.iaload, 1) := by decide +kernel
theorem dLA_313 : decode code 313 = .ok (.aload_n 0, 1) := by decide +kernel
theorem dLA_314 : decode code 314 = .ok (.iload_n 3, 1) := by decide +kernel
theorem dLA_315 : decode code 315 = .ok (.iconst 2, 1) := by decide +kernel
