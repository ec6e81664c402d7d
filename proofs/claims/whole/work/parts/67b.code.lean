/-! ===== the law's instructions, 75 to 149 ===== -/
theorem dL_227 : decode code 227 = .ok (.iconst 1, 1) := by decide +kernel
theorem dL_228 : decode code 228 = .ok (.iadd, 1) := by decide +kernel
theorem dL_229 : decode code 229 = .ok (.iaload, 1) := by decide +kernel
theorem dL_230 : decode code 230 = .ok (.aload_n 0, 1) := by decide +kernel
theorem dL_231 : decode code 231 = .ok (.iload_n 3, 1) := by decide +kernel
theorem dL_232 : decode code 232 = .ok (.iconst 2, 1) := by decide +kernel
theorem dL_233 : decode code 233 = .ok (.iadd, 1) := by decide +kernel
theorem dL_234 : decode code 234 = .ok (.iaload, 1) := by decide +kernel
theorem dL_235 : decode code 235 = .ok (.invokevirtual 35, 3) := by decide +kernel
theorem dL_238 : decode code 238 = .ok (.if_icmp .eq 436, 3) := by decide +kernel
theorem dL_241 : decode code 241 = .ok (.iconst 0, 1) := by decide +kernel
theorem dL_242 : decode code 242 = .ok (.ireturn, 1) := by decide +kernel
theorem dL_243 : decode code 243 = .ok (.aload_n 1, 1) := by decide +kernel
theorem dL_244 : decode code 244 = .ok (.aload_n 0, 1) := by decide +kernel
theorem dL_245 : decode code 245 = .ok (.iload_n 3, 1) := by decide +kernel
theorem dL_246 : decode code 246 = .ok (.iconst 1, 1) := by decide +kernel
theorem dL_247 : decode code 247 = .ok (.iadd, 1) := by decide +kernel
theorem dL_248 : decode code 248 = .ok (.iaload, 1) := by decide +kernel
theorem dL_249 : decode code 249 = .ok (.aload_n 0, 1) := by decide +kernel
theorem dL_250 : decode code 250 = .ok (.iload_n 3, 1) := by decide +kernel
theorem dL_251 : decode code 251 = .ok (.iconst 2, 1) := by decide +kernel
theorem dL_252 : decode code 252 = .ok (.iadd, 1) := by decide +kernel
theorem dL_253 : decode code 253 = .ok (.iaload, 1) := by decide +kernel
theorem dL_254 : decode code 254 = .ok (.invokevirtual 36, 3) := by decide +kernel
theorem dL_257 : decode code 257 = .ok (.aload_n 2, 1) := by decide +kernel
theorem dL_258 : decode code 258 = .ok (.aload_n 0, 1) := by decide +kernel
theorem dL_259 : decode code 259 = .ok (.iload_n 3, 1) := by decide +kernel
theorem dL_260 : decode code 260 = .ok (.iconst 1, 1) := by decide +kernel
theorem dL_261 : decode code 261 = .ok (.iadd, 1) := by decide +kernel
theorem dL_262 : decode code 262 = .ok (.iaload, 1) := by decide +kernel
theorem dL_263 : decode code 263 = .ok (.aload_n 0, 1) := by decide +kernel
theorem dL_264 : decode code 264 = .ok (.iload_n 3, 1) := by decide +kernel
theorem dL_265 : decode code 265 = .ok (.iconst 2, 1) := by decide +kernel
theorem dL_266 : decode code 266 = .ok (.iadd, 1) := by decide +kernel
theorem dL_267 : decode code 267 = .ok (.iaload, 1) := by decide +kernel
theorem dL_268 : decode code 268 = .ok (.invokevirtual 39, 3) := by decide +kernel
theorem dL_271 : decode code 271 = .ok (.if_icmp .eq 403, 3) := by decide +kernel
theorem dL_274 : decode code 274 = .ok (.iconst 0, 1) := by decide +kernel
theorem dL_275 : decode code 275 = .ok (.ireturn, 1) := by decide +kernel
theorem dL_276 : decode code 276 = .ok (.aload_n 1, 1) := by decide +kernel
theorem dL_277 : decode code 277 = .ok (.aload_n 0, 1) := by decide +kernel
theorem dL_278 : decode code 278 = .ok (.iload_n 3, 1) := by decide +kernel
theorem dL_279 : decode code 279 = .ok (.iconst 1, 1) := by decide +kernel
theorem dL_280 : decode code 280 = .ok (.iadd, 1) := by decide +kernel
theorem dL_281 : decode code 281 = .ok (.iaload, 1) := by decide +kernel
theorem dL_282 : decode code 282 = .ok (.invokevirtual 40, 3) := by decide +kernel
theorem dL_285 : decode code 285 = .ok (.aload_n 2, 1) := by decide +kernel
theorem dL_286 : decode code 286 = .ok (.aload_n 0, 1) := by decide +kernel
theorem dL_287 : decode code 287 = .ok (.iload_n 3, 1) := by decide +kernel
theorem dL_288 : decode code 288 = .ok (.iconst 1, 1) := by decide +kernel
theorem dL_289 : decode code 289 = .ok (.iadd, 1) := by decide +kernel
theorem dL_290 : decode code 290 = .ok (.iaload, 1) := by decide +kernel
theorem dL_291 : decode code 291 = .ok (.invokevirtual 43, 3) := by decide +kernel
theorem dL_294 : decode code 294 = .ok (.if_icmp .eq 380, 3) := by decide +kernel
theorem dL_297 : decode code 297 = .ok (.iconst 0, 1) := by decide +kernel
theorem dL_298 : decode code 298 = .ok (.ireturn, 1) := by decide +kernel
theorem dL_299 : decode code 299 = .ok (.aload_n 1, 1) := by decide +kernel
theorem dL_300 : decode code 300 = .ok (.aload_n 0, 1) := by decide +kernel
theorem dL_301 : decode code 301 = .ok (.iload_n 3, 1) := by decide +kernel
theorem dL_302 : decode code 302 = .ok (.iconst 1, 1) := by decide +kernel
theorem dL_303 : decode code 303 = .ok (.iadd, 1) := by decide +kernel
theorem dL_304 : decode code 304 = .ok (.iaload, 1) := by decide +kernel
theorem dL_305 : decode code 305 = .ok (.aload_n 0, 1) := by decide +kernel
theorem dL_306 : decode code 306 = .ok (.iload_n 3, 1) := by decide +kernel
theorem dL_307 : decode code 307 = .ok (.iconst 2, 1) := by decide +kernel
theorem dL_308 : decode code 308 = .ok (.iadd, 1) := by decide +kernel
theorem dL_309 : decode code 309 = .ok (.iaload, 1) := by decide +kernel
theorem dL_310 : decode code 310 = .ok (.invokevirtual 44, 3) := by decide +kernel
theorem dL_313 : decode code 313 = .ok (.aload_n 2, 1) := by decide +kernel
theorem dL_314 : decode code 314 = .ok (.aload_n 0, 1) := by decide +kernel
theorem dL_315 : decode code 315 = .ok (.iload_n 3, 1) := by decide +kernel
theorem dL_316 : decode code 316 = .ok (.iconst 1, 1) := by decide +kernel
theorem dL_317 : decode code 317 = .ok (.iadd, 1) := by decide +kernel
theorem dL_318 : decode code 318 = .ok (.iaload, 1) := by decide +kernel
theorem dL_319 : decode code 319 = .ok (.aload_n 0, 1) := by decide +kernel
