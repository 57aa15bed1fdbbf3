theorem dL_corrects_196 : decode cL_corrects 196 = .ok (.invokestatic 125, 3) := by decide +kernel
theorem dL_corrects_199 : decode cL_corrects 199 = .ok (.iadd, 1) := by decide +kernel
theorem dL_corrects_200 : decode cL_corrects 200 = .ok (.invokestatic 122, 3) := by decide +kernel
theorem dL_corrects_203 : decode cL_corrects 203 = .ok (.istore 14, 2) := by decide +kernel
theorem dL_corrects_205 : decode cL_corrects 205 = .ok (.iload 13, 2) := by decide +kernel
theorem dL_corrects_207 : decode cL_corrects 207 = .ok (.ifCond .eq 45, 3) := by decide +kernel
theorem dL_corrects_210 : decode cL_corrects 210 = .ok (.iload 10, 2) := by decide +kernel
theorem dL_corrects_212 : decode cL_corrects 212 = .ok (.ifCond .ge 11, 3) := by decide +kernel
theorem dL_corrects_215 : decode cL_corrects 215 = .ok (.iload 14, 2) := by decide +kernel
theorem dL_corrects_217 : decode cL_corrects 217 = .ok (.ifCond .ne 35, 3) := by decide +kernel
theorem dL_corrects_220 : decode cL_corrects 220 = .ok (.goto 21, 3) := by decide +kernel
theorem dL_corrects_223 : decode cL_corrects 223 = .ok (.iload 14, 2) := by decide +kernel
theorem dL_corrects_225 : decode cL_corrects 225 = .ok (.iload 10, 2) := by decide +kernel
theorem dL_corrects_227 : decode cL_corrects 227 = .ok (.if_icmp .ne 25, 3) := by decide +kernel
theorem dL_corrects_230 : decode cL_corrects 230 = .ok (.aload_n 0, 1) := by decide +kernel
theorem dL_corrects_231 : decode cL_corrects 231 = .ok (.iload_n 1, 1) := by decide +kernel
theorem dL_corrects_232 : decode cL_corrects 232 = .ok (.iload_n 2, 1) := by decide +kernel
theorem dL_corrects_233 : decode cL_corrects 233 = .ok (.iload_n 3, 1) := by decide +kernel
theorem dL_corrects_234 : decode cL_corrects 234 = .ok (.invokestatic 118, 3) := by decide +kernel
theorem dL_corrects_237 : decode cL_corrects 237 = .ok (.iconst 1, 1) := by decide +kernel
theorem dL_corrects_238 : decode cL_corrects 238 = .ok (.if_icmp .ne 14, 3) := by decide +kernel
theorem dL_corrects_241 : decode cL_corrects 241 = .ok (.aload_n 0, 1) := by decide +kernel
theorem dL_corrects_242 : decode cL_corrects 242 = .ok (.invokestatic 152, 3) := by decide +kernel
theorem dL_corrects_245 : decode cL_corrects 245 = .ok (.ifCond .lt 7, 3) := by decide +kernel
theorem dL_corrects_248 : decode cL_corrects 248 = .ok (.iconst 1, 1) := by decide +kernel
theorem dL_corrects_249 : decode cL_corrects 249 = .ok (.goto 4, 3) := by decide +kernel
theorem dL_corrects_252 : decode cL_corrects 252 = .ok (.iconst 0, 1) := by decide +kernel
theorem dL_corrects_253 : decode cL_corrects 253 = .ok (.istore 13, 2) := by decide +kernel
theorem dL_corrects_255 : decode cL_corrects 255 = .ok (.iload 13, 2) := by decide +kernel
theorem dL_corrects_257 : decode cL_corrects 257 = .ok (.ifCond .eq 58, 3) := by decide +kernel
theorem dL_corrects_260 : decode cL_corrects 260 = .ok (.aload_n 0, 1) := by decide +kernel
theorem dL_corrects_261 : decode cL_corrects 261 = .ok (.iload_n 2, 1) := by decide +kernel
theorem dL_corrects_262 : decode cL_corrects 262 = .ok (.iconst 0, 1) := by decide +kernel
theorem dL_corrects_263 : decode cL_corrects 263 = .ok (.iload 4, 2) := by decide +kernel
theorem dL_corrects_265 : decode cL_corrects 265 = .ok (.bipush 100, 2) := by decide +kernel
theorem dL_corrects_267 : decode cL_corrects 267 = .ok (.idiv, 1) := by decide +kernel
theorem dL_corrects_268 : decode cL_corrects 268 = .ok (.invokestatic 114, 3) := by decide +kernel
theorem dL_corrects_271 : decode cL_corrects 271 = .ok (.iload 7, 2) := by decide +kernel
theorem dL_corrects_273 : decode cL_corrects 273 = .ok (.if_icmp .ne 42, 3) := by decide +kernel
theorem dL_corrects_276 : decode cL_corrects 276 = .ok (.aload_n 0, 1) := by decide +kernel
theorem dL_corrects_277 : decode cL_corrects 277 = .ok (.iload_n 2, 1) := by decide +kernel
theorem dL_corrects_278 : decode cL_corrects 278 = .ok (.iconst 1, 1) := by decide +kernel
theorem dL_corrects_279 : decode cL_corrects 279 = .ok (.iload 4, 2) := by decide +kernel
theorem dL_corrects_281 : decode cL_corrects 281 = .ok (.bipush 10, 2) := by decide +kernel
theorem dL_corrects_283 : decode cL_corrects 283 = .ok (.idiv, 1) := by decide +kernel
theorem dL_corrects_284 : decode cL_corrects 284 = .ok (.bipush 10, 2) := by decide +kernel
theorem dL_corrects_286 : decode cL_corrects 286 = .ok (.irem, 1) := by decide +kernel
theorem dL_corrects_287 : decode cL_corrects 287 = .ok (.invokestatic 114, 3) := by decide +kernel
theorem dL_corrects_290 : decode cL_corrects 290 = .ok (.iload 8, 2) := by decide +kernel
theorem dL_corrects_292 : decode cL_corrects 292 = .ok (.if_icmp .ne 23, 3) := by decide +kernel
theorem dL_corrects_295 : decode cL_corrects 295 = .ok (.aload_n 0, 1) := by decide +kernel
theorem dL_corrects_296 : decode cL_corrects 296 = .ok (.iload_n 2, 1) := by decide +kernel
theorem dL_corrects_297 : decode cL_corrects 297 = .ok (.iconst 2, 1) := by decide +kernel
theorem dL_corrects_298 : decode cL_corrects 298 = .ok (.iload 4, 2) := by decide +kernel
theorem dL_corrects_300 : decode cL_corrects 300 = .ok (.bipush 10, 2) := by decide +kernel
theorem dL_corrects_302 : decode cL_corrects 302 = .ok (.irem, 1) := by decide +kernel
theorem dL_corrects_303 : decode cL_corrects 303 = .ok (.invokestatic 114, 3) := by decide +kernel
theorem dL_corrects_306 : decode cL_corrects 306 = .ok (.iload 9, 2) := by decide +kernel
theorem dL_corrects_308 : decode cL_corrects 308 = .ok (.if_icmp .ne 7, 3) := by decide +kernel
theorem dL_corrects_311 : decode cL_corrects 311 = .ok (.iconst 1, 1) := by decide +kernel
theorem dL_corrects_312 : decode cL_corrects 312 = .ok (.goto 4, 3) := by decide +kernel
theorem dL_corrects_315 : decode cL_corrects 315 = .ok (.iconst 0, 1) := by decide +kernel
theorem dL_corrects_316 : decode cL_corrects 316 = .ok (.istore 13, 2) := by decide +kernel
theorem dL_corrects_318 : decode cL_corrects 318 = .ok (.bipush 100, 2) := by decide +kernel
theorem dL_corrects_320 : decode cL_corrects 320 = .ok (.iload 7, 2) := by decide +kernel
theorem dL_corrects_322 : decode cL_corrects 322 = .ok (.imul, 1) := by decide +kernel
theorem dL_corrects_323 : decode cL_corrects 323 = .ok (.bipush 10, 2) := by decide +kernel
theorem dL_corrects_325 : decode cL_corrects 325 = .ok (.iload 8, 2) := by decide +kernel
theorem dL_corrects_327 : decode cL_corrects 327 = .ok (.imul, 1) := by decide +kernel
theorem dL_corrects_328 : decode cL_corrects 328 = .ok (.iadd, 1) := by decide +kernel
theorem dL_corrects_329 : decode cL_corrects 329 = .ok (.iload 9, 2) := by decide +kernel
theorem dL_corrects_331 : decode cL_corrects 331 = .ok (.iadd, 1) := by decide +kernel
theorem dL_corrects_332 : decode cL_corrects 332 = .ok (.iload 4, 2) := by decide +kernel
theorem dL_corrects_334 : decode cL_corrects 334 = .ok (.invokestatic 122, 3) := by decide +kernel
theorem dL_corrects_337 : decode cL_corrects 337 = .ok (.istore 15, 2) := by decide +kernel
theorem dL_corrects_339 : decode cL_corrects 339 = .ok (.iload 13, 2) := by decide +kernel
theorem dL_corrects_341 : decode cL_corrects 341 = .ok (.ifCond .eq 29, 3) := by decide +kernel
theorem dL_corrects_344 : decode cL_corrects 344 = .ok (.aload_n 0, 1) := by decide +kernel
theorem dL_corrects_345 : decode cL_corrects 345 = .ok (.iload_n 1, 1) := by decide +kernel
theorem dL_corrects_346 : decode cL_corrects 346 = .ok (.iload_n 2, 1) := by decide +kernel
