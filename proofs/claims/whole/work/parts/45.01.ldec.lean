/-! the law's instructions -/
theorem dl_210 : decode code 210 = .ok (.if_icmp .eq 700, 3) := by decide +kernel
theorem dl_213 : decode code 213 = .ok (.iconst 0, 1) := by decide +kernel
theorem dl_214 : decode code 214 = .ok (.ireturn, 1) := by decide +kernel
theorem dl_215 : decode code 215 = .ok (.aload_n 1, 1) := by decide +kernel
theorem dl_216 : decode code 216 = .ok (.invokevirtual 20, 3) := by decide +kernel
theorem dl_219 : decode code 219 = .ok (.aload_n 2, 1) := by decide +kernel
theorem dl_220 : decode code 220 = .ok (.invokevirtual 24, 3) := by decide +kernel
theorem dl_223 : decode code 223 = .ok (.if_icmp .eq 687, 3) := by decide +kernel
theorem dl_226 : decode code 226 = .ok (.iconst 0, 1) := by decide +kernel
theorem dl_227 : decode code 227 = .ok (.ireturn, 1) := by decide +kernel
theorem dl_228 : decode code 228 = .ok (.aload_n 1, 1) := by decide +kernel
theorem dl_229 : decode code 229 = .ok (.invokevirtual 25, 3) := by decide +kernel
theorem dl_232 : decode code 232 = .ok (.aload_n 2, 1) := by decide +kernel
theorem dl_233 : decode code 233 = .ok (.invokevirtual 28, 3) := by decide +kernel
theorem dl_236 : decode code 236 = .ok (.if_icmp .eq 674, 3) := by decide +kernel
theorem dl_239 : decode code 239 = .ok (.iconst 0, 1) := by decide +kernel
theorem dl_240 : decode code 240 = .ok (.ireturn, 1) := by decide +kernel
theorem dl_241 : decode code 241 = .ok (.aload_n 1, 1) := by decide +kernel
theorem dl_242 : decode code 242 = .ok (.aload_n 0, 1) := by decide +kernel
theorem dl_243 : decode code 243 = .ok (.iload_n 3, 1) := by decide +kernel
theorem dl_244 : decode code 244 = .ok (.iconst 1, 1) := by decide +kernel
theorem dl_245 : decode code 245 = .ok (.iadd, 1) := by decide +kernel
theorem dl_246 : decode code 246 = .ok (.iaload, 1) := by decide +kernel
theorem dl_247 : decode code 247 = .ok (.invokevirtual 29, 3) := by decide +kernel
theorem dl_250 : decode code 250 = .ok (.aload_n 2, 1) := by decide +kernel
theorem dl_251 : decode code 251 = .ok (.aload_n 0, 1) := by decide +kernel
theorem dl_252 : decode code 252 = .ok (.iload_n 3, 1) := by decide +kernel
theorem dl_253 : decode code 253 = .ok (.iconst 1, 1) := by decide +kernel
theorem dl_254 : decode code 254 = .ok (.iadd, 1) := by decide +kernel
theorem dl_255 : decode code 255 = .ok (.iaload, 1) := by decide +kernel
theorem dl_256 : decode code 256 = .ok (.invokevirtual 33, 3) := by decide +kernel
theorem dl_259 : decode code 259 = .ok (.if_icmp .eq 651, 3) := by decide +kernel
theorem dl_262 : decode code 262 = .ok (.iconst 0, 1) := by decide +kernel
theorem dl_263 : decode code 263 = .ok (.ireturn, 1) := by decide +kernel
theorem dl_264 : decode code 264 = .ok (.aload_n 1, 1) := by decide +kernel
theorem dl_265 : decode code 265 = .ok (.aload_n 0, 1) := by decide +kernel
theorem dl_266 : decode code 266 = .ok (.iload_n 3, 1) := by decide +kernel
theorem dl_267 : decode code 267 = .ok (.iconst 1, 1) := by decide +kernel
theorem dl_268 : decode code 268 = .ok (.iadd, 1) := by decide +kernel
theorem dl_269 : decode code 269 = .ok (.iaload, 1) := by decide +kernel
theorem dl_270 : decode code 270 = .ok (.aload_n 0, 1) := by decide +kernel
theorem dl_271 : decode code 271 = .ok (.iload_n 3, 1) := by decide +kernel
theorem dl_272 : decode code 272 = .ok (.iconst 2, 1) := by decide +kernel
theorem dl_273 : decode code 273 = .ok (.iadd, 1) := by decide +kernel
theorem dl_274 : decode code 274 = .ok (.iaload, 1) := by decide +kernel
theorem dl_275 : decode code 275 = .ok (.invokevirtual 34, 3) := by decide +kernel
theorem dl_278 : decode code 278 = .ok (.aload_n 2, 1) := by decide +kernel
theorem dl_279 : decode code 279 = .ok (.aload_n 0, 1) := by decide +kernel
theorem dl_280 : decode code 280 = .ok (.iload_n 3, 1) := by decide +kernel
theorem dl_281 : decode code 281 = .ok (.iconst 1, 1) := by decide +kernel
theorem dl_282 : decode code 282 = .ok (.iadd, 1) := by decide +kernel
theorem dl_283 : decode code 283 = .ok (.iaload, 1) := by decide +kernel
theorem dl_284 : decode code 284 = .ok (.aload_n 0, 1) := by decide +kernel
theorem dl_285 : decode code 285 = .ok (.iload_n 3, 1) := by decide +kernel
theorem dl_286 : decode code 286 = .ok (.iconst 2, 1) := by decide +kernel
theorem dl_287 : decode code 287 = .ok (.iadd, 1) := by decide +kernel
theorem dl_288 : decode code 288 = .ok (.iaload, 1) := by decide +kernel
theorem dl_289 : decode code 289 = .ok (.invokevirtual 38, 3) := by decide +kernel
theorem dl_292 : decode code 292 = .ok (.if_icmp .eq 618, 3) := by decide +kernel
theorem dl_295 : decode code 295 = .ok (.iconst 0, 1) := by decide +kernel
theorem dl_296 : decode code 296 = .ok (.ireturn, 1) := by decide +kernel
theorem dl_297 : decode code 297 = .ok (.aload_n 1, 1) := by decide +kernel
theorem dl_298 : decode code 298 = .ok (.aload_n 0, 1) := by decide +kernel
theorem dl_299 : decode code 299 = .ok (.iload_n 3, 1) := by decide +kernel
theorem dl_300 : decode code 300 = .ok (.iconst 1, 1) := by decide +kernel
theorem dl_301 : decode code 301 = .ok (.iadd, 1) := by decide +kernel
theorem dl_302 : decode code 302 = .ok (.iaload, 1) := by decide +kernel
theorem dl_303 : decode code 303 = .ok (.aload_n 0, 1) := by decide +kernel
theorem dl_304 : decode code 304 = .ok (.iload_n 3, 1) := by decide +kernel
theorem dl_305 : decode code 305 = .ok (.iconst 2, 1) := by decide +kernel
