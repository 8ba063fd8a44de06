theorem d_L_law_197 : decode mb_L_law 197 = .ok (.iconst 3, 1) := by decide +kernel
theorem d_L_law_198 : decode mb_L_law 198 = .ok (.iadd, 1) := by decide +kernel
theorem d_L_law_199 : decode mb_L_law 199 = .ok (.iaload, 1) := by decide +kernel
theorem d_L_law_200 : decode mb_L_law 200 = .ok (.i2l, 1) := by decide +kernel
theorem d_L_law_201 : decode mb_L_law 201 = .ok (.bipush 32, 2) := by decide +kernel
theorem d_L_law_203 : decode mb_L_law 203 = .ok (.lshl, 1) := by decide +kernel
theorem d_L_law_204 : decode mb_L_law 204 = .ok (.aload_n 0, 1) := by decide +kernel
theorem d_L_law_205 : decode mb_L_law 205 = .ok (.iload 4, 2) := by decide +kernel
theorem d_L_law_207 : decode mb_L_law 207 = .ok (.iconst 4, 1) := by decide +kernel
theorem d_L_law_208 : decode mb_L_law 208 = .ok (.iadd, 1) := by decide +kernel
theorem d_L_law_209 : decode mb_L_law 209 = .ok (.iaload, 1) := by decide +kernel
theorem d_L_law_210 : decode mb_L_law 210 = .ok (.i2l, 1) := by decide +kernel
theorem d_L_law_211 : decode mb_L_law 211 = .ok (.ldc2_w 52, 3) := by decide +kernel
theorem d_L_law_214 : decode mb_L_law 214 = .ok (.land, 1) := by decide +kernel
theorem d_L_law_215 : decode mb_L_law 215 = .ok (.lor, 1) := by decide +kernel
theorem d_L_law_216 : decode mb_L_law 216 = .ok (.aload_n 0, 1) := by decide +kernel
theorem d_L_law_217 : decode mb_L_law 217 = .ok (.iload 4, 2) := by decide +kernel
theorem d_L_law_219 : decode mb_L_law 219 = .ok (.iconst 5, 1) := by decide +kernel
theorem d_L_law_220 : decode mb_L_law 220 = .ok (.iadd, 1) := by decide +kernel
theorem d_L_law_221 : decode mb_L_law 221 = .ok (.iaload, 1) := by decide +kernel
theorem d_L_law_222 : decode mb_L_law 222 = .ok (.i2l, 1) := by decide +kernel
theorem d_L_law_223 : decode mb_L_law 223 = .ok (.bipush 32, 2) := by decide +kernel
theorem d_L_law_225 : decode mb_L_law 225 = .ok (.lshl, 1) := by decide +kernel
theorem d_L_law_226 : decode mb_L_law 226 = .ok (.aload_n 0, 1) := by decide +kernel
theorem d_L_law_227 : decode mb_L_law 227 = .ok (.iload 4, 2) := by decide +kernel
theorem d_L_law_229 : decode mb_L_law 229 = .ok (.bipush 6, 2) := by decide +kernel
theorem d_L_law_231 : decode mb_L_law 231 = .ok (.iadd, 1) := by decide +kernel
theorem d_L_law_232 : decode mb_L_law 232 = .ok (.iaload, 1) := by decide +kernel
theorem d_L_law_233 : decode mb_L_law 233 = .ok (.i2l, 1) := by decide +kernel
theorem d_L_law_234 : decode mb_L_law 234 = .ok (.ldc2_w 52, 3) := by decide +kernel
theorem d_L_law_237 : decode mb_L_law 237 = .ok (.land, 1) := by decide +kernel
theorem d_L_law_238 : decode mb_L_law 238 = .ok (.lor, 1) := by decide +kernel
theorem d_L_law_239 : decode mb_L_law 239 = .ok (.invokevirtual 58, 3) := by decide +kernel
theorem d_L_law_242 : decode mb_L_law 242 = .ok (.if_icmp .eq 763, 3) := by decide +kernel
theorem d_L_law_245 : decode mb_L_law 245 = .ok (.iconst 0, 1) := by decide +kernel
theorem d_L_law_246 : decode mb_L_law 246 = .ok (.ireturn, 1) := by decide +kernel
theorem d_L_law_247 : decode mb_L_law 247 = .ok (.aload_n 1, 1) := by decide +kernel
theorem d_L_law_248 : decode mb_L_law 248 = .ok (.aload_n 0, 1) := by decide +kernel
theorem d_L_law_249 : decode mb_L_law 249 = .ok (.iload 4, 2) := by decide +kernel
theorem d_L_law_251 : decode mb_L_law 251 = .ok (.iconst 1, 1) := by decide +kernel
theorem d_L_law_252 : decode mb_L_law 252 = .ok (.iadd, 1) := by decide +kernel
theorem d_L_law_253 : decode mb_L_law 253 = .ok (.iaload, 1) := by decide +kernel
theorem d_L_law_254 : decode mb_L_law 254 = .ok (.invokevirtual 59, 3) := by decide +kernel
theorem d_L_law_257 : decode mb_L_law 257 = .ok (.aload_n 2, 1) := by decide +kernel
theorem d_L_law_258 : decode mb_L_law 258 = .ok (.aload_n 0, 1) := by decide +kernel
theorem d_L_law_259 : decode mb_L_law 259 = .ok (.iload 4, 2) := by decide +kernel
theorem d_L_law_261 : decode mb_L_law 261 = .ok (.iconst 1, 1) := by decide +kernel
theorem d_L_law_262 : decode mb_L_law 262 = .ok (.iadd, 1) := by decide +kernel
theorem d_L_law_263 : decode mb_L_law 263 = .ok (.iaload, 1) := by decide +kernel
theorem d_L_law_264 : decode mb_L_law 264 = .ok (.invokevirtual 63, 3) := by decide +kernel
theorem d_L_law_267 : decode mb_L_law 267 = .ok (.if_icmp .eq 738, 3) := by decide +kernel
theorem d_L_law_270 : decode mb_L_law 270 = .ok (.iconst 0, 1) := by decide +kernel
theorem d_L_law_271 : decode mb_L_law 271 = .ok (.ireturn, 1) := by decide +kernel
theorem d_L_law_272 : decode mb_L_law 272 = .ok (.aload_n 1, 1) := by decide +kernel
theorem d_L_law_273 : decode mb_L_law 273 = .ok (.aload_n 0, 1) := by decide +kernel
theorem d_L_law_274 : decode mb_L_law 274 = .ok (.iload 4, 2) := by decide +kernel
theorem d_L_law_276 : decode mb_L_law 276 = .ok (.iconst 1, 1) := by decide +kernel
theorem d_L_law_277 : decode mb_L_law 277 = .ok (.iadd, 1) := by decide +kernel
theorem d_L_law_278 : decode mb_L_law 278 = .ok (.iaload, 1) := by decide +kernel
theorem d_L_law_279 : decode mb_L_law 279 = .ok (.invokevirtual 64, 3) := by decide +kernel
theorem d_L_law_282 : decode mb_L_law 282 = .ok (.aload_n 2, 1) := by decide +kernel
theorem d_L_law_283 : decode mb_L_law 283 = .ok (.aload_n 0, 1) := by decide +kernel
theorem d_L_law_284 : decode mb_L_law 284 = .ok (.iload 4, 2) := by decide +kernel
theorem d_L_law_286 : decode mb_L_law 286 = .ok (.iconst 1, 1) := by decide +kernel
theorem d_L_law_287 : decode mb_L_law 287 = .ok (.iadd, 1) := by decide +kernel
theorem d_L_law_288 : decode mb_L_law 288 = .ok (.iaload, 1) := by decide +kernel
theorem d_L_law_289 : decode mb_L_law 289 = .ok (.invokevirtual 67, 3) := by decide +kernel
theorem d_L_law_292 : decode mb_L_law 292 = .ok (.if_icmp .eq 713, 3) := by decide +kernel
theorem d_L_law_295 : decode mb_L_law 295 = .ok (.iconst 0, 1) := by decide +kernel
theorem d_L_law_296 : decode mb_L_law 296 = .ok (.ireturn, 1) := by decide +kernel
theorem d_L_law_297 : decode mb_L_law 297 = .ok (.aload_n 1, 1) := by decide +kernel
theorem d_L_law_298 : decode mb_L_law 298 = .ok (.aload_n 0, 1) := by decide +kernel
theorem d_L_law_299 : decode mb_L_law 299 = .ok (.iload 4, 2) := by decide +kernel
theorem d_L_law_301 : decode mb_L_law 301 = .ok (.iconst 1, 1) := by decide +kernel
theorem d_L_law_302 : decode mb_L_law 302 = .ok (.iadd, 1) := by decide +kernel
theorem d_L_law_303 : decode mb_L_law 303 = .ok (.iaload, 1) := by decide +kernel
theorem d_L_law_304 : decode mb_L_law 304 = .ok (.invokevirtual 68, 3) := by decide +kernel
theorem d_L_law_307 : decode mb_L_law 307 = .ok (.aload_n 2, 1) := by decide +kernel
theorem d_L_law_308 : decode mb_L_law 308 = .ok (.aload_n 0, 1) := by decide +kernel
theorem d_L_law_309 : decode mb_L_law 309 = .ok (.iload 4, 2) := by decide +kernel
theorem d_L_law_311 : decode mb_L_law 311 = .ok (.iconst 1, 1) := by decide +kernel
theorem d_L_law_312 : decode mb_L_law 312 = .ok (.iadd, 1) := by decide +kernel
theorem d_L_law_313 : decode mb_L_law 313 = .ok (.iaload, 1) := by decide +kernel
theorem d_L_law_314 : decode mb_L_law 314 = .ok (.invokevirtual 71, 3) := by decide +kernel
theorem d_L_law_317 : decode mb_L_law 317 = .ok (.lcmp, 1) := by decide +kernel
theorem d_L_law_318 : decode mb_L_law 318 = .ok (.ifCond .eq 687, 3) := by decide +kernel
theorem d_L_law_321 : decode mb_L_law 321 = .ok (.iconst 0, 1) := by decide +kernel
theorem d_L_law_322 : decode mb_L_law 322 = .ok (.ireturn, 1) := by decide +kernel
theorem d_L_law_323 : decode mb_L_law 323 = .ok (.aload_n 1, 1) := by decide +kernel
theorem d_L_law_324 : decode mb_L_law 324 = .ok (.aload_n 0, 1) := by decide +kernel
