theorem d_W_law_0 : decode code 0 = .ok (.new 7, 3) := by decide +kernel
theorem d_W_law_3 : decode code 3 = .ok (.dup, 1) := by decide +kernel
theorem d_W_law_4 : decode code 4 = .ok (.invokespecial 9, 3) := by decide +kernel
theorem d_W_law_7 : decode code 7 = .ok (.astore_n 1, 1) := by decide +kernel
theorem d_W_law_8 : decode code 8 = .ok (.new 10, 3) := by decide +kernel
theorem d_W_law_11 : decode code 11 = .ok (.dup, 1) := by decide +kernel
theorem d_W_law_12 : decode code 12 = .ok (.invokespecial 12, 3) := by decide +kernel
theorem d_W_law_15 : decode code 15 = .ok (.astore_n 2, 1) := by decide +kernel
theorem d_W_law_16 : decode code 16 = .ok (.iconst 0, 1) := by decide +kernel
theorem d_W_law_17 : decode code 17 = .ok (.istore_n 3, 1) := by decide +kernel
theorem d_W_law_18 : decode code 18 = .ok (.iload_n 3, 1) := by decide +kernel
theorem d_W_law_19 : decode code 19 = .ok (.aload_n 0, 1) := by decide +kernel
theorem d_W_law_20 : decode code 20 = .ok (.arraylength, 1) := by decide +kernel
theorem d_W_law_21 : decode code 21 = .ok (.iconst 5, 1) := by decide +kernel
theorem d_W_law_22 : decode code 22 = .ok (.isub, 1) := by decide +kernel
theorem d_W_law_23 : decode code 23 = .ok (.if_icmp .gt 626, 3) := by decide +kernel
theorem d_W_law_26 : decode code 26 = .ok (.aload_n 0, 1) := by decide +kernel
theorem d_W_law_27 : decode code 27 = .ok (.iload_n 3, 1) := by decide +kernel
theorem d_W_law_28 : decode code 28 = .ok (.iaload, 1) := by decide +kernel
theorem d_W_law_29 : decode code 29 = .ok (.bipush 31, 2) := by decide +kernel
theorem d_W_law_31 : decode code 31 = .ok (.iand, 1) := by decide +kernel
theorem d_W_law_32 : decode code 32 = .ok (.tableswitch 611 0 16 #[84, 133, 166, 209, 262, 305, 318, 331, 344, 377, 410, 443, 476, 499, 522, 555, 588], 84) := by decide +kernel
theorem d_W_law_116 : decode code 116 = .ok (.aload_n 1, 1) := by decide +kernel
theorem d_W_law_117 : decode code 117 = .ok (.aload_n 0, 1) := by decide +kernel
theorem d_W_law_118 : decode code 118 = .ok (.iload_n 3, 1) := by decide +kernel
theorem d_W_law_119 : decode code 119 = .ok (.iconst 1, 1) := by decide +kernel
theorem d_W_law_120 : decode code 120 = .ok (.iadd, 1) := by decide +kernel
theorem d_W_law_121 : decode code 121 = .ok (.iaload, 1) := by decide +kernel
theorem d_W_law_122 : decode code 122 = .ok (.aload_n 0, 1) := by decide +kernel
theorem d_W_law_123 : decode code 123 = .ok (.iload_n 3, 1) := by decide +kernel
theorem d_W_law_124 : decode code 124 = .ok (.iconst 2, 1) := by decide +kernel
theorem d_W_law_125 : decode code 125 = .ok (.iadd, 1) := by decide +kernel
theorem d_W_law_126 : decode code 126 = .ok (.iaload, 1) := by decide +kernel
theorem d_W_law_127 : decode code 127 = .ok (.ifCond .eq 7, 3) := by decide +kernel
theorem d_W_law_130 : decode code 130 = .ok (.iconst 1, 1) := by decide +kernel
theorem d_W_law_131 : decode code 131 = .ok (.goto 4, 3) := by decide +kernel
theorem d_W_law_134 : decode code 134 = .ok (.iconst 0, 1) := by decide +kernel
theorem d_W_law_135 : decode code 135 = .ok (.invokevirtual 13, 3) := by decide +kernel
theorem d_W_law_138 : decode code 138 = .ok (.aload_n 2, 1) := by decide +kernel
theorem d_W_law_139 : decode code 139 = .ok (.aload_n 0, 1) := by decide +kernel
theorem d_W_law_140 : decode code 140 = .ok (.iload_n 3, 1) := by decide +kernel
theorem d_W_law_141 : decode code 141 = .ok (.iconst 1, 1) := by decide +kernel
theorem d_W_law_142 : decode code 142 = .ok (.iadd, 1) := by decide +kernel
theorem d_W_law_143 : decode code 143 = .ok (.iaload, 1) := by decide +kernel
theorem d_W_law_144 : decode code 144 = .ok (.aload_n 0, 1) := by decide +kernel
theorem d_W_law_145 : decode code 145 = .ok (.iload_n 3, 1) := by decide +kernel
theorem d_W_law_146 : decode code 146 = .ok (.iconst 2, 1) := by decide +kernel
theorem d_W_law_147 : decode code 147 = .ok (.iadd, 1) := by decide +kernel
theorem d_W_law_148 : decode code 148 = .ok (.iaload, 1) := by decide +kernel
theorem d_W_law_149 : decode code 149 = .ok (.ifCond .eq 7, 3) := by decide +kernel
theorem d_W_law_152 : decode code 152 = .ok (.iconst 1, 1) := by decide +kernel
theorem d_W_law_153 : decode code 153 = .ok (.goto 4, 3) := by decide +kernel
theorem d_W_law_156 : decode code 156 = .ok (.iconst 0, 1) := by decide +kernel
theorem d_W_law_157 : decode code 157 = .ok (.invokevirtual 17, 3) := by decide +kernel
theorem d_W_law_160 : decode code 160 = .ok (.if_icmp .eq 483, 3) := by decide +kernel
theorem d_W_law_163 : decode code 163 = .ok (.iconst 0, 1) := by decide +kernel
theorem d_W_law_164 : decode code 164 = .ok (.ireturn, 1) := by decide +kernel
theorem d_W_law_165 : decode code 165 = .ok (.aload_n 1, 1) := by decide +kernel
theorem d_W_law_166 : decode code 166 = .ok (.aload_n 0, 1) := by decide +kernel
theorem d_W_law_167 : decode code 167 = .ok (.iload_n 3, 1) := by decide +kernel
theorem d_W_law_168 : decode code 168 = .ok (.iconst 1, 1) := by decide +kernel
theorem d_W_law_169 : decode code 169 = .ok (.iadd, 1) := by decide +kernel
theorem d_W_law_170 : decode code 170 = .ok (.iaload, 1) := by decide +kernel
theorem d_W_law_171 : decode code 171 = .ok (.aload_n 0, 1) := by decide +kernel
theorem d_W_law_172 : decode code 172 = .ok (.iload_n 3, 1) := by decide +kernel
theorem d_W_law_173 : decode code 173 = .ok (.iconst 2, 1) := by decide +kernel
theorem d_W_law_174 : decode code 174 = .ok (.iadd, 1) := by decide +kernel
theorem d_W_law_175 : decode code 175 = .ok (.iaload, 1) := by decide +kernel
theorem d_W_law_176 : decode code 176 = .ok (.invokevirtual 18, 3) := by decide +kernel
theorem d_W_law_179 : decode code 179 = .ok (.aload_n 2, 1) := by decide +kernel
theorem d_W_law_180 : decode code 180 = .ok (.aload_n 0, 1) := by decide +kernel
theorem d_W_law_181 : decode code 181 = .ok (.iload_n 3, 1) := by decide +kernel
theorem d_W_law_182 : decode code 182 = .ok (.iconst 1, 1) := by decide +kernel
theorem d_W_law_183 : decode code 183 = .ok (.iadd, 1) := by decide +kernel
theorem d_W_law_184 : decode code 184 = .ok (.iaload, 1) := by decide +kernel
theorem d_W_law_185 : decode code 185 = .ok (.aload_n 0, 1) := by decide +kernel
theorem d_W_law_186 : decode code 186 = .ok (.iload_n 3, 1) := by decide +kernel
theorem d_W_law_187 : decode code 187 = .ok (.iconst 2, 1) := by decide +kernel
theorem d_W_law_188 : decode code 188 = .ok (.iadd, 1) := by decide +kernel
theorem d_W_law_189 : decode code 189 = .ok (.iaload, 1) := by decide +kernel
theorem d_W_law_190 : decode code 190 = .ok (.invokevirtual 22, 3) := by decide +kernel
theorem d_W_law_193 : decode code 193 = .ok (.if_icmp .eq 450, 3) := by decide +kernel
theorem d_W_law_196 : decode code 196 = .ok (.iconst 0, 1) := by decide +kernel
theorem d_W_law_197 : decode code 197 = .ok (.ireturn, 1) := by decide +kernel
theorem d_W_law_198 : decode code 198 = .ok (.aload_n 1, 1) := by decide +kernel
theorem d_W_law_199 : decode code 199 = .ok (.aload_n 0, 1) := by decide +kernel
theorem d_W_law_200 : decode code 200 = .ok (.iload_n 3, 1) := by decide +kernel
theorem d_W_law_201 : decode code 201 = .ok (.iconst 1, 1) := by decide +kernel
theorem d_W_law_202 : decode code 202 = .ok (.iadd, 1) := by decide +kernel
theorem d_W_law_203 : decode code 203 = .ok (.iaload, 1) := by decide +kernel
theorem d_W_law_204 : decode code 204 = .ok (.aload_n 0, 1) := by decide +kernel
theorem d_W_law_205 : decode code 205 = .ok (.iload_n 3, 1) := by decide +kernel
theorem d_W_law_206 : decode code 206 = .ok (.iconst 2, 1) := by decide +kernel
theorem d_W_law_207 : decode code 207 = .ok (.iadd, 1) := by decide +kernel
theorem d_W_law_208 : decode code 208 = .ok (.iaload, 1) := by decide +kernel
theorem d_W_law_209 : decode code 209 = .ok (.aload_n 0, 1) := by decide +kernel
theorem d_W_law_210 : decode code 210 = .ok (.iload_n 3, 1) := by decide +kernel
theorem d_W_law_211 : decode code 211 = .ok (.iconst 3, 1) := by decide +kernel
theorem d_W_law_212 : decode code 212 = .ok (.iadd, 1) := by decide +kernel
theorem d_W_law_213 : decode code 213 = .ok (.iaload, 1) := by decide +kernel
theorem d_W_law_214 : decode code 214 = .ok (.invokevirtual 23, 3) := by decide +kernel
theorem d_W_law_217 : decode code 217 = .ok (.aload_n 2, 1) := by decide +kernel
theorem d_W_law_218 : decode code 218 = .ok (.aload_n 0, 1) := by decide +kernel
theorem d_W_law_219 : decode code 219 = .ok (.iload_n 3, 1) := by decide +kernel
theorem d_W_law_220 : decode code 220 = .ok (.iconst 1, 1) := by decide +kernel
theorem d_W_law_221 : decode code 221 = .ok (.iadd, 1) := by decide +kernel
theorem d_W_law_222 : decode code 222 = .ok (.iaload, 1) := by decide +kernel
theorem d_W_law_223 : decode code 223 = .ok (.aload_n 0, 1) := by decide +kernel
theorem d_W_law_224 : decode code 224 = .ok (.iload_n 3, 1) := by decide +kernel
theorem d_W_law_225 : decode code 225 = .ok (.iconst 2, 1) := by decide +kernel
theorem d_W_law_226 : decode code 226 = .ok (.iadd, 1) := by decide +kernel
theorem d_W_law_227 : decode code 227 = .ok (.iaload, 1) := by decide +kernel
theorem d_W_law_228 : decode code 228 = .ok (.aload_n 0, 1) := by decide +kernel
theorem d_W_law_229 : decode code 229 = .ok (.iload_n 3, 1) := by decide +kernel
theorem d_W_law_230 : decode code 230 = .ok (.iconst 3, 1) := by decide +kernel
theorem d_W_law_231 : decode code 231 = .ok (.iadd, 1) := by decide +kernel
theorem d_W_law_232 : decode code 232 = .ok (.iaload, 1) := by decide +kernel
theorem d_W_law_233 : decode code 233 = .ok (.invokevirtual 27, 3) := by decide +kernel
theorem d_W_law_236 : decode code 236 = .ok (.if_icmp .eq 407, 3) := by decide +kernel
theorem d_W_law_239 : decode code 239 = .ok (.iconst 0, 1) := by decide +kernel
theorem d_W_law_240 : decode code 240 = .ok (.ireturn, 1) := by decide +kernel
theorem d_W_law_241 : decode code 241 = .ok (.aload_n 1, 1) := by decide +kernel
theorem d_W_law_242 : decode code 242 = .ok (.aload_n 0, 1) := by decide +kernel
theorem d_W_law_243 : decode code 243 = .ok (.iload_n 3, 1) := by decide +kernel
theorem d_W_law_244 : decode code 244 = .ok (.iconst 1, 1) := by decide +kernel
theorem d_W_law_245 : decode code 245 = .ok (.iadd, 1) := by decide +kernel
theorem d_W_law_246 : decode code 246 = .ok (.iaload, 1) := by decide +kernel
theorem d_W_law_247 : decode code 247 = .ok (.aload_n 0, 1) := by decide +kernel
theorem d_W_law_248 : decode code 248 = .ok (.iload_n 3, 1) := by decide +kernel
theorem d_W_law_249 : decode code 249 = .ok (.iconst 2, 1) := by decide +kernel
theorem d_W_law_250 : decode code 250 = .ok (.iadd, 1) := by decide +kernel
theorem d_W_law_251 : decode code 251 = .ok (.iaload, 1) := by decide +kernel
theorem d_W_law_252 : decode code 252 = .ok (.aload_n 0, 1) := by decide +kernel
theorem d_W_law_253 : decode code 253 = .ok (.iload_n 3, 1) := by decide +kernel
theorem d_W_law_254 : decode code 254 = .ok (.iconst 3, 1) := by decide +kernel
theorem d_W_law_255 : decode code 255 = .ok (.iadd, 1) := by decide +kernel
theorem d_W_law_256 : decode code 256 = .ok (.iaload, 1) := by decide +kernel
theorem d_W_law_257 : decode code 257 = .ok (.aload_n 0, 1) := by decide +kernel
theorem d_W_law_258 : decode code 258 = .ok (.iload_n 3, 1) := by decide +kernel
theorem d_W_law_259 : decode code 259 = .ok (.iconst 4, 1) := by decide +kernel
theorem d_W_law_260 : decode code 260 = .ok (.iadd, 1) := by decide +kernel
theorem d_W_law_261 : decode code 261 = .ok (.iaload, 1) := by decide +kernel
theorem d_W_law_262 : decode code 262 = .ok (.invokevirtual 28, 3) := by decide +kernel
theorem d_W_law_265 : decode code 265 = .ok (.aload_n 2, 1) := by decide +kernel
theorem d_W_law_266 : decode code 266 = .ok (.aload_n 0, 1) := by decide +kernel
theorem d_W_law_267 : decode code 267 = .ok (.iload_n 3, 1) := by decide +kernel
theorem d_W_law_268 : decode code 268 = .ok (.iconst 1, 1) := by decide +kernel
theorem d_W_law_269 : decode code 269 = .ok (.iadd, 1) := by decide +kernel
theorem d_W_law_270 : decode code 270 = .ok (.iaload, 1) := by decide +kernel
theorem d_W_law_271 : decode code 271 = .ok (.aload_n 0, 1) := by decide +kernel
theorem d_W_law_272 : decode code 272 = .ok (.iload_n 3, 1) := by decide +kernel
theorem d_W_law_273 : decode code 273 = .ok (.iconst 2, 1) := by decide +kernel
theorem d_W_law_274 : decode code 274 = .ok (.iadd, 1) := by decide +kernel
theorem d_W_law_275 : decode code 275 = .ok (.iaload, 1) := by decide +kernel
theorem d_W_law_276 : decode code 276 = .ok (.aload_n 0, 1) := by decide +kernel
theorem d_W_law_277 : decode code 277 = .ok (.iload_n 3, 1) := by decide +kernel
theorem d_W_law_278 : decode code 278 = .ok (.iconst 3, 1) := by decide +kernel
theorem d_W_law_279 : decode code 279 = .ok (.iadd, 1) := by decide +kernel
theorem d_W_law_280 : decode code 280 = .ok (.iaload, 1) := by decide +kernel
theorem d_W_law_281 : decode code 281 = .ok (.aload_n 0, 1) := by decide +kernel
theorem d_W_law_282 : decode code 282 = .ok (.iload_n 3, 1) := by decide +kernel
theorem d_W_law_283 : decode code 283 = .ok (.iconst 4, 1) := by decide +kernel
theorem d_W_law_284 : decode code 284 = .ok (.iadd, 1) := by decide +kernel
theorem d_W_law_285 : decode code 285 = .ok (.iaload, 1) := by decide +kernel
theorem d_W_law_286 : decode code 286 = .ok (.invokevirtual 32, 3) := by decide +kernel
theorem d_W_law_289 : decode code 289 = .ok (.if_icmp .eq 354, 3) := by decide +kernel
theorem d_W_law_292 : decode code 292 = .ok (.iconst 0, 1) := by decide +kernel
theorem d_W_law_293 : decode code 293 = .ok (.ireturn, 1) := by decide +kernel
theorem d_W_law_294 : decode code 294 = .ok (.aload_n 1, 1) := by decide +kernel
theorem d_W_law_295 : decode code 295 = .ok (.aload_n 0, 1) := by decide +kernel
theorem d_W_law_296 : decode code 296 = .ok (.iload_n 3, 1) := by decide +kernel
theorem d_W_law_297 : decode code 297 = .ok (.iconst 1, 1) := by decide +kernel
theorem d_W_law_298 : decode code 298 = .ok (.iadd, 1) := by decide +kernel
theorem d_W_law_299 : decode code 299 = .ok (.iaload, 1) := by decide +kernel
theorem d_W_law_300 : decode code 300 = .ok (.aload_n 0, 1) := by decide +kernel
theorem d_W_law_301 : decode code 301 = .ok (.iload_n 3, 1) := by decide +kernel
theorem d_W_law_302 : decode code 302 = .ok (.iconst 2, 1) := by decide +kernel
theorem d_W_law_303 : decode code 303 = .ok (.iadd, 1) := by decide +kernel
theorem d_W_law_304 : decode code 304 = .ok (.iaload, 1) := by decide +kernel
theorem d_W_law_305 : decode code 305 = .ok (.aload_n 0, 1) := by decide +kernel
theorem d_W_law_306 : decode code 306 = .ok (.iload_n 3, 1) := by decide +kernel
theorem d_W_law_307 : decode code 307 = .ok (.iconst 3, 1) := by decide +kernel
theorem d_W_law_308 : decode code 308 = .ok (.iadd, 1) := by decide +kernel
theorem d_W_law_309 : decode code 309 = .ok (.iaload, 1) := by decide +kernel
theorem d_W_law_310 : decode code 310 = .ok (.invokevirtual 33, 3) := by decide +kernel
theorem d_W_law_313 : decode code 313 = .ok (.aload_n 2, 1) := by decide +kernel
theorem d_W_law_314 : decode code 314 = .ok (.aload_n 0, 1) := by decide +kernel
theorem d_W_law_315 : decode code 315 = .ok (.iload_n 3, 1) := by decide +kernel
theorem d_W_law_316 : decode code 316 = .ok (.iconst 1, 1) := by decide +kernel
theorem d_W_law_317 : decode code 317 = .ok (.iadd, 1) := by decide +kernel
theorem d_W_law_318 : decode code 318 = .ok (.iaload, 1) := by decide +kernel
theorem d_W_law_319 : decode code 319 = .ok (.aload_n 0, 1) := by decide +kernel
theorem d_W_law_320 : decode code 320 = .ok (.iload_n 3, 1) := by decide +kernel
theorem d_W_law_321 : decode code 321 = .ok (.iconst 2, 1) := by decide +kernel
theorem d_W_law_322 : decode code 322 = .ok (.iadd, 1) := by decide +kernel
theorem d_W_law_323 : decode code 323 = .ok (.iaload, 1) := by decide +kernel
theorem d_W_law_324 : decode code 324 = .ok (.aload_n 0, 1) := by decide +kernel
theorem d_W_law_325 : decode code 325 = .ok (.iload_n 3, 1) := by decide +kernel
theorem d_W_law_326 : decode code 326 = .ok (.iconst 3, 1) := by decide +kernel
theorem d_W_law_327 : decode code 327 = .ok (.iadd, 1) := by decide +kernel
theorem d_W_law_328 : decode code 328 = .ok (.iaload, 1) := by decide +kernel
theorem d_W_law_329 : decode code 329 = .ok (.invokevirtual 36, 3) := by decide +kernel
theorem d_W_law_332 : decode code 332 = .ok (.if_icmp .eq 311, 3) := by decide +kernel
theorem d_W_law_335 : decode code 335 = .ok (.iconst 0, 1) := by decide +kernel
theorem d_W_law_336 : decode code 336 = .ok (.ireturn, 1) := by decide +kernel
theorem d_W_law_337 : decode code 337 = .ok (.aload_n 1, 1) := by decide +kernel
theorem d_W_law_338 : decode code 338 = .ok (.invokevirtual 37, 3) := by decide +kernel
theorem d_W_law_341 : decode code 341 = .ok (.aload_n 2, 1) := by decide +kernel
theorem d_W_law_342 : decode code 342 = .ok (.invokevirtual 41, 3) := by decide +kernel
theorem d_W_law_345 : decode code 345 = .ok (.if_icmp .eq 298, 3) := by decide +kernel
theorem d_W_law_348 : decode code 348 = .ok (.iconst 0, 1) := by decide +kernel
theorem d_W_law_349 : decode code 349 = .ok (.ireturn, 1) := by decide +kernel
theorem d_W_law_350 : decode code 350 = .ok (.aload_n 1, 1) := by decide +kernel
theorem d_W_law_351 : decode code 351 = .ok (.invokevirtual 42, 3) := by decide +kernel
theorem d_W_law_354 : decode code 354 = .ok (.aload_n 2, 1) := by decide +kernel
theorem d_W_law_355 : decode code 355 = .ok (.invokevirtual 45, 3) := by decide +kernel
theorem d_W_law_358 : decode code 358 = .ok (.if_icmp .eq 285, 3) := by decide +kernel
theorem d_W_law_361 : decode code 361 = .ok (.iconst 0, 1) := by decide +kernel
theorem d_W_law_362 : decode code 362 = .ok (.ireturn, 1) := by decide +kernel
theorem d_W_law_363 : decode code 363 = .ok (.aload_n 1, 1) := by decide +kernel
theorem d_W_law_364 : decode code 364 = .ok (.invokevirtual 46, 3) := by decide +kernel
theorem d_W_law_367 : decode code 367 = .ok (.aload_n 2, 1) := by decide +kernel
theorem d_W_law_368 : decode code 368 = .ok (.invokevirtual 49, 3) := by decide +kernel
theorem d_W_law_371 : decode code 371 = .ok (.if_icmp .eq 272, 3) := by decide +kernel
theorem d_W_law_374 : decode code 374 = .ok (.iconst 0, 1) := by decide +kernel
theorem d_W_law_375 : decode code 375 = .ok (.ireturn, 1) := by decide +kernel
theorem d_W_law_376 : decode code 376 = .ok (.aload_n 1, 1) := by decide +kernel
theorem d_W_law_377 : decode code 377 = .ok (.aload_n 0, 1) := by decide +kernel
theorem d_W_law_378 : decode code 378 = .ok (.iload_n 3, 1) := by decide +kernel
theorem d_W_law_379 : decode code 379 = .ok (.iconst 1, 1) := by decide +kernel
theorem d_W_law_380 : decode code 380 = .ok (.iadd, 1) := by decide +kernel
theorem d_W_law_381 : decode code 381 = .ok (.iaload, 1) := by decide +kernel
theorem d_W_law_382 : decode code 382 = .ok (.aload_n 0, 1) := by decide +kernel
theorem d_W_law_383 : decode code 383 = .ok (.iload_n 3, 1) := by decide +kernel
theorem d_W_law_384 : decode code 384 = .ok (.iconst 2, 1) := by decide +kernel
theorem d_W_law_385 : decode code 385 = .ok (.iadd, 1) := by decide +kernel
theorem d_W_law_386 : decode code 386 = .ok (.iaload, 1) := by decide +kernel
theorem d_W_law_387 : decode code 387 = .ok (.invokevirtual 50, 3) := by decide +kernel
theorem d_W_law_390 : decode code 390 = .ok (.aload_n 2, 1) := by decide +kernel
theorem d_W_law_391 : decode code 391 = .ok (.aload_n 0, 1) := by decide +kernel
theorem d_W_law_392 : decode code 392 = .ok (.iload_n 3, 1) := by decide +kernel
theorem d_W_law_393 : decode code 393 = .ok (.iconst 1, 1) := by decide +kernel
theorem d_W_law_394 : decode code 394 = .ok (.iadd, 1) := by decide +kernel
theorem d_W_law_395 : decode code 395 = .ok (.iaload, 1) := by decide +kernel
theorem d_W_law_396 : decode code 396 = .ok (.aload_n 0, 1) := by decide +kernel
theorem d_W_law_397 : decode code 397 = .ok (.iload_n 3, 1) := by decide +kernel
theorem d_W_law_398 : decode code 398 = .ok (.iconst 2, 1) := by decide +kernel
theorem d_W_law_399 : decode code 399 = .ok (.iadd, 1) := by decide +kernel
theorem d_W_law_400 : decode code 400 = .ok (.iaload, 1) := by decide +kernel
theorem d_W_law_401 : decode code 401 = .ok (.invokevirtual 54, 3) := by decide +kernel
theorem d_W_law_404 : decode code 404 = .ok (.if_icmp .eq 239, 3) := by decide +kernel
theorem d_W_law_407 : decode code 407 = .ok (.iconst 0, 1) := by decide +kernel
theorem d_W_law_408 : decode code 408 = .ok (.ireturn, 1) := by decide +kernel
theorem d_W_law_409 : decode code 409 = .ok (.aload_n 1, 1) := by decide +kernel
theorem d_W_law_410 : decode code 410 = .ok (.aload_n 0, 1) := by decide +kernel
theorem d_W_law_411 : decode code 411 = .ok (.iload_n 3, 1) := by decide +kernel
theorem d_W_law_412 : decode code 412 = .ok (.iconst 1, 1) := by decide +kernel
theorem d_W_law_413 : decode code 413 = .ok (.iadd, 1) := by decide +kernel
theorem d_W_law_414 : decode code 414 = .ok (.iaload, 1) := by decide +kernel
theorem d_W_law_415 : decode code 415 = .ok (.aload_n 0, 1) := by decide +kernel
theorem d_W_law_416 : decode code 416 = .ok (.iload_n 3, 1) := by decide +kernel
theorem d_W_law_417 : decode code 417 = .ok (.iconst 2, 1) := by decide +kernel
theorem d_W_law_418 : decode code 418 = .ok (.iadd, 1) := by decide +kernel
theorem d_W_law_419 : decode code 419 = .ok (.iaload, 1) := by decide +kernel
theorem d_W_law_420 : decode code 420 = .ok (.invokevirtual 55, 3) := by decide +kernel
theorem d_W_law_423 : decode code 423 = .ok (.aload_n 2, 1) := by decide +kernel
theorem d_W_law_424 : decode code 424 = .ok (.aload_n 0, 1) := by decide +kernel
theorem d_W_law_425 : decode code 425 = .ok (.iload_n 3, 1) := by decide +kernel
theorem d_W_law_426 : decode code 426 = .ok (.iconst 1, 1) := by decide +kernel
theorem d_W_law_427 : decode code 427 = .ok (.iadd, 1) := by decide +kernel
theorem d_W_law_428 : decode code 428 = .ok (.iaload, 1) := by decide +kernel
theorem d_W_law_429 : decode code 429 = .ok (.aload_n 0, 1) := by decide +kernel
theorem d_W_law_430 : decode code 430 = .ok (.iload_n 3, 1) := by decide +kernel
theorem d_W_law_431 : decode code 431 = .ok (.iconst 2, 1) := by decide +kernel
theorem d_W_law_432 : decode code 432 = .ok (.iadd, 1) := by decide +kernel
theorem d_W_law_433 : decode code 433 = .ok (.iaload, 1) := by decide +kernel
theorem d_W_law_434 : decode code 434 = .ok (.invokevirtual 58, 3) := by decide +kernel
theorem d_W_law_437 : decode code 437 = .ok (.if_icmp .eq 206, 3) := by decide +kernel
theorem d_W_law_440 : decode code 440 = .ok (.iconst 0, 1) := by decide +kernel
theorem d_W_law_441 : decode code 441 = .ok (.ireturn, 1) := by decide +kernel
theorem d_W_law_442 : decode code 442 = .ok (.aload_n 1, 1) := by decide +kernel
theorem d_W_law_443 : decode code 443 = .ok (.aload_n 0, 1) := by decide +kernel
theorem d_W_law_444 : decode code 444 = .ok (.iload_n 3, 1) := by decide +kernel
theorem d_W_law_445 : decode code 445 = .ok (.iconst 1, 1) := by decide +kernel
theorem d_W_law_446 : decode code 446 = .ok (.iadd, 1) := by decide +kernel
theorem d_W_law_447 : decode code 447 = .ok (.iaload, 1) := by decide +kernel
theorem d_W_law_448 : decode code 448 = .ok (.aload_n 0, 1) := by decide +kernel
theorem d_W_law_449 : decode code 449 = .ok (.iload_n 3, 1) := by decide +kernel
theorem d_W_law_450 : decode code 450 = .ok (.iconst 2, 1) := by decide +kernel
theorem d_W_law_451 : decode code 451 = .ok (.iadd, 1) := by decide +kernel
theorem d_W_law_452 : decode code 452 = .ok (.iaload, 1) := by decide +kernel
theorem d_W_law_453 : decode code 453 = .ok (.invokevirtual 59, 3) := by decide +kernel
theorem d_W_law_456 : decode code 456 = .ok (.aload_n 2, 1) := by decide +kernel
theorem d_W_law_457 : decode code 457 = .ok (.aload_n 0, 1) := by decide +kernel
theorem d_W_law_458 : decode code 458 = .ok (.iload_n 3, 1) := by decide +kernel
theorem d_W_law_459 : decode code 459 = .ok (.iconst 1, 1) := by decide +kernel
theorem d_W_law_460 : decode code 460 = .ok (.iadd, 1) := by decide +kernel
theorem d_W_law_461 : decode code 461 = .ok (.iaload, 1) := by decide +kernel
theorem d_W_law_462 : decode code 462 = .ok (.aload_n 0, 1) := by decide +kernel
theorem d_W_law_463 : decode code 463 = .ok (.iload_n 3, 1) := by decide +kernel
theorem d_W_law_464 : decode code 464 = .ok (.iconst 2, 1) := by decide +kernel
theorem d_W_law_465 : decode code 465 = .ok (.iadd, 1) := by decide +kernel
theorem d_W_law_466 : decode code 466 = .ok (.iaload, 1) := by decide +kernel
theorem d_W_law_467 : decode code 467 = .ok (.invokevirtual 62, 3) := by decide +kernel
theorem d_W_law_470 : decode code 470 = .ok (.if_icmp .eq 173, 3) := by decide +kernel
theorem d_W_law_473 : decode code 473 = .ok (.iconst 0, 1) := by decide +kernel
theorem d_W_law_474 : decode code 474 = .ok (.ireturn, 1) := by decide +kernel
theorem d_W_law_475 : decode code 475 = .ok (.aload_n 1, 1) := by decide +kernel
theorem d_W_law_476 : decode code 476 = .ok (.aload_n 0, 1) := by decide +kernel
theorem d_W_law_477 : decode code 477 = .ok (.iload_n 3, 1) := by decide +kernel
theorem d_W_law_478 : decode code 478 = .ok (.iconst 1, 1) := by decide +kernel
theorem d_W_law_479 : decode code 479 = .ok (.iadd, 1) := by decide +kernel
theorem d_W_law_480 : decode code 480 = .ok (.iaload, 1) := by decide +kernel
theorem d_W_law_481 : decode code 481 = .ok (.aload_n 0, 1) := by decide +kernel
theorem d_W_law_482 : decode code 482 = .ok (.iload_n 3, 1) := by decide +kernel
theorem d_W_law_483 : decode code 483 = .ok (.iconst 2, 1) := by decide +kernel
theorem d_W_law_484 : decode code 484 = .ok (.iadd, 1) := by decide +kernel
theorem d_W_law_485 : decode code 485 = .ok (.iaload, 1) := by decide +kernel
theorem d_W_law_486 : decode code 486 = .ok (.invokevirtual 63, 3) := by decide +kernel
theorem d_W_law_489 : decode code 489 = .ok (.aload_n 2, 1) := by decide +kernel
theorem d_W_law_490 : decode code 490 = .ok (.aload_n 0, 1) := by decide +kernel
theorem d_W_law_491 : decode code 491 = .ok (.iload_n 3, 1) := by decide +kernel
theorem d_W_law_492 : decode code 492 = .ok (.iconst 1, 1) := by decide +kernel
theorem d_W_law_493 : decode code 493 = .ok (.iadd, 1) := by decide +kernel
theorem d_W_law_494 : decode code 494 = .ok (.iaload, 1) := by decide +kernel
theorem d_W_law_495 : decode code 495 = .ok (.aload_n 0, 1) := by decide +kernel
theorem d_W_law_496 : decode code 496 = .ok (.iload_n 3, 1) := by decide +kernel
theorem d_W_law_497 : decode code 497 = .ok (.iconst 2, 1) := by decide +kernel
theorem d_W_law_498 : decode code 498 = .ok (.iadd, 1) := by decide +kernel
theorem d_W_law_499 : decode code 499 = .ok (.iaload, 1) := by decide +kernel
theorem d_W_law_500 : decode code 500 = .ok (.invokevirtual 66, 3) := by decide +kernel
theorem d_W_law_503 : decode code 503 = .ok (.if_icmp .eq 140, 3) := by decide +kernel
theorem d_W_law_506 : decode code 506 = .ok (.iconst 0, 1) := by decide +kernel
theorem d_W_law_507 : decode code 507 = .ok (.ireturn, 1) := by decide +kernel
theorem d_W_law_508 : decode code 508 = .ok (.aload_n 1, 1) := by decide +kernel
theorem d_W_law_509 : decode code 509 = .ok (.aload_n 0, 1) := by decide +kernel
theorem d_W_law_510 : decode code 510 = .ok (.iload_n 3, 1) := by decide +kernel
theorem d_W_law_511 : decode code 511 = .ok (.iconst 1, 1) := by decide +kernel
theorem d_W_law_512 : decode code 512 = .ok (.iadd, 1) := by decide +kernel
theorem d_W_law_513 : decode code 513 = .ok (.iaload, 1) := by decide +kernel
theorem d_W_law_514 : decode code 514 = .ok (.invokevirtual 67, 3) := by decide +kernel
theorem d_W_law_517 : decode code 517 = .ok (.aload_n 2, 1) := by decide +kernel
theorem d_W_law_518 : decode code 518 = .ok (.aload_n 0, 1) := by decide +kernel
theorem d_W_law_519 : decode code 519 = .ok (.iload_n 3, 1) := by decide +kernel
theorem d_W_law_520 : decode code 520 = .ok (.iconst 1, 1) := by decide +kernel
theorem d_W_law_521 : decode code 521 = .ok (.iadd, 1) := by decide +kernel
theorem d_W_law_522 : decode code 522 = .ok (.iaload, 1) := by decide +kernel
theorem d_W_law_523 : decode code 523 = .ok (.invokevirtual 71, 3) := by decide +kernel
theorem d_W_law_526 : decode code 526 = .ok (.if_icmp .eq 117, 3) := by decide +kernel
theorem d_W_law_529 : decode code 529 = .ok (.iconst 0, 1) := by decide +kernel
theorem d_W_law_530 : decode code 530 = .ok (.ireturn, 1) := by decide +kernel
theorem d_W_law_531 : decode code 531 = .ok (.aload_n 1, 1) := by decide +kernel
theorem d_W_law_532 : decode code 532 = .ok (.aload_n 0, 1) := by decide +kernel
theorem d_W_law_533 : decode code 533 = .ok (.iload_n 3, 1) := by decide +kernel
theorem d_W_law_534 : decode code 534 = .ok (.iconst 1, 1) := by decide +kernel
theorem d_W_law_535 : decode code 535 = .ok (.iadd, 1) := by decide +kernel
theorem d_W_law_536 : decode code 536 = .ok (.iaload, 1) := by decide +kernel
theorem d_W_law_537 : decode code 537 = .ok (.invokevirtual 72, 3) := by decide +kernel
theorem d_W_law_540 : decode code 540 = .ok (.aload_n 2, 1) := by decide +kernel
theorem d_W_law_541 : decode code 541 = .ok (.aload_n 0, 1) := by decide +kernel
theorem d_W_law_542 : decode code 542 = .ok (.iload_n 3, 1) := by decide +kernel
theorem d_W_law_543 : decode code 543 = .ok (.iconst 1, 1) := by decide +kernel
theorem d_W_law_544 : decode code 544 = .ok (.iadd, 1) := by decide +kernel
theorem d_W_law_545 : decode code 545 = .ok (.iaload, 1) := by decide +kernel
theorem d_W_law_546 : decode code 546 = .ok (.invokevirtual 75, 3) := by decide +kernel
theorem d_W_law_549 : decode code 549 = .ok (.if_icmp .eq 94, 3) := by decide +kernel
theorem d_W_law_552 : decode code 552 = .ok (.iconst 0, 1) := by decide +kernel
theorem d_W_law_553 : decode code 553 = .ok (.ireturn, 1) := by decide +kernel
theorem d_W_law_554 : decode code 554 = .ok (.aload_n 1, 1) := by decide +kernel
theorem d_W_law_555 : decode code 555 = .ok (.aload_n 0, 1) := by decide +kernel
theorem d_W_law_556 : decode code 556 = .ok (.iload_n 3, 1) := by decide +kernel
theorem d_W_law_557 : decode code 557 = .ok (.iconst 1, 1) := by decide +kernel
theorem d_W_law_558 : decode code 558 = .ok (.iadd, 1) := by decide +kernel
theorem d_W_law_559 : decode code 559 = .ok (.iaload, 1) := by decide +kernel
theorem d_W_law_560 : decode code 560 = .ok (.aload_n 0, 1) := by decide +kernel
theorem d_W_law_561 : decode code 561 = .ok (.iload_n 3, 1) := by decide +kernel
theorem d_W_law_562 : decode code 562 = .ok (.iconst 2, 1) := by decide +kernel
theorem d_W_law_563 : decode code 563 = .ok (.iadd, 1) := by decide +kernel
theorem d_W_law_564 : decode code 564 = .ok (.iaload, 1) := by decide +kernel
theorem d_W_law_565 : decode code 565 = .ok (.invokevirtual 76, 3) := by decide +kernel
theorem d_W_law_568 : decode code 568 = .ok (.aload_n 2, 1) := by decide +kernel
theorem d_W_law_569 : decode code 569 = .ok (.aload_n 0, 1) := by decide +kernel
theorem d_W_law_570 : decode code 570 = .ok (.iload_n 3, 1) := by decide +kernel
theorem d_W_law_571 : decode code 571 = .ok (.iconst 1, 1) := by decide +kernel
theorem d_W_law_572 : decode code 572 = .ok (.iadd, 1) := by decide +kernel
theorem d_W_law_573 : decode code 573 = .ok (.iaload, 1) := by decide +kernel
theorem d_W_law_574 : decode code 574 = .ok (.aload_n 0, 1) := by decide +kernel
theorem d_W_law_575 : decode code 575 = .ok (.iload_n 3, 1) := by decide +kernel
theorem d_W_law_576 : decode code 576 = .ok (.iconst 2, 1) := by decide +kernel
theorem d_W_law_577 : decode code 577 = .ok (.iadd, 1) := by decide +kernel
theorem d_W_law_578 : decode code 578 = .ok (.iaload, 1) := by decide +kernel
theorem d_W_law_579 : decode code 579 = .ok (.invokevirtual 79, 3) := by decide +kernel
theorem d_W_law_582 : decode code 582 = .ok (.if_icmp .eq 61, 3) := by decide +kernel
theorem d_W_law_585 : decode code 585 = .ok (.iconst 0, 1) := by decide +kernel
theorem d_W_law_586 : decode code 586 = .ok (.ireturn, 1) := by decide +kernel
theorem d_W_law_587 : decode code 587 = .ok (.aload_n 1, 1) := by decide +kernel
theorem d_W_law_588 : decode code 588 = .ok (.aload_n 0, 1) := by decide +kernel
theorem d_W_law_589 : decode code 589 = .ok (.iload_n 3, 1) := by decide +kernel
theorem d_W_law_590 : decode code 590 = .ok (.iconst 1, 1) := by decide +kernel
theorem d_W_law_591 : decode code 591 = .ok (.iadd, 1) := by decide +kernel
theorem d_W_law_592 : decode code 592 = .ok (.iaload, 1) := by decide +kernel
theorem d_W_law_593 : decode code 593 = .ok (.aload_n 0, 1) := by decide +kernel
theorem d_W_law_594 : decode code 594 = .ok (.iload_n 3, 1) := by decide +kernel
theorem d_W_law_595 : decode code 595 = .ok (.iconst 2, 1) := by decide +kernel
theorem d_W_law_596 : decode code 596 = .ok (.iadd, 1) := by decide +kernel
theorem d_W_law_597 : decode code 597 = .ok (.iaload, 1) := by decide +kernel
theorem d_W_law_598 : decode code 598 = .ok (.invokevirtual 80, 3) := by decide +kernel
theorem d_W_law_601 : decode code 601 = .ok (.aload_n 2, 1) := by decide +kernel
theorem d_W_law_602 : decode code 602 = .ok (.aload_n 0, 1) := by decide +kernel
theorem d_W_law_603 : decode code 603 = .ok (.iload_n 3, 1) := by decide +kernel
theorem d_W_law_604 : decode code 604 = .ok (.iconst 1, 1) := by decide +kernel
theorem d_W_law_605 : decode code 605 = .ok (.iadd, 1) := by decide +kernel
theorem d_W_law_606 : decode code 606 = .ok (.iaload, 1) := by decide +kernel
theorem d_W_law_607 : decode code 607 = .ok (.aload_n 0, 1) := by decide +kernel
theorem d_W_law_608 : decode code 608 = .ok (.iload_n 3, 1) := by decide +kernel
theorem d_W_law_609 : decode code 609 = .ok (.iconst 2, 1) := by decide +kernel
theorem d_W_law_610 : decode code 610 = .ok (.iadd, 1) := by decide +kernel
theorem d_W_law_611 : decode code 611 = .ok (.iaload, 1) := by decide +kernel
theorem d_W_law_612 : decode code 612 = .ok (.invokevirtual 83, 3) := by decide +kernel
theorem d_W_law_615 : decode code 615 = .ok (.if_icmp .eq 28, 3) := by decide +kernel
theorem d_W_law_618 : decode code 618 = .ok (.iconst 0, 1) := by decide +kernel
theorem d_W_law_619 : decode code 619 = .ok (.ireturn, 1) := by decide +kernel
theorem d_W_law_620 : decode code 620 = .ok (.aload_n 1, 1) := by decide +kernel
theorem d_W_law_621 : decode code 621 = .ok (.aload_n 0, 1) := by decide +kernel
theorem d_W_law_622 : decode code 622 = .ok (.iload_n 3, 1) := by decide +kernel
theorem d_W_law_623 : decode code 623 = .ok (.iconst 1, 1) := by decide +kernel
theorem d_W_law_624 : decode code 624 = .ok (.iadd, 1) := by decide +kernel
theorem d_W_law_625 : decode code 625 = .ok (.iaload, 1) := by decide +kernel
theorem d_W_law_626 : decode code 626 = .ok (.invokevirtual 84, 3) := by decide +kernel
theorem d_W_law_629 : decode code 629 = .ok (.aload_n 2, 1) := by decide +kernel
theorem d_W_law_630 : decode code 630 = .ok (.aload_n 0, 1) := by decide +kernel
theorem d_W_law_631 : decode code 631 = .ok (.iload_n 3, 1) := by decide +kernel
theorem d_W_law_632 : decode code 632 = .ok (.iconst 1, 1) := by decide +kernel
theorem d_W_law_633 : decode code 633 = .ok (.iadd, 1) := by decide +kernel
theorem d_W_law_634 : decode code 634 = .ok (.iaload, 1) := by decide +kernel
theorem d_W_law_635 : decode code 635 = .ok (.invokevirtual 87, 3) := by decide +kernel
theorem d_W_law_638 : decode code 638 = .ok (.if_icmp .eq 5, 3) := by decide +kernel
theorem d_W_law_641 : decode code 641 = .ok (.iconst 0, 1) := by decide +kernel
theorem d_W_law_642 : decode code 642 = .ok (.ireturn, 1) := by decide +kernel
theorem d_W_law_643 : decode code 643 = .ok (.iinc 3 5, 3) := by decide +kernel
theorem d_W_law_646 : decode code 646 = .ok (.goto (-628), 3) := by decide +kernel
theorem d_W_law_649 : decode code 649 = .ok (.iconst 1, 1) := by decide +kernel
theorem d_W_law_650 : decode code 650 = .ok (.ireturn, 1) := by decide +kernel
