theorem dL_law_107 : decode bL_law 107 = .ok (.invokevirtual 13, 3) := by decide +kernel
theorem dL_law_110 : decode bL_law 110 = .ok (.aload_n 2, 1) := by decide +kernel
theorem dL_law_111 : decode bL_law 111 = .ok (.aload_n 0, 1) := by decide +kernel
theorem dL_law_112 : decode bL_law 112 = .ok (.iload_n 3, 1) := by decide +kernel
theorem dL_law_113 : decode bL_law 113 = .ok (.iconst 1, 1) := by decide +kernel
theorem dL_law_114 : decode bL_law 114 = .ok (.iadd, 1) := by decide +kernel
theorem dL_law_115 : decode bL_law 115 = .ok (.iaload, 1) := by decide +kernel
theorem dL_law_116 : decode bL_law 116 = .ok (.aload_n 0, 1) := by decide +kernel
theorem dL_law_117 : decode bL_law 117 = .ok (.iload_n 3, 1) := by decide +kernel
theorem dL_law_118 : decode bL_law 118 = .ok (.iconst 2, 1) := by decide +kernel
theorem dL_law_119 : decode bL_law 119 = .ok (.iadd, 1) := by decide +kernel
theorem dL_law_120 : decode bL_law 120 = .ok (.iaload, 1) := by decide +kernel
theorem dL_law_121 : decode bL_law 121 = .ok (.invokevirtual 17, 3) := by decide +kernel
theorem dL_law_124 : decode bL_law 124 = .ok (.if_icmp .eq 524, 3) := by decide +kernel
theorem dL_law_127 : decode bL_law 127 = .ok (.iconst 0, 1) := by decide +kernel
theorem dL_law_128 : decode bL_law 128 = .ok (.ireturn, 1) := by decide +kernel
theorem dL_law_129 : decode bL_law 129 = .ok (.aload_n 1, 1) := by decide +kernel
theorem dL_law_130 : decode bL_law 130 = .ok (.aload_n 0, 1) := by decide +kernel
theorem dL_law_131 : decode bL_law 131 = .ok (.iload_n 3, 1) := by decide +kernel
theorem dL_law_132 : decode bL_law 132 = .ok (.iconst 1, 1) := by decide +kernel
theorem dL_law_133 : decode bL_law 133 = .ok (.iadd, 1) := by decide +kernel
theorem dL_law_134 : decode bL_law 134 = .ok (.iaload, 1) := by decide +kernel
theorem dL_law_135 : decode bL_law 135 = .ok (.aload_n 0, 1) := by decide +kernel
theorem dL_law_136 : decode bL_law 136 = .ok (.iload_n 3, 1) := by decide +kernel
theorem dL_law_137 : decode bL_law 137 = .ok (.iconst 2, 1) := by decide +kernel
theorem dL_law_138 : decode bL_law 138 = .ok (.iadd, 1) := by decide +kernel
theorem dL_law_139 : decode bL_law 139 = .ok (.iaload, 1) := by decide +kernel
theorem dL_law_140 : decode bL_law 140 = .ok (.invokevirtual 18, 3) := by decide +kernel
theorem dL_law_143 : decode bL_law 143 = .ok (.aload_n 2, 1) := by decide +kernel
theorem dL_law_144 : decode bL_law 144 = .ok (.aload_n 0, 1) := by decide +kernel
theorem dL_law_145 : decode bL_law 145 = .ok (.iload_n 3, 1) := by decide +kernel
theorem dL_law_146 : decode bL_law 146 = .ok (.iconst 1, 1) := by decide +kernel
theorem dL_law_147 : decode bL_law 147 = .ok (.iadd, 1) := by decide +kernel
theorem dL_law_148 : decode bL_law 148 = .ok (.iaload, 1) := by decide +kernel
theorem dL_law_149 : decode bL_law 149 = .ok (.aload_n 0, 1) := by decide +kernel
theorem dL_law_150 : decode bL_law 150 = .ok (.iload_n 3, 1) := by decide +kernel
theorem dL_law_151 : decode bL_law 151 = .ok (.iconst 2, 1) := by decide +kernel
theorem dL_law_152 : decode bL_law 152 = .ok (.iadd, 1) := by decide +kernel
theorem dL_law_153 : decode bL_law 153 = .ok (.iaload, 1) := by decide +kernel
theorem dL_law_154 : decode bL_law 154 = .ok (.invokevirtual 22, 3) := by decide +kernel
theorem dL_law_157 : decode bL_law 157 = .ok (.if_icmp .eq 491, 3) := by decide +kernel
theorem dL_law_160 : decode bL_law 160 = .ok (.iconst 0, 1) := by decide +kernel
theorem dL_law_161 : decode bL_law 161 = .ok (.ireturn, 1) := by decide +kernel
theorem dL_law_162 : decode bL_law 162 = .ok (.aload_n 1, 1) := by decide +kernel
theorem dL_law_163 : decode bL_law 163 = .ok (.aload_n 0, 1) := by decide +kernel
theorem dL_law_164 : decode bL_law 164 = .ok (.iload_n 3, 1) := by decide +kernel
theorem dL_law_165 : decode bL_law 165 = .ok (.iconst 1, 1) := by decide +kernel
theorem dL_law_166 : decode bL_law 166 = .ok (.iadd, 1) := by decide +kernel
theorem dL_law_167 : decode bL_law 167 = .ok (.iaload, 1) := by decide +kernel
theorem dL_law_168 : decode bL_law 168 = .ok (.aload_n 0, 1) := by decide +kernel
theorem dL_law_169 : decode bL_law 169 = .ok (.iload_n 3, 1) := by decide +kernel
theorem dL_law_170 : decode bL_law 170 = .ok (.iconst 2, 1) := by decide +kernel
theorem dL_law_171 : decode bL_law 171 = .ok (.iadd, 1) := by decide +kernel
theorem dL_law_172 : decode bL_law 172 = .ok (.iaload, 1) := by decide +kernel
theorem dL_law_173 : decode bL_law 173 = .ok (.aload_n 0, 1) := by decide +kernel
theorem dL_law_174 : decode bL_law 174 = .ok (.iload_n 3, 1) := by decide +kernel
theorem dL_law_175 : decode bL_law 175 = .ok (.iconst 3, 1) := by decide +kernel
theorem dL_law_176 : decode bL_law 176 = .ok (.iadd, 1) := by decide +kernel
theorem dL_law_177 : decode bL_law 177 = .ok (.iaload, 1) := by decide +kernel
theorem dL_law_178 : decode bL_law 178 = .ok (.ifCond .eq 7, 3) := by decide +kernel
theorem dL_law_181 : decode bL_law 181 = .ok (.iconst 1, 1) := by decide +kernel
theorem dL_law_182 : decode bL_law 182 = .ok (.goto 4, 3) := by decide +kernel
theorem dL_law_185 : decode bL_law 185 = .ok (.iconst 0, 1) := by decide +kernel
theorem dL_law_186 : decode bL_law 186 = .ok (.aload_n 0, 1) := by decide +kernel
theorem dL_law_187 : decode bL_law 187 = .ok (.iload_n 3, 1) := by decide +kernel
theorem dL_law_188 : decode bL_law 188 = .ok (.iconst 4, 1) := by decide +kernel
theorem dL_law_189 : decode bL_law 189 = .ok (.iadd, 1) := by decide +kernel
theorem dL_law_190 : decode bL_law 190 = .ok (.iaload, 1) := by decide +kernel
theorem dL_law_191 : decode bL_law 191 = .ok (.ifCond .eq 7, 3) := by decide +kernel
theorem dL_law_194 : decode bL_law 194 = .ok (.iconst 1, 1) := by decide +kernel
theorem dL_law_195 : decode bL_law 195 = .ok (.goto 4, 3) := by decide +kernel
theorem dL_law_198 : decode bL_law 198 = .ok (.iconst 0, 1) := by decide +kernel
theorem dL_law_199 : decode bL_law 199 = .ok (.aload_n 0, 1) := by decide +kernel
theorem dL_law_200 : decode bL_law 200 = .ok (.iload_n 3, 1) := by decide +kernel
theorem dL_law_201 : decode bL_law 201 = .ok (.iconst 5, 1) := by decide +kernel
theorem dL_law_202 : decode bL_law 202 = .ok (.iadd, 1) := by decide +kernel
theorem dL_law_203 : decode bL_law 203 = .ok (.iaload, 1) := by decide +kernel
theorem dL_law_204 : decode bL_law 204 = .ok (.invokevirtual 23, 3) := by decide +kernel
theorem dL_law_207 : decode bL_law 207 = .ok (.aload_n 2, 1) := by decide +kernel
theorem dL_law_208 : decode bL_law 208 = .ok (.aload_n 0, 1) := by decide +kernel
theorem dL_law_209 : decode bL_law 209 = .ok (.iload_n 3, 1) := by decide +kernel
theorem dL_law_210 : decode bL_law 210 = .ok (.iconst 1, 1) := by decide +kernel
theorem dL_law_211 : decode bL_law 211 = .ok (.iadd, 1) := by decide +kernel
theorem dL_law_212 : decode bL_law 212 = .ok (.iaload, 1) := by decide +kernel
theorem dL_law_213 : decode bL_law 213 = .ok (.aload_n 0, 1) := by decide +kernel
theorem dL_law_214 : decode bL_law 214 = .ok (.iload_n 3, 1) := by decide +kernel
theorem dL_law_215 : decode bL_law 215 = .ok (.iconst 2, 1) := by decide +kernel
theorem dL_law_216 : decode bL_law 216 = .ok (.iadd, 1) := by decide +kernel
theorem dL_law_217 : decode bL_law 217 = .ok (.iaload, 1) := by decide +kernel
theorem dL_law_218 : decode bL_law 218 = .ok (.aload_n 0, 1) := by decide +kernel
theorem dL_law_219 : decode bL_law 219 = .ok (.iload_n 3, 1) := by decide +kernel
theorem dL_law_220 : decode bL_law 220 = .ok (.iconst 3, 1) := by decide +kernel
theorem dL_law_221 : decode bL_law 221 = .ok (.iadd, 1) := by decide +kernel
theorem dL_law_222 : decode bL_law 222 = .ok (.iaload, 1) := by decide +kernel
theorem dL_law_223 : decode bL_law 223 = .ok (.ifCond .eq 7, 3) := by decide +kernel
theorem dL_law_226 : decode bL_law 226 = .ok (.iconst 1, 1) := by decide +kernel
theorem dL_law_227 : decode bL_law 227 = .ok (.goto 4, 3) := by decide +kernel
theorem dL_law_230 : decode bL_law 230 = .ok (.iconst 0, 1) := by decide +kernel
theorem dL_law_231 : decode bL_law 231 = .ok (.aload_n 0, 1) := by decide +kernel
theorem dL_law_232 : decode bL_law 232 = .ok (.iload_n 3, 1) := by decide +kernel
theorem dL_law_233 : decode bL_law 233 = .ok (.iconst 4, 1) := by decide +kernel
theorem dL_law_234 : decode bL_law 234 = .ok (.iadd, 1) := by decide +kernel
theorem dL_law_235 : decode bL_law 235 = .ok (.iaload, 1) := by decide +kernel
theorem dL_law_236 : decode bL_law 236 = .ok (.ifCond .eq 7, 3) := by decide +kernel
theorem dL_law_239 : decode bL_law 239 = .ok (.iconst 1, 1) := by decide +kernel
theorem dL_law_240 : decode bL_law 240 = .ok (.goto 4, 3) := by decide +kernel
theorem dL_law_243 : decode bL_law 243 = .ok (.iconst 0, 1) := by decide +kernel
theorem dL_law_244 : decode bL_law 244 = .ok (.aload_n 0, 1) := by decide +kernel
theorem dL_law_245 : decode bL_law 245 = .ok (.iload_n 3, 1) := by decide +kernel
theorem dL_law_246 : decode bL_law 246 = .ok (.iconst 5, 1) := by decide +kernel
theorem dL_law_247 : decode bL_law 247 = .ok (.iadd, 1) := by decide +kernel
theorem dL_law_248 : decode bL_law 248 = .ok (.iaload, 1) := by decide +kernel
theorem dL_law_249 : decode bL_law 249 = .ok (.invokevirtual 27, 3) := by decide +kernel
theorem dL_law_252 : decode bL_law 252 = .ok (.if_icmp .eq 396, 3) := by decide +kernel
theorem dL_law_255 : decode bL_law 255 = .ok (.iconst 0, 1) := by decide +kernel
theorem dL_law_256 : decode bL_law 256 = .ok (.ireturn, 1) := by decide +kernel
theorem dL_law_257 : decode bL_law 257 = .ok (.aload_n 1, 1) := by decide +kernel
theorem dL_law_258 : decode bL_law 258 = .ok (.aload_n 0, 1) := by decide +kernel
theorem dL_law_259 : decode bL_law 259 = .ok (.iload_n 3, 1) := by decide +kernel
theorem dL_law_260 : decode bL_law 260 = .ok (.iconst 1, 1) := by decide +kernel
theorem dL_law_261 : decode bL_law 261 = .ok (.iadd, 1) := by decide +kernel
theorem dL_law_262 : decode bL_law 262 = .ok (.iaload, 1) := by decide +kernel
theorem dL_law_263 : decode bL_law 263 = .ok (.aload_n 0, 1) := by decide +kernel
theorem dL_law_264 : decode bL_law 264 = .ok (.iload_n 3, 1) := by decide +kernel
theorem dL_law_265 : decode bL_law 265 = .ok (.iconst 2, 1) := by decide +kernel
theorem dL_law_266 : decode bL_law 266 = .ok (.iadd, 1) := by decide +kernel
theorem dL_law_267 : decode bL_law 267 = .ok (.iaload, 1) := by decide +kernel
theorem dL_law_268 : decode bL_law 268 = .ok (.aload_n 0, 1) := by decide +kernel
theorem dL_law_269 : decode bL_law 269 = .ok (.iload_n 3, 1) := by decide +kernel
theorem dL_law_270 : decode bL_law 270 = .ok (.iconst 3, 1) := by decide +kernel
theorem dL_law_271 : decode bL_law 271 = .ok (.iadd, 1) := by decide +kernel
theorem dL_law_272 : decode bL_law 272 = .ok (.iaload, 1) := by decide +kernel
theorem dL_law_273 : decode bL_law 273 = .ok (.aload_n 0, 1) := by decide +kernel
theorem dL_law_274 : decode bL_law 274 = .ok (.iload_n 3, 1) := by decide +kernel
theorem dL_law_275 : decode bL_law 275 = .ok (.iconst 4, 1) := by decide +kernel
theorem dL_law_276 : decode bL_law 276 = .ok (.iadd, 1) := by decide +kernel
theorem dL_law_277 : decode bL_law 277 = .ok (.iaload, 1) := by decide +kernel
theorem dL_law_278 : decode bL_law 278 = .ok (.ifCond .eq 7, 3) := by decide +kernel
theorem dL_law_281 : decode bL_law 281 = .ok (.iconst 1, 1) := by decide +kernel
theorem dL_law_282 : decode bL_law 282 = .ok (.goto 4, 3) := by decide +kernel
theorem dL_law_285 : decode bL_law 285 = .ok (.iconst 0, 1) := by decide +kernel
theorem dL_law_286 : decode bL_law 286 = .ok (.aload_n 0, 1) := by decide +kernel
theorem dL_law_287 : decode bL_law 287 = .ok (.iload_n 3, 1) := by decide +kernel
theorem dL_law_288 : decode bL_law 288 = .ok (.iconst 5, 1) := by decide +kernel
theorem dL_law_289 : decode bL_law 289 = .ok (.iadd, 1) := by decide +kernel
theorem dL_law_290 : decode bL_law 290 = .ok (.iaload, 1) := by decide +kernel
theorem dL_law_291 : decode bL_law 291 = .ok (.ifCond .eq 7, 3) := by decide +kernel
theorem dL_law_294 : decode bL_law 294 = .ok (.iconst 1, 1) := by decide +kernel
theorem dL_law_295 : decode bL_law 295 = .ok (.goto 4, 3) := by decide +kernel
theorem dL_law_298 : decode bL_law 298 = .ok (.iconst 0, 1) := by decide +kernel
theorem dL_law_299 : decode bL_law 299 = .ok (.aload_n 0, 1) := by decide +kernel
theorem dL_law_300 : decode bL_law 300 = .ok (.iload_n 3, 1) := by decide +kernel
theorem dL_law_301 : decode bL_law 301 = .ok (.bipush 6, 2) := by decide +kernel
theorem dL_law_303 : decode bL_law 303 = .ok (.iadd, 1) := by decide +kernel
theorem dL_law_304 : decode bL_law 304 = .ok (.iaload, 1) := by decide +kernel
theorem dL_law_305 : decode bL_law 305 = .ok (.invokevirtual 28, 3) := by decide +kernel
theorem dL_law_308 : decode bL_law 308 = .ok (.aload_n 2, 1) := by decide +kernel
theorem dL_law_309 : decode bL_law 309 = .ok (.aload_n 0, 1) := by decide +kernel
theorem dL_law_310 : decode bL_law 310 = .ok (.iload_n 3, 1) := by decide +kernel
theorem dL_law_311 : decode bL_law 311 = .ok (.iconst 1, 1) := by decide +kernel
theorem dL_law_312 : decode bL_law 312 = .ok (.iadd, 1) := by decide +kernel
theorem dL_law_313 : decode bL_law 313 = .ok (.iaload, 1) := by decide +kernel
theorem dL_law_314 : decode bL_law 314 = .ok (.aload_n 0, 1) := by decide +kernel
theorem dL_law_315 : decode bL_law 315 = .ok (.iload_n 3, 1) := by decide +kernel
theorem dL_law_316 : decode bL_law 316 = .ok (.iconst 2, 1) := by decide +kernel
theorem dL_law_317 : decode bL_law 317 = .ok (.iadd, 1) := by decide +kernel
theorem dL_law_318 : decode bL_law 318 = .ok (.iaload, 1) := by decide +kernel
theorem dL_law_319 : decode bL_law 319 = .ok (.aload_n 0, 1) := by decide +kernel
theorem dL_law_320 : decode bL_law 320 = .ok (.iload_n 3, 1) := by decide +kernel
theorem dL_law_321 : decode bL_law 321 = .ok (.iconst 3, 1) := by decide +kernel
theorem dL_law_322 : decode bL_law 322 = .ok (.iadd, 1) := by decide +kernel
theorem dL_law_323 : decode bL_law 323 = .ok (.iaload, 1) := by decide +kernel
theorem dL_law_324 : decode bL_law 324 = .ok (.aload_n 0, 1) := by decide +kernel
theorem dL_law_325 : decode bL_law 325 = .ok (.iload_n 3, 1) := by decide +kernel
theorem dL_law_326 : decode bL_law 326 = .ok (.iconst 4, 1) := by decide +kernel
theorem dL_law_327 : decode bL_law 327 = .ok (.iadd, 1) := by decide +kernel
theorem dL_law_328 : decode bL_law 328 = .ok (.iaload, 1) := by decide +kernel
theorem dL_law_329 : decode bL_law 329 = .ok (.ifCond .eq 7, 3) := by decide +kernel
theorem dL_law_332 : decode bL_law 332 = .ok (.iconst 1, 1) := by decide +kernel
theorem dL_law_333 : decode bL_law 333 = .ok (.goto 4, 3) := by decide +kernel
theorem dL_law_336 : decode bL_law 336 = .ok (.iconst 0, 1) := by decide +kernel
theorem dL_law_337 : decode bL_law 337 = .ok (.aload_n 0, 1) := by decide +kernel
theorem dL_law_338 : decode bL_law 338 = .ok (.iload_n 3, 1) := by decide +kernel
theorem dL_law_339 : decode bL_law 339 = .ok (.iconst 5, 1) := by decide +kernel
theorem dL_law_340 : decode bL_law 340 = .ok (.iadd, 1) := by decide +kernel
theorem dL_law_341 : decode bL_law 341 = .ok (.iaload, 1) := by decide +kernel
theorem dL_law_342 : decode bL_law 342 = .ok (.ifCond .eq 7, 3) := by decide +kernel
theorem dL_law_345 : decode bL_law 345 = .ok (.iconst 1, 1) := by decide +kernel
theorem dL_law_346 : decode bL_law 346 = .ok (.goto 4, 3) := by decide +kernel
theorem dL_law_349 : decode bL_law 349 = .ok (.iconst 0, 1) := by decide +kernel
theorem dL_law_350 : decode bL_law 350 = .ok (.aload_n 0, 1) := by decide +kernel
theorem dL_law_351 : decode bL_law 351 = .ok (.iload_n 3, 1) := by decide +kernel
theorem dL_law_352 : decode bL_law 352 = .ok (.bipush 6, 2) := by decide +kernel
theorem dL_law_354 : decode bL_law 354 = .ok (.iadd, 1) := by decide +kernel
theorem dL_law_355 : decode bL_law 355 = .ok (.iaload, 1) := by decide +kernel
theorem dL_law_356 : decode bL_law 356 = .ok (.invokevirtual 32, 3) := by decide +kernel
theorem dL_law_359 : decode bL_law 359 = .ok (.if_icmp .eq 289, 3) := by decide +kernel
theorem dL_law_362 : decode bL_law 362 = .ok (.iconst 0, 1) := by decide +kernel
theorem dL_law_363 : decode bL_law 363 = .ok (.ireturn, 1) := by decide +kernel
theorem dL_law_364 : decode bL_law 364 = .ok (.aload_n 1, 1) := by decide +kernel
theorem dL_law_365 : decode bL_law 365 = .ok (.aload_n 0, 1) := by decide +kernel
theorem dL_law_366 : decode bL_law 366 = .ok (.iload_n 3, 1) := by decide +kernel
theorem dL_law_367 : decode bL_law 367 = .ok (.iconst 1, 1) := by decide +kernel
theorem dL_law_368 : decode bL_law 368 = .ok (.iadd, 1) := by decide +kernel
theorem dL_law_369 : decode bL_law 369 = .ok (.iaload, 1) := by decide +kernel
theorem dL_law_370 : decode bL_law 370 = .ok (.aload_n 0, 1) := by decide +kernel
theorem dL_law_371 : decode bL_law 371 = .ok (.iload_n 3, 1) := by decide +kernel
theorem dL_law_372 : decode bL_law 372 = .ok (.iconst 2, 1) := by decide +kernel
theorem dL_law_373 : decode bL_law 373 = .ok (.iadd, 1) := by decide +kernel
theorem dL_law_374 : decode bL_law 374 = .ok (.iaload, 1) := by decide +kernel
theorem dL_law_375 : decode bL_law 375 = .ok (.aload_n 0, 1) := by decide +kernel
theorem dL_law_376 : decode bL_law 376 = .ok (.iload_n 3, 1) := by decide +kernel
theorem dL_law_377 : decode bL_law 377 = .ok (.iconst 3, 1) := by decide +kernel
theorem dL_law_378 : decode bL_law 378 = .ok (.iadd, 1) := by decide +kernel
theorem dL_law_379 : decode bL_law 379 = .ok (.iaload, 1) := by decide +kernel
theorem dL_law_380 : decode bL_law 380 = .ok (.invokevirtual 33, 3) := by decide +kernel
theorem dL_law_383 : decode bL_law 383 = .ok (.aload_n 2, 1) := by decide +kernel
theorem dL_law_384 : decode bL_law 384 = .ok (.aload_n 0, 1) := by decide +kernel
theorem dL_law_385 : decode bL_law 385 = .ok (.iload_n 3, 1) := by decide +kernel
theorem dL_law_386 : decode bL_law 386 = .ok (.iconst 1, 1) := by decide +kernel
theorem dL_law_387 : decode bL_law 387 = .ok (.iadd, 1) := by decide +kernel
theorem dL_law_388 : decode bL_law 388 = .ok (.iaload, 1) := by decide +kernel
theorem dL_law_389 : decode bL_law 389 = .ok (.aload_n 0, 1) := by decide +kernel
theorem dL_law_390 : decode bL_law 390 = .ok (.iload_n 3, 1) := by decide +kernel
theorem dL_law_391 : decode bL_law 391 = .ok (.iconst 2, 1) := by decide +kernel
theorem dL_law_392 : decode bL_law 392 = .ok (.iadd, 1) := by decide +kernel
theorem dL_law_393 : decode bL_law 393 = .ok (.iaload, 1) := by decide +kernel
theorem dL_law_394 : decode bL_law 394 = .ok (.aload_n 0, 1) := by decide +kernel
theorem dL_law_395 : decode bL_law 395 = .ok (.iload_n 3, 1) := by decide +kernel
theorem dL_law_396 : decode bL_law 396 = .ok (.iconst 3, 1) := by decide +kernel
theorem dL_law_397 : decode bL_law 397 = .ok (.iadd, 1) := by decide +kernel
theorem dL_law_398 : decode bL_law 398 = .ok (.iaload, 1) := by decide +kernel
theorem dL_law_399 : decode bL_law 399 = .ok (.invokevirtual 37, 3) := by decide +kernel
theorem dL_law_402 : decode bL_law 402 = .ok (.if_icmp .eq 246, 3) := by decide +kernel
theorem dL_law_405 : decode bL_law 405 = .ok (.iconst 0, 1) := by decide +kernel
theorem dL_law_406 : decode bL_law 406 = .ok (.ireturn, 1) := by decide +kernel
theorem dL_law_407 : decode bL_law 407 = .ok (.aload_n 1, 1) := by decide +kernel
theorem dL_law_408 : decode bL_law 408 = .ok (.aload_n 0, 1) := by decide +kernel
theorem dL_law_409 : decode bL_law 409 = .ok (.iload_n 3, 1) := by decide +kernel
theorem dL_law_410 : decode bL_law 410 = .ok (.iconst 1, 1) := by decide +kernel
theorem dL_law_411 : decode bL_law 411 = .ok (.iadd, 1) := by decide +kernel
theorem dL_law_412 : decode bL_law 412 = .ok (.iaload, 1) := by decide +kernel
theorem dL_law_413 : decode bL_law 413 = .ok (.aload_n 0, 1) := by decide +kernel
theorem dL_law_414 : decode bL_law 414 = .ok (.iload_n 3, 1) := by decide +kernel
theorem dL_law_415 : decode bL_law 415 = .ok (.iconst 2, 1) := by decide +kernel
theorem dL_law_416 : decode bL_law 416 = .ok (.iadd, 1) := by decide +kernel
theorem dL_law_417 : decode bL_law 417 = .ok (.iaload, 1) := by decide +kernel
theorem dL_law_418 : decode bL_law 418 = .ok (.aload_n 0, 1) := by decide +kernel
theorem dL_law_419 : decode bL_law 419 = .ok (.iload_n 3, 1) := by decide +kernel
theorem dL_law_420 : decode bL_law 420 = .ok (.iconst 3, 1) := by decide +kernel
theorem dL_law_421 : decode bL_law 421 = .ok (.iadd, 1) := by decide +kernel
theorem dL_law_422 : decode bL_law 422 = .ok (.iaload, 1) := by decide +kernel
theorem dL_law_423 : decode bL_law 423 = .ok (.aload_n 0, 1) := by decide +kernel
theorem dL_law_424 : decode bL_law 424 = .ok (.iload_n 3, 1) := by decide +kernel
theorem dL_law_425 : decode bL_law 425 = .ok (.iconst 4, 1) := by decide +kernel
theorem dL_law_426 : decode bL_law 426 = .ok (.iadd, 1) := by decide +kernel
theorem dL_law_427 : decode bL_law 427 = .ok (.iaload, 1) := by decide +kernel
theorem dL_law_428 : decode bL_law 428 = .ok (.aload_n 0, 1) := by decide +kernel
theorem dL_law_429 : decode bL_law 429 = .ok (.iload_n 3, 1) := by decide +kernel
theorem dL_law_430 : decode bL_law 430 = .ok (.iconst 5, 1) := by decide +kernel
theorem dL_law_431 : decode bL_law 431 = .ok (.iadd, 1) := by decide +kernel
theorem dL_law_432 : decode bL_law 432 = .ok (.iaload, 1) := by decide +kernel
theorem dL_law_433 : decode bL_law 433 = .ok (.invokevirtual 38, 3) := by decide +kernel
theorem dL_law_436 : decode bL_law 436 = .ok (.aload_n 2, 1) := by decide +kernel
theorem dL_law_437 : decode bL_law 437 = .ok (.aload_n 0, 1) := by decide +kernel
theorem dL_law_438 : decode bL_law 438 = .ok (.iload_n 3, 1) := by decide +kernel
theorem dL_law_439 : decode bL_law 439 = .ok (.iconst 1, 1) := by decide +kernel
theorem dL_law_440 : decode bL_law 440 = .ok (.iadd, 1) := by decide +kernel
theorem dL_law_441 : decode bL_law 441 = .ok (.iaload, 1) := by decide +kernel
theorem dL_law_442 : decode bL_law 442 = .ok (.aload_n 0, 1) := by decide +kernel
theorem dL_law_443 : decode bL_law 443 = .ok (.iload_n 3, 1) := by decide +kernel
theorem dL_law_444 : decode bL_law 444 = .ok (.iconst 2, 1) := by decide +kernel
theorem dL_law_445 : decode bL_law 445 = .ok (.iadd, 1) := by decide +kernel
theorem dL_law_446 : decode bL_law 446 = .ok (.iaload, 1) := by decide +kernel
theorem dL_law_447 : decode bL_law 447 = .ok (.aload_n 0, 1) := by decide +kernel
theorem dL_law_448 : decode bL_law 448 = .ok (.iload_n 3, 1) := by decide +kernel
theorem dL_law_449 : decode bL_law 449 = .ok (.iconst 3, 1) := by decide +kernel
theorem dL_law_450 : decode bL_law 450 = .ok (.iadd, 1) := by decide +kernel
theorem dL_law_451 : decode bL_law 451 = .ok (.iaload, 1) := by decide +kernel
theorem dL_law_452 : decode bL_law 452 = .ok (.aload_n 0, 1) := by decide +kernel
theorem dL_law_453 : decode bL_law 453 = .ok (.iload_n 3, 1) := by decide +kernel
theorem dL_law_454 : decode bL_law 454 = .ok (.iconst 4, 1) := by decide +kernel
theorem dL_law_455 : decode bL_law 455 = .ok (.iadd, 1) := by decide +kernel
theorem dL_law_456 : decode bL_law 456 = .ok (.iaload, 1) := by decide +kernel
theorem dL_law_457 : decode bL_law 457 = .ok (.aload_n 0, 1) := by decide +kernel
theorem dL_law_458 : decode bL_law 458 = .ok (.iload_n 3, 1) := by decide +kernel
theorem dL_law_459 : decode bL_law 459 = .ok (.iconst 5, 1) := by decide +kernel
theorem dL_law_460 : decode bL_law 460 = .ok (.iadd, 1) := by decide +kernel
theorem dL_law_461 : decode bL_law 461 = .ok (.iaload, 1) := by decide +kernel
theorem dL_law_462 : decode bL_law 462 = .ok (.invokevirtual 42, 3) := by decide +kernel
theorem dL_law_465 : decode bL_law 465 = .ok (.if_icmp .eq 183, 3) := by decide +kernel
theorem dL_law_468 : decode bL_law 468 = .ok (.iconst 0, 1) := by decide +kernel
theorem dL_law_469 : decode bL_law 469 = .ok (.ireturn, 1) := by decide +kernel
theorem dL_law_470 : decode bL_law 470 = .ok (.aload_n 1, 1) := by decide +kernel
theorem dL_law_471 : decode bL_law 471 = .ok (.invokevirtual 43, 3) := by decide +kernel
theorem dL_law_474 : decode bL_law 474 = .ok (.aload_n 2, 1) := by decide +kernel
theorem dL_law_475 : decode bL_law 475 = .ok (.invokevirtual 47, 3) := by decide +kernel
theorem dL_law_478 : decode bL_law 478 = .ok (.if_icmp .eq 170, 3) := by decide +kernel
theorem dL_law_481 : decode bL_law 481 = .ok (.iconst 0, 1) := by decide +kernel
theorem dL_law_482 : decode bL_law 482 = .ok (.ireturn, 1) := by decide +kernel
theorem dL_law_483 : decode bL_law 483 = .ok (.aload_n 1, 1) := by decide +kernel
theorem dL_law_484 : decode bL_law 484 = .ok (.aload_n 0, 1) := by decide +kernel
theorem dL_law_485 : decode bL_law 485 = .ok (.iload_n 3, 1) := by decide +kernel
theorem dL_law_486 : decode bL_law 486 = .ok (.iconst 1, 1) := by decide +kernel
theorem dL_law_487 : decode bL_law 487 = .ok (.iadd, 1) := by decide +kernel
theorem dL_law_488 : decode bL_law 488 = .ok (.iaload, 1) := by decide +kernel
theorem dL_law_489 : decode bL_law 489 = .ok (.aload_n 0, 1) := by decide +kernel
theorem dL_law_490 : decode bL_law 490 = .ok (.iload_n 3, 1) := by decide +kernel
theorem dL_law_491 : decode bL_law 491 = .ok (.iconst 2, 1) := by decide +kernel
theorem dL_law_492 : decode bL_law 492 = .ok (.iadd, 1) := by decide +kernel
theorem dL_law_493 : decode bL_law 493 = .ok (.iaload, 1) := by decide +kernel
theorem dL_law_494 : decode bL_law 494 = .ok (.invokevirtual 48, 3) := by decide +kernel
theorem dL_law_497 : decode bL_law 497 = .ok (.aload_n 2, 1) := by decide +kernel
theorem dL_law_498 : decode bL_law 498 = .ok (.aload_n 0, 1) := by decide +kernel
theorem dL_law_499 : decode bL_law 499 = .ok (.iload_n 3, 1) := by decide +kernel
theorem dL_law_500 : decode bL_law 500 = .ok (.iconst 1, 1) := by decide +kernel
theorem dL_law_501 : decode bL_law 501 = .ok (.iadd, 1) := by decide +kernel
theorem dL_law_502 : decode bL_law 502 = .ok (.iaload, 1) := by decide +kernel
theorem dL_law_503 : decode bL_law 503 = .ok (.aload_n 0, 1) := by decide +kernel
theorem dL_law_504 : decode bL_law 504 = .ok (.iload_n 3, 1) := by decide +kernel
theorem dL_law_505 : decode bL_law 505 = .ok (.iconst 2, 1) := by decide +kernel
theorem dL_law_506 : decode bL_law 506 = .ok (.iadd, 1) := by decide +kernel
theorem dL_law_507 : decode bL_law 507 = .ok (.iaload, 1) := by decide +kernel
theorem dL_law_508 : decode bL_law 508 = .ok (.invokevirtual 51, 3) := by decide +kernel
theorem dL_law_511 : decode bL_law 511 = .ok (.if_icmp .eq 137, 3) := by decide +kernel
theorem dL_law_514 : decode bL_law 514 = .ok (.iconst 0, 1) := by decide +kernel
theorem dL_law_515 : decode bL_law 515 = .ok (.ireturn, 1) := by decide +kernel
theorem dL_law_516 : decode bL_law 516 = .ok (.aload_n 1, 1) := by decide +kernel
theorem dL_law_517 : decode bL_law 517 = .ok (.aload_n 0, 1) := by decide +kernel
theorem dL_law_518 : decode bL_law 518 = .ok (.iload_n 3, 1) := by decide +kernel
theorem dL_law_519 : decode bL_law 519 = .ok (.iconst 1, 1) := by decide +kernel
theorem dL_law_520 : decode bL_law 520 = .ok (.iadd, 1) := by decide +kernel
theorem dL_law_521 : decode bL_law 521 = .ok (.iaload, 1) := by decide +kernel
theorem dL_law_522 : decode bL_law 522 = .ok (.aload_n 0, 1) := by decide +kernel
theorem dL_law_523 : decode bL_law 523 = .ok (.iload_n 3, 1) := by decide +kernel
theorem dL_law_524 : decode bL_law 524 = .ok (.iconst 2, 1) := by decide +kernel
theorem dL_law_525 : decode bL_law 525 = .ok (.iadd, 1) := by decide +kernel
theorem dL_law_526 : decode bL_law 526 = .ok (.iaload, 1) := by decide +kernel
theorem dL_law_527 : decode bL_law 527 = .ok (.invokevirtual 52, 3) := by decide +kernel
theorem dL_law_530 : decode bL_law 530 = .ok (.aload_n 2, 1) := by decide +kernel
theorem dL_law_531 : decode bL_law 531 = .ok (.aload_n 0, 1) := by decide +kernel
theorem dL_law_532 : decode bL_law 532 = .ok (.iload_n 3, 1) := by decide +kernel
theorem dL_law_533 : decode bL_law 533 = .ok (.iconst 1, 1) := by decide +kernel
theorem dL_law_534 : decode bL_law 534 = .ok (.iadd, 1) := by decide +kernel
theorem dL_law_535 : decode bL_law 535 = .ok (.iaload, 1) := by decide +kernel
theorem dL_law_536 : decode bL_law 536 = .ok (.aload_n 0, 1) := by decide +kernel
theorem dL_law_537 : decode bL_law 537 = .ok (.iload_n 3, 1) := by decide +kernel
theorem dL_law_538 : decode bL_law 538 = .ok (.iconst 2, 1) := by decide +kernel
theorem dL_law_539 : decode bL_law 539 = .ok (.iadd, 1) := by decide +kernel
theorem dL_law_540 : decode bL_law 540 = .ok (.iaload, 1) := by decide +kernel
theorem dL_law_541 : decode bL_law 541 = .ok (.invokevirtual 55, 3) := by decide +kernel
theorem dL_law_544 : decode bL_law 544 = .ok (.if_icmp .eq 104, 3) := by decide +kernel
theorem dL_law_547 : decode bL_law 547 = .ok (.iconst 0, 1) := by decide +kernel
theorem dL_law_548 : decode bL_law 548 = .ok (.ireturn, 1) := by decide +kernel
theorem dL_law_549 : decode bL_law 549 = .ok (.aload_n 1, 1) := by decide +kernel
theorem dL_law_550 : decode bL_law 550 = .ok (.aload_n 0, 1) := by decide +kernel
theorem dL_law_551 : decode bL_law 551 = .ok (.iload_n 3, 1) := by decide +kernel
theorem dL_law_552 : decode bL_law 552 = .ok (.iconst 1, 1) := by decide +kernel
theorem dL_law_553 : decode bL_law 553 = .ok (.iadd, 1) := by decide +kernel
theorem dL_law_554 : decode bL_law 554 = .ok (.iaload, 1) := by decide +kernel
theorem dL_law_555 : decode bL_law 555 = .ok (.aload_n 0, 1) := by decide +kernel
theorem dL_law_556 : decode bL_law 556 = .ok (.iload_n 3, 1) := by decide +kernel
theorem dL_law_557 : decode bL_law 557 = .ok (.iconst 2, 1) := by decide +kernel
theorem dL_law_558 : decode bL_law 558 = .ok (.iadd, 1) := by decide +kernel
theorem dL_law_559 : decode bL_law 559 = .ok (.iaload, 1) := by decide +kernel
theorem dL_law_560 : decode bL_law 560 = .ok (.invokevirtual 56, 3) := by decide +kernel
theorem dL_law_563 : decode bL_law 563 = .ok (.aload_n 2, 1) := by decide +kernel
theorem dL_law_564 : decode bL_law 564 = .ok (.aload_n 0, 1) := by decide +kernel
theorem dL_law_565 : decode bL_law 565 = .ok (.iload_n 3, 1) := by decide +kernel
theorem dL_law_566 : decode bL_law 566 = .ok (.iconst 1, 1) := by decide +kernel
theorem dL_law_567 : decode bL_law 567 = .ok (.iadd, 1) := by decide +kernel
theorem dL_law_568 : decode bL_law 568 = .ok (.iaload, 1) := by decide +kernel
theorem dL_law_569 : decode bL_law 569 = .ok (.aload_n 0, 1) := by decide +kernel
theorem dL_law_570 : decode bL_law 570 = .ok (.iload_n 3, 1) := by decide +kernel
theorem dL_law_571 : decode bL_law 571 = .ok (.iconst 2, 1) := by decide +kernel
theorem dL_law_572 : decode bL_law 572 = .ok (.iadd, 1) := by decide +kernel
theorem dL_law_573 : decode bL_law 573 = .ok (.iaload, 1) := by decide +kernel
theorem dL_law_574 : decode bL_law 574 = .ok (.invokevirtual 59, 3) := by decide +kernel
theorem dL_law_577 : decode bL_law 577 = .ok (.if_icmp .eq 71, 3) := by decide +kernel
theorem dL_law_580 : decode bL_law 580 = .ok (.iconst 0, 1) := by decide +kernel
theorem dL_law_581 : decode bL_law 581 = .ok (.ireturn, 1) := by decide +kernel
theorem dL_law_582 : decode bL_law 582 = .ok (.aload_n 1, 1) := by decide +kernel
theorem dL_law_583 : decode bL_law 583 = .ok (.aload_n 0, 1) := by decide +kernel
theorem dL_law_584 : decode bL_law 584 = .ok (.iload_n 3, 1) := by decide +kernel
theorem dL_law_585 : decode bL_law 585 = .ok (.iconst 1, 1) := by decide +kernel
theorem dL_law_586 : decode bL_law 586 = .ok (.iadd, 1) := by decide +kernel
theorem dL_law_587 : decode bL_law 587 = .ok (.iaload, 1) := by decide +kernel
theorem dL_law_588 : decode bL_law 588 = .ok (.aload_n 0, 1) := by decide +kernel
theorem dL_law_589 : decode bL_law 589 = .ok (.iload_n 3, 1) := by decide +kernel
theorem dL_law_590 : decode bL_law 590 = .ok (.iconst 2, 1) := by decide +kernel
theorem dL_law_591 : decode bL_law 591 = .ok (.iadd, 1) := by decide +kernel
theorem dL_law_592 : decode bL_law 592 = .ok (.iaload, 1) := by decide +kernel
theorem dL_law_593 : decode bL_law 593 = .ok (.invokevirtual 60, 3) := by decide +kernel
theorem dL_law_596 : decode bL_law 596 = .ok (.aload_n 2, 1) := by decide +kernel
theorem dL_law_597 : decode bL_law 597 = .ok (.aload_n 0, 1) := by decide +kernel
theorem dL_law_598 : decode bL_law 598 = .ok (.iload_n 3, 1) := by decide +kernel
theorem dL_law_599 : decode bL_law 599 = .ok (.iconst 1, 1) := by decide +kernel
theorem dL_law_600 : decode bL_law 600 = .ok (.iadd, 1) := by decide +kernel
theorem dL_law_601 : decode bL_law 601 = .ok (.iaload, 1) := by decide +kernel
theorem dL_law_602 : decode bL_law 602 = .ok (.aload_n 0, 1) := by decide +kernel
theorem dL_law_603 : decode bL_law 603 = .ok (.iload_n 3, 1) := by decide +kernel
theorem dL_law_604 : decode bL_law 604 = .ok (.iconst 2, 1) := by decide +kernel
theorem dL_law_605 : decode bL_law 605 = .ok (.iadd, 1) := by decide +kernel
theorem dL_law_606 : decode bL_law 606 = .ok (.iaload, 1) := by decide +kernel
theorem dL_law_607 : decode bL_law 607 = .ok (.invokevirtual 63, 3) := by decide +kernel
theorem dL_law_610 : decode bL_law 610 = .ok (.if_icmp .eq 38, 3) := by decide +kernel
theorem dL_law_613 : decode bL_law 613 = .ok (.iconst 0, 1) := by decide +kernel
theorem dL_law_614 : decode bL_law 614 = .ok (.ireturn, 1) := by decide +kernel
theorem dL_law_615 : decode bL_law 615 = .ok (.aload_n 1, 1) := by decide +kernel
theorem dL_law_616 : decode bL_law 616 = .ok (.aload_n 0, 1) := by decide +kernel
theorem dL_law_617 : decode bL_law 617 = .ok (.iload_n 3, 1) := by decide +kernel
theorem dL_law_618 : decode bL_law 618 = .ok (.iconst 1, 1) := by decide +kernel
theorem dL_law_619 : decode bL_law 619 = .ok (.iadd, 1) := by decide +kernel
theorem dL_law_620 : decode bL_law 620 = .ok (.iaload, 1) := by decide +kernel
theorem dL_law_621 : decode bL_law 621 = .ok (.aload_n 0, 1) := by decide +kernel
theorem dL_law_622 : decode bL_law 622 = .ok (.iload_n 3, 1) := by decide +kernel
theorem dL_law_623 : decode bL_law 623 = .ok (.iconst 2, 1) := by decide +kernel
theorem dL_law_624 : decode bL_law 624 = .ok (.iadd, 1) := by decide +kernel
theorem dL_law_625 : decode bL_law 625 = .ok (.iaload, 1) := by decide +kernel
theorem dL_law_626 : decode bL_law 626 = .ok (.invokevirtual 64, 3) := by decide +kernel
theorem dL_law_629 : decode bL_law 629 = .ok (.aload_n 2, 1) := by decide +kernel
theorem dL_law_630 : decode bL_law 630 = .ok (.aload_n 0, 1) := by decide +kernel
theorem dL_law_631 : decode bL_law 631 = .ok (.iload_n 3, 1) := by decide +kernel
theorem dL_law_632 : decode bL_law 632 = .ok (.iconst 1, 1) := by decide +kernel
theorem dL_law_633 : decode bL_law 633 = .ok (.iadd, 1) := by decide +kernel
theorem dL_law_634 : decode bL_law 634 = .ok (.iaload, 1) := by decide +kernel
theorem dL_law_635 : decode bL_law 635 = .ok (.aload_n 0, 1) := by decide +kernel
theorem dL_law_636 : decode bL_law 636 = .ok (.iload_n 3, 1) := by decide +kernel
theorem dL_law_637 : decode bL_law 637 = .ok (.iconst 2, 1) := by decide +kernel
theorem dL_law_638 : decode bL_law 638 = .ok (.iadd, 1) := by decide +kernel
theorem dL_law_639 : decode bL_law 639 = .ok (.iaload, 1) := by decide +kernel
theorem dL_law_640 : decode bL_law 640 = .ok (.invokevirtual 67, 3) := by decide +kernel
theorem dL_law_643 : decode bL_law 643 = .ok (.if_icmp .eq 5, 3) := by decide +kernel
theorem dL_law_646 : decode bL_law 646 = .ok (.iconst 0, 1) := by decide +kernel
theorem dL_law_647 : decode bL_law 647 = .ok (.ireturn, 1) := by decide +kernel
theorem dL_law_648 : decode bL_law 648 = .ok (.iinc 3 7, 3) := by decide +kernel
theorem dL_law_651 : decode bL_law 651 = .ok (.goto (-633), 3) := by decide +kernel
theorem dL_law_654 : decode bL_law 654 = .ok (.iconst 1, 1) := by decide +kernel
theorem dL_law_655 : decode bL_law 655 = .ok (.ireturn, 1) := by decide +kernel
