theorem dL_hangs_149 : decode cL_hangs 149 = .ok (.iconst 3, 1) := by decide +kernel
theorem dL_hangs_150 : decode cL_hangs 150 = .ok (.if_icmp .ne 7, 3) := by decide +kernel
theorem dL_hangs_153 : decode cL_hangs 153 = .ok (.iconst 1, 1) := by decide +kernel
theorem dL_hangs_154 : decode cL_hangs 154 = .ok (.goto 4, 3) := by decide +kernel
theorem dL_hangs_157 : decode cL_hangs 157 = .ok (.iconst 0, 1) := by decide +kernel
theorem dL_hangs_158 : decode cL_hangs 158 = .ok (.istore 6, 2) := by decide +kernel
theorem dL_hangs_160 : decode cL_hangs 160 = .ok (.iload 9, 2) := by decide +kernel
theorem dL_hangs_162 : decode cL_hangs 162 = .ok (.ifCond .lt 114, 3) := by decide +kernel
theorem dL_hangs_165 : decode cL_hangs 165 = .ok (.iload 9, 2) := by decide +kernel
theorem dL_hangs_167 : decode cL_hangs 167 = .ok (.iconst 4, 1) := by decide +kernel
theorem dL_hangs_168 : decode cL_hangs 168 = .ok (.if_icmp .ge 108, 3) := by decide +kernel
theorem dL_hangs_171 : decode cL_hangs 171 = .ok (.aload_n 0, 1) := by decide +kernel
theorem dL_hangs_172 : decode cL_hangs 172 = .ok (.iload 8, 2) := by decide +kernel
theorem dL_hangs_174 : decode cL_hangs 174 = .ok (.invokevirtual 86, 3) := by decide +kernel
theorem dL_hangs_177 : decode cL_hangs 177 = .ok (.ifCond .lt 99, 3) := by decide +kernel
theorem dL_hangs_180 : decode cL_hangs 180 = .ok (.aload_n 0, 1) := by decide +kernel
theorem dL_hangs_181 : decode cL_hangs 181 = .ok (.iload 8, 2) := by decide +kernel
theorem dL_hangs_183 : decode cL_hangs 183 = .ok (.invokevirtual 86, 3) := by decide +kernel
theorem dL_hangs_186 : decode cL_hangs 186 = .ok (.bipush 49, 2) := by decide +kernel
theorem dL_hangs_188 : decode cL_hangs 188 = .ok (.if_icmp .ge 88, 3) := by decide +kernel
theorem dL_hangs_191 : decode cL_hangs 191 = .ok (.aload_n 0, 1) := by decide +kernel
theorem dL_hangs_192 : decode cL_hangs 192 = .ok (.iload 8, 2) := by decide +kernel
theorem dL_hangs_194 : decode cL_hangs 194 = .ok (.invokevirtual 89, 3) := by decide +kernel
theorem dL_hangs_197 : decode cL_hangs 197 = .ok (.ifCond .lt 79, 3) := by decide +kernel
theorem dL_hangs_200 : decode cL_hangs 200 = .ok (.aload_n 0, 1) := by decide +kernel
theorem dL_hangs_201 : decode cL_hangs 201 = .ok (.iload 8, 2) := by decide +kernel
theorem dL_hangs_203 : decode cL_hangs 203 = .ok (.invokevirtual 89, 3) := by decide +kernel
theorem dL_hangs_206 : decode cL_hangs 206 = .ok (.aload_n 0, 1) := by decide +kernel
theorem dL_hangs_207 : decode cL_hangs 207 = .ok (.iload 8, 2) := by decide +kernel
theorem dL_hangs_209 : decode cL_hangs 209 = .ok (.invokevirtual 83, 3) := by decide +kernel
theorem dL_hangs_212 : decode cL_hangs 212 = .ok (.if_icmp .gt 64, 3) := by decide +kernel
theorem dL_hangs_215 : decode cL_hangs 215 = .ok (.aload_n 0, 1) := by decide +kernel
theorem dL_hangs_216 : decode cL_hangs 216 = .ok (.iload 8, 2) := by decide +kernel
theorem dL_hangs_218 : decode cL_hangs 218 = .ok (.invokevirtual 92, 3) := by decide +kernel
theorem dL_hangs_221 : decode cL_hangs 221 = .ok (.ifCond .lt 55, 3) := by decide +kernel
theorem dL_hangs_224 : decode cL_hangs 224 = .ok (.aload_n 0, 1) := by decide +kernel
theorem dL_hangs_225 : decode cL_hangs 225 = .ok (.iload 8, 2) := by decide +kernel
theorem dL_hangs_227 : decode cL_hangs 227 = .ok (.invokevirtual 92, 3) := by decide +kernel
theorem dL_hangs_230 : decode cL_hangs 230 = .ok (.iload_n 1, 1) := by decide +kernel
theorem dL_hangs_231 : decode cL_hangs 231 = .ok (.if_icmp .gt 45, 3) := by decide +kernel
theorem dL_hangs_234 : decode cL_hangs 234 = .ok (.aload_n 0, 1) := by decide +kernel
theorem dL_hangs_235 : decode cL_hangs 235 = .ok (.iload 8, 2) := by decide +kernel
theorem dL_hangs_237 : decode cL_hangs 237 = .ok (.iconst 0, 1) := by decide +kernel
theorem dL_hangs_238 : decode cL_hangs 238 = .ok (.invokevirtual 95, 3) := by decide +kernel
theorem dL_hangs_241 : decode cL_hangs 241 = .ok (.sipush (-32768), 3) := by decide +kernel
theorem dL_hangs_244 : decode cL_hangs 244 = .ok (.if_icmp .lt 32, 3) := by decide +kernel
theorem dL_hangs_247 : decode cL_hangs 247 = .ok (.aload_n 0, 1) := by decide +kernel
theorem dL_hangs_248 : decode cL_hangs 248 = .ok (.iload 8, 2) := by decide +kernel
theorem dL_hangs_250 : decode cL_hangs 250 = .ok (.iconst 3, 1) := by decide +kernel
theorem dL_hangs_251 : decode cL_hangs 251 = .ok (.invokevirtual 95, 3) := by decide +kernel
theorem dL_hangs_254 : decode cL_hangs 254 = .ok (.sipush 32767, 3) := by decide +kernel
theorem dL_hangs_257 : decode cL_hangs 257 = .ok (.if_icmp .gt 19, 3) := by decide +kernel
theorem dL_hangs_260 : decode cL_hangs 260 = .ok (.aload_n 0, 1) := by decide +kernel
theorem dL_hangs_261 : decode cL_hangs 261 = .ok (.iload 8, 2) := by decide +kernel
theorem dL_hangs_263 : decode cL_hangs 263 = .ok (.iconst 4, 1) := by decide +kernel
theorem dL_hangs_264 : decode cL_hangs 264 = .ok (.invokevirtual 95, 3) := by decide +kernel
theorem dL_hangs_267 : decode cL_hangs 267 = .ok (.ldc 98, 2) := by decide +kernel
theorem dL_hangs_269 : decode cL_hangs 269 = .ok (.if_icmp .ne 7, 3) := by decide +kernel
theorem dL_hangs_272 : decode cL_hangs 272 = .ok (.iconst 1, 1) := by decide +kernel
theorem dL_hangs_273 : decode cL_hangs 273 = .ok (.goto 4, 3) := by decide +kernel
theorem dL_hangs_276 : decode cL_hangs 276 = .ok (.iconst 0, 1) := by decide +kernel
theorem dL_hangs_277 : decode cL_hangs 277 = .ok (.istore 7, 2) := by decide +kernel
theorem dL_hangs_279 : decode cL_hangs 279 = .ok (.iinc 8 1, 3) := by decide +kernel
theorem dL_hangs_282 : decode cL_hangs 282 = .ok (.goto (-203), 3) := by decide +kernel
theorem dL_hangs_285 : decode cL_hangs 285 = .ok (.iload_n 3, 1) := by decide +kernel
theorem dL_hangs_286 : decode cL_hangs 286 = .ok (.bipush 16, 2) := by decide +kernel
theorem dL_hangs_288 : decode cL_hangs 288 = .ok (.if_icmp .ge 7, 3) := by decide +kernel
theorem dL_hangs_291 : decode cL_hangs 291 = .ok (.iload_n 3, 1) := by decide +kernel
theorem dL_hangs_292 : decode cL_hangs 292 = .ok (.goto 5, 3) := by decide +kernel
theorem dL_hangs_295 : decode cL_hangs 295 = .ok (.bipush 16, 2) := by decide +kernel
theorem dL_hangs_297 : decode cL_hangs 297 = .ok (.istore 8, 2) := by decide +kernel
theorem dL_hangs_299 : decode cL_hangs 299 = .ok (.iload_n 1, 1) := by decide +kernel
theorem dL_hangs_300 : decode cL_hangs 300 = .ok (.istore 9, 2) := by decide +kernel
theorem dL_hangs_302 : decode cL_hangs 302 = .ok (.iconst 0, 1) := by decide +kernel
theorem dL_hangs_303 : decode cL_hangs 303 = .ok (.istore 10, 2) := by decide +kernel
theorem dL_hangs_305 : decode cL_hangs 305 = .ok (.iload 10, 2) := by decide +kernel
theorem dL_hangs_307 : decode cL_hangs 307 = .ok (.bipush 16, 2) := by decide +kernel
theorem dL_hangs_309 : decode cL_hangs 309 = .ok (.if_icmp .ge 123, 3) := by decide +kernel
theorem dL_hangs_312 : decode cL_hangs 312 = .ok (.iload 7, 2) := by decide +kernel
theorem dL_hangs_314 : decode cL_hangs 314 = .ok (.ifCond .eq 118, 3) := by decide +kernel
theorem dL_hangs_317 : decode cL_hangs 317 = .ok (.aload_n 0, 1) := by decide +kernel
theorem dL_hangs_318 : decode cL_hangs 318 = .ok (.iload 10, 2) := by decide +kernel
theorem dL_hangs_320 : decode cL_hangs 320 = .ok (.iconst 0, 1) := by decide +kernel
theorem dL_hangs_321 : decode cL_hangs 321 = .ok (.invokevirtual 99, 3) := by decide +kernel
theorem dL_hangs_324 : decode cL_hangs 324 = .ok (.istore 11, 2) := by decide +kernel
theorem dL_hangs_326 : decode cL_hangs 326 = .ok (.iload 10, 2) := by decide +kernel
theorem dL_hangs_328 : decode cL_hangs 328 = .ok (.iload 8, 2) := by decide +kernel
theorem dL_hangs_330 : decode cL_hangs 330 = .ok (.if_icmp .ge 66, 3) := by decide +kernel
theorem dL_hangs_333 : decode cL_hangs 333 = .ok (.iload 11, 2) := by decide +kernel
theorem dL_hangs_335 : decode cL_hangs 335 = .ok (.ifCond .lt 57, 3) := by decide +kernel
theorem dL_hangs_338 : decode cL_hangs 338 = .ok (.iload 11, 2) := by decide +kernel
theorem dL_hangs_340 : decode cL_hangs 340 = .ok (.iload 9, 2) := by decide +kernel
theorem dL_hangs_342 : decode cL_hangs 342 = .ok (.if_icmp .ge 50, 3) := by decide +kernel
theorem dL_hangs_345 : decode cL_hangs 345 = .ok (.aload_n 0, 1) := by decide +kernel
theorem dL_hangs_346 : decode cL_hangs 346 = .ok (.iload 10, 2) := by decide +kernel
theorem dL_hangs_348 : decode cL_hangs 348 = .ok (.iconst 1, 1) := by decide +kernel
theorem dL_hangs_349 : decode cL_hangs 349 = .ok (.invokevirtual 99, 3) := by decide +kernel
theorem dL_hangs_352 : decode cL_hangs 352 = .ok (.ifCond .lt 40, 3) := by decide +kernel
theorem dL_hangs_355 : decode cL_hangs 355 = .ok (.aload_n 0, 1) := by decide +kernel
theorem dL_hangs_356 : decode cL_hangs 356 = .ok (.iload 10, 2) := by decide +kernel
theorem dL_hangs_358 : decode cL_hangs 358 = .ok (.iconst 1, 1) := by decide +kernel
theorem dL_hangs_359 : decode cL_hangs 359 = .ok (.invokevirtual 99, 3) := by decide +kernel
theorem dL_hangs_362 : decode cL_hangs 362 = .ok (.iconst 4, 1) := by decide +kernel
theorem dL_hangs_363 : decode cL_hangs 363 = .ok (.if_icmp .ge 29, 3) := by decide +kernel
theorem dL_hangs_366 : decode cL_hangs 366 = .ok (.aload_n 0, 1) := by decide +kernel
theorem dL_hangs_367 : decode cL_hangs 367 = .ok (.iload 10, 2) := by decide +kernel
theorem dL_hangs_369 : decode cL_hangs 369 = .ok (.iconst 2, 1) := by decide +kernel
theorem dL_hangs_370 : decode cL_hangs 370 = .ok (.invokevirtual 99, 3) := by decide +kernel
theorem dL_hangs_373 : decode cL_hangs 373 = .ok (.ifCond .lt 19, 3) := by decide +kernel
theorem dL_hangs_376 : decode cL_hangs 376 = .ok (.aload_n 0, 1) := by decide +kernel
