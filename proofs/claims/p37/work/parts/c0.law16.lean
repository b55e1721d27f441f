theorem dL_refuses_116 : decode cL_refuses 116 = .ok (.iconst 0, 1) := by decide +kernel
theorem dL_refuses_117 : decode cL_refuses 117 = .ok (.iconst 0, 1) := by decide +kernel
theorem dL_refuses_118 : decode cL_refuses 118 = .ok (.ldc 130, 2) := by decide +kernel
theorem dL_refuses_120 : decode cL_refuses 120 = .ok (.iload_n 1, 1) := by decide +kernel
theorem dL_refuses_121 : decode cL_refuses 121 = .ok (.isub, 1) := by decide +kernel
theorem dL_refuses_122 : decode cL_refuses 122 = .ok (.invokevirtual 37, 3) := by decide +kernel
theorem dL_refuses_125 : decode cL_refuses 125 = .ok (.ldc 129, 2) := by decide +kernel
theorem dL_refuses_127 : decode cL_refuses 127 = .ok (.if_icmp .ne 195, 3) := by decide +kernel
theorem dL_refuses_130 : decode cL_refuses 130 = .ok (.aload_n 0, 1) := by decide +kernel
theorem dL_refuses_131 : decode cL_refuses 131 = .ok (.bipush 32, 2) := by decide +kernel
theorem dL_refuses_133 : decode cL_refuses 133 = .ok (.iload_n 1, 1) := by decide +kernel
theorem dL_refuses_134 : decode cL_refuses 134 = .ok (.iadd, 1) := by decide +kernel
theorem dL_refuses_135 : decode cL_refuses 135 = .ok (.ldc 128, 2) := by decide +kernel
theorem dL_refuses_137 : decode cL_refuses 137 = .ok (.invokevirtual 41, 3) := by decide +kernel
theorem dL_refuses_140 : decode cL_refuses 140 = .ok (.ldc 98, 2) := by decide +kernel
theorem dL_refuses_142 : decode cL_refuses 142 = .ok (.if_icmp .ne 180, 3) := by decide +kernel
theorem dL_refuses_145 : decode cL_refuses 145 = .ok (.aload_n 0, 1) := by decide +kernel
theorem dL_refuses_146 : decode cL_refuses 146 = .ok (.iconst (-1), 1) := by decide +kernel
theorem dL_refuses_147 : decode cL_refuses 147 = .ok (.iload_n 1, 1) := by decide +kernel
theorem dL_refuses_148 : decode cL_refuses 148 = .ok (.isub, 1) := by decide +kernel
theorem dL_refuses_149 : decode cL_refuses 149 = .ok (.iconst 0, 1) := by decide +kernel
theorem dL_refuses_150 : decode cL_refuses 150 = .ok (.invokevirtual 41, 3) := by decide +kernel
theorem dL_refuses_153 : decode cL_refuses 153 = .ok (.ldc 98, 2) := by decide +kernel
theorem dL_refuses_155 : decode cL_refuses 155 = .ok (.if_icmp .ne 167, 3) := by decide +kernel
theorem dL_refuses_158 : decode cL_refuses 158 = .ok (.aload_n 0, 1) := by decide +kernel
theorem dL_refuses_159 : decode cL_refuses 159 = .ok (.iconst 0, 1) := by decide +kernel
theorem dL_refuses_160 : decode cL_refuses 160 = .ok (.ldc 36, 2) := by decide +kernel
theorem dL_refuses_162 : decode cL_refuses 162 = .ok (.iload_n 1, 1) := by decide +kernel
theorem dL_refuses_163 : decode cL_refuses 163 = .ok (.iadd, 1) := by decide +kernel
theorem dL_refuses_164 : decode cL_refuses 164 = .ok (.invokevirtual 41, 3) := by decide +kernel
theorem dL_refuses_167 : decode cL_refuses 167 = .ok (.ldc 129, 2) := by decide +kernel
theorem dL_refuses_169 : decode cL_refuses 169 = .ok (.if_icmp .ne 153, 3) := by decide +kernel
theorem dL_refuses_172 : decode cL_refuses 172 = .ok (.aload_n 0, 1) := by decide +kernel
theorem dL_refuses_173 : decode cL_refuses 173 = .ok (.bipush 8, 2) := by decide +kernel
theorem dL_refuses_175 : decode cL_refuses 175 = .ok (.iload_n 1, 1) := by decide +kernel
theorem dL_refuses_176 : decode cL_refuses 176 = .ok (.iadd, 1) := by decide +kernel
theorem dL_refuses_177 : decode cL_refuses 177 = .ok (.iconst 0, 1) := by decide +kernel
theorem dL_refuses_178 : decode cL_refuses 178 = .ok (.invokevirtual 44, 3) := by decide +kernel
theorem dL_refuses_181 : decode cL_refuses 181 = .ok (.ldc 98, 2) := by decide +kernel
theorem dL_refuses_183 : decode cL_refuses 183 = .ok (.if_icmp .ne 139, 3) := by decide +kernel
theorem dL_refuses_186 : decode cL_refuses 186 = .ok (.aload_n 0, 1) := by decide +kernel
theorem dL_refuses_187 : decode cL_refuses 187 = .ok (.iconst 0, 1) := by decide +kernel
theorem dL_refuses_188 : decode cL_refuses 188 = .ok (.iload_n 2, 1) := by decide +kernel
theorem dL_refuses_189 : decode cL_refuses 189 = .ok (.invokevirtual 44, 3) := by decide +kernel
theorem dL_refuses_192 : decode cL_refuses 192 = .ok (.ldc 98, 2) := by decide +kernel
theorem dL_refuses_194 : decode cL_refuses 194 = .ok (.if_icmp .ne 128, 3) := by decide +kernel
theorem dL_refuses_197 : decode cL_refuses 197 = .ok (.aload_n 0, 1) := by decide +kernel
theorem dL_refuses_198 : decode cL_refuses 198 = .ok (.iconst 2, 1) := by decide +kernel
theorem dL_refuses_199 : decode cL_refuses 199 = .ok (.iload_n 1, 1) := by decide +kernel
theorem dL_refuses_200 : decode cL_refuses 200 = .ok (.iadd, 1) := by decide +kernel
theorem dL_refuses_201 : decode cL_refuses 201 = .ok (.iconst 0, 1) := by decide +kernel
theorem dL_refuses_202 : decode cL_refuses 202 = .ok (.invokevirtual 47, 3) := by decide +kernel
theorem dL_refuses_205 : decode cL_refuses 205 = .ok (.ldc 98, 2) := by decide +kernel
theorem dL_refuses_207 : decode cL_refuses 207 = .ok (.if_icmp .ne 115, 3) := by decide +kernel
theorem dL_refuses_210 : decode cL_refuses 210 = .ok (.aload_n 0, 1) := by decide +kernel
theorem dL_refuses_211 : decode cL_refuses 211 = .ok (.iconst (-1), 1) := by decide +kernel
theorem dL_refuses_212 : decode cL_refuses 212 = .ok (.iconst 0, 1) := by decide +kernel
theorem dL_refuses_213 : decode cL_refuses 213 = .ok (.invokevirtual 47, 3) := by decide +kernel
theorem dL_refuses_216 : decode cL_refuses 216 = .ok (.ldc 98, 2) := by decide +kernel
theorem dL_refuses_218 : decode cL_refuses 218 = .ok (.if_icmp .ne 104, 3) := by decide +kernel
theorem dL_refuses_221 : decode cL_refuses 221 = .ok (.aload_n 0, 1) := by decide +kernel
theorem dL_refuses_222 : decode cL_refuses 222 = .ok (.iconst 0, 1) := by decide +kernel
theorem dL_refuses_223 : decode cL_refuses 223 = .ok (.bipush 21, 2) := by decide +kernel
theorem dL_refuses_225 : decode cL_refuses 225 = .ok (.iload_n 1, 1) := by decide +kernel
theorem dL_refuses_226 : decode cL_refuses 226 = .ok (.iadd, 1) := by decide +kernel
theorem dL_refuses_227 : decode cL_refuses 227 = .ok (.invokevirtual 47, 3) := by decide +kernel
theorem dL_refuses_230 : decode cL_refuses 230 = .ok (.ldc 129, 2) := by decide +kernel
theorem dL_refuses_232 : decode cL_refuses 232 = .ok (.if_icmp .ne 90, 3) := by decide +kernel
theorem dL_refuses_235 : decode cL_refuses 235 = .ok (.aload_n 0, 1) := by decide +kernel
theorem dL_refuses_236 : decode cL_refuses 236 = .ok (.iconst 1, 1) := by decide +kernel
theorem dL_refuses_237 : decode cL_refuses 237 = .ok (.iconst 3, 1) := by decide +kernel
theorem dL_refuses_238 : decode cL_refuses 238 = .ok (.invokevirtual 47, 3) := by decide +kernel
theorem dL_refuses_241 : decode cL_refuses 241 = .ok (.ldc 129, 2) := by decide +kernel
theorem dL_refuses_243 : decode cL_refuses 243 = .ok (.if_icmp .ne 79, 3) := by decide +kernel
theorem dL_refuses_246 : decode cL_refuses 246 = .ok (.aload_n 0, 1) := by decide +kernel
theorem dL_refuses_247 : decode cL_refuses 247 = .ok (.iconst 1, 1) := by decide +kernel
theorem dL_refuses_248 : decode cL_refuses 248 = .ok (.iconst (-1), 1) := by decide +kernel
theorem dL_refuses_249 : decode cL_refuses 249 = .ok (.invokevirtual 47, 3) := by decide +kernel
theorem dL_refuses_252 : decode cL_refuses 252 = .ok (.ldc 129, 2) := by decide +kernel
theorem dL_refuses_254 : decode cL_refuses 254 = .ok (.if_icmp .ne 68, 3) := by decide +kernel
theorem dL_refuses_257 : decode cL_refuses 257 = .ok (.aload_n 0, 1) := by decide +kernel
theorem dL_refuses_258 : decode cL_refuses 258 = .ok (.iload_n 3, 1) := by decide +kernel
theorem dL_refuses_259 : decode cL_refuses 259 = .ok (.iconst 1, 1) := by decide +kernel
theorem dL_refuses_260 : decode cL_refuses 260 = .ok (.invokevirtual 50, 3) := by decide +kernel
theorem dL_refuses_263 : decode cL_refuses 263 = .ok (.ldc 98, 2) := by decide +kernel
theorem dL_refuses_265 : decode cL_refuses 265 = .ok (.if_icmp .ne 57, 3) := by decide +kernel
theorem dL_refuses_268 : decode cL_refuses 268 = .ok (.aload_n 0, 1) := by decide +kernel
theorem dL_refuses_269 : decode cL_refuses 269 = .ok (.iconst 0, 1) := by decide +kernel
theorem dL_refuses_270 : decode cL_refuses 270 = .ok (.invokevirtual 68, 3) := by decide +kernel
theorem dL_refuses_273 : decode cL_refuses 273 = .ok (.ldc 129, 2) := by decide +kernel
theorem dL_refuses_275 : decode cL_refuses 275 = .ok (.if_icmp .ne 47, 3) := by decide +kernel
theorem dL_refuses_278 : decode cL_refuses 278 = .ok (.aload_n 0, 1) := by decide +kernel
theorem dL_refuses_279 : decode cL_refuses 279 = .ok (.sipush 201, 3) := by decide +kernel
theorem dL_refuses_282 : decode cL_refuses 282 = .ok (.iload_n 1, 1) := by decide +kernel
theorem dL_refuses_283 : decode cL_refuses 283 = .ok (.iadd, 1) := by decide +kernel
theorem dL_refuses_284 : decode cL_refuses 284 = .ok (.invokevirtual 68, 3) := by decide +kernel
theorem dL_refuses_287 : decode cL_refuses 287 = .ok (.ldc 129, 2) := by decide +kernel
theorem dL_refuses_289 : decode cL_refuses 289 = .ok (.if_icmp .ne 33, 3) := by decide +kernel
theorem dL_refuses_292 : decode cL_refuses 292 = .ok (.aload_n 0, 1) := by decide +kernel
theorem dL_refuses_293 : decode cL_refuses 293 = .ok (.bipush 31, 2) := by decide +kernel
theorem dL_refuses_295 : decode cL_refuses 295 = .ok (.iload_n 1, 1) := by decide +kernel
theorem dL_refuses_296 : decode cL_refuses 296 = .ok (.isub, 1) := by decide +kernel
theorem dL_refuses_297 : decode cL_refuses 297 = .ok (.invokevirtual 13, 3) := by decide +kernel
theorem dL_refuses_300 : decode cL_refuses 300 = .ok (.ldc 129, 2) := by decide +kernel
theorem dL_refuses_302 : decode cL_refuses 302 = .ok (.if_icmp .ne 20, 3) := by decide +kernel
theorem dL_refuses_305 : decode cL_refuses 305 = .ok (.aload_n 0, 1) := by decide +kernel
theorem dL_refuses_306 : decode cL_refuses 306 = .ok (.bipush 127, 2) := by decide +kernel
theorem dL_refuses_308 : decode cL_refuses 308 = .ok (.iload_n 1, 1) := by decide +kernel
theorem dL_refuses_309 : decode cL_refuses 309 = .ok (.iadd, 1) := by decide +kernel
theorem dL_refuses_310 : decode cL_refuses 310 = .ok (.invokevirtual 13, 3) := by decide +kernel
