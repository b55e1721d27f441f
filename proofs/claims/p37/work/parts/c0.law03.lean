theorem dL_acts_123 : decode cL_acts 123 = .ok (.irem, 1) := by decide +kernel
theorem dL_acts_124 : decode cL_acts 124 = .ok (.invokevirtual 28, 3) := by decide +kernel
theorem dL_acts_127 : decode cL_acts 127 = .ok (.ireturn, 1) := by decide +kernel
theorem dL_acts_128 : decode cL_acts 128 = .ok (.aload_n 0, 1) := by decide +kernel
theorem dL_acts_129 : decode cL_acts 129 = .ok (.iload_n 3, 1) := by decide +kernel
theorem dL_acts_130 : decode cL_acts 130 = .ok (.invokevirtual 32, 3) := by decide +kernel
theorem dL_acts_133 : decode cL_acts 133 = .ok (.ireturn, 1) := by decide +kernel
theorem dL_acts_134 : decode cL_acts 134 = .ok (.aload_n 0, 1) := by decide +kernel
theorem dL_acts_135 : decode cL_acts 135 = .ok (.iload_n 3, 1) := by decide +kernel
theorem dL_acts_136 : decode cL_acts 136 = .ok (.iload_n 2, 1) := by decide +kernel
theorem dL_acts_137 : decode cL_acts 137 = .ok (.iconst 4, 1) := by decide +kernel
theorem dL_acts_138 : decode cL_acts 138 = .ok (.idiv, 1) := by decide +kernel
theorem dL_acts_139 : decode cL_acts 139 = .ok (.iconst 4, 1) := by decide +kernel
theorem dL_acts_140 : decode cL_acts 140 = .ok (.irem, 1) := by decide +kernel
theorem dL_acts_141 : decode cL_acts 141 = .ok (.iload_n 2, 1) := by decide +kernel
theorem dL_acts_142 : decode cL_acts 142 = .ok (.bipush 16, 2) := by decide +kernel
theorem dL_acts_144 : decode cL_acts 144 = .ok (.idiv, 1) := by decide +kernel
theorem dL_acts_145 : decode cL_acts 145 = .ok (.ldc 35, 2) := by decide +kernel
theorem dL_acts_147 : decode cL_acts 147 = .ok (.irem, 1) := by decide +kernel
theorem dL_acts_148 : decode cL_acts 148 = .ok (.ldc 36, 2) := by decide +kernel
theorem dL_acts_150 : decode cL_acts 150 = .ok (.isub, 1) := by decide +kernel
theorem dL_acts_151 : decode cL_acts 151 = .ok (.invokevirtual 37, 3) := by decide +kernel
theorem dL_acts_154 : decode cL_acts 154 = .ok (.ireturn, 1) := by decide +kernel
theorem dL_acts_155 : decode cL_acts 155 = .ok (.aload_n 0, 1) := by decide +kernel
theorem dL_acts_156 : decode cL_acts 156 = .ok (.iload_n 2, 1) := by decide +kernel
theorem dL_acts_157 : decode cL_acts 157 = .ok (.bipush 32, 2) := by decide +kernel
theorem dL_acts_159 : decode cL_acts 159 = .ok (.irem, 1) := by decide +kernel
theorem dL_acts_160 : decode cL_acts 160 = .ok (.iload_n 2, 1) := by decide +kernel
theorem dL_acts_161 : decode cL_acts 161 = .ok (.bipush 32, 2) := by decide +kernel
theorem dL_acts_163 : decode cL_acts 163 = .ok (.idiv, 1) := by decide +kernel
theorem dL_acts_164 : decode cL_acts 164 = .ok (.ldc 35, 2) := by decide +kernel
theorem dL_acts_166 : decode cL_acts 166 = .ok (.irem, 1) := by decide +kernel
theorem dL_acts_167 : decode cL_acts 167 = .ok (.ldc 36, 2) := by decide +kernel
theorem dL_acts_169 : decode cL_acts 169 = .ok (.isub, 1) := by decide +kernel
theorem dL_acts_170 : decode cL_acts 170 = .ok (.invokevirtual 41, 3) := by decide +kernel
theorem dL_acts_173 : decode cL_acts 173 = .ok (.ireturn, 1) := by decide +kernel
theorem dL_acts_174 : decode cL_acts 174 = .ok (.aload_n 0, 1) := by decide +kernel
theorem dL_acts_175 : decode cL_acts 175 = .ok (.iload_n 2, 1) := by decide +kernel
theorem dL_acts_176 : decode cL_acts 176 = .ok (.bipush 8, 2) := by decide +kernel
theorem dL_acts_178 : decode cL_acts 178 = .ok (.irem, 1) := by decide +kernel
theorem dL_acts_179 : decode cL_acts 179 = .ok (.iload_n 2, 1) := by decide +kernel
theorem dL_acts_180 : decode cL_acts 180 = .ok (.bipush 8, 2) := by decide +kernel
theorem dL_acts_182 : decode cL_acts 182 = .ok (.idiv, 1) := by decide +kernel
theorem dL_acts_183 : decode cL_acts 183 = .ok (.iconst 4, 1) := by decide +kernel
theorem dL_acts_184 : decode cL_acts 184 = .ok (.irem, 1) := by decide +kernel
theorem dL_acts_185 : decode cL_acts 185 = .ok (.invokevirtual 44, 3) := by decide +kernel
theorem dL_acts_188 : decode cL_acts 188 = .ok (.ireturn, 1) := by decide +kernel
theorem dL_acts_189 : decode cL_acts 189 = .ok (.iload_n 2, 1) := by decide +kernel
theorem dL_acts_190 : decode cL_acts 190 = .ok (.iconst 2, 1) := by decide +kernel
theorem dL_acts_191 : decode cL_acts 191 = .ok (.irem, 1) := by decide +kernel
theorem dL_acts_192 : decode cL_acts 192 = .ok (.ifCond .ne 17, 3) := by decide +kernel
theorem dL_acts_195 : decode cL_acts 195 = .ok (.aload_n 0, 1) := by decide +kernel
theorem dL_acts_196 : decode cL_acts 196 = .ok (.iconst 0, 1) := by decide +kernel
theorem dL_acts_197 : decode cL_acts 197 = .ok (.iload_n 2, 1) := by decide +kernel
theorem dL_acts_198 : decode cL_acts 198 = .ok (.iconst 2, 1) := by decide +kernel
theorem dL_acts_199 : decode cL_acts 199 = .ok (.idiv, 1) := by decide +kernel
theorem dL_acts_200 : decode cL_acts 200 = .ok (.bipush 21, 2) := by decide +kernel
theorem dL_acts_202 : decode cL_acts 202 = .ok (.irem, 1) := by decide +kernel
theorem dL_acts_203 : decode cL_acts 203 = .ok (.invokevirtual 47, 3) := by decide +kernel
theorem dL_acts_206 : decode cL_acts 206 = .ok (.goto 13, 3) := by decide +kernel
theorem dL_acts_209 : decode cL_acts 209 = .ok (.aload_n 0, 1) := by decide +kernel
theorem dL_acts_210 : decode cL_acts 210 = .ok (.iconst 1, 1) := by decide +kernel
theorem dL_acts_211 : decode cL_acts 211 = .ok (.iload_n 2, 1) := by decide +kernel
theorem dL_acts_212 : decode cL_acts 212 = .ok (.iconst 2, 1) := by decide +kernel
theorem dL_acts_213 : decode cL_acts 213 = .ok (.idiv, 1) := by decide +kernel
theorem dL_acts_214 : decode cL_acts 214 = .ok (.iconst 3, 1) := by decide +kernel
theorem dL_acts_215 : decode cL_acts 215 = .ok (.irem, 1) := by decide +kernel
theorem dL_acts_216 : decode cL_acts 216 = .ok (.invokevirtual 47, 3) := by decide +kernel
theorem dL_acts_219 : decode cL_acts 219 = .ok (.ireturn, 1) := by decide +kernel
theorem dL_acts_220 : decode cL_acts 220 = .ok (.aload_n 0, 1) := by decide +kernel
theorem dL_acts_221 : decode cL_acts 221 = .ok (.iload_n 2, 1) := by decide +kernel
theorem dL_acts_222 : decode cL_acts 222 = .ok (.bipush 48, 2) := by decide +kernel
theorem dL_acts_224 : decode cL_acts 224 = .ok (.irem, 1) := by decide +kernel
theorem dL_acts_225 : decode cL_acts 225 = .ok (.iload_n 2, 1) := by decide +kernel
theorem dL_acts_226 : decode cL_acts 226 = .ok (.bipush 48, 2) := by decide +kernel
theorem dL_acts_228 : decode cL_acts 228 = .ok (.idiv, 1) := by decide +kernel
theorem dL_acts_229 : decode cL_acts 229 = .ok (.iconst 3, 1) := by decide +kernel
theorem dL_acts_230 : decode cL_acts 230 = .ok (.irem, 1) := by decide +kernel
theorem dL_acts_231 : decode cL_acts 231 = .ok (.ifCond .le 7, 3) := by decide +kernel
theorem dL_acts_234 : decode cL_acts 234 = .ok (.iconst 1, 1) := by decide +kernel
theorem dL_acts_235 : decode cL_acts 235 = .ok (.goto 4, 3) := by decide +kernel
theorem dL_acts_238 : decode cL_acts 238 = .ok (.iconst 0, 1) := by decide +kernel
theorem dL_acts_239 : decode cL_acts 239 = .ok (.invokevirtual 50, 3) := by decide +kernel
theorem dL_acts_242 : decode cL_acts 242 = .ok (.ireturn, 1) := by decide +kernel
theorem dL_acts_243 : decode cL_acts 243 = .ok (.aload_n 0, 1) := by decide +kernel
theorem dL_acts_244 : decode cL_acts 244 = .ok (.invokevirtual 54, 3) := by decide +kernel
theorem dL_acts_247 : decode cL_acts 247 = .ok (.ireturn, 1) := by decide +kernel
theorem dL_acts_248 : decode cL_acts 248 = .ok (.aload_n 0, 1) := by decide +kernel
theorem dL_acts_249 : decode cL_acts 249 = .ok (.invokevirtual 58, 3) := by decide +kernel
theorem dL_acts_252 : decode cL_acts 252 = .ok (.istore 4, 2) := by decide +kernel
theorem dL_acts_254 : decode cL_acts 254 = .ok (.iconst 1, 1) := by decide +kernel
theorem dL_acts_255 : decode cL_acts 255 = .ok (.iload_n 2, 1) := by decide +kernel
theorem dL_acts_256 : decode cL_acts 256 = .ok (.iconst 4, 1) := by decide +kernel
theorem dL_acts_257 : decode cL_acts 257 = .ok (.irem, 1) := by decide +kernel
theorem dL_acts_258 : decode cL_acts 258 = .ok (.iadd, 1) := by decide +kernel
theorem dL_acts_259 : decode cL_acts 259 = .ok (.istore 5, 2) := by decide +kernel
theorem dL_acts_261 : decode cL_acts 261 = .ok (.iconst 0, 1) := by decide +kernel
theorem dL_acts_262 : decode cL_acts 262 = .ok (.istore 6, 2) := by decide +kernel
theorem dL_acts_264 : decode cL_acts 264 = .ok (.iload 6, 2) := by decide +kernel
theorem dL_acts_266 : decode cL_acts 266 = .ok (.iload 5, 2) := by decide +kernel
theorem dL_acts_268 : decode cL_acts 268 = .ok (.if_icmp .ge 119, 3) := by decide +kernel
theorem dL_acts_271 : decode cL_acts 271 = .ok (.iload_n 2, 1) := by decide +kernel
theorem dL_acts_272 : decode cL_acts 272 = .ok (.iconst 5, 1) := by decide +kernel
theorem dL_acts_273 : decode cL_acts 273 = .ok (.iload 6, 2) := by decide +kernel
theorem dL_acts_275 : decode cL_acts 275 = .ok (.imul, 1) := by decide +kernel
theorem dL_acts_276 : decode cL_acts 276 = .ok (.ishr, 1) := by decide +kernel
theorem dL_acts_277 : decode cL_acts 277 = .ok (.istore 7, 2) := by decide +kernel
theorem dL_acts_279 : decode cL_acts 279 = .ok (.iload 7, 2) := by decide +kernel
theorem dL_acts_281 : decode cL_acts 281 = .ok (.bipush 12, 2) := by decide +kernel
theorem dL_acts_283 : decode cL_acts 283 = .ok (.irem, 1) := by decide +kernel
