theorem dL_same_108 : decode cL_same 108 = .ok (.iload_n 3, 1) := by decide +kernel
theorem dL_same_109 : decode cL_same 109 = .ok (.iconst 0, 1) := by decide +kernel
theorem dL_same_110 : decode cL_same 110 = .ok (.invokevirtual 119, 3) := by decide +kernel
theorem dL_same_113 : decode cL_same 113 = .ok (.aload_n 1, 1) := by decide +kernel
theorem dL_same_114 : decode cL_same 114 = .ok (.iload_n 3, 1) := by decide +kernel
theorem dL_same_115 : decode cL_same 115 = .ok (.iconst 0, 1) := by decide +kernel
theorem dL_same_116 : decode cL_same 116 = .ok (.invokevirtual 119, 3) := by decide +kernel
theorem dL_same_119 : decode cL_same 119 = .ok (.if_icmp .ne 192, 3) := by decide +kernel
theorem dL_same_122 : decode cL_same 122 = .ok (.aload_n 0, 1) := by decide +kernel
theorem dL_same_123 : decode cL_same 123 = .ok (.iload_n 3, 1) := by decide +kernel
theorem dL_same_124 : decode cL_same 124 = .ok (.iconst 1, 1) := by decide +kernel
theorem dL_same_125 : decode cL_same 125 = .ok (.invokevirtual 119, 3) := by decide +kernel
theorem dL_same_128 : decode cL_same 128 = .ok (.aload_n 1, 1) := by decide +kernel
theorem dL_same_129 : decode cL_same 129 = .ok (.iload_n 3, 1) := by decide +kernel
theorem dL_same_130 : decode cL_same 130 = .ok (.iconst 1, 1) := by decide +kernel
theorem dL_same_131 : decode cL_same 131 = .ok (.invokevirtual 119, 3) := by decide +kernel
theorem dL_same_134 : decode cL_same 134 = .ok (.if_icmp .ne 177, 3) := by decide +kernel
theorem dL_same_137 : decode cL_same 137 = .ok (.aload_n 0, 1) := by decide +kernel
theorem dL_same_138 : decode cL_same 138 = .ok (.iload_n 3, 1) := by decide +kernel
theorem dL_same_139 : decode cL_same 139 = .ok (.invokevirtual 122, 3) := by decide +kernel
theorem dL_same_142 : decode cL_same 142 = .ok (.aload_n 1, 1) := by decide +kernel
theorem dL_same_143 : decode cL_same 143 = .ok (.iload_n 3, 1) := by decide +kernel
theorem dL_same_144 : decode cL_same 144 = .ok (.invokevirtual 122, 3) := by decide +kernel
theorem dL_same_147 : decode cL_same 147 = .ok (.if_icmp .ne 164, 3) := by decide +kernel
theorem dL_same_150 : decode cL_same 150 = .ok (.aload_n 0, 1) := by decide +kernel
theorem dL_same_151 : decode cL_same 151 = .ok (.iload_n 3, 1) := by decide +kernel
theorem dL_same_152 : decode cL_same 152 = .ok (.bipush 32, 2) := by decide +kernel
theorem dL_same_154 : decode cL_same 154 = .ok (.irem, 1) := by decide +kernel
theorem dL_same_155 : decode cL_same 155 = .ok (.invokevirtual 125, 3) := by decide +kernel
theorem dL_same_158 : decode cL_same 158 = .ok (.aload_n 1, 1) := by decide +kernel
theorem dL_same_159 : decode cL_same 159 = .ok (.iload_n 3, 1) := by decide +kernel
theorem dL_same_160 : decode cL_same 160 = .ok (.bipush 32, 2) := by decide +kernel
theorem dL_same_162 : decode cL_same 162 = .ok (.irem, 1) := by decide +kernel
theorem dL_same_163 : decode cL_same 163 = .ok (.invokevirtual 125, 3) := by decide +kernel
theorem dL_same_166 : decode cL_same 166 = .ok (.if_icmp .ne 145, 3) := by decide +kernel
theorem dL_same_169 : decode cL_same 169 = .ok (.aload_n 0, 1) := by decide +kernel
theorem dL_same_170 : decode cL_same 170 = .ok (.iload 4, 2) := by decide +kernel
theorem dL_same_172 : decode cL_same 172 = .ok (.iload_n 3, 1) := by decide +kernel
theorem dL_same_173 : decode cL_same 173 = .ok (.iconst 4, 1) := by decide +kernel
theorem dL_same_174 : decode cL_same 174 = .ok (.irem, 1) := by decide +kernel
theorem dL_same_175 : decode cL_same 175 = .ok (.invokevirtual 95, 3) := by decide +kernel
theorem dL_same_178 : decode cL_same 178 = .ok (.aload_n 1, 1) := by decide +kernel
theorem dL_same_179 : decode cL_same 179 = .ok (.iload 4, 2) := by decide +kernel
theorem dL_same_181 : decode cL_same 181 = .ok (.iload_n 3, 1) := by decide +kernel
theorem dL_same_182 : decode cL_same 182 = .ok (.iconst 4, 1) := by decide +kernel
theorem dL_same_183 : decode cL_same 183 = .ok (.irem, 1) := by decide +kernel
theorem dL_same_184 : decode cL_same 184 = .ok (.invokevirtual 95, 3) := by decide +kernel
theorem dL_same_187 : decode cL_same 187 = .ok (.if_icmp .ne 124, 3) := by decide +kernel
theorem dL_same_190 : decode cL_same 190 = .ok (.aload_n 0, 1) := by decide +kernel
theorem dL_same_191 : decode cL_same 191 = .ok (.iload 4, 2) := by decide +kernel
theorem dL_same_193 : decode cL_same 193 = .ok (.invokevirtual 80, 3) := by decide +kernel
theorem dL_same_196 : decode cL_same 196 = .ok (.aload_n 1, 1) := by decide +kernel
theorem dL_same_197 : decode cL_same 197 = .ok (.iload 4, 2) := by decide +kernel
theorem dL_same_199 : decode cL_same 199 = .ok (.invokevirtual 80, 3) := by decide +kernel
theorem dL_same_202 : decode cL_same 202 = .ok (.if_icmp .ne 109, 3) := by decide +kernel
theorem dL_same_205 : decode cL_same 205 = .ok (.aload_n 0, 1) := by decide +kernel
theorem dL_same_206 : decode cL_same 206 = .ok (.iload 4, 2) := by decide +kernel
theorem dL_same_208 : decode cL_same 208 = .ok (.invokevirtual 86, 3) := by decide +kernel
theorem dL_same_211 : decode cL_same 211 = .ok (.aload_n 1, 1) := by decide +kernel
theorem dL_same_212 : decode cL_same 212 = .ok (.iload 4, 2) := by decide +kernel
theorem dL_same_214 : decode cL_same 214 = .ok (.invokevirtual 86, 3) := by decide +kernel
theorem dL_same_217 : decode cL_same 217 = .ok (.if_icmp .ne 94, 3) := by decide +kernel
theorem dL_same_220 : decode cL_same 220 = .ok (.aload_n 0, 1) := by decide +kernel
theorem dL_same_221 : decode cL_same 221 = .ok (.iload 4, 2) := by decide +kernel
theorem dL_same_223 : decode cL_same 223 = .ok (.invokevirtual 83, 3) := by decide +kernel
theorem dL_same_226 : decode cL_same 226 = .ok (.aload_n 1, 1) := by decide +kernel
theorem dL_same_227 : decode cL_same 227 = .ok (.iload 4, 2) := by decide +kernel
theorem dL_same_229 : decode cL_same 229 = .ok (.invokevirtual 83, 3) := by decide +kernel
theorem dL_same_232 : decode cL_same 232 = .ok (.if_icmp .ne 79, 3) := by decide +kernel
theorem dL_same_235 : decode cL_same 235 = .ok (.aload_n 0, 1) := by decide +kernel
theorem dL_same_236 : decode cL_same 236 = .ok (.iload 4, 2) := by decide +kernel
theorem dL_same_238 : decode cL_same 238 = .ok (.invokevirtual 89, 3) := by decide +kernel
theorem dL_same_241 : decode cL_same 241 = .ok (.aload_n 1, 1) := by decide +kernel
theorem dL_same_242 : decode cL_same 242 = .ok (.iload 4, 2) := by decide +kernel
theorem dL_same_244 : decode cL_same 244 = .ok (.invokevirtual 89, 3) := by decide +kernel
theorem dL_same_247 : decode cL_same 247 = .ok (.if_icmp .ne 64, 3) := by decide +kernel
theorem dL_same_250 : decode cL_same 250 = .ok (.aload_n 0, 1) := by decide +kernel
theorem dL_same_251 : decode cL_same 251 = .ok (.iload 4, 2) := by decide +kernel
theorem dL_same_253 : decode cL_same 253 = .ok (.invokevirtual 92, 3) := by decide +kernel
theorem dL_same_256 : decode cL_same 256 = .ok (.aload_n 1, 1) := by decide +kernel
theorem dL_same_257 : decode cL_same 257 = .ok (.iload 4, 2) := by decide +kernel
theorem dL_same_259 : decode cL_same 259 = .ok (.invokevirtual 92, 3) := by decide +kernel
theorem dL_same_262 : decode cL_same 262 = .ok (.if_icmp .ne 49, 3) := by decide +kernel
theorem dL_same_265 : decode cL_same 265 = .ok (.aload_n 0, 1) := by decide +kernel
theorem dL_same_266 : decode cL_same 266 = .ok (.iload_n 3, 1) := by decide +kernel
theorem dL_same_267 : decode cL_same 267 = .ok (.bipush 8, 2) := by decide +kernel
theorem dL_same_269 : decode cL_same 269 = .ok (.irem, 1) := by decide +kernel
theorem dL_same_270 : decode cL_same 270 = .ok (.invokevirtual 113, 3) := by decide +kernel
theorem dL_same_273 : decode cL_same 273 = .ok (.aload_n 1, 1) := by decide +kernel
theorem dL_same_274 : decode cL_same 274 = .ok (.iload_n 3, 1) := by decide +kernel
theorem dL_same_275 : decode cL_same 275 = .ok (.bipush 8, 2) := by decide +kernel
theorem dL_same_277 : decode cL_same 277 = .ok (.irem, 1) := by decide +kernel
theorem dL_same_278 : decode cL_same 278 = .ok (.invokevirtual 113, 3) := by decide +kernel
theorem dL_same_281 : decode cL_same 281 = .ok (.if_icmp .ne 30, 3) := by decide +kernel
theorem dL_same_284 : decode cL_same 284 = .ok (.aload_n 0, 1) := by decide +kernel
theorem dL_same_285 : decode cL_same 285 = .ok (.iload_n 3, 1) := by decide +kernel
theorem dL_same_286 : decode cL_same 286 = .ok (.iconst 3, 1) := by decide +kernel
theorem dL_same_287 : decode cL_same 287 = .ok (.idiv, 1) := by decide +kernel
theorem dL_same_288 : decode cL_same 288 = .ok (.iload_n 3, 1) := by decide +kernel
theorem dL_same_289 : decode cL_same 289 = .ok (.iconst 3, 1) := by decide +kernel
theorem dL_same_290 : decode cL_same 290 = .ok (.irem, 1) := by decide +kernel
theorem dL_same_291 : decode cL_same 291 = .ok (.invokevirtual 99, 3) := by decide +kernel
theorem dL_same_294 : decode cL_same 294 = .ok (.aload_n 1, 1) := by decide +kernel
theorem dL_same_295 : decode cL_same 295 = .ok (.iload_n 3, 1) := by decide +kernel
theorem dL_same_296 : decode cL_same 296 = .ok (.iconst 3, 1) := by decide +kernel
theorem dL_same_297 : decode cL_same 297 = .ok (.idiv, 1) := by decide +kernel
theorem dL_same_298 : decode cL_same 298 = .ok (.iload_n 3, 1) := by decide +kernel
theorem dL_same_299 : decode cL_same 299 = .ok (.iconst 3, 1) := by decide +kernel
theorem dL_same_300 : decode cL_same 300 = .ok (.irem, 1) := by decide +kernel
theorem dL_same_301 : decode cL_same 301 = .ok (.invokevirtual 99, 3) := by decide +kernel
