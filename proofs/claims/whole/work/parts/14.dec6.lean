theorem d_101_0 : decode (bC 101) 0 = .ok (.new 7, 3) := by decide +kernel
theorem d_101_3 : decode (bC 101) 3 = .ok (.dup, 1) := by decide +kernel
theorem d_101_4 : decode (bC 101) 4 = .ok (.invokespecial 9, 3) := by decide +kernel
theorem d_101_7 : decode (bC 101) 7 = .ok (.astore_n 1, 1) := by decide +kernel
theorem d_101_8 : decode (bC 101) 8 = .ok (.new 10, 3) := by decide +kernel
theorem d_101_11 : decode (bC 101) 11 = .ok (.dup, 1) := by decide +kernel
theorem d_101_12 : decode (bC 101) 12 = .ok (.invokespecial 12, 3) := by decide +kernel
theorem d_101_15 : decode (bC 101) 15 = .ok (.astore_n 2, 1) := by decide +kernel
theorem d_101_16 : decode (bC 101) 16 = .ok (.iconst 0, 1) := by decide +kernel
theorem d_101_17 : decode (bC 101) 17 = .ok (.istore_n 3, 1) := by decide +kernel
theorem d_101_18 : decode (bC 101) 18 = .ok (.iload_n 3, 1) := by decide +kernel
theorem d_101_19 : decode (bC 101) 19 = .ok (.aload_n 0, 1) := by decide +kernel
theorem d_101_20 : decode (bC 101) 20 = .ok (.arraylength, 1) := by decide +kernel
theorem d_101_21 : decode (bC 101) 21 = .ok (.iconst 4, 1) := by decide +kernel
theorem d_101_22 : decode (bC 101) 22 = .ok (.isub, 1) := by decide +kernel
theorem d_101_23 : decode (bC 101) 23 = .ok (.if_icmp .gt 587, 3) := by decide +kernel
theorem d_101_26 : decode (bC 101) 26 = .ok (.aload_n 0, 1) := by decide +kernel
theorem d_101_27 : decode (bC 101) 27 = .ok (.iload_n 3, 1) := by decide +kernel
theorem d_101_28 : decode (bC 101) 28 = .ok (.iaload, 1) := by decide +kernel
theorem d_101_29 : decode (bC 101) 29 = .ok (.bipush 31, 2) := by decide +kernel
theorem d_101_31 : decode (bC 101) 31 = .ok (.iand, 1) := by decide +kernel
theorem d_101_32 : decode (bC 101) 32 = .ok (.tableswitch 572 0 17 #[88, 131, 174, 217, 260, 293, 316, 329, 342, 365, 388, 411, 434, 457, 480, 503, 526, 549], 88) := by decide +kernel
theorem d_101_120 : decode (bC 101) 120 = .ok (.aload_n 1, 1) := by decide +kernel
theorem d_101_121 : decode (bC 101) 121 = .ok (.aload_n 0, 1) := by decide +kernel
theorem d_101_122 : decode (bC 101) 122 = .ok (.iload_n 3, 1) := by decide +kernel
theorem d_101_123 : decode (bC 101) 123 = .ok (.iconst 1, 1) := by decide +kernel
theorem d_101_124 : decode (bC 101) 124 = .ok (.iadd, 1) := by decide +kernel
theorem d_101_125 : decode (bC 101) 125 = .ok (.iaload, 1) := by decide +kernel
theorem d_101_126 : decode (bC 101) 126 = .ok (.aload_n 0, 1) := by decide +kernel
theorem d_101_127 : decode (bC 101) 127 = .ok (.iload_n 3, 1) := by decide +kernel
theorem d_101_128 : decode (bC 101) 128 = .ok (.iconst 2, 1) := by decide +kernel
theorem d_101_129 : decode (bC 101) 129 = .ok (.iadd, 1) := by decide +kernel
theorem d_101_130 : decode (bC 101) 130 = .ok (.iaload, 1) := by decide +kernel
theorem d_101_131 : decode (bC 101) 131 = .ok (.aload_n 0, 1) := by decide +kernel
theorem d_101_132 : decode (bC 101) 132 = .ok (.iload_n 3, 1) := by decide +kernel
theorem d_101_133 : decode (bC 101) 133 = .ok (.iconst 3, 1) := by decide +kernel
theorem d_101_134 : decode (bC 101) 134 = .ok (.iadd, 1) := by decide +kernel
theorem d_101_135 : decode (bC 101) 135 = .ok (.iaload, 1) := by decide +kernel
theorem d_101_136 : decode (bC 101) 136 = .ok (.invokevirtual 13, 3) := by decide +kernel
theorem d_101_139 : decode (bC 101) 139 = .ok (.aload_n 2, 1) := by decide +kernel
theorem d_101_140 : decode (bC 101) 140 = .ok (.aload_n 0, 1) := by decide +kernel
theorem d_101_141 : decode (bC 101) 141 = .ok (.iload_n 3, 1) := by decide +kernel
theorem d_101_142 : decode (bC 101) 142 = .ok (.iconst 1, 1) := by decide +kernel
theorem d_101_143 : decode (bC 101) 143 = .ok (.iadd, 1) := by decide +kernel
theorem d_101_144 : decode (bC 101) 144 = .ok (.iaload, 1) := by decide +kernel
theorem d_101_145 : decode (bC 101) 145 = .ok (.aload_n 0, 1) := by decide +kernel
theorem d_101_146 : decode (bC 101) 146 = .ok (.iload_n 3, 1) := by decide +kernel
theorem d_101_147 : decode (bC 101) 147 = .ok (.iconst 2, 1) := by decide +kernel
theorem d_101_148 : decode (bC 101) 148 = .ok (.iadd, 1) := by decide +kernel
theorem d_101_149 : decode (bC 101) 149 = .ok (.iaload, 1) := by decide +kernel
theorem d_101_150 : decode (bC 101) 150 = .ok (.aload_n 0, 1) := by decide +kernel
theorem d_101_151 : decode (bC 101) 151 = .ok (.iload_n 3, 1) := by decide +kernel
theorem d_101_152 : decode (bC 101) 152 = .ok (.iconst 3, 1) := by decide +kernel
theorem d_101_153 : decode (bC 101) 153 = .ok (.iadd, 1) := by decide +kernel
theorem d_101_154 : decode (bC 101) 154 = .ok (.iaload, 1) := by decide +kernel
theorem d_101_155 : decode (bC 101) 155 = .ok (.invokevirtual 17, 3) := by decide +kernel
theorem d_101_158 : decode (bC 101) 158 = .ok (.if_icmp .eq 446, 3) := by decide +kernel
theorem d_101_161 : decode (bC 101) 161 = .ok (.iconst 0, 1) := by decide +kernel
theorem d_101_162 : decode (bC 101) 162 = .ok (.ireturn, 1) := by decide +kernel
theorem d_101_163 : decode (bC 101) 163 = .ok (.aload_n 1, 1) := by decide +kernel
theorem d_101_164 : decode (bC 101) 164 = .ok (.aload_n 0, 1) := by decide +kernel
theorem d_101_165 : decode (bC 101) 165 = .ok (.iload_n 3, 1) := by decide +kernel
theorem d_101_166 : decode (bC 101) 166 = .ok (.iconst 1, 1) := by decide +kernel
theorem d_101_167 : decode (bC 101) 167 = .ok (.iadd, 1) := by decide +kernel
theorem d_101_168 : decode (bC 101) 168 = .ok (.iaload, 1) := by decide +kernel
theorem d_101_169 : decode (bC 101) 169 = .ok (.aload_n 0, 1) := by decide +kernel
theorem d_101_170 : decode (bC 101) 170 = .ok (.iload_n 3, 1) := by decide +kernel
theorem d_101_171 : decode (bC 101) 171 = .ok (.iconst 2, 1) := by decide +kernel
theorem d_101_172 : decode (bC 101) 172 = .ok (.iadd, 1) := by decide +kernel
theorem d_101_173 : decode (bC 101) 173 = .ok (.iaload, 1) := by decide +kernel
theorem d_101_174 : decode (bC 101) 174 = .ok (.aload_n 0, 1) := by decide +kernel
theorem d_101_175 : decode (bC 101) 175 = .ok (.iload_n 3, 1) := by decide +kernel
theorem d_101_176 : decode (bC 101) 176 = .ok (.iconst 3, 1) := by decide +kernel
theorem d_101_177 : decode (bC 101) 177 = .ok (.iadd, 1) := by decide +kernel
theorem d_101_178 : decode (bC 101) 178 = .ok (.iaload, 1) := by decide +kernel
theorem d_101_179 : decode (bC 101) 179 = .ok (.invokevirtual 18, 3) := by decide +kernel
theorem d_101_182 : decode (bC 101) 182 = .ok (.aload_n 2, 1) := by decide +kernel
theorem d_101_183 : decode (bC 101) 183 = .ok (.aload_n 0, 1) := by decide +kernel
theorem d_101_184 : decode (bC 101) 184 = .ok (.iload_n 3, 1) := by decide +kernel
theorem d_101_185 : decode (bC 101) 185 = .ok (.iconst 1, 1) := by decide +kernel
theorem d_101_186 : decode (bC 101) 186 = .ok (.iadd, 1) := by decide +kernel
theorem d_101_187 : decode (bC 101) 187 = .ok (.iaload, 1) := by decide +kernel
theorem d_101_188 : decode (bC 101) 188 = .ok (.aload_n 0, 1) := by decide +kernel
theorem d_101_189 : decode (bC 101) 189 = .ok (.iload_n 3, 1) := by decide +kernel
theorem d_101_190 : decode (bC 101) 190 = .ok (.iconst 2, 1) := by decide +kernel
theorem d_101_191 : decode (bC 101) 191 = .ok (.iadd, 1) := by decide +kernel
theorem d_101_192 : decode (bC 101) 192 = .ok (.iaload, 1) := by decide +kernel
theorem d_101_193 : decode (bC 101) 193 = .ok (.aload_n 0, 1) := by decide +kernel
theorem d_101_194 : decode (bC 101) 194 = .ok (.iload_n 3, 1) := by decide +kernel
theorem d_101_195 : decode (bC 101) 195 = .ok (.iconst 3, 1) := by decide +kernel
theorem d_101_196 : decode (bC 101) 196 = .ok (.iadd, 1) := by decide +kernel
theorem d_101_197 : decode (bC 101) 197 = .ok (.iaload, 1) := by decide +kernel
theorem d_101_198 : decode (bC 101) 198 = .ok (.invokevirtual 21, 3) := by decide +kernel
theorem d_101_201 : decode (bC 101) 201 = .ok (.if_icmp .eq 403, 3) := by decide +kernel
theorem d_101_204 : decode (bC 101) 204 = .ok (.iconst 0, 1) := by decide +kernel
theorem d_101_205 : decode (bC 101) 205 = .ok (.ireturn, 1) := by decide +kernel
theorem d_101_206 : decode (bC 101) 206 = .ok (.aload_n 1, 1) := by decide +kernel
theorem d_101_207 : decode (bC 101) 207 = .ok (.aload_n 0, 1) := by decide +kernel
theorem d_101_208 : decode (bC 101) 208 = .ok (.iload_n 3, 1) := by decide +kernel
theorem d_101_209 : decode (bC 101) 209 = .ok (.iconst 1, 1) := by decide +kernel
theorem d_101_210 : decode (bC 101) 210 = .ok (.iadd, 1) := by decide +kernel
theorem d_101_211 : decode (bC 101) 211 = .ok (.iaload, 1) := by decide +kernel
theorem d_101_212 : decode (bC 101) 212 = .ok (.aload_n 0, 1) := by decide +kernel
theorem d_101_213 : decode (bC 101) 213 = .ok (.iload_n 3, 1) := by decide +kernel
theorem d_101_214 : decode (bC 101) 214 = .ok (.iconst 2, 1) := by decide +kernel
theorem d_101_215 : decode (bC 101) 215 = .ok (.iadd, 1) := by decide +kernel
theorem d_101_216 : decode (bC 101) 216 = .ok (.iaload, 1) := by decide +kernel
theorem d_101_217 : decode (bC 101) 217 = .ok (.aload_n 0, 1) := by decide +kernel
theorem d_101_218 : decode (bC 101) 218 = .ok (.iload_n 3, 1) := by decide +kernel
theorem d_101_219 : decode (bC 101) 219 = .ok (.iconst 3, 1) := by decide +kernel
theorem d_101_220 : decode (bC 101) 220 = .ok (.iadd, 1) := by decide +kernel
theorem d_101_221 : decode (bC 101) 221 = .ok (.iaload, 1) := by decide +kernel
theorem d_101_222 : decode (bC 101) 222 = .ok (.invokevirtual 22, 3) := by decide +kernel
theorem d_101_225 : decode (bC 101) 225 = .ok (.aload_n 2, 1) := by decide +kernel
theorem d_101_226 : decode (bC 101) 226 = .ok (.aload_n 0, 1) := by decide +kernel
theorem d_101_227 : decode (bC 101) 227 = .ok (.iload_n 3, 1) := by decide +kernel
theorem d_101_228 : decode (bC 101) 228 = .ok (.iconst 1, 1) := by decide +kernel
theorem d_101_229 : decode (bC 101) 229 = .ok (.iadd, 1) := by decide +kernel
theorem d_101_230 : decode (bC 101) 230 = .ok (.iaload, 1) := by decide +kernel
theorem d_101_231 : decode (bC 101) 231 = .ok (.aload_n 0, 1) := by decide +kernel
theorem d_101_232 : decode (bC 101) 232 = .ok (.iload_n 3, 1) := by decide +kernel
theorem d_101_233 : decode (bC 101) 233 = .ok (.iconst 2, 1) := by decide +kernel
theorem d_101_234 : decode (bC 101) 234 = .ok (.iadd, 1) := by decide +kernel
theorem d_101_235 : decode (bC 101) 235 = .ok (.iaload, 1) := by decide +kernel
theorem d_101_236 : decode (bC 101) 236 = .ok (.aload_n 0, 1) := by decide +kernel
theorem d_101_237 : decode (bC 101) 237 = .ok (.iload_n 3, 1) := by decide +kernel
theorem d_101_238 : decode (bC 101) 238 = .ok (.iconst 3, 1) := by decide +kernel
theorem d_101_239 : decode (bC 101) 239 = .ok (.iadd, 1) := by decide +kernel
theorem d_101_240 : decode (bC 101) 240 = .ok (.iaload, 1) := by decide +kernel
theorem d_101_241 : decode (bC 101) 241 = .ok (.invokevirtual 26, 3) := by decide +kernel
theorem d_101_244 : decode (bC 101) 244 = .ok (.if_icmp .eq 360, 3) := by decide +kernel
theorem d_101_247 : decode (bC 101) 247 = .ok (.iconst 0, 1) := by decide +kernel
theorem d_101_248 : decode (bC 101) 248 = .ok (.ireturn, 1) := by decide +kernel
theorem d_101_249 : decode (bC 101) 249 = .ok (.aload_n 1, 1) := by decide +kernel
theorem d_101_250 : decode (bC 101) 250 = .ok (.aload_n 0, 1) := by decide +kernel
theorem d_101_251 : decode (bC 101) 251 = .ok (.iload_n 3, 1) := by decide +kernel
theorem d_101_252 : decode (bC 101) 252 = .ok (.iconst 1, 1) := by decide +kernel
theorem d_101_253 : decode (bC 101) 253 = .ok (.iadd, 1) := by decide +kernel
theorem d_101_254 : decode (bC 101) 254 = .ok (.iaload, 1) := by decide +kernel
theorem d_101_255 : decode (bC 101) 255 = .ok (.aload_n 0, 1) := by decide +kernel
theorem d_101_256 : decode (bC 101) 256 = .ok (.iload_n 3, 1) := by decide +kernel
theorem d_101_257 : decode (bC 101) 257 = .ok (.iconst 2, 1) := by decide +kernel
theorem d_101_258 : decode (bC 101) 258 = .ok (.iadd, 1) := by decide +kernel
theorem d_101_259 : decode (bC 101) 259 = .ok (.iaload, 1) := by decide +kernel
theorem d_101_260 : decode (bC 101) 260 = .ok (.aload_n 0, 1) := by decide +kernel
theorem d_101_261 : decode (bC 101) 261 = .ok (.iload_n 3, 1) := by decide +kernel
theorem d_101_262 : decode (bC 101) 262 = .ok (.iconst 3, 1) := by decide +kernel
theorem d_101_263 : decode (bC 101) 263 = .ok (.iadd, 1) := by decide +kernel
theorem d_101_264 : decode (bC 101) 264 = .ok (.iaload, 1) := by decide +kernel
theorem d_101_265 : decode (bC 101) 265 = .ok (.invokevirtual 27, 3) := by decide +kernel
theorem d_101_268 : decode (bC 101) 268 = .ok (.aload_n 2, 1) := by decide +kernel
theorem d_101_269 : decode (bC 101) 269 = .ok (.aload_n 0, 1) := by decide +kernel
theorem d_101_270 : decode (bC 101) 270 = .ok (.iload_n 3, 1) := by decide +kernel
theorem d_101_271 : decode (bC 101) 271 = .ok (.iconst 1, 1) := by decide +kernel
theorem d_101_272 : decode (bC 101) 272 = .ok (.iadd, 1) := by decide +kernel
theorem d_101_273 : decode (bC 101) 273 = .ok (.iaload, 1) := by decide +kernel
theorem d_101_274 : decode (bC 101) 274 = .ok (.aload_n 0, 1) := by decide +kernel
theorem d_101_275 : decode (bC 101) 275 = .ok (.iload_n 3, 1) := by decide +kernel
theorem d_101_276 : decode (bC 101) 276 = .ok (.iconst 2, 1) := by decide +kernel
theorem d_101_277 : decode (bC 101) 277 = .ok (.iadd, 1) := by decide +kernel
theorem d_101_278 : decode (bC 101) 278 = .ok (.iaload, 1) := by decide +kernel
theorem d_101_279 : decode (bC 101) 279 = .ok (.aload_n 0, 1) := by decide +kernel
theorem d_101_280 : decode (bC 101) 280 = .ok (.iload_n 3, 1) := by decide +kernel
theorem d_101_281 : decode (bC 101) 281 = .ok (.iconst 3, 1) := by decide +kernel
theorem d_101_282 : decode (bC 101) 282 = .ok (.iadd, 1) := by decide +kernel
theorem d_101_283 : decode (bC 101) 283 = .ok (.iaload, 1) := by decide +kernel
theorem d_101_284 : decode (bC 101) 284 = .ok (.invokevirtual 30, 3) := by decide +kernel
theorem d_101_287 : decode (bC 101) 287 = .ok (.if_icmp .eq 317, 3) := by decide +kernel
theorem d_101_290 : decode (bC 101) 290 = .ok (.iconst 0, 1) := by decide +kernel
theorem d_101_291 : decode (bC 101) 291 = .ok (.ireturn, 1) := by decide +kernel
theorem d_101_292 : decode (bC 101) 292 = .ok (.aload_n 1, 1) := by decide +kernel
theorem d_101_293 : decode (bC 101) 293 = .ok (.aload_n 0, 1) := by decide +kernel
theorem d_101_294 : decode (bC 101) 294 = .ok (.iload_n 3, 1) := by decide +kernel
theorem d_101_295 : decode (bC 101) 295 = .ok (.iconst 1, 1) := by decide +kernel
theorem d_101_296 : decode (bC 101) 296 = .ok (.iadd, 1) := by decide +kernel
theorem d_101_297 : decode (bC 101) 297 = .ok (.iaload, 1) := by decide +kernel
theorem d_101_298 : decode (bC 101) 298 = .ok (.aload_n 0, 1) := by decide +kernel
theorem d_101_299 : decode (bC 101) 299 = .ok (.iload_n 3, 1) := by decide +kernel
theorem d_101_300 : decode (bC 101) 300 = .ok (.iconst 2, 1) := by decide +kernel
theorem d_101_301 : decode (bC 101) 301 = .ok (.iadd, 1) := by decide +kernel
theorem d_101_302 : decode (bC 101) 302 = .ok (.iaload, 1) := by decide +kernel
theorem d_101_303 : decode (bC 101) 303 = .ok (.invokevirtual 31, 3) := by decide +kernel
theorem d_101_306 : decode (bC 101) 306 = .ok (.aload_n 2, 1) := by decide +kernel
theorem d_101_307 : decode (bC 101) 307 = .ok (.aload_n 0, 1) := by decide +kernel
theorem d_101_308 : decode (bC 101) 308 = .ok (.iload_n 3, 1) := by decide +kernel
theorem d_101_309 : decode (bC 101) 309 = .ok (.iconst 1, 1) := by decide +kernel
theorem d_101_310 : decode (bC 101) 310 = .ok (.iadd, 1) := by decide +kernel
theorem d_101_311 : decode (bC 101) 311 = .ok (.iaload, 1) := by decide +kernel
theorem d_101_312 : decode (bC 101) 312 = .ok (.aload_n 0, 1) := by decide +kernel
theorem d_101_313 : decode (bC 101) 313 = .ok (.iload_n 3, 1) := by decide +kernel
theorem d_101_314 : decode (bC 101) 314 = .ok (.iconst 2, 1) := by decide +kernel
theorem d_101_315 : decode (bC 101) 315 = .ok (.iadd, 1) := by decide +kernel
theorem d_101_316 : decode (bC 101) 316 = .ok (.iaload, 1) := by decide +kernel
theorem d_101_317 : decode (bC 101) 317 = .ok (.invokevirtual 35, 3) := by decide +kernel
theorem d_101_320 : decode (bC 101) 320 = .ok (.if_icmp .eq 284, 3) := by decide +kernel
theorem d_101_323 : decode (bC 101) 323 = .ok (.iconst 0, 1) := by decide +kernel
theorem d_101_324 : decode (bC 101) 324 = .ok (.ireturn, 1) := by decide +kernel
theorem d_101_325 : decode (bC 101) 325 = .ok (.aload_n 1, 1) := by decide +kernel
theorem d_101_326 : decode (bC 101) 326 = .ok (.aload_n 0, 1) := by decide +kernel
theorem d_101_327 : decode (bC 101) 327 = .ok (.iload_n 3, 1) := by decide +kernel
theorem d_101_328 : decode (bC 101) 328 = .ok (.iconst 1, 1) := by decide +kernel
theorem d_101_329 : decode (bC 101) 329 = .ok (.iadd, 1) := by decide +kernel
theorem d_101_330 : decode (bC 101) 330 = .ok (.iaload, 1) := by decide +kernel
theorem d_101_331 : decode (bC 101) 331 = .ok (.invokevirtual 36, 3) := by decide +kernel
theorem d_101_334 : decode (bC 101) 334 = .ok (.aload_n 2, 1) := by decide +kernel
theorem d_101_335 : decode (bC 101) 335 = .ok (.aload_n 0, 1) := by decide +kernel
theorem d_101_336 : decode (bC 101) 336 = .ok (.iload_n 3, 1) := by decide +kernel
theorem d_101_337 : decode (bC 101) 337 = .ok (.iconst 1, 1) := by decide +kernel
theorem d_101_338 : decode (bC 101) 338 = .ok (.iadd, 1) := by decide +kernel
theorem d_101_339 : decode (bC 101) 339 = .ok (.iaload, 1) := by decide +kernel
theorem d_101_340 : decode (bC 101) 340 = .ok (.invokevirtual 40, 3) := by decide +kernel
theorem d_101_343 : decode (bC 101) 343 = .ok (.if_icmp .eq 261, 3) := by decide +kernel
theorem d_101_346 : decode (bC 101) 346 = .ok (.iconst 0, 1) := by decide +kernel
theorem d_101_347 : decode (bC 101) 347 = .ok (.ireturn, 1) := by decide +kernel
theorem d_101_348 : decode (bC 101) 348 = .ok (.aload_n 1, 1) := by decide +kernel
theorem d_101_349 : decode (bC 101) 349 = .ok (.invokevirtual 41, 3) := by decide +kernel
theorem d_101_352 : decode (bC 101) 352 = .ok (.aload_n 2, 1) := by decide +kernel
theorem d_101_353 : decode (bC 101) 353 = .ok (.invokevirtual 45, 3) := by decide +kernel
theorem d_101_356 : decode (bC 101) 356 = .ok (.if_icmp .eq 248, 3) := by decide +kernel
theorem d_101_359 : decode (bC 101) 359 = .ok (.iconst 0, 1) := by decide +kernel
theorem d_101_360 : decode (bC 101) 360 = .ok (.ireturn, 1) := by decide +kernel
theorem d_101_361 : decode (bC 101) 361 = .ok (.aload_n 1, 1) := by decide +kernel
theorem d_101_362 : decode (bC 101) 362 = .ok (.invokevirtual 46, 3) := by decide +kernel
theorem d_101_365 : decode (bC 101) 365 = .ok (.aload_n 2, 1) := by decide +kernel
theorem d_101_366 : decode (bC 101) 366 = .ok (.invokevirtual 49, 3) := by decide +kernel
theorem d_101_369 : decode (bC 101) 369 = .ok (.if_icmp .eq 235, 3) := by decide +kernel
theorem d_101_372 : decode (bC 101) 372 = .ok (.iconst 0, 1) := by decide +kernel
theorem d_101_373 : decode (bC 101) 373 = .ok (.ireturn, 1) := by decide +kernel
theorem d_101_374 : decode (bC 101) 374 = .ok (.aload_n 1, 1) := by decide +kernel
theorem d_101_375 : decode (bC 101) 375 = .ok (.aload_n 0, 1) := by decide +kernel
theorem d_101_376 : decode (bC 101) 376 = .ok (.iload_n 3, 1) := by decide +kernel
theorem d_101_377 : decode (bC 101) 377 = .ok (.iconst 1, 1) := by decide +kernel
theorem d_101_378 : decode (bC 101) 378 = .ok (.iadd, 1) := by decide +kernel
theorem d_101_379 : decode (bC 101) 379 = .ok (.iaload, 1) := by decide +kernel
theorem d_101_380 : decode (bC 101) 380 = .ok (.invokevirtual 50, 3) := by decide +kernel
theorem d_101_383 : decode (bC 101) 383 = .ok (.aload_n 2, 1) := by decide +kernel
theorem d_101_384 : decode (bC 101) 384 = .ok (.aload_n 0, 1) := by decide +kernel
theorem d_101_385 : decode (bC 101) 385 = .ok (.iload_n 3, 1) := by decide +kernel
theorem d_101_386 : decode (bC 101) 386 = .ok (.iconst 1, 1) := by decide +kernel
theorem d_101_387 : decode (bC 101) 387 = .ok (.iadd, 1) := by decide +kernel
theorem d_101_388 : decode (bC 101) 388 = .ok (.iaload, 1) := by decide +kernel
theorem d_101_389 : decode (bC 101) 389 = .ok (.invokevirtual 53, 3) := by decide +kernel
theorem d_101_392 : decode (bC 101) 392 = .ok (.if_icmp .eq 212, 3) := by decide +kernel
theorem d_101_395 : decode (bC 101) 395 = .ok (.iconst 0, 1) := by decide +kernel
theorem d_101_396 : decode (bC 101) 396 = .ok (.ireturn, 1) := by decide +kernel
theorem d_101_397 : decode (bC 101) 397 = .ok (.aload_n 1, 1) := by decide +kernel
theorem d_101_398 : decode (bC 101) 398 = .ok (.aload_n 0, 1) := by decide +kernel
theorem d_101_399 : decode (bC 101) 399 = .ok (.iload_n 3, 1) := by decide +kernel
theorem d_101_400 : decode (bC 101) 400 = .ok (.iconst 1, 1) := by decide +kernel
theorem d_101_401 : decode (bC 101) 401 = .ok (.iadd, 1) := by decide +kernel
theorem d_101_402 : decode (bC 101) 402 = .ok (.iaload, 1) := by decide +kernel
theorem d_101_403 : decode (bC 101) 403 = .ok (.invokevirtual 54, 3) := by decide +kernel
theorem d_101_406 : decode (bC 101) 406 = .ok (.aload_n 2, 1) := by decide +kernel
theorem d_101_407 : decode (bC 101) 407 = .ok (.aload_n 0, 1) := by decide +kernel
theorem d_101_408 : decode (bC 101) 408 = .ok (.iload_n 3, 1) := by decide +kernel
theorem d_101_409 : decode (bC 101) 409 = .ok (.iconst 1, 1) := by decide +kernel
theorem d_101_410 : decode (bC 101) 410 = .ok (.iadd, 1) := by decide +kernel
theorem d_101_411 : decode (bC 101) 411 = .ok (.iaload, 1) := by decide +kernel
theorem d_101_412 : decode (bC 101) 412 = .ok (.invokevirtual 57, 3) := by decide +kernel
theorem d_101_415 : decode (bC 101) 415 = .ok (.if_icmp .eq 189, 3) := by decide +kernel
theorem d_101_418 : decode (bC 101) 418 = .ok (.iconst 0, 1) := by decide +kernel
theorem d_101_419 : decode (bC 101) 419 = .ok (.ireturn, 1) := by decide +kernel
theorem d_101_420 : decode (bC 101) 420 = .ok (.aload_n 1, 1) := by decide +kernel
theorem d_101_421 : decode (bC 101) 421 = .ok (.aload_n 0, 1) := by decide +kernel
theorem d_101_422 : decode (bC 101) 422 = .ok (.iload_n 3, 1) := by decide +kernel
theorem d_101_423 : decode (bC 101) 423 = .ok (.iconst 1, 1) := by decide +kernel
theorem d_101_424 : decode (bC 101) 424 = .ok (.iadd, 1) := by decide +kernel
theorem d_101_425 : decode (bC 101) 425 = .ok (.iaload, 1) := by decide +kernel
theorem d_101_426 : decode (bC 101) 426 = .ok (.invokevirtual 58, 3) := by decide +kernel
theorem d_101_429 : decode (bC 101) 429 = .ok (.aload_n 2, 1) := by decide +kernel
theorem d_101_430 : decode (bC 101) 430 = .ok (.aload_n 0, 1) := by decide +kernel
theorem d_101_431 : decode (bC 101) 431 = .ok (.iload_n 3, 1) := by decide +kernel
theorem d_101_432 : decode (bC 101) 432 = .ok (.iconst 1, 1) := by decide +kernel
theorem d_101_433 : decode (bC 101) 433 = .ok (.iadd, 1) := by decide +kernel
theorem d_101_434 : decode (bC 101) 434 = .ok (.iaload, 1) := by decide +kernel
theorem d_101_435 : decode (bC 101) 435 = .ok (.invokevirtual 61, 3) := by decide +kernel
theorem d_101_438 : decode (bC 101) 438 = .ok (.if_icmp .eq 166, 3) := by decide +kernel
theorem d_101_441 : decode (bC 101) 441 = .ok (.iconst 0, 1) := by decide +kernel
theorem d_101_442 : decode (bC 101) 442 = .ok (.ireturn, 1) := by decide +kernel
theorem d_101_443 : decode (bC 101) 443 = .ok (.aload_n 1, 1) := by decide +kernel
theorem d_101_444 : decode (bC 101) 444 = .ok (.aload_n 0, 1) := by decide +kernel
theorem d_101_445 : decode (bC 101) 445 = .ok (.iload_n 3, 1) := by decide +kernel
theorem d_101_446 : decode (bC 101) 446 = .ok (.iconst 1, 1) := by decide +kernel
theorem d_101_447 : decode (bC 101) 447 = .ok (.iadd, 1) := by decide +kernel
theorem d_101_448 : decode (bC 101) 448 = .ok (.iaload, 1) := by decide +kernel
theorem d_101_449 : decode (bC 101) 449 = .ok (.invokevirtual 62, 3) := by decide +kernel
theorem d_101_452 : decode (bC 101) 452 = .ok (.aload_n 2, 1) := by decide +kernel
theorem d_101_453 : decode (bC 101) 453 = .ok (.aload_n 0, 1) := by decide +kernel
theorem d_101_454 : decode (bC 101) 454 = .ok (.iload_n 3, 1) := by decide +kernel
theorem d_101_455 : decode (bC 101) 455 = .ok (.iconst 1, 1) := by decide +kernel
theorem d_101_456 : decode (bC 101) 456 = .ok (.iadd, 1) := by decide +kernel
theorem d_101_457 : decode (bC 101) 457 = .ok (.iaload, 1) := by decide +kernel
theorem d_101_458 : decode (bC 101) 458 = .ok (.invokevirtual 65, 3) := by decide +kernel
theorem d_101_461 : decode (bC 101) 461 = .ok (.if_icmp .eq 143, 3) := by decide +kernel
theorem d_101_464 : decode (bC 101) 464 = .ok (.iconst 0, 1) := by decide +kernel
theorem d_101_465 : decode (bC 101) 465 = .ok (.ireturn, 1) := by decide +kernel
theorem d_101_466 : decode (bC 101) 466 = .ok (.aload_n 1, 1) := by decide +kernel
theorem d_101_467 : decode (bC 101) 467 = .ok (.aload_n 0, 1) := by decide +kernel
theorem d_101_468 : decode (bC 101) 468 = .ok (.iload_n 3, 1) := by decide +kernel
theorem d_101_469 : decode (bC 101) 469 = .ok (.iconst 1, 1) := by decide +kernel
theorem d_101_470 : decode (bC 101) 470 = .ok (.iadd, 1) := by decide +kernel
theorem d_101_471 : decode (bC 101) 471 = .ok (.iaload, 1) := by decide +kernel
theorem d_101_472 : decode (bC 101) 472 = .ok (.invokevirtual 66, 3) := by decide +kernel
theorem d_101_475 : decode (bC 101) 475 = .ok (.aload_n 2, 1) := by decide +kernel
theorem d_101_476 : decode (bC 101) 476 = .ok (.aload_n 0, 1) := by decide +kernel
theorem d_101_477 : decode (bC 101) 477 = .ok (.iload_n 3, 1) := by decide +kernel
theorem d_101_478 : decode (bC 101) 478 = .ok (.iconst 1, 1) := by decide +kernel
theorem d_101_479 : decode (bC 101) 479 = .ok (.iadd, 1) := by decide +kernel
theorem d_101_480 : decode (bC 101) 480 = .ok (.iaload, 1) := by decide +kernel
theorem d_101_481 : decode (bC 101) 481 = .ok (.invokevirtual 69, 3) := by decide +kernel
theorem d_101_484 : decode (bC 101) 484 = .ok (.if_icmp .eq 120, 3) := by decide +kernel
theorem d_101_487 : decode (bC 101) 487 = .ok (.iconst 0, 1) := by decide +kernel
theorem d_101_488 : decode (bC 101) 488 = .ok (.ireturn, 1) := by decide +kernel
theorem d_101_489 : decode (bC 101) 489 = .ok (.aload_n 1, 1) := by decide +kernel
theorem d_101_490 : decode (bC 101) 490 = .ok (.aload_n 0, 1) := by decide +kernel
theorem d_101_491 : decode (bC 101) 491 = .ok (.iload_n 3, 1) := by decide +kernel
theorem d_101_492 : decode (bC 101) 492 = .ok (.iconst 1, 1) := by decide +kernel
theorem d_101_493 : decode (bC 101) 493 = .ok (.iadd, 1) := by decide +kernel
theorem d_101_494 : decode (bC 101) 494 = .ok (.iaload, 1) := by decide +kernel
theorem d_101_495 : decode (bC 101) 495 = .ok (.invokevirtual 70, 3) := by decide +kernel
theorem d_101_498 : decode (bC 101) 498 = .ok (.aload_n 2, 1) := by decide +kernel
theorem d_101_499 : decode (bC 101) 499 = .ok (.aload_n 0, 1) := by decide +kernel
theorem d_101_500 : decode (bC 101) 500 = .ok (.iload_n 3, 1) := by decide +kernel
theorem d_101_501 : decode (bC 101) 501 = .ok (.iconst 1, 1) := by decide +kernel
theorem d_101_502 : decode (bC 101) 502 = .ok (.iadd, 1) := by decide +kernel
theorem d_101_503 : decode (bC 101) 503 = .ok (.iaload, 1) := by decide +kernel
theorem d_101_504 : decode (bC 101) 504 = .ok (.invokevirtual 73, 3) := by decide +kernel
theorem d_101_507 : decode (bC 101) 507 = .ok (.if_icmp .eq 97, 3) := by decide +kernel
theorem d_101_510 : decode (bC 101) 510 = .ok (.iconst 0, 1) := by decide +kernel
theorem d_101_511 : decode (bC 101) 511 = .ok (.ireturn, 1) := by decide +kernel
theorem d_101_512 : decode (bC 101) 512 = .ok (.aload_n 1, 1) := by decide +kernel
theorem d_101_513 : decode (bC 101) 513 = .ok (.aload_n 0, 1) := by decide +kernel
theorem d_101_514 : decode (bC 101) 514 = .ok (.iload_n 3, 1) := by decide +kernel
theorem d_101_515 : decode (bC 101) 515 = .ok (.iconst 1, 1) := by decide +kernel
theorem d_101_516 : decode (bC 101) 516 = .ok (.iadd, 1) := by decide +kernel
theorem d_101_517 : decode (bC 101) 517 = .ok (.iaload, 1) := by decide +kernel
theorem d_101_518 : decode (bC 101) 518 = .ok (.invokevirtual 74, 3) := by decide +kernel
theorem d_101_521 : decode (bC 101) 521 = .ok (.aload_n 2, 1) := by decide +kernel
theorem d_101_522 : decode (bC 101) 522 = .ok (.aload_n 0, 1) := by decide +kernel
theorem d_101_523 : decode (bC 101) 523 = .ok (.iload_n 3, 1) := by decide +kernel
theorem d_101_524 : decode (bC 101) 524 = .ok (.iconst 1, 1) := by decide +kernel
theorem d_101_525 : decode (bC 101) 525 = .ok (.iadd, 1) := by decide +kernel
theorem d_101_526 : decode (bC 101) 526 = .ok (.iaload, 1) := by decide +kernel
theorem d_101_527 : decode (bC 101) 527 = .ok (.invokevirtual 77, 3) := by decide +kernel
theorem d_101_530 : decode (bC 101) 530 = .ok (.if_icmp .eq 74, 3) := by decide +kernel
theorem d_101_533 : decode (bC 101) 533 = .ok (.iconst 0, 1) := by decide +kernel
theorem d_101_534 : decode (bC 101) 534 = .ok (.ireturn, 1) := by decide +kernel
theorem d_101_535 : decode (bC 101) 535 = .ok (.aload_n 1, 1) := by decide +kernel
theorem d_101_536 : decode (bC 101) 536 = .ok (.aload_n 0, 1) := by decide +kernel
theorem d_101_537 : decode (bC 101) 537 = .ok (.iload_n 3, 1) := by decide +kernel
theorem d_101_538 : decode (bC 101) 538 = .ok (.iconst 1, 1) := by decide +kernel
theorem d_101_539 : decode (bC 101) 539 = .ok (.iadd, 1) := by decide +kernel
theorem d_101_540 : decode (bC 101) 540 = .ok (.iaload, 1) := by decide +kernel
theorem d_101_541 : decode (bC 101) 541 = .ok (.invokevirtual 78, 3) := by decide +kernel
theorem d_101_544 : decode (bC 101) 544 = .ok (.aload_n 2, 1) := by decide +kernel
theorem d_101_545 : decode (bC 101) 545 = .ok (.aload_n 0, 1) := by decide +kernel
theorem d_101_546 : decode (bC 101) 546 = .ok (.iload_n 3, 1) := by decide +kernel
theorem d_101_547 : decode (bC 101) 547 = .ok (.iconst 1, 1) := by decide +kernel
theorem d_101_548 : decode (bC 101) 548 = .ok (.iadd, 1) := by decide +kernel
theorem d_101_549 : decode (bC 101) 549 = .ok (.iaload, 1) := by decide +kernel
theorem d_101_550 : decode (bC 101) 550 = .ok (.invokevirtual 81, 3) := by decide +kernel
theorem d_101_553 : decode (bC 101) 553 = .ok (.if_icmp .eq 51, 3) := by decide +kernel
theorem d_101_556 : decode (bC 101) 556 = .ok (.iconst 0, 1) := by decide +kernel
theorem d_101_557 : decode (bC 101) 557 = .ok (.ireturn, 1) := by decide +kernel
theorem d_101_558 : decode (bC 101) 558 = .ok (.aload_n 1, 1) := by decide +kernel
theorem d_101_559 : decode (bC 101) 559 = .ok (.aload_n 0, 1) := by decide +kernel
theorem d_101_560 : decode (bC 101) 560 = .ok (.iload_n 3, 1) := by decide +kernel
theorem d_101_561 : decode (bC 101) 561 = .ok (.iconst 1, 1) := by decide +kernel
theorem d_101_562 : decode (bC 101) 562 = .ok (.iadd, 1) := by decide +kernel
theorem d_101_563 : decode (bC 101) 563 = .ok (.iaload, 1) := by decide +kernel
theorem d_101_564 : decode (bC 101) 564 = .ok (.invokevirtual 82, 3) := by decide +kernel
theorem d_101_567 : decode (bC 101) 567 = .ok (.aload_n 2, 1) := by decide +kernel
theorem d_101_568 : decode (bC 101) 568 = .ok (.aload_n 0, 1) := by decide +kernel
theorem d_101_569 : decode (bC 101) 569 = .ok (.iload_n 3, 1) := by decide +kernel
theorem d_101_570 : decode (bC 101) 570 = .ok (.iconst 1, 1) := by decide +kernel
theorem d_101_571 : decode (bC 101) 571 = .ok (.iadd, 1) := by decide +kernel
theorem d_101_572 : decode (bC 101) 572 = .ok (.iaload, 1) := by decide +kernel
theorem d_101_573 : decode (bC 101) 573 = .ok (.invokevirtual 85, 3) := by decide +kernel
theorem d_101_576 : decode (bC 101) 576 = .ok (.if_icmp .eq 28, 3) := by decide +kernel
theorem d_101_579 : decode (bC 101) 579 = .ok (.iconst 0, 1) := by decide +kernel
theorem d_101_580 : decode (bC 101) 580 = .ok (.ireturn, 1) := by decide +kernel
theorem d_101_581 : decode (bC 101) 581 = .ok (.aload_n 1, 1) := by decide +kernel
theorem d_101_582 : decode (bC 101) 582 = .ok (.aload_n 0, 1) := by decide +kernel
theorem d_101_583 : decode (bC 101) 583 = .ok (.iload_n 3, 1) := by decide +kernel
theorem d_101_584 : decode (bC 101) 584 = .ok (.iconst 1, 1) := by decide +kernel
theorem d_101_585 : decode (bC 101) 585 = .ok (.iadd, 1) := by decide +kernel
theorem d_101_586 : decode (bC 101) 586 = .ok (.iaload, 1) := by decide +kernel
theorem d_101_587 : decode (bC 101) 587 = .ok (.invokevirtual 86, 3) := by decide +kernel
theorem d_101_590 : decode (bC 101) 590 = .ok (.aload_n 2, 1) := by decide +kernel
theorem d_101_591 : decode (bC 101) 591 = .ok (.aload_n 0, 1) := by decide +kernel
theorem d_101_592 : decode (bC 101) 592 = .ok (.iload_n 3, 1) := by decide +kernel
theorem d_101_593 : decode (bC 101) 593 = .ok (.iconst 1, 1) := by decide +kernel
theorem d_101_594 : decode (bC 101) 594 = .ok (.iadd, 1) := by decide +kernel
theorem d_101_595 : decode (bC 101) 595 = .ok (.iaload, 1) := by decide +kernel
theorem d_101_596 : decode (bC 101) 596 = .ok (.invokevirtual 89, 3) := by decide +kernel
theorem d_101_599 : decode (bC 101) 599 = .ok (.if_icmp .eq 5, 3) := by decide +kernel
theorem d_101_602 : decode (bC 101) 602 = .ok (.iconst 0, 1) := by decide +kernel
theorem d_101_603 : decode (bC 101) 603 = .ok (.ireturn, 1) := by decide +kernel
theorem d_101_604 : decode (bC 101) 604 = .ok (.iinc 3 4, 3) := by decide +kernel
theorem d_101_607 : decode (bC 101) 607 = .ok (.goto (-589), 3) := by decide +kernel
theorem d_101_610 : decode (bC 101) 610 = .ok (.iconst 1, 1) := by decide +kernel
theorem d_101_611 : decode (bC 101) 611 = .ok (.ireturn, 1) := by decide +kernel
