abbrev b_L_law : ByteArray := code
theorem d_L_law_0 : decode b_L_law 0 = .ok (.new 7, 3) := by decide +kernel
theorem d_L_law_3 : decode b_L_law 3 = .ok (.dup, 1) := by decide +kernel
theorem d_L_law_4 : decode b_L_law 4 = .ok (.invokespecial 9, 3) := by decide +kernel
theorem d_L_law_7 : decode b_L_law 7 = .ok (.astore_n 1, 1) := by decide +kernel
theorem d_L_law_8 : decode b_L_law 8 = .ok (.new 10, 3) := by decide +kernel
theorem d_L_law_11 : decode b_L_law 11 = .ok (.dup, 1) := by decide +kernel
theorem d_L_law_12 : decode b_L_law 12 = .ok (.invokespecial 12, 3) := by decide +kernel
theorem d_L_law_15 : decode b_L_law 15 = .ok (.astore_n 2, 1) := by decide +kernel
theorem d_L_law_16 : decode b_L_law 16 = .ok (.iconst 0, 1) := by decide +kernel
theorem d_L_law_17 : decode b_L_law 17 = .ok (.istore_n 3, 1) := by decide +kernel
theorem d_L_law_18 : decode b_L_law 18 = .ok (.iload_n 3, 1) := by decide +kernel
theorem d_L_law_19 : decode b_L_law 19 = .ok (.aload_n 0, 1) := by decide +kernel
theorem d_L_law_20 : decode b_L_law 20 = .ok (.arraylength, 1) := by decide +kernel
theorem d_L_law_21 : decode b_L_law 21 = .ok (.bipush 6, 2) := by decide +kernel
theorem d_L_law_23 : decode b_L_law 23 = .ok (.isub, 1) := by decide +kernel
theorem d_L_law_24 : decode b_L_law 24 = .ok (.if_icmp .gt 728, 3) := by decide +kernel
theorem d_L_law_27 : decode b_L_law 27 = .ok (.aload_n 0, 1) := by decide +kernel
theorem d_L_law_28 : decode b_L_law 28 = .ok (.iload_n 3, 1) := by decide +kernel
theorem d_L_law_29 : decode b_L_law 29 = .ok (.iaload, 1) := by decide +kernel
theorem d_L_law_30 : decode b_L_law 30 = .ok (.bipush 31, 2) := by decide +kernel
theorem d_L_law_32 : decode b_L_law 32 = .ok (.iand, 1) := by decide +kernel
theorem d_L_law_33 : decode b_L_law 33 = .ok (.tableswitch 713 0 20 #[99, 142, 165, 208, 261, 345, 418, 441, 454, 477, 500, 513, 546, 569, 592, 615, 638, 651, 664, 677, 700], 99) := by decide +kernel
theorem d_L_law_132 : decode b_L_law 132 = .ok (.aload_n 1, 1) := by decide +kernel
theorem d_L_law_133 : decode b_L_law 133 = .ok (.aload_n 0, 1) := by decide +kernel
theorem d_L_law_134 : decode b_L_law 134 = .ok (.iload_n 3, 1) := by decide +kernel
theorem d_L_law_135 : decode b_L_law 135 = .ok (.iconst 1, 1) := by decide +kernel
theorem d_L_law_136 : decode b_L_law 136 = .ok (.iadd, 1) := by decide +kernel
theorem d_L_law_137 : decode b_L_law 137 = .ok (.iaload, 1) := by decide +kernel
theorem d_L_law_138 : decode b_L_law 138 = .ok (.aload_n 0, 1) := by decide +kernel
theorem d_L_law_139 : decode b_L_law 139 = .ok (.iload_n 3, 1) := by decide +kernel
theorem d_L_law_140 : decode b_L_law 140 = .ok (.iconst 2, 1) := by decide +kernel
theorem d_L_law_141 : decode b_L_law 141 = .ok (.iadd, 1) := by decide +kernel
theorem d_L_law_142 : decode b_L_law 142 = .ok (.iaload, 1) := by decide +kernel
theorem d_L_law_143 : decode b_L_law 143 = .ok (.aload_n 0, 1) := by decide +kernel
theorem d_L_law_144 : decode b_L_law 144 = .ok (.iload_n 3, 1) := by decide +kernel
theorem d_L_law_145 : decode b_L_law 145 = .ok (.iconst 3, 1) := by decide +kernel
theorem d_L_law_146 : decode b_L_law 146 = .ok (.iadd, 1) := by decide +kernel
theorem d_L_law_147 : decode b_L_law 147 = .ok (.iaload, 1) := by decide +kernel
theorem d_L_law_148 : decode b_L_law 148 = .ok (.invokevirtual 13, 3) := by decide +kernel
theorem d_L_law_151 : decode b_L_law 151 = .ok (.aload_n 2, 1) := by decide +kernel
theorem d_L_law_152 : decode b_L_law 152 = .ok (.aload_n 0, 1) := by decide +kernel
theorem d_L_law_153 : decode b_L_law 153 = .ok (.iload_n 3, 1) := by decide +kernel
theorem d_L_law_154 : decode b_L_law 154 = .ok (.iconst 1, 1) := by decide +kernel
theorem d_L_law_155 : decode b_L_law 155 = .ok (.iadd, 1) := by decide +kernel
theorem d_L_law_156 : decode b_L_law 156 = .ok (.iaload, 1) := by decide +kernel
theorem d_L_law_157 : decode b_L_law 157 = .ok (.aload_n 0, 1) := by decide +kernel
theorem d_L_law_158 : decode b_L_law 158 = .ok (.iload_n 3, 1) := by decide +kernel
theorem d_L_law_159 : decode b_L_law 159 = .ok (.iconst 2, 1) := by decide +kernel
theorem d_L_law_160 : decode b_L_law 160 = .ok (.iadd, 1) := by decide +kernel
theorem d_L_law_161 : decode b_L_law 161 = .ok (.iaload, 1) := by decide +kernel
theorem d_L_law_162 : decode b_L_law 162 = .ok (.aload_n 0, 1) := by decide +kernel
theorem d_L_law_163 : decode b_L_law 163 = .ok (.iload_n 3, 1) := by decide +kernel
theorem d_L_law_164 : decode b_L_law 164 = .ok (.iconst 3, 1) := by decide +kernel
theorem d_L_law_165 : decode b_L_law 165 = .ok (.iadd, 1) := by decide +kernel
theorem d_L_law_166 : decode b_L_law 166 = .ok (.iaload, 1) := by decide +kernel
theorem d_L_law_167 : decode b_L_law 167 = .ok (.invokevirtual 17, 3) := by decide +kernel
theorem d_L_law_170 : decode b_L_law 170 = .ok (.if_icmp .eq 576, 3) := by decide +kernel
theorem d_L_law_173 : decode b_L_law 173 = .ok (.iconst 0, 1) := by decide +kernel
theorem d_L_law_174 : decode b_L_law 174 = .ok (.ireturn, 1) := by decide +kernel
theorem d_L_law_175 : decode b_L_law 175 = .ok (.aload_n 1, 1) := by decide +kernel
theorem d_L_law_176 : decode b_L_law 176 = .ok (.aload_n 0, 1) := by decide +kernel
theorem d_L_law_177 : decode b_L_law 177 = .ok (.iload_n 3, 1) := by decide +kernel
theorem d_L_law_178 : decode b_L_law 178 = .ok (.iconst 1, 1) := by decide +kernel
theorem d_L_law_179 : decode b_L_law 179 = .ok (.iadd, 1) := by decide +kernel
theorem d_L_law_180 : decode b_L_law 180 = .ok (.iaload, 1) := by decide +kernel
theorem d_L_law_181 : decode b_L_law 181 = .ok (.invokevirtual 18, 3) := by decide +kernel
theorem d_L_law_184 : decode b_L_law 184 = .ok (.aload_n 2, 1) := by decide +kernel
theorem d_L_law_185 : decode b_L_law 185 = .ok (.aload_n 0, 1) := by decide +kernel
theorem d_L_law_186 : decode b_L_law 186 = .ok (.iload_n 3, 1) := by decide +kernel
theorem d_L_law_187 : decode b_L_law 187 = .ok (.iconst 1, 1) := by decide +kernel
theorem d_L_law_188 : decode b_L_law 188 = .ok (.iadd, 1) := by decide +kernel
theorem d_L_law_189 : decode b_L_law 189 = .ok (.iaload, 1) := by decide +kernel
theorem d_L_law_190 : decode b_L_law 190 = .ok (.invokevirtual 22, 3) := by decide +kernel
theorem d_L_law_193 : decode b_L_law 193 = .ok (.if_icmp .eq 553, 3) := by decide +kernel
theorem d_L_law_196 : decode b_L_law 196 = .ok (.iconst 0, 1) := by decide +kernel
theorem d_L_law_197 : decode b_L_law 197 = .ok (.ireturn, 1) := by decide +kernel
theorem d_L_law_198 : decode b_L_law 198 = .ok (.aload_n 1, 1) := by decide +kernel
theorem d_L_law_199 : decode b_L_law 199 = .ok (.aload_n 0, 1) := by decide +kernel
theorem d_L_law_200 : decode b_L_law 200 = .ok (.iload_n 3, 1) := by decide +kernel
theorem d_L_law_201 : decode b_L_law 201 = .ok (.iconst 1, 1) := by decide +kernel
theorem d_L_law_202 : decode b_L_law 202 = .ok (.iadd, 1) := by decide +kernel
theorem d_L_law_203 : decode b_L_law 203 = .ok (.iaload, 1) := by decide +kernel
theorem d_L_law_204 : decode b_L_law 204 = .ok (.aload_n 0, 1) := by decide +kernel
theorem d_L_law_205 : decode b_L_law 205 = .ok (.iload_n 3, 1) := by decide +kernel
theorem d_L_law_206 : decode b_L_law 206 = .ok (.iconst 2, 1) := by decide +kernel
theorem d_L_law_207 : decode b_L_law 207 = .ok (.iadd, 1) := by decide +kernel
theorem d_L_law_208 : decode b_L_law 208 = .ok (.iaload, 1) := by decide +kernel
theorem d_L_law_209 : decode b_L_law 209 = .ok (.aload_n 0, 1) := by decide +kernel
theorem d_L_law_210 : decode b_L_law 210 = .ok (.iload_n 3, 1) := by decide +kernel
theorem d_L_law_211 : decode b_L_law 211 = .ok (.iconst 3, 1) := by decide +kernel
theorem d_L_law_212 : decode b_L_law 212 = .ok (.iadd, 1) := by decide +kernel
theorem d_L_law_213 : decode b_L_law 213 = .ok (.iaload, 1) := by decide +kernel
theorem d_L_law_214 : decode b_L_law 214 = .ok (.invokevirtual 23, 3) := by decide +kernel
theorem d_L_law_217 : decode b_L_law 217 = .ok (.aload_n 2, 1) := by decide +kernel
theorem d_L_law_218 : decode b_L_law 218 = .ok (.aload_n 0, 1) := by decide +kernel
theorem d_L_law_219 : decode b_L_law 219 = .ok (.iload_n 3, 1) := by decide +kernel
theorem d_L_law_220 : decode b_L_law 220 = .ok (.iconst 1, 1) := by decide +kernel
theorem d_L_law_221 : decode b_L_law 221 = .ok (.iadd, 1) := by decide +kernel
theorem d_L_law_222 : decode b_L_law 222 = .ok (.iaload, 1) := by decide +kernel
theorem d_L_law_223 : decode b_L_law 223 = .ok (.aload_n 0, 1) := by decide +kernel
theorem d_L_law_224 : decode b_L_law 224 = .ok (.iload_n 3, 1) := by decide +kernel
theorem d_L_law_225 : decode b_L_law 225 = .ok (.iconst 2, 1) := by decide +kernel
theorem d_L_law_226 : decode b_L_law 226 = .ok (.iadd, 1) := by decide +kernel
theorem d_L_law_227 : decode b_L_law 227 = .ok (.iaload, 1) := by decide +kernel
theorem d_L_law_228 : decode b_L_law 228 = .ok (.aload_n 0, 1) := by decide +kernel
theorem d_L_law_229 : decode b_L_law 229 = .ok (.iload_n 3, 1) := by decide +kernel
theorem d_L_law_230 : decode b_L_law 230 = .ok (.iconst 3, 1) := by decide +kernel
theorem d_L_law_231 : decode b_L_law 231 = .ok (.iadd, 1) := by decide +kernel
theorem d_L_law_232 : decode b_L_law 232 = .ok (.iaload, 1) := by decide +kernel
theorem d_L_law_233 : decode b_L_law 233 = .ok (.invokevirtual 26, 3) := by decide +kernel
theorem d_L_law_236 : decode b_L_law 236 = .ok (.if_icmp .eq 510, 3) := by decide +kernel
theorem d_L_law_239 : decode b_L_law 239 = .ok (.iconst 0, 1) := by decide +kernel
theorem d_L_law_240 : decode b_L_law 240 = .ok (.ireturn, 1) := by decide +kernel
theorem d_L_law_241 : decode b_L_law 241 = .ok (.aload_n 1, 1) := by decide +kernel
theorem d_L_law_242 : decode b_L_law 242 = .ok (.aload_n 0, 1) := by decide +kernel
theorem d_L_law_243 : decode b_L_law 243 = .ok (.iload_n 3, 1) := by decide +kernel
theorem d_L_law_244 : decode b_L_law 244 = .ok (.iconst 1, 1) := by decide +kernel
theorem d_L_law_245 : decode b_L_law 245 = .ok (.iadd, 1) := by decide +kernel
theorem d_L_law_246 : decode b_L_law 246 = .ok (.iaload, 1) := by decide +kernel
theorem d_L_law_247 : decode b_L_law 247 = .ok (.aload_n 0, 1) := by decide +kernel
theorem d_L_law_248 : decode b_L_law 248 = .ok (.iload_n 3, 1) := by decide +kernel
theorem d_L_law_249 : decode b_L_law 249 = .ok (.iconst 2, 1) := by decide +kernel
theorem d_L_law_250 : decode b_L_law 250 = .ok (.iadd, 1) := by decide +kernel
theorem d_L_law_251 : decode b_L_law 251 = .ok (.iaload, 1) := by decide +kernel
theorem d_L_law_252 : decode b_L_law 252 = .ok (.aload_n 0, 1) := by decide +kernel
theorem d_L_law_253 : decode b_L_law 253 = .ok (.iload_n 3, 1) := by decide +kernel
theorem d_L_law_254 : decode b_L_law 254 = .ok (.iconst 3, 1) := by decide +kernel
theorem d_L_law_255 : decode b_L_law 255 = .ok (.iadd, 1) := by decide +kernel
theorem d_L_law_256 : decode b_L_law 256 = .ok (.iaload, 1) := by decide +kernel
theorem d_L_law_257 : decode b_L_law 257 = .ok (.aload_n 0, 1) := by decide +kernel
theorem d_L_law_258 : decode b_L_law 258 = .ok (.iload_n 3, 1) := by decide +kernel
theorem d_L_law_259 : decode b_L_law 259 = .ok (.iconst 4, 1) := by decide +kernel
theorem d_L_law_260 : decode b_L_law 260 = .ok (.iadd, 1) := by decide +kernel
theorem d_L_law_261 : decode b_L_law 261 = .ok (.iaload, 1) := by decide +kernel
theorem d_L_law_262 : decode b_L_law 262 = .ok (.invokevirtual 27, 3) := by decide +kernel
theorem d_L_law_265 : decode b_L_law 265 = .ok (.aload_n 2, 1) := by decide +kernel
theorem d_L_law_266 : decode b_L_law 266 = .ok (.aload_n 0, 1) := by decide +kernel
theorem d_L_law_267 : decode b_L_law 267 = .ok (.iload_n 3, 1) := by decide +kernel
theorem d_L_law_268 : decode b_L_law 268 = .ok (.iconst 1, 1) := by decide +kernel
theorem d_L_law_269 : decode b_L_law 269 = .ok (.iadd, 1) := by decide +kernel
theorem d_L_law_270 : decode b_L_law 270 = .ok (.iaload, 1) := by decide +kernel
theorem d_L_law_271 : decode b_L_law 271 = .ok (.aload_n 0, 1) := by decide +kernel
theorem d_L_law_272 : decode b_L_law 272 = .ok (.iload_n 3, 1) := by decide +kernel
theorem d_L_law_273 : decode b_L_law 273 = .ok (.iconst 2, 1) := by decide +kernel
theorem d_L_law_274 : decode b_L_law 274 = .ok (.iadd, 1) := by decide +kernel
theorem d_L_law_275 : decode b_L_law 275 = .ok (.iaload, 1) := by decide +kernel
theorem d_L_law_276 : decode b_L_law 276 = .ok (.aload_n 0, 1) := by decide +kernel
theorem d_L_law_277 : decode b_L_law 277 = .ok (.iload_n 3, 1) := by decide +kernel
theorem d_L_law_278 : decode b_L_law 278 = .ok (.iconst 3, 1) := by decide +kernel
theorem d_L_law_279 : decode b_L_law 279 = .ok (.iadd, 1) := by decide +kernel
theorem d_L_law_280 : decode b_L_law 280 = .ok (.iaload, 1) := by decide +kernel
theorem d_L_law_281 : decode b_L_law 281 = .ok (.aload_n 0, 1) := by decide +kernel
theorem d_L_law_282 : decode b_L_law 282 = .ok (.iload_n 3, 1) := by decide +kernel
theorem d_L_law_283 : decode b_L_law 283 = .ok (.iconst 4, 1) := by decide +kernel
theorem d_L_law_284 : decode b_L_law 284 = .ok (.iadd, 1) := by decide +kernel
theorem d_L_law_285 : decode b_L_law 285 = .ok (.iaload, 1) := by decide +kernel
theorem d_L_law_286 : decode b_L_law 286 = .ok (.invokevirtual 31, 3) := by decide +kernel
theorem d_L_law_289 : decode b_L_law 289 = .ok (.if_icmp .eq 457, 3) := by decide +kernel
theorem d_L_law_292 : decode b_L_law 292 = .ok (.iconst 0, 1) := by decide +kernel
theorem d_L_law_293 : decode b_L_law 293 = .ok (.ireturn, 1) := by decide +kernel
theorem d_L_law_294 : decode b_L_law 294 = .ok (.aload_n 1, 1) := by decide +kernel
theorem d_L_law_295 : decode b_L_law 295 = .ok (.aload_n 0, 1) := by decide +kernel
theorem d_L_law_296 : decode b_L_law 296 = .ok (.iload_n 3, 1) := by decide +kernel
theorem d_L_law_297 : decode b_L_law 297 = .ok (.iconst 1, 1) := by decide +kernel
theorem d_L_law_298 : decode b_L_law 298 = .ok (.iadd, 1) := by decide +kernel
theorem d_L_law_299 : decode b_L_law 299 = .ok (.iaload, 1) := by decide +kernel
theorem d_L_law_300 : decode b_L_law 300 = .ok (.aload_n 0, 1) := by decide +kernel
theorem d_L_law_301 : decode b_L_law 301 = .ok (.iload_n 3, 1) := by decide +kernel
theorem d_L_law_302 : decode b_L_law 302 = .ok (.iconst 2, 1) := by decide +kernel
theorem d_L_law_303 : decode b_L_law 303 = .ok (.iadd, 1) := by decide +kernel
theorem d_L_law_304 : decode b_L_law 304 = .ok (.iaload, 1) := by decide +kernel
theorem d_L_law_305 : decode b_L_law 305 = .ok (.aload_n 0, 1) := by decide +kernel
theorem d_L_law_306 : decode b_L_law 306 = .ok (.iload_n 3, 1) := by decide +kernel
theorem d_L_law_307 : decode b_L_law 307 = .ok (.iconst 3, 1) := by decide +kernel
theorem d_L_law_308 : decode b_L_law 308 = .ok (.iadd, 1) := by decide +kernel
theorem d_L_law_309 : decode b_L_law 309 = .ok (.iaload, 1) := by decide +kernel
theorem d_L_law_310 : decode b_L_law 310 = .ok (.aload_n 0, 1) := by decide +kernel
theorem d_L_law_311 : decode b_L_law 311 = .ok (.iload_n 3, 1) := by decide +kernel
theorem d_L_law_312 : decode b_L_law 312 = .ok (.iconst 4, 1) := by decide +kernel
theorem d_L_law_313 : decode b_L_law 313 = .ok (.iadd, 1) := by decide +kernel
theorem d_L_law_314 : decode b_L_law 314 = .ok (.iaload, 1) := by decide +kernel
theorem d_L_law_315 : decode b_L_law 315 = .ok (.i2l, 1) := by decide +kernel
theorem d_L_law_316 : decode b_L_law 316 = .ok (.bipush 32, 2) := by decide +kernel
theorem d_L_law_318 : decode b_L_law 318 = .ok (.lshl, 1) := by decide +kernel
theorem d_L_law_319 : decode b_L_law 319 = .ok (.aload_n 0, 1) := by decide +kernel
theorem d_L_law_320 : decode b_L_law 320 = .ok (.iload_n 3, 1) := by decide +kernel
theorem d_L_law_321 : decode b_L_law 321 = .ok (.iconst 5, 1) := by decide +kernel
theorem d_L_law_322 : decode b_L_law 322 = .ok (.iadd, 1) := by decide +kernel
theorem d_L_law_323 : decode b_L_law 323 = .ok (.iaload, 1) := by decide +kernel
theorem d_L_law_324 : decode b_L_law 324 = .ok (.i2l, 1) := by decide +kernel
theorem d_L_law_325 : decode b_L_law 325 = .ok (.ldc2_w 32, 3) := by decide +kernel
theorem d_L_law_328 : decode b_L_law 328 = .ok (.land, 1) := by decide +kernel
theorem d_L_law_329 : decode b_L_law 329 = .ok (.lor, 1) := by decide +kernel
theorem d_L_law_330 : decode b_L_law 330 = .ok (.invokevirtual 34, 3) := by decide +kernel
theorem d_L_law_333 : decode b_L_law 333 = .ok (.aload_n 2, 1) := by decide +kernel
theorem d_L_law_334 : decode b_L_law 334 = .ok (.aload_n 0, 1) := by decide +kernel
theorem d_L_law_335 : decode b_L_law 335 = .ok (.iload_n 3, 1) := by decide +kernel
theorem d_L_law_336 : decode b_L_law 336 = .ok (.iconst 1, 1) := by decide +kernel
theorem d_L_law_337 : decode b_L_law 337 = .ok (.iadd, 1) := by decide +kernel
theorem d_L_law_338 : decode b_L_law 338 = .ok (.iaload, 1) := by decide +kernel
theorem d_L_law_339 : decode b_L_law 339 = .ok (.aload_n 0, 1) := by decide +kernel
theorem d_L_law_340 : decode b_L_law 340 = .ok (.iload_n 3, 1) := by decide +kernel
theorem d_L_law_341 : decode b_L_law 341 = .ok (.iconst 2, 1) := by decide +kernel
theorem d_L_law_342 : decode b_L_law 342 = .ok (.iadd, 1) := by decide +kernel
theorem d_L_law_343 : decode b_L_law 343 = .ok (.iaload, 1) := by decide +kernel
theorem d_L_law_344 : decode b_L_law 344 = .ok (.aload_n 0, 1) := by decide +kernel
theorem d_L_law_345 : decode b_L_law 345 = .ok (.iload_n 3, 1) := by decide +kernel
theorem d_L_law_346 : decode b_L_law 346 = .ok (.iconst 3, 1) := by decide +kernel
theorem d_L_law_347 : decode b_L_law 347 = .ok (.iadd, 1) := by decide +kernel
theorem d_L_law_348 : decode b_L_law 348 = .ok (.iaload, 1) := by decide +kernel
theorem d_L_law_349 : decode b_L_law 349 = .ok (.aload_n 0, 1) := by decide +kernel
theorem d_L_law_350 : decode b_L_law 350 = .ok (.iload_n 3, 1) := by decide +kernel
theorem d_L_law_351 : decode b_L_law 351 = .ok (.iconst 4, 1) := by decide +kernel
theorem d_L_law_352 : decode b_L_law 352 = .ok (.iadd, 1) := by decide +kernel
theorem d_L_law_353 : decode b_L_law 353 = .ok (.iaload, 1) := by decide +kernel
theorem d_L_law_354 : decode b_L_law 354 = .ok (.i2l, 1) := by decide +kernel
theorem d_L_law_355 : decode b_L_law 355 = .ok (.bipush 32, 2) := by decide +kernel
theorem d_L_law_357 : decode b_L_law 357 = .ok (.lshl, 1) := by decide +kernel
theorem d_L_law_358 : decode b_L_law 358 = .ok (.aload_n 0, 1) := by decide +kernel
theorem d_L_law_359 : decode b_L_law 359 = .ok (.iload_n 3, 1) := by decide +kernel
theorem d_L_law_360 : decode b_L_law 360 = .ok (.iconst 5, 1) := by decide +kernel
theorem d_L_law_361 : decode b_L_law 361 = .ok (.iadd, 1) := by decide +kernel
theorem d_L_law_362 : decode b_L_law 362 = .ok (.iaload, 1) := by decide +kernel
theorem d_L_law_363 : decode b_L_law 363 = .ok (.i2l, 1) := by decide +kernel
theorem d_L_law_364 : decode b_L_law 364 = .ok (.ldc2_w 32, 3) := by decide +kernel
theorem d_L_law_367 : decode b_L_law 367 = .ok (.land, 1) := by decide +kernel
theorem d_L_law_368 : decode b_L_law 368 = .ok (.lor, 1) := by decide +kernel
theorem d_L_law_369 : decode b_L_law 369 = .ok (.invokevirtual 38, 3) := by decide +kernel
theorem d_L_law_372 : decode b_L_law 372 = .ok (.lcmp, 1) := by decide +kernel
theorem d_L_law_373 : decode b_L_law 373 = .ok (.ifCond .eq 373, 3) := by decide +kernel
theorem d_L_law_376 : decode b_L_law 376 = .ok (.iconst 0, 1) := by decide +kernel
theorem d_L_law_377 : decode b_L_law 377 = .ok (.ireturn, 1) := by decide +kernel
theorem d_L_law_378 : decode b_L_law 378 = .ok (.aload_n 1, 1) := by decide +kernel
theorem d_L_law_379 : decode b_L_law 379 = .ok (.aload_n 0, 1) := by decide +kernel
theorem d_L_law_380 : decode b_L_law 380 = .ok (.iload_n 3, 1) := by decide +kernel
theorem d_L_law_381 : decode b_L_law 381 = .ok (.iconst 1, 1) := by decide +kernel
theorem d_L_law_382 : decode b_L_law 382 = .ok (.iadd, 1) := by decide +kernel
theorem d_L_law_383 : decode b_L_law 383 = .ok (.iaload, 1) := by decide +kernel
theorem d_L_law_384 : decode b_L_law 384 = .ok (.aload_n 0, 1) := by decide +kernel
theorem d_L_law_385 : decode b_L_law 385 = .ok (.iload_n 3, 1) := by decide +kernel
theorem d_L_law_386 : decode b_L_law 386 = .ok (.iconst 2, 1) := by decide +kernel
theorem d_L_law_387 : decode b_L_law 387 = .ok (.iadd, 1) := by decide +kernel
theorem d_L_law_388 : decode b_L_law 388 = .ok (.iaload, 1) := by decide +kernel
theorem d_L_law_389 : decode b_L_law 389 = .ok (.aload_n 0, 1) := by decide +kernel
theorem d_L_law_390 : decode b_L_law 390 = .ok (.iload_n 3, 1) := by decide +kernel
theorem d_L_law_391 : decode b_L_law 391 = .ok (.iconst 3, 1) := by decide +kernel
theorem d_L_law_392 : decode b_L_law 392 = .ok (.iadd, 1) := by decide +kernel
theorem d_L_law_393 : decode b_L_law 393 = .ok (.iaload, 1) := by decide +kernel
theorem d_L_law_394 : decode b_L_law 394 = .ok (.i2l, 1) := by decide +kernel
theorem d_L_law_395 : decode b_L_law 395 = .ok (.bipush 32, 2) := by decide +kernel
theorem d_L_law_397 : decode b_L_law 397 = .ok (.lshl, 1) := by decide +kernel
theorem d_L_law_398 : decode b_L_law 398 = .ok (.aload_n 0, 1) := by decide +kernel
theorem d_L_law_399 : decode b_L_law 399 = .ok (.iload_n 3, 1) := by decide +kernel
theorem d_L_law_400 : decode b_L_law 400 = .ok (.iconst 4, 1) := by decide +kernel
theorem d_L_law_401 : decode b_L_law 401 = .ok (.iadd, 1) := by decide +kernel
theorem d_L_law_402 : decode b_L_law 402 = .ok (.iaload, 1) := by decide +kernel
theorem d_L_law_403 : decode b_L_law 403 = .ok (.i2l, 1) := by decide +kernel
theorem d_L_law_404 : decode b_L_law 404 = .ok (.ldc2_w 32, 3) := by decide +kernel
theorem d_L_law_407 : decode b_L_law 407 = .ok (.land, 1) := by decide +kernel
theorem d_L_law_408 : decode b_L_law 408 = .ok (.lor, 1) := by decide +kernel
theorem d_L_law_409 : decode b_L_law 409 = .ok (.invokevirtual 39, 3) := by decide +kernel
theorem d_L_law_412 : decode b_L_law 412 = .ok (.aload_n 2, 1) := by decide +kernel
theorem d_L_law_413 : decode b_L_law 413 = .ok (.aload_n 0, 1) := by decide +kernel
theorem d_L_law_414 : decode b_L_law 414 = .ok (.iload_n 3, 1) := by decide +kernel
theorem d_L_law_415 : decode b_L_law 415 = .ok (.iconst 1, 1) := by decide +kernel
theorem d_L_law_416 : decode b_L_law 416 = .ok (.iadd, 1) := by decide +kernel
theorem d_L_law_417 : decode b_L_law 417 = .ok (.iaload, 1) := by decide +kernel
theorem d_L_law_418 : decode b_L_law 418 = .ok (.aload_n 0, 1) := by decide +kernel
theorem d_L_law_419 : decode b_L_law 419 = .ok (.iload_n 3, 1) := by decide +kernel
theorem d_L_law_420 : decode b_L_law 420 = .ok (.iconst 2, 1) := by decide +kernel
theorem d_L_law_421 : decode b_L_law 421 = .ok (.iadd, 1) := by decide +kernel
theorem d_L_law_422 : decode b_L_law 422 = .ok (.iaload, 1) := by decide +kernel
theorem d_L_law_423 : decode b_L_law 423 = .ok (.aload_n 0, 1) := by decide +kernel
theorem d_L_law_424 : decode b_L_law 424 = .ok (.iload_n 3, 1) := by decide +kernel
theorem d_L_law_425 : decode b_L_law 425 = .ok (.iconst 3, 1) := by decide +kernel
theorem d_L_law_426 : decode b_L_law 426 = .ok (.iadd, 1) := by decide +kernel
theorem d_L_law_427 : decode b_L_law 427 = .ok (.iaload, 1) := by decide +kernel
theorem d_L_law_428 : decode b_L_law 428 = .ok (.i2l, 1) := by decide +kernel
theorem d_L_law_429 : decode b_L_law 429 = .ok (.bipush 32, 2) := by decide +kernel
theorem d_L_law_431 : decode b_L_law 431 = .ok (.lshl, 1) := by decide +kernel
theorem d_L_law_432 : decode b_L_law 432 = .ok (.aload_n 0, 1) := by decide +kernel
theorem d_L_law_433 : decode b_L_law 433 = .ok (.iload_n 3, 1) := by decide +kernel
theorem d_L_law_434 : decode b_L_law 434 = .ok (.iconst 4, 1) := by decide +kernel
theorem d_L_law_435 : decode b_L_law 435 = .ok (.iadd, 1) := by decide +kernel
theorem d_L_law_436 : decode b_L_law 436 = .ok (.iaload, 1) := by decide +kernel
theorem d_L_law_437 : decode b_L_law 437 = .ok (.i2l, 1) := by decide +kernel
theorem d_L_law_438 : decode b_L_law 438 = .ok (.ldc2_w 32, 3) := by decide +kernel
theorem d_L_law_441 : decode b_L_law 441 = .ok (.land, 1) := by decide +kernel
theorem d_L_law_442 : decode b_L_law 442 = .ok (.lor, 1) := by decide +kernel
theorem d_L_law_443 : decode b_L_law 443 = .ok (.invokevirtual 43, 3) := by decide +kernel
theorem d_L_law_446 : decode b_L_law 446 = .ok (.if_icmp .eq 300, 3) := by decide +kernel
theorem d_L_law_449 : decode b_L_law 449 = .ok (.iconst 0, 1) := by decide +kernel
theorem d_L_law_450 : decode b_L_law 450 = .ok (.ireturn, 1) := by decide +kernel
theorem d_L_law_451 : decode b_L_law 451 = .ok (.aload_n 1, 1) := by decide +kernel
theorem d_L_law_452 : decode b_L_law 452 = .ok (.aload_n 0, 1) := by decide +kernel
theorem d_L_law_453 : decode b_L_law 453 = .ok (.iload_n 3, 1) := by decide +kernel
theorem d_L_law_454 : decode b_L_law 454 = .ok (.iconst 1, 1) := by decide +kernel
theorem d_L_law_455 : decode b_L_law 455 = .ok (.iadd, 1) := by decide +kernel
theorem d_L_law_456 : decode b_L_law 456 = .ok (.iaload, 1) := by decide +kernel
theorem d_L_law_457 : decode b_L_law 457 = .ok (.invokevirtual 44, 3) := by decide +kernel
theorem d_L_law_460 : decode b_L_law 460 = .ok (.aload_n 2, 1) := by decide +kernel
theorem d_L_law_461 : decode b_L_law 461 = .ok (.aload_n 0, 1) := by decide +kernel
theorem d_L_law_462 : decode b_L_law 462 = .ok (.iload_n 3, 1) := by decide +kernel
theorem d_L_law_463 : decode b_L_law 463 = .ok (.iconst 1, 1) := by decide +kernel
theorem d_L_law_464 : decode b_L_law 464 = .ok (.iadd, 1) := by decide +kernel
theorem d_L_law_465 : decode b_L_law 465 = .ok (.iaload, 1) := by decide +kernel
theorem d_L_law_466 : decode b_L_law 466 = .ok (.invokevirtual 47, 3) := by decide +kernel
theorem d_L_law_469 : decode b_L_law 469 = .ok (.if_icmp .eq 277, 3) := by decide +kernel
theorem d_L_law_472 : decode b_L_law 472 = .ok (.iconst 0, 1) := by decide +kernel
theorem d_L_law_473 : decode b_L_law 473 = .ok (.ireturn, 1) := by decide +kernel
theorem d_L_law_474 : decode b_L_law 474 = .ok (.aload_n 1, 1) := by decide +kernel
theorem d_L_law_475 : decode b_L_law 475 = .ok (.invokevirtual 48, 3) := by decide +kernel
theorem d_L_law_478 : decode b_L_law 478 = .ok (.aload_n 2, 1) := by decide +kernel
theorem d_L_law_479 : decode b_L_law 479 = .ok (.invokevirtual 52, 3) := by decide +kernel
theorem d_L_law_482 : decode b_L_law 482 = .ok (.if_icmp .eq 264, 3) := by decide +kernel
theorem d_L_law_485 : decode b_L_law 485 = .ok (.iconst 0, 1) := by decide +kernel
theorem d_L_law_486 : decode b_L_law 486 = .ok (.ireturn, 1) := by decide +kernel
theorem d_L_law_487 : decode b_L_law 487 = .ok (.aload_n 1, 1) := by decide +kernel
theorem d_L_law_488 : decode b_L_law 488 = .ok (.aload_n 0, 1) := by decide +kernel
theorem d_L_law_489 : decode b_L_law 489 = .ok (.iload_n 3, 1) := by decide +kernel
theorem d_L_law_490 : decode b_L_law 490 = .ok (.iconst 1, 1) := by decide +kernel
theorem d_L_law_491 : decode b_L_law 491 = .ok (.iadd, 1) := by decide +kernel
theorem d_L_law_492 : decode b_L_law 492 = .ok (.iaload, 1) := by decide +kernel
theorem d_L_law_493 : decode b_L_law 493 = .ok (.invokevirtual 53, 3) := by decide +kernel
theorem d_L_law_496 : decode b_L_law 496 = .ok (.aload_n 2, 1) := by decide +kernel
theorem d_L_law_497 : decode b_L_law 497 = .ok (.aload_n 0, 1) := by decide +kernel
theorem d_L_law_498 : decode b_L_law 498 = .ok (.iload_n 3, 1) := by decide +kernel
theorem d_L_law_499 : decode b_L_law 499 = .ok (.iconst 1, 1) := by decide +kernel
theorem d_L_law_500 : decode b_L_law 500 = .ok (.iadd, 1) := by decide +kernel
theorem d_L_law_501 : decode b_L_law 501 = .ok (.iaload, 1) := by decide +kernel
theorem d_L_law_502 : decode b_L_law 502 = .ok (.invokevirtual 56, 3) := by decide +kernel
theorem d_L_law_505 : decode b_L_law 505 = .ok (.if_icmp .eq 241, 3) := by decide +kernel
theorem d_L_law_508 : decode b_L_law 508 = .ok (.iconst 0, 1) := by decide +kernel
theorem d_L_law_509 : decode b_L_law 509 = .ok (.ireturn, 1) := by decide +kernel
theorem d_L_law_510 : decode b_L_law 510 = .ok (.aload_n 1, 1) := by decide +kernel
theorem d_L_law_511 : decode b_L_law 511 = .ok (.aload_n 0, 1) := by decide +kernel
theorem d_L_law_512 : decode b_L_law 512 = .ok (.iload_n 3, 1) := by decide +kernel
theorem d_L_law_513 : decode b_L_law 513 = .ok (.iconst 1, 1) := by decide +kernel
theorem d_L_law_514 : decode b_L_law 514 = .ok (.iadd, 1) := by decide +kernel
theorem d_L_law_515 : decode b_L_law 515 = .ok (.iaload, 1) := by decide +kernel
theorem d_L_law_516 : decode b_L_law 516 = .ok (.invokevirtual 57, 3) := by decide +kernel
theorem d_L_law_519 : decode b_L_law 519 = .ok (.aload_n 2, 1) := by decide +kernel
theorem d_L_law_520 : decode b_L_law 520 = .ok (.aload_n 0, 1) := by decide +kernel
theorem d_L_law_521 : decode b_L_law 521 = .ok (.iload_n 3, 1) := by decide +kernel
theorem d_L_law_522 : decode b_L_law 522 = .ok (.iconst 1, 1) := by decide +kernel
theorem d_L_law_523 : decode b_L_law 523 = .ok (.iadd, 1) := by decide +kernel
theorem d_L_law_524 : decode b_L_law 524 = .ok (.iaload, 1) := by decide +kernel
theorem d_L_law_525 : decode b_L_law 525 = .ok (.invokevirtual 60, 3) := by decide +kernel
theorem d_L_law_528 : decode b_L_law 528 = .ok (.if_icmp .eq 218, 3) := by decide +kernel
theorem d_L_law_531 : decode b_L_law 531 = .ok (.iconst 0, 1) := by decide +kernel
theorem d_L_law_532 : decode b_L_law 532 = .ok (.ireturn, 1) := by decide +kernel
theorem d_L_law_533 : decode b_L_law 533 = .ok (.aload_n 1, 1) := by decide +kernel
theorem d_L_law_534 : decode b_L_law 534 = .ok (.invokevirtual 61, 3) := by decide +kernel
theorem d_L_law_537 : decode b_L_law 537 = .ok (.aload_n 2, 1) := by decide +kernel
theorem d_L_law_538 : decode b_L_law 538 = .ok (.invokevirtual 64, 3) := by decide +kernel
theorem d_L_law_541 : decode b_L_law 541 = .ok (.if_icmp .eq 205, 3) := by decide +kernel
theorem d_L_law_544 : decode b_L_law 544 = .ok (.iconst 0, 1) := by decide +kernel
theorem d_L_law_545 : decode b_L_law 545 = .ok (.ireturn, 1) := by decide +kernel
theorem d_L_law_546 : decode b_L_law 546 = .ok (.aload_n 1, 1) := by decide +kernel
theorem d_L_law_547 : decode b_L_law 547 = .ok (.aload_n 0, 1) := by decide +kernel
theorem d_L_law_548 : decode b_L_law 548 = .ok (.iload_n 3, 1) := by decide +kernel
theorem d_L_law_549 : decode b_L_law 549 = .ok (.iconst 1, 1) := by decide +kernel
theorem d_L_law_550 : decode b_L_law 550 = .ok (.iadd, 1) := by decide +kernel
theorem d_L_law_551 : decode b_L_law 551 = .ok (.iaload, 1) := by decide +kernel
theorem d_L_law_552 : decode b_L_law 552 = .ok (.aload_n 0, 1) := by decide +kernel
theorem d_L_law_553 : decode b_L_law 553 = .ok (.iload_n 3, 1) := by decide +kernel
theorem d_L_law_554 : decode b_L_law 554 = .ok (.iconst 2, 1) := by decide +kernel
theorem d_L_law_555 : decode b_L_law 555 = .ok (.iadd, 1) := by decide +kernel
theorem d_L_law_556 : decode b_L_law 556 = .ok (.iaload, 1) := by decide +kernel
theorem d_L_law_557 : decode b_L_law 557 = .ok (.invokevirtual 65, 3) := by decide +kernel
theorem d_L_law_560 : decode b_L_law 560 = .ok (.aload_n 2, 1) := by decide +kernel
theorem d_L_law_561 : decode b_L_law 561 = .ok (.aload_n 0, 1) := by decide +kernel
theorem d_L_law_562 : decode b_L_law 562 = .ok (.iload_n 3, 1) := by decide +kernel
theorem d_L_law_563 : decode b_L_law 563 = .ok (.iconst 1, 1) := by decide +kernel
theorem d_L_law_564 : decode b_L_law 564 = .ok (.iadd, 1) := by decide +kernel
theorem d_L_law_565 : decode b_L_law 565 = .ok (.iaload, 1) := by decide +kernel
theorem d_L_law_566 : decode b_L_law 566 = .ok (.aload_n 0, 1) := by decide +kernel
theorem d_L_law_567 : decode b_L_law 567 = .ok (.iload_n 3, 1) := by decide +kernel
theorem d_L_law_568 : decode b_L_law 568 = .ok (.iconst 2, 1) := by decide +kernel
theorem d_L_law_569 : decode b_L_law 569 = .ok (.iadd, 1) := by decide +kernel
theorem d_L_law_570 : decode b_L_law 570 = .ok (.iaload, 1) := by decide +kernel
theorem d_L_law_571 : decode b_L_law 571 = .ok (.invokevirtual 69, 3) := by decide +kernel
theorem d_L_law_574 : decode b_L_law 574 = .ok (.if_icmp .eq 172, 3) := by decide +kernel
theorem d_L_law_577 : decode b_L_law 577 = .ok (.iconst 0, 1) := by decide +kernel
theorem d_L_law_578 : decode b_L_law 578 = .ok (.ireturn, 1) := by decide +kernel
theorem d_L_law_579 : decode b_L_law 579 = .ok (.aload_n 1, 1) := by decide +kernel
theorem d_L_law_580 : decode b_L_law 580 = .ok (.aload_n 0, 1) := by decide +kernel
theorem d_L_law_581 : decode b_L_law 581 = .ok (.iload_n 3, 1) := by decide +kernel
theorem d_L_law_582 : decode b_L_law 582 = .ok (.iconst 1, 1) := by decide +kernel
theorem d_L_law_583 : decode b_L_law 583 = .ok (.iadd, 1) := by decide +kernel
theorem d_L_law_584 : decode b_L_law 584 = .ok (.iaload, 1) := by decide +kernel
theorem d_L_law_585 : decode b_L_law 585 = .ok (.invokevirtual 70, 3) := by decide +kernel
theorem d_L_law_588 : decode b_L_law 588 = .ok (.aload_n 2, 1) := by decide +kernel
theorem d_L_law_589 : decode b_L_law 589 = .ok (.aload_n 0, 1) := by decide +kernel
theorem d_L_law_590 : decode b_L_law 590 = .ok (.iload_n 3, 1) := by decide +kernel
theorem d_L_law_591 : decode b_L_law 591 = .ok (.iconst 1, 1) := by decide +kernel
theorem d_L_law_592 : decode b_L_law 592 = .ok (.iadd, 1) := by decide +kernel
theorem d_L_law_593 : decode b_L_law 593 = .ok (.iaload, 1) := by decide +kernel
theorem d_L_law_594 : decode b_L_law 594 = .ok (.invokevirtual 74, 3) := by decide +kernel
theorem d_L_law_597 : decode b_L_law 597 = .ok (.if_icmp .eq 149, 3) := by decide +kernel
theorem d_L_law_600 : decode b_L_law 600 = .ok (.iconst 0, 1) := by decide +kernel
theorem d_L_law_601 : decode b_L_law 601 = .ok (.ireturn, 1) := by decide +kernel
theorem d_L_law_602 : decode b_L_law 602 = .ok (.aload_n 1, 1) := by decide +kernel
theorem d_L_law_603 : decode b_L_law 603 = .ok (.aload_n 0, 1) := by decide +kernel
theorem d_L_law_604 : decode b_L_law 604 = .ok (.iload_n 3, 1) := by decide +kernel
theorem d_L_law_605 : decode b_L_law 605 = .ok (.iconst 1, 1) := by decide +kernel
theorem d_L_law_606 : decode b_L_law 606 = .ok (.iadd, 1) := by decide +kernel
theorem d_L_law_607 : decode b_L_law 607 = .ok (.iaload, 1) := by decide +kernel
theorem d_L_law_608 : decode b_L_law 608 = .ok (.invokevirtual 75, 3) := by decide +kernel
theorem d_L_law_611 : decode b_L_law 611 = .ok (.aload_n 2, 1) := by decide +kernel
theorem d_L_law_612 : decode b_L_law 612 = .ok (.aload_n 0, 1) := by decide +kernel
theorem d_L_law_613 : decode b_L_law 613 = .ok (.iload_n 3, 1) := by decide +kernel
theorem d_L_law_614 : decode b_L_law 614 = .ok (.iconst 1, 1) := by decide +kernel
theorem d_L_law_615 : decode b_L_law 615 = .ok (.iadd, 1) := by decide +kernel
theorem d_L_law_616 : decode b_L_law 616 = .ok (.iaload, 1) := by decide +kernel
theorem d_L_law_617 : decode b_L_law 617 = .ok (.invokevirtual 78, 3) := by decide +kernel
theorem d_L_law_620 : decode b_L_law 620 = .ok (.if_icmp .eq 126, 3) := by decide +kernel
theorem d_L_law_623 : decode b_L_law 623 = .ok (.iconst 0, 1) := by decide +kernel
theorem d_L_law_624 : decode b_L_law 624 = .ok (.ireturn, 1) := by decide +kernel
theorem d_L_law_625 : decode b_L_law 625 = .ok (.aload_n 1, 1) := by decide +kernel
theorem d_L_law_626 : decode b_L_law 626 = .ok (.aload_n 0, 1) := by decide +kernel
theorem d_L_law_627 : decode b_L_law 627 = .ok (.iload_n 3, 1) := by decide +kernel
theorem d_L_law_628 : decode b_L_law 628 = .ok (.iconst 1, 1) := by decide +kernel
theorem d_L_law_629 : decode b_L_law 629 = .ok (.iadd, 1) := by decide +kernel
theorem d_L_law_630 : decode b_L_law 630 = .ok (.iaload, 1) := by decide +kernel
theorem d_L_law_631 : decode b_L_law 631 = .ok (.invokevirtual 79, 3) := by decide +kernel
theorem d_L_law_634 : decode b_L_law 634 = .ok (.aload_n 2, 1) := by decide +kernel
theorem d_L_law_635 : decode b_L_law 635 = .ok (.aload_n 0, 1) := by decide +kernel
theorem d_L_law_636 : decode b_L_law 636 = .ok (.iload_n 3, 1) := by decide +kernel
theorem d_L_law_637 : decode b_L_law 637 = .ok (.iconst 1, 1) := by decide +kernel
theorem d_L_law_638 : decode b_L_law 638 = .ok (.iadd, 1) := by decide +kernel
theorem d_L_law_639 : decode b_L_law 639 = .ok (.iaload, 1) := by decide +kernel
theorem d_L_law_640 : decode b_L_law 640 = .ok (.invokevirtual 82, 3) := by decide +kernel
theorem d_L_law_643 : decode b_L_law 643 = .ok (.if_icmp .eq 103, 3) := by decide +kernel
theorem d_L_law_646 : decode b_L_law 646 = .ok (.iconst 0, 1) := by decide +kernel
theorem d_L_law_647 : decode b_L_law 647 = .ok (.ireturn, 1) := by decide +kernel
theorem d_L_law_648 : decode b_L_law 648 = .ok (.aload_n 1, 1) := by decide +kernel
theorem d_L_law_649 : decode b_L_law 649 = .ok (.aload_n 0, 1) := by decide +kernel
theorem d_L_law_650 : decode b_L_law 650 = .ok (.iload_n 3, 1) := by decide +kernel
theorem d_L_law_651 : decode b_L_law 651 = .ok (.iconst 1, 1) := by decide +kernel
theorem d_L_law_652 : decode b_L_law 652 = .ok (.iadd, 1) := by decide +kernel
theorem d_L_law_653 : decode b_L_law 653 = .ok (.iaload, 1) := by decide +kernel
theorem d_L_law_654 : decode b_L_law 654 = .ok (.invokevirtual 83, 3) := by decide +kernel
theorem d_L_law_657 : decode b_L_law 657 = .ok (.aload_n 2, 1) := by decide +kernel
theorem d_L_law_658 : decode b_L_law 658 = .ok (.aload_n 0, 1) := by decide +kernel
theorem d_L_law_659 : decode b_L_law 659 = .ok (.iload_n 3, 1) := by decide +kernel
theorem d_L_law_660 : decode b_L_law 660 = .ok (.iconst 1, 1) := by decide +kernel
theorem d_L_law_661 : decode b_L_law 661 = .ok (.iadd, 1) := by decide +kernel
theorem d_L_law_662 : decode b_L_law 662 = .ok (.iaload, 1) := by decide +kernel
theorem d_L_law_663 : decode b_L_law 663 = .ok (.invokevirtual 86, 3) := by decide +kernel
theorem d_L_law_666 : decode b_L_law 666 = .ok (.if_icmp .eq 80, 3) := by decide +kernel
theorem d_L_law_669 : decode b_L_law 669 = .ok (.iconst 0, 1) := by decide +kernel
theorem d_L_law_670 : decode b_L_law 670 = .ok (.ireturn, 1) := by decide +kernel
theorem d_L_law_671 : decode b_L_law 671 = .ok (.aload_n 1, 1) := by decide +kernel
theorem d_L_law_672 : decode b_L_law 672 = .ok (.invokevirtual 87, 3) := by decide +kernel
theorem d_L_law_675 : decode b_L_law 675 = .ok (.aload_n 2, 1) := by decide +kernel
theorem d_L_law_676 : decode b_L_law 676 = .ok (.invokevirtual 90, 3) := by decide +kernel
theorem d_L_law_679 : decode b_L_law 679 = .ok (.if_icmp .eq 67, 3) := by decide +kernel
theorem d_L_law_682 : decode b_L_law 682 = .ok (.iconst 0, 1) := by decide +kernel
theorem d_L_law_683 : decode b_L_law 683 = .ok (.ireturn, 1) := by decide +kernel
theorem d_L_law_684 : decode b_L_law 684 = .ok (.aload_n 1, 1) := by decide +kernel
theorem d_L_law_685 : decode b_L_law 685 = .ok (.invokevirtual 91, 3) := by decide +kernel
theorem d_L_law_688 : decode b_L_law 688 = .ok (.aload_n 2, 1) := by decide +kernel
theorem d_L_law_689 : decode b_L_law 689 = .ok (.invokevirtual 94, 3) := by decide +kernel
theorem d_L_law_692 : decode b_L_law 692 = .ok (.if_icmp .eq 54, 3) := by decide +kernel
theorem d_L_law_695 : decode b_L_law 695 = .ok (.iconst 0, 1) := by decide +kernel
theorem d_L_law_696 : decode b_L_law 696 = .ok (.ireturn, 1) := by decide +kernel
theorem d_L_law_697 : decode b_L_law 697 = .ok (.aload_n 1, 1) := by decide +kernel
theorem d_L_law_698 : decode b_L_law 698 = .ok (.invokevirtual 95, 3) := by decide +kernel
theorem d_L_law_701 : decode b_L_law 701 = .ok (.aload_n 2, 1) := by decide +kernel
theorem d_L_law_702 : decode b_L_law 702 = .ok (.invokevirtual 98, 3) := by decide +kernel
theorem d_L_law_705 : decode b_L_law 705 = .ok (.if_icmp .eq 41, 3) := by decide +kernel
theorem d_L_law_708 : decode b_L_law 708 = .ok (.iconst 0, 1) := by decide +kernel
theorem d_L_law_709 : decode b_L_law 709 = .ok (.ireturn, 1) := by decide +kernel
theorem d_L_law_710 : decode b_L_law 710 = .ok (.aload_n 1, 1) := by decide +kernel
theorem d_L_law_711 : decode b_L_law 711 = .ok (.aload_n 0, 1) := by decide +kernel
theorem d_L_law_712 : decode b_L_law 712 = .ok (.iload_n 3, 1) := by decide +kernel
theorem d_L_law_713 : decode b_L_law 713 = .ok (.iconst 1, 1) := by decide +kernel
theorem d_L_law_714 : decode b_L_law 714 = .ok (.iadd, 1) := by decide +kernel
theorem d_L_law_715 : decode b_L_law 715 = .ok (.iaload, 1) := by decide +kernel
theorem d_L_law_716 : decode b_L_law 716 = .ok (.invokevirtual 99, 3) := by decide +kernel
theorem d_L_law_719 : decode b_L_law 719 = .ok (.aload_n 2, 1) := by decide +kernel
theorem d_L_law_720 : decode b_L_law 720 = .ok (.aload_n 0, 1) := by decide +kernel
theorem d_L_law_721 : decode b_L_law 721 = .ok (.iload_n 3, 1) := by decide +kernel
theorem d_L_law_722 : decode b_L_law 722 = .ok (.iconst 1, 1) := by decide +kernel
theorem d_L_law_723 : decode b_L_law 723 = .ok (.iadd, 1) := by decide +kernel
theorem d_L_law_724 : decode b_L_law 724 = .ok (.iaload, 1) := by decide +kernel
theorem d_L_law_725 : decode b_L_law 725 = .ok (.invokevirtual 102, 3) := by decide +kernel
theorem d_L_law_728 : decode b_L_law 728 = .ok (.if_icmp .eq 18, 3) := by decide +kernel
theorem d_L_law_731 : decode b_L_law 731 = .ok (.iconst 0, 1) := by decide +kernel
theorem d_L_law_732 : decode b_L_law 732 = .ok (.ireturn, 1) := by decide +kernel
theorem d_L_law_733 : decode b_L_law 733 = .ok (.aload_n 1, 1) := by decide +kernel
theorem d_L_law_734 : decode b_L_law 734 = .ok (.invokevirtual 103, 3) := by decide +kernel
theorem d_L_law_737 : decode b_L_law 737 = .ok (.aload_n 2, 1) := by decide +kernel
theorem d_L_law_738 : decode b_L_law 738 = .ok (.invokevirtual 106, 3) := by decide +kernel
theorem d_L_law_741 : decode b_L_law 741 = .ok (.if_icmp .eq 5, 3) := by decide +kernel
theorem d_L_law_744 : decode b_L_law 744 = .ok (.iconst 0, 1) := by decide +kernel
theorem d_L_law_745 : decode b_L_law 745 = .ok (.ireturn, 1) := by decide +kernel
theorem d_L_law_746 : decode b_L_law 746 = .ok (.iinc 3 6, 3) := by decide +kernel
theorem d_L_law_749 : decode b_L_law 749 = .ok (.goto (-731), 3) := by decide +kernel
theorem d_L_law_752 : decode b_L_law 752 = .ok (.iconst 1, 1) := by decide +kernel
theorem d_L_law_753 : decode b_L_law 753 = .ok (.ireturn, 1) := by decide +kernel
