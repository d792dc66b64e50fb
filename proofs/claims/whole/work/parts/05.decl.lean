theorem d_L_law_0 : decode c_L_law 0 = .ok (.new 7, 3) := by decide +kernel
theorem d_L_law_3 : decode c_L_law 3 = .ok (.dup, 1) := by decide +kernel
theorem d_L_law_4 : decode c_L_law 4 = .ok (.invokespecial 9, 3) := by decide +kernel
theorem d_L_law_7 : decode c_L_law 7 = .ok (.astore_n 1, 1) := by decide +kernel
theorem d_L_law_8 : decode c_L_law 8 = .ok (.new 10, 3) := by decide +kernel
theorem d_L_law_11 : decode c_L_law 11 = .ok (.dup, 1) := by decide +kernel
theorem d_L_law_12 : decode c_L_law 12 = .ok (.invokespecial 12, 3) := by decide +kernel
theorem d_L_law_15 : decode c_L_law 15 = .ok (.astore_n 2, 1) := by decide +kernel
theorem d_L_law_16 : decode c_L_law 16 = .ok (.iconst 0, 1) := by decide +kernel
theorem d_L_law_17 : decode c_L_law 17 = .ok (.istore_n 3, 1) := by decide +kernel
theorem d_L_law_18 : decode c_L_law 18 = .ok (.iload_n 3, 1) := by decide +kernel
theorem d_L_law_19 : decode c_L_law 19 = .ok (.aload_n 0, 1) := by decide +kernel
theorem d_L_law_20 : decode c_L_law 20 = .ok (.arraylength, 1) := by decide +kernel
theorem d_L_law_21 : decode c_L_law 21 = .ok (.iconst 5, 1) := by decide +kernel
theorem d_L_law_22 : decode c_L_law 22 = .ok (.isub, 1) := by decide +kernel
theorem d_L_law_23 : decode c_L_law 23 = .ok (.if_icmp .gt 727, 3) := by decide +kernel
theorem d_L_law_26 : decode c_L_law 26 = .ok (.aload_n 0, 1) := by decide +kernel
theorem d_L_law_27 : decode c_L_law 27 = .ok (.iload_n 3, 1) := by decide +kernel
theorem d_L_law_28 : decode c_L_law 28 = .ok (.iaload, 1) := by decide +kernel
theorem d_L_law_29 : decode c_L_law 29 = .ok (.bipush 31, 2) := by decide +kernel
theorem d_L_law_31 : decode c_L_law 31 = .ok (.iand, 1) := by decide +kernel
theorem d_L_law_32 : decode c_L_law 32 = .ok (.tableswitch 712 0 20 #[100, 123, 176, 245, 278, 311, 360, 393, 442, 465, 478, 491, 514, 537, 561, 584, 607, 630, 653, 666, 689], 100) := by decide +kernel
theorem d_L_law_132 : decode c_L_law 132 = .ok (.aload_n 1, 1) := by decide +kernel
theorem d_L_law_133 : decode c_L_law 133 = .ok (.aload_n 0, 1) := by decide +kernel
theorem d_L_law_134 : decode c_L_law 134 = .ok (.iload_n 3, 1) := by decide +kernel
theorem d_L_law_135 : decode c_L_law 135 = .ok (.iconst 1, 1) := by decide +kernel
theorem d_L_law_136 : decode c_L_law 136 = .ok (.iadd, 1) := by decide +kernel
theorem d_L_law_137 : decode c_L_law 137 = .ok (.iaload, 1) := by decide +kernel
theorem d_L_law_138 : decode c_L_law 138 = .ok (.invokevirtual 13, 3) := by decide +kernel
theorem d_L_law_141 : decode c_L_law 141 = .ok (.aload_n 2, 1) := by decide +kernel
theorem d_L_law_142 : decode c_L_law 142 = .ok (.aload_n 0, 1) := by decide +kernel
theorem d_L_law_143 : decode c_L_law 143 = .ok (.iload_n 3, 1) := by decide +kernel
theorem d_L_law_144 : decode c_L_law 144 = .ok (.iconst 1, 1) := by decide +kernel
theorem d_L_law_145 : decode c_L_law 145 = .ok (.iadd, 1) := by decide +kernel
theorem d_L_law_146 : decode c_L_law 146 = .ok (.iaload, 1) := by decide +kernel
theorem d_L_law_147 : decode c_L_law 147 = .ok (.invokevirtual 17, 3) := by decide +kernel
theorem d_L_law_150 : decode c_L_law 150 = .ok (.if_icmp .eq 594, 3) := by decide +kernel
theorem d_L_law_153 : decode c_L_law 153 = .ok (.iconst 0, 1) := by decide +kernel
theorem d_L_law_154 : decode c_L_law 154 = .ok (.ireturn, 1) := by decide +kernel
theorem d_L_law_155 : decode c_L_law 155 = .ok (.aload_n 1, 1) := by decide +kernel
theorem d_L_law_156 : decode c_L_law 156 = .ok (.aload_n 0, 1) := by decide +kernel
theorem d_L_law_157 : decode c_L_law 157 = .ok (.iload_n 3, 1) := by decide +kernel
theorem d_L_law_158 : decode c_L_law 158 = .ok (.iconst 1, 1) := by decide +kernel
theorem d_L_law_159 : decode c_L_law 159 = .ok (.iadd, 1) := by decide +kernel
theorem d_L_law_160 : decode c_L_law 160 = .ok (.iaload, 1) := by decide +kernel
theorem d_L_law_161 : decode c_L_law 161 = .ok (.aload_n 0, 1) := by decide +kernel
theorem d_L_law_162 : decode c_L_law 162 = .ok (.iload_n 3, 1) := by decide +kernel
theorem d_L_law_163 : decode c_L_law 163 = .ok (.iconst 2, 1) := by decide +kernel
theorem d_L_law_164 : decode c_L_law 164 = .ok (.iadd, 1) := by decide +kernel
theorem d_L_law_165 : decode c_L_law 165 = .ok (.iaload, 1) := by decide +kernel
theorem d_L_law_166 : decode c_L_law 166 = .ok (.aload_n 0, 1) := by decide +kernel
theorem d_L_law_167 : decode c_L_law 167 = .ok (.iload_n 3, 1) := by decide +kernel
theorem d_L_law_168 : decode c_L_law 168 = .ok (.iconst 3, 1) := by decide +kernel
theorem d_L_law_169 : decode c_L_law 169 = .ok (.iadd, 1) := by decide +kernel
theorem d_L_law_170 : decode c_L_law 170 = .ok (.iaload, 1) := by decide +kernel
theorem d_L_law_171 : decode c_L_law 171 = .ok (.aload_n 0, 1) := by decide +kernel
theorem d_L_law_172 : decode c_L_law 172 = .ok (.iload_n 3, 1) := by decide +kernel
theorem d_L_law_173 : decode c_L_law 173 = .ok (.iconst 4, 1) := by decide +kernel
theorem d_L_law_174 : decode c_L_law 174 = .ok (.iadd, 1) := by decide +kernel
theorem d_L_law_175 : decode c_L_law 175 = .ok (.iaload, 1) := by decide +kernel
theorem d_L_law_176 : decode c_L_law 176 = .ok (.invokevirtual 18, 3) := by decide +kernel
theorem d_L_law_179 : decode c_L_law 179 = .ok (.aload_n 2, 1) := by decide +kernel
theorem d_L_law_180 : decode c_L_law 180 = .ok (.aload_n 0, 1) := by decide +kernel
theorem d_L_law_181 : decode c_L_law 181 = .ok (.iload_n 3, 1) := by decide +kernel
theorem d_L_law_182 : decode c_L_law 182 = .ok (.iconst 1, 1) := by decide +kernel
theorem d_L_law_183 : decode c_L_law 183 = .ok (.iadd, 1) := by decide +kernel
theorem d_L_law_184 : decode c_L_law 184 = .ok (.iaload, 1) := by decide +kernel
theorem d_L_law_185 : decode c_L_law 185 = .ok (.aload_n 0, 1) := by decide +kernel
theorem d_L_law_186 : decode c_L_law 186 = .ok (.iload_n 3, 1) := by decide +kernel
theorem d_L_law_187 : decode c_L_law 187 = .ok (.iconst 2, 1) := by decide +kernel
theorem d_L_law_188 : decode c_L_law 188 = .ok (.iadd, 1) := by decide +kernel
theorem d_L_law_189 : decode c_L_law 189 = .ok (.iaload, 1) := by decide +kernel
theorem d_L_law_190 : decode c_L_law 190 = .ok (.aload_n 0, 1) := by decide +kernel
theorem d_L_law_191 : decode c_L_law 191 = .ok (.iload_n 3, 1) := by decide +kernel
theorem d_L_law_192 : decode c_L_law 192 = .ok (.iconst 3, 1) := by decide +kernel
theorem d_L_law_193 : decode c_L_law 193 = .ok (.iadd, 1) := by decide +kernel
theorem d_L_law_194 : decode c_L_law 194 = .ok (.iaload, 1) := by decide +kernel
theorem d_L_law_195 : decode c_L_law 195 = .ok (.aload_n 0, 1) := by decide +kernel
theorem d_L_law_196 : decode c_L_law 196 = .ok (.iload_n 3, 1) := by decide +kernel
theorem d_L_law_197 : decode c_L_law 197 = .ok (.iconst 4, 1) := by decide +kernel
theorem d_L_law_198 : decode c_L_law 198 = .ok (.iadd, 1) := by decide +kernel
theorem d_L_law_199 : decode c_L_law 199 = .ok (.iaload, 1) := by decide +kernel
theorem d_L_law_200 : decode c_L_law 200 = .ok (.invokevirtual 22, 3) := by decide +kernel
theorem d_L_law_203 : decode c_L_law 203 = .ok (.if_icmp .eq 541, 3) := by decide +kernel
theorem d_L_law_206 : decode c_L_law 206 = .ok (.iconst 0, 1) := by decide +kernel
theorem d_L_law_207 : decode c_L_law 207 = .ok (.ireturn, 1) := by decide +kernel
theorem d_L_law_208 : decode c_L_law 208 = .ok (.aload_n 1, 1) := by decide +kernel
theorem d_L_law_209 : decode c_L_law 209 = .ok (.aload_n 0, 1) := by decide +kernel
theorem d_L_law_210 : decode c_L_law 210 = .ok (.iload_n 3, 1) := by decide +kernel
theorem d_L_law_211 : decode c_L_law 211 = .ok (.iconst 1, 1) := by decide +kernel
theorem d_L_law_212 : decode c_L_law 212 = .ok (.iadd, 1) := by decide +kernel
theorem d_L_law_213 : decode c_L_law 213 = .ok (.iaload, 1) := by decide +kernel
theorem d_L_law_214 : decode c_L_law 214 = .ok (.aload_n 0, 1) := by decide +kernel
theorem d_L_law_215 : decode c_L_law 215 = .ok (.iload_n 3, 1) := by decide +kernel
theorem d_L_law_216 : decode c_L_law 216 = .ok (.iconst 2, 1) := by decide +kernel
theorem d_L_law_217 : decode c_L_law 217 = .ok (.iadd, 1) := by decide +kernel
theorem d_L_law_218 : decode c_L_law 218 = .ok (.iaload, 1) := by decide +kernel
theorem d_L_law_219 : decode c_L_law 219 = .ok (.ifCond .eq 7, 3) := by decide +kernel
theorem d_L_law_222 : decode c_L_law 222 = .ok (.iconst 1, 1) := by decide +kernel
theorem d_L_law_223 : decode c_L_law 223 = .ok (.goto 4, 3) := by decide +kernel
theorem d_L_law_226 : decode c_L_law 226 = .ok (.iconst 0, 1) := by decide +kernel
theorem d_L_law_227 : decode c_L_law 227 = .ok (.aload_n 0, 1) := by decide +kernel
theorem d_L_law_228 : decode c_L_law 228 = .ok (.iload_n 3, 1) := by decide +kernel
theorem d_L_law_229 : decode c_L_law 229 = .ok (.iconst 3, 1) := by decide +kernel
theorem d_L_law_230 : decode c_L_law 230 = .ok (.iadd, 1) := by decide +kernel
theorem d_L_law_231 : decode c_L_law 231 = .ok (.iaload, 1) := by decide +kernel
theorem d_L_law_232 : decode c_L_law 232 = .ok (.aload_n 0, 1) := by decide +kernel
theorem d_L_law_233 : decode c_L_law 233 = .ok (.iload_n 3, 1) := by decide +kernel
theorem d_L_law_234 : decode c_L_law 234 = .ok (.iconst 4, 1) := by decide +kernel
theorem d_L_law_235 : decode c_L_law 235 = .ok (.iadd, 1) := by decide +kernel
theorem d_L_law_236 : decode c_L_law 236 = .ok (.iaload, 1) := by decide +kernel
theorem d_L_law_237 : decode c_L_law 237 = .ok (.invokevirtual 23, 3) := by decide +kernel
theorem d_L_law_240 : decode c_L_law 240 = .ok (.aload_n 2, 1) := by decide +kernel
theorem d_L_law_241 : decode c_L_law 241 = .ok (.aload_n 0, 1) := by decide +kernel
theorem d_L_law_242 : decode c_L_law 242 = .ok (.iload_n 3, 1) := by decide +kernel
theorem d_L_law_243 : decode c_L_law 243 = .ok (.iconst 1, 1) := by decide +kernel
theorem d_L_law_244 : decode c_L_law 244 = .ok (.iadd, 1) := by decide +kernel
theorem d_L_law_245 : decode c_L_law 245 = .ok (.iaload, 1) := by decide +kernel
theorem d_L_law_246 : decode c_L_law 246 = .ok (.aload_n 0, 1) := by decide +kernel
theorem d_L_law_247 : decode c_L_law 247 = .ok (.iload_n 3, 1) := by decide +kernel
theorem d_L_law_248 : decode c_L_law 248 = .ok (.iconst 2, 1) := by decide +kernel
theorem d_L_law_249 : decode c_L_law 249 = .ok (.iadd, 1) := by decide +kernel
theorem d_L_law_250 : decode c_L_law 250 = .ok (.iaload, 1) := by decide +kernel
theorem d_L_law_251 : decode c_L_law 251 = .ok (.ifCond .eq 7, 3) := by decide +kernel
theorem d_L_law_254 : decode c_L_law 254 = .ok (.iconst 1, 1) := by decide +kernel
theorem d_L_law_255 : decode c_L_law 255 = .ok (.goto 4, 3) := by decide +kernel
theorem d_L_law_258 : decode c_L_law 258 = .ok (.iconst 0, 1) := by decide +kernel
theorem d_L_law_259 : decode c_L_law 259 = .ok (.aload_n 0, 1) := by decide +kernel
theorem d_L_law_260 : decode c_L_law 260 = .ok (.iload_n 3, 1) := by decide +kernel
theorem d_L_law_261 : decode c_L_law 261 = .ok (.iconst 3, 1) := by decide +kernel
theorem d_L_law_262 : decode c_L_law 262 = .ok (.iadd, 1) := by decide +kernel
theorem d_L_law_263 : decode c_L_law 263 = .ok (.iaload, 1) := by decide +kernel
theorem d_L_law_264 : decode c_L_law 264 = .ok (.aload_n 0, 1) := by decide +kernel
theorem d_L_law_265 : decode c_L_law 265 = .ok (.iload_n 3, 1) := by decide +kernel
theorem d_L_law_266 : decode c_L_law 266 = .ok (.iconst 4, 1) := by decide +kernel
theorem d_L_law_267 : decode c_L_law 267 = .ok (.iadd, 1) := by decide +kernel
theorem d_L_law_268 : decode c_L_law 268 = .ok (.iaload, 1) := by decide +kernel
theorem d_L_law_269 : decode c_L_law 269 = .ok (.invokevirtual 27, 3) := by decide +kernel
theorem d_L_law_272 : decode c_L_law 272 = .ok (.if_icmp .eq 472, 3) := by decide +kernel
theorem d_L_law_275 : decode c_L_law 275 = .ok (.iconst 0, 1) := by decide +kernel
theorem d_L_law_276 : decode c_L_law 276 = .ok (.ireturn, 1) := by decide +kernel
theorem d_L_law_277 : decode c_L_law 277 = .ok (.aload_n 1, 1) := by decide +kernel
theorem d_L_law_278 : decode c_L_law 278 = .ok (.aload_n 0, 1) := by decide +kernel
theorem d_L_law_279 : decode c_L_law 279 = .ok (.iload_n 3, 1) := by decide +kernel
theorem d_L_law_280 : decode c_L_law 280 = .ok (.iconst 1, 1) := by decide +kernel
theorem d_L_law_281 : decode c_L_law 281 = .ok (.iadd, 1) := by decide +kernel
theorem d_L_law_282 : decode c_L_law 282 = .ok (.iaload, 1) := by decide +kernel
theorem d_L_law_283 : decode c_L_law 283 = .ok (.aload_n 0, 1) := by decide +kernel
theorem d_L_law_284 : decode c_L_law 284 = .ok (.iload_n 3, 1) := by decide +kernel
theorem d_L_law_285 : decode c_L_law 285 = .ok (.iconst 2, 1) := by decide +kernel
theorem d_L_law_286 : decode c_L_law 286 = .ok (.iadd, 1) := by decide +kernel
theorem d_L_law_287 : decode c_L_law 287 = .ok (.iaload, 1) := by decide +kernel
theorem d_L_law_288 : decode c_L_law 288 = .ok (.invokevirtual 28, 3) := by decide +kernel
theorem d_L_law_291 : decode c_L_law 291 = .ok (.aload_n 2, 1) := by decide +kernel
theorem d_L_law_292 : decode c_L_law 292 = .ok (.aload_n 0, 1) := by decide +kernel
theorem d_L_law_293 : decode c_L_law 293 = .ok (.iload_n 3, 1) := by decide +kernel
theorem d_L_law_294 : decode c_L_law 294 = .ok (.iconst 1, 1) := by decide +kernel
theorem d_L_law_295 : decode c_L_law 295 = .ok (.iadd, 1) := by decide +kernel
theorem d_L_law_296 : decode c_L_law 296 = .ok (.iaload, 1) := by decide +kernel
theorem d_L_law_297 : decode c_L_law 297 = .ok (.aload_n 0, 1) := by decide +kernel
theorem d_L_law_298 : decode c_L_law 298 = .ok (.iload_n 3, 1) := by decide +kernel
theorem d_L_law_299 : decode c_L_law 299 = .ok (.iconst 2, 1) := by decide +kernel
theorem d_L_law_300 : decode c_L_law 300 = .ok (.iadd, 1) := by decide +kernel
theorem d_L_law_301 : decode c_L_law 301 = .ok (.iaload, 1) := by decide +kernel
theorem d_L_law_302 : decode c_L_law 302 = .ok (.invokevirtual 32, 3) := by decide +kernel
theorem d_L_law_305 : decode c_L_law 305 = .ok (.if_icmp .eq 439, 3) := by decide +kernel
theorem d_L_law_308 : decode c_L_law 308 = .ok (.iconst 0, 1) := by decide +kernel
theorem d_L_law_309 : decode c_L_law 309 = .ok (.ireturn, 1) := by decide +kernel
theorem d_L_law_310 : decode c_L_law 310 = .ok (.aload_n 1, 1) := by decide +kernel
theorem d_L_law_311 : decode c_L_law 311 = .ok (.aload_n 0, 1) := by decide +kernel
theorem d_L_law_312 : decode c_L_law 312 = .ok (.iload_n 3, 1) := by decide +kernel
theorem d_L_law_313 : decode c_L_law 313 = .ok (.iconst 1, 1) := by decide +kernel
theorem d_L_law_314 : decode c_L_law 314 = .ok (.iadd, 1) := by decide +kernel
theorem d_L_law_315 : decode c_L_law 315 = .ok (.iaload, 1) := by decide +kernel
theorem d_L_law_316 : decode c_L_law 316 = .ok (.aload_n 0, 1) := by decide +kernel
theorem d_L_law_317 : decode c_L_law 317 = .ok (.iload_n 3, 1) := by decide +kernel
theorem d_L_law_318 : decode c_L_law 318 = .ok (.iconst 2, 1) := by decide +kernel
theorem d_L_law_319 : decode c_L_law 319 = .ok (.iadd, 1) := by decide +kernel
theorem d_L_law_320 : decode c_L_law 320 = .ok (.iaload, 1) := by decide +kernel
theorem d_L_law_321 : decode c_L_law 321 = .ok (.invokevirtual 33, 3) := by decide +kernel
theorem d_L_law_324 : decode c_L_law 324 = .ok (.aload_n 2, 1) := by decide +kernel
theorem d_L_law_325 : decode c_L_law 325 = .ok (.aload_n 0, 1) := by decide +kernel
theorem d_L_law_326 : decode c_L_law 326 = .ok (.iload_n 3, 1) := by decide +kernel
theorem d_L_law_327 : decode c_L_law 327 = .ok (.iconst 1, 1) := by decide +kernel
theorem d_L_law_328 : decode c_L_law 328 = .ok (.iadd, 1) := by decide +kernel
theorem d_L_law_329 : decode c_L_law 329 = .ok (.iaload, 1) := by decide +kernel
theorem d_L_law_330 : decode c_L_law 330 = .ok (.aload_n 0, 1) := by decide +kernel
theorem d_L_law_331 : decode c_L_law 331 = .ok (.iload_n 3, 1) := by decide +kernel
theorem d_L_law_332 : decode c_L_law 332 = .ok (.iconst 2, 1) := by decide +kernel
theorem d_L_law_333 : decode c_L_law 333 = .ok (.iadd, 1) := by decide +kernel
theorem d_L_law_334 : decode c_L_law 334 = .ok (.iaload, 1) := by decide +kernel
theorem d_L_law_335 : decode c_L_law 335 = .ok (.invokevirtual 36, 3) := by decide +kernel
theorem d_L_law_338 : decode c_L_law 338 = .ok (.if_icmp .eq 406, 3) := by decide +kernel
theorem d_L_law_341 : decode c_L_law 341 = .ok (.iconst 0, 1) := by decide +kernel
theorem d_L_law_342 : decode c_L_law 342 = .ok (.ireturn, 1) := by decide +kernel
theorem d_L_law_343 : decode c_L_law 343 = .ok (.aload_n 1, 1) := by decide +kernel
theorem d_L_law_344 : decode c_L_law 344 = .ok (.aload_n 0, 1) := by decide +kernel
theorem d_L_law_345 : decode c_L_law 345 = .ok (.iload_n 3, 1) := by decide +kernel
theorem d_L_law_346 : decode c_L_law 346 = .ok (.iconst 1, 1) := by decide +kernel
theorem d_L_law_347 : decode c_L_law 347 = .ok (.iadd, 1) := by decide +kernel
theorem d_L_law_348 : decode c_L_law 348 = .ok (.iaload, 1) := by decide +kernel
theorem d_L_law_349 : decode c_L_law 349 = .ok (.aload_n 0, 1) := by decide +kernel
theorem d_L_law_350 : decode c_L_law 350 = .ok (.iload_n 3, 1) := by decide +kernel
theorem d_L_law_351 : decode c_L_law 351 = .ok (.iconst 2, 1) := by decide +kernel
theorem d_L_law_352 : decode c_L_law 352 = .ok (.iadd, 1) := by decide +kernel
theorem d_L_law_353 : decode c_L_law 353 = .ok (.iaload, 1) := by decide +kernel
theorem d_L_law_354 : decode c_L_law 354 = .ok (.ifCond .eq 7, 3) := by decide +kernel
theorem d_L_law_357 : decode c_L_law 357 = .ok (.iconst 1, 1) := by decide +kernel
theorem d_L_law_358 : decode c_L_law 358 = .ok (.goto 4, 3) := by decide +kernel
theorem d_L_law_361 : decode c_L_law 361 = .ok (.iconst 0, 1) := by decide +kernel
theorem d_L_law_362 : decode c_L_law 362 = .ok (.invokevirtual 37, 3) := by decide +kernel
theorem d_L_law_365 : decode c_L_law 365 = .ok (.aload_n 2, 1) := by decide +kernel
theorem d_L_law_366 : decode c_L_law 366 = .ok (.aload_n 0, 1) := by decide +kernel
theorem d_L_law_367 : decode c_L_law 367 = .ok (.iload_n 3, 1) := by decide +kernel
theorem d_L_law_368 : decode c_L_law 368 = .ok (.iconst 1, 1) := by decide +kernel
theorem d_L_law_369 : decode c_L_law 369 = .ok (.iadd, 1) := by decide +kernel
theorem d_L_law_370 : decode c_L_law 370 = .ok (.iaload, 1) := by decide +kernel
theorem d_L_law_371 : decode c_L_law 371 = .ok (.aload_n 0, 1) := by decide +kernel
theorem d_L_law_372 : decode c_L_law 372 = .ok (.iload_n 3, 1) := by decide +kernel
theorem d_L_law_373 : decode c_L_law 373 = .ok (.iconst 2, 1) := by decide +kernel
theorem d_L_law_374 : decode c_L_law 374 = .ok (.iadd, 1) := by decide +kernel
theorem d_L_law_375 : decode c_L_law 375 = .ok (.iaload, 1) := by decide +kernel
theorem d_L_law_376 : decode c_L_law 376 = .ok (.ifCond .eq 7, 3) := by decide +kernel
theorem d_L_law_379 : decode c_L_law 379 = .ok (.iconst 1, 1) := by decide +kernel
theorem d_L_law_380 : decode c_L_law 380 = .ok (.goto 4, 3) := by decide +kernel
theorem d_L_law_383 : decode c_L_law 383 = .ok (.iconst 0, 1) := by decide +kernel
theorem d_L_law_384 : decode c_L_law 384 = .ok (.invokevirtual 41, 3) := by decide +kernel
theorem d_L_law_387 : decode c_L_law 387 = .ok (.if_icmp .eq 357, 3) := by decide +kernel
theorem d_L_law_390 : decode c_L_law 390 = .ok (.iconst 0, 1) := by decide +kernel
theorem d_L_law_391 : decode c_L_law 391 = .ok (.ireturn, 1) := by decide +kernel
theorem d_L_law_392 : decode c_L_law 392 = .ok (.aload_n 1, 1) := by decide +kernel
theorem d_L_law_393 : decode c_L_law 393 = .ok (.aload_n 0, 1) := by decide +kernel
theorem d_L_law_394 : decode c_L_law 394 = .ok (.iload_n 3, 1) := by decide +kernel
theorem d_L_law_395 : decode c_L_law 395 = .ok (.iconst 1, 1) := by decide +kernel
theorem d_L_law_396 : decode c_L_law 396 = .ok (.iadd, 1) := by decide +kernel
theorem d_L_law_397 : decode c_L_law 397 = .ok (.iaload, 1) := by decide +kernel
theorem d_L_law_398 : decode c_L_law 398 = .ok (.aload_n 0, 1) := by decide +kernel
theorem d_L_law_399 : decode c_L_law 399 = .ok (.iload_n 3, 1) := by decide +kernel
theorem d_L_law_400 : decode c_L_law 400 = .ok (.iconst 2, 1) := by decide +kernel
theorem d_L_law_401 : decode c_L_law 401 = .ok (.iadd, 1) := by decide +kernel
theorem d_L_law_402 : decode c_L_law 402 = .ok (.iaload, 1) := by decide +kernel
theorem d_L_law_403 : decode c_L_law 403 = .ok (.invokevirtual 42, 3) := by decide +kernel
theorem d_L_law_406 : decode c_L_law 406 = .ok (.aload_n 2, 1) := by decide +kernel
theorem d_L_law_407 : decode c_L_law 407 = .ok (.aload_n 0, 1) := by decide +kernel
theorem d_L_law_408 : decode c_L_law 408 = .ok (.iload_n 3, 1) := by decide +kernel
theorem d_L_law_409 : decode c_L_law 409 = .ok (.iconst 1, 1) := by decide +kernel
theorem d_L_law_410 : decode c_L_law 410 = .ok (.iadd, 1) := by decide +kernel
theorem d_L_law_411 : decode c_L_law 411 = .ok (.iaload, 1) := by decide +kernel
theorem d_L_law_412 : decode c_L_law 412 = .ok (.aload_n 0, 1) := by decide +kernel
theorem d_L_law_413 : decode c_L_law 413 = .ok (.iload_n 3, 1) := by decide +kernel
theorem d_L_law_414 : decode c_L_law 414 = .ok (.iconst 2, 1) := by decide +kernel
theorem d_L_law_415 : decode c_L_law 415 = .ok (.iadd, 1) := by decide +kernel
theorem d_L_law_416 : decode c_L_law 416 = .ok (.iaload, 1) := by decide +kernel
theorem d_L_law_417 : decode c_L_law 417 = .ok (.invokevirtual 45, 3) := by decide +kernel
theorem d_L_law_420 : decode c_L_law 420 = .ok (.if_icmp .eq 324, 3) := by decide +kernel
theorem d_L_law_423 : decode c_L_law 423 = .ok (.iconst 0, 1) := by decide +kernel
theorem d_L_law_424 : decode c_L_law 424 = .ok (.ireturn, 1) := by decide +kernel
theorem d_L_law_425 : decode c_L_law 425 = .ok (.aload_n 1, 1) := by decide +kernel
theorem d_L_law_426 : decode c_L_law 426 = .ok (.aload_n 0, 1) := by decide +kernel
theorem d_L_law_427 : decode c_L_law 427 = .ok (.iload_n 3, 1) := by decide +kernel
theorem d_L_law_428 : decode c_L_law 428 = .ok (.iconst 1, 1) := by decide +kernel
theorem d_L_law_429 : decode c_L_law 429 = .ok (.iadd, 1) := by decide +kernel
theorem d_L_law_430 : decode c_L_law 430 = .ok (.iaload, 1) := by decide +kernel
theorem d_L_law_431 : decode c_L_law 431 = .ok (.aload_n 0, 1) := by decide +kernel
theorem d_L_law_432 : decode c_L_law 432 = .ok (.iload_n 3, 1) := by decide +kernel
theorem d_L_law_433 : decode c_L_law 433 = .ok (.iconst 2, 1) := by decide +kernel
theorem d_L_law_434 : decode c_L_law 434 = .ok (.iadd, 1) := by decide +kernel
theorem d_L_law_435 : decode c_L_law 435 = .ok (.iaload, 1) := by decide +kernel
theorem d_L_law_436 : decode c_L_law 436 = .ok (.ifCond .eq 7, 3) := by decide +kernel
theorem d_L_law_439 : decode c_L_law 439 = .ok (.iconst 1, 1) := by decide +kernel
theorem d_L_law_440 : decode c_L_law 440 = .ok (.goto 4, 3) := by decide +kernel
theorem d_L_law_443 : decode c_L_law 443 = .ok (.iconst 0, 1) := by decide +kernel
theorem d_L_law_444 : decode c_L_law 444 = .ok (.invokevirtual 46, 3) := by decide +kernel
theorem d_L_law_447 : decode c_L_law 447 = .ok (.aload_n 2, 1) := by decide +kernel
theorem d_L_law_448 : decode c_L_law 448 = .ok (.aload_n 0, 1) := by decide +kernel
theorem d_L_law_449 : decode c_L_law 449 = .ok (.iload_n 3, 1) := by decide +kernel
theorem d_L_law_450 : decode c_L_law 450 = .ok (.iconst 1, 1) := by decide +kernel
theorem d_L_law_451 : decode c_L_law 451 = .ok (.iadd, 1) := by decide +kernel
theorem d_L_law_452 : decode c_L_law 452 = .ok (.iaload, 1) := by decide +kernel
theorem d_L_law_453 : decode c_L_law 453 = .ok (.aload_n 0, 1) := by decide +kernel
theorem d_L_law_454 : decode c_L_law 454 = .ok (.iload_n 3, 1) := by decide +kernel
theorem d_L_law_455 : decode c_L_law 455 = .ok (.iconst 2, 1) := by decide +kernel
theorem d_L_law_456 : decode c_L_law 456 = .ok (.iadd, 1) := by decide +kernel
theorem d_L_law_457 : decode c_L_law 457 = .ok (.iaload, 1) := by decide +kernel
theorem d_L_law_458 : decode c_L_law 458 = .ok (.ifCond .eq 7, 3) := by decide +kernel
theorem d_L_law_461 : decode c_L_law 461 = .ok (.iconst 1, 1) := by decide +kernel
theorem d_L_law_462 : decode c_L_law 462 = .ok (.goto 4, 3) := by decide +kernel
theorem d_L_law_465 : decode c_L_law 465 = .ok (.iconst 0, 1) := by decide +kernel
theorem d_L_law_466 : decode c_L_law 466 = .ok (.invokevirtual 49, 3) := by decide +kernel
theorem d_L_law_469 : decode c_L_law 469 = .ok (.if_icmp .eq 275, 3) := by decide +kernel
theorem d_L_law_472 : decode c_L_law 472 = .ok (.iconst 0, 1) := by decide +kernel
theorem d_L_law_473 : decode c_L_law 473 = .ok (.ireturn, 1) := by decide +kernel
theorem d_L_law_474 : decode c_L_law 474 = .ok (.aload_n 1, 1) := by decide +kernel
theorem d_L_law_475 : decode c_L_law 475 = .ok (.aload_n 0, 1) := by decide +kernel
theorem d_L_law_476 : decode c_L_law 476 = .ok (.iload_n 3, 1) := by decide +kernel
theorem d_L_law_477 : decode c_L_law 477 = .ok (.iconst 1, 1) := by decide +kernel
theorem d_L_law_478 : decode c_L_law 478 = .ok (.iadd, 1) := by decide +kernel
theorem d_L_law_479 : decode c_L_law 479 = .ok (.iaload, 1) := by decide +kernel
theorem d_L_law_480 : decode c_L_law 480 = .ok (.invokevirtual 50, 3) := by decide +kernel
theorem d_L_law_483 : decode c_L_law 483 = .ok (.aload_n 2, 1) := by decide +kernel
theorem d_L_law_484 : decode c_L_law 484 = .ok (.aload_n 0, 1) := by decide +kernel
theorem d_L_law_485 : decode c_L_law 485 = .ok (.iload_n 3, 1) := by decide +kernel
theorem d_L_law_486 : decode c_L_law 486 = .ok (.iconst 1, 1) := by decide +kernel
theorem d_L_law_487 : decode c_L_law 487 = .ok (.iadd, 1) := by decide +kernel
theorem d_L_law_488 : decode c_L_law 488 = .ok (.iaload, 1) := by decide +kernel
theorem d_L_law_489 : decode c_L_law 489 = .ok (.invokevirtual 53, 3) := by decide +kernel
theorem d_L_law_492 : decode c_L_law 492 = .ok (.if_icmp .eq 252, 3) := by decide +kernel
theorem d_L_law_495 : decode c_L_law 495 = .ok (.iconst 0, 1) := by decide +kernel
theorem d_L_law_496 : decode c_L_law 496 = .ok (.ireturn, 1) := by decide +kernel
theorem d_L_law_497 : decode c_L_law 497 = .ok (.aload_n 1, 1) := by decide +kernel
theorem d_L_law_498 : decode c_L_law 498 = .ok (.invokevirtual 54, 3) := by decide +kernel
theorem d_L_law_501 : decode c_L_law 501 = .ok (.aload_n 2, 1) := by decide +kernel
theorem d_L_law_502 : decode c_L_law 502 = .ok (.invokevirtual 58, 3) := by decide +kernel
theorem d_L_law_505 : decode c_L_law 505 = .ok (.if_icmp .eq 239, 3) := by decide +kernel
theorem d_L_law_508 : decode c_L_law 508 = .ok (.iconst 0, 1) := by decide +kernel
theorem d_L_law_509 : decode c_L_law 509 = .ok (.ireturn, 1) := by decide +kernel
theorem d_L_law_510 : decode c_L_law 510 = .ok (.aload_n 1, 1) := by decide +kernel
theorem d_L_law_511 : decode c_L_law 511 = .ok (.invokevirtual 59, 3) := by decide +kernel
theorem d_L_law_514 : decode c_L_law 514 = .ok (.aload_n 2, 1) := by decide +kernel
theorem d_L_law_515 : decode c_L_law 515 = .ok (.invokevirtual 62, 3) := by decide +kernel
theorem d_L_law_518 : decode c_L_law 518 = .ok (.if_icmp .eq 226, 3) := by decide +kernel
theorem d_L_law_521 : decode c_L_law 521 = .ok (.iconst 0, 1) := by decide +kernel
theorem d_L_law_522 : decode c_L_law 522 = .ok (.ireturn, 1) := by decide +kernel
theorem d_L_law_523 : decode c_L_law 523 = .ok (.aload_n 1, 1) := by decide +kernel
theorem d_L_law_524 : decode c_L_law 524 = .ok (.aload_n 0, 1) := by decide +kernel
theorem d_L_law_525 : decode c_L_law 525 = .ok (.iload_n 3, 1) := by decide +kernel
theorem d_L_law_526 : decode c_L_law 526 = .ok (.iconst 1, 1) := by decide +kernel
theorem d_L_law_527 : decode c_L_law 527 = .ok (.iadd, 1) := by decide +kernel
theorem d_L_law_528 : decode c_L_law 528 = .ok (.iaload, 1) := by decide +kernel
theorem d_L_law_529 : decode c_L_law 529 = .ok (.invokevirtual 63, 3) := by decide +kernel
theorem d_L_law_532 : decode c_L_law 532 = .ok (.aload_n 2, 1) := by decide +kernel
theorem d_L_law_533 : decode c_L_law 533 = .ok (.aload_n 0, 1) := by decide +kernel
theorem d_L_law_534 : decode c_L_law 534 = .ok (.iload_n 3, 1) := by decide +kernel
theorem d_L_law_535 : decode c_L_law 535 = .ok (.iconst 1, 1) := by decide +kernel
theorem d_L_law_536 : decode c_L_law 536 = .ok (.iadd, 1) := by decide +kernel
theorem d_L_law_537 : decode c_L_law 537 = .ok (.iaload, 1) := by decide +kernel
theorem d_L_law_538 : decode c_L_law 538 = .ok (.invokevirtual 66, 3) := by decide +kernel
theorem d_L_law_541 : decode c_L_law 541 = .ok (.if_icmp .eq 203, 3) := by decide +kernel
theorem d_L_law_544 : decode c_L_law 544 = .ok (.iconst 0, 1) := by decide +kernel
theorem d_L_law_545 : decode c_L_law 545 = .ok (.ireturn, 1) := by decide +kernel
theorem d_L_law_546 : decode c_L_law 546 = .ok (.aload_n 1, 1) := by decide +kernel
theorem d_L_law_547 : decode c_L_law 547 = .ok (.aload_n 0, 1) := by decide +kernel
theorem d_L_law_548 : decode c_L_law 548 = .ok (.iload_n 3, 1) := by decide +kernel
theorem d_L_law_549 : decode c_L_law 549 = .ok (.iconst 1, 1) := by decide +kernel
theorem d_L_law_550 : decode c_L_law 550 = .ok (.iadd, 1) := by decide +kernel
theorem d_L_law_551 : decode c_L_law 551 = .ok (.iaload, 1) := by decide +kernel
theorem d_L_law_552 : decode c_L_law 552 = .ok (.invokevirtual 67, 3) := by decide +kernel
theorem d_L_law_555 : decode c_L_law 555 = .ok (.aload_n 2, 1) := by decide +kernel
theorem d_L_law_556 : decode c_L_law 556 = .ok (.aload_n 0, 1) := by decide +kernel
theorem d_L_law_557 : decode c_L_law 557 = .ok (.iload_n 3, 1) := by decide +kernel
theorem d_L_law_558 : decode c_L_law 558 = .ok (.iconst 1, 1) := by decide +kernel
theorem d_L_law_559 : decode c_L_law 559 = .ok (.iadd, 1) := by decide +kernel
theorem d_L_law_560 : decode c_L_law 560 = .ok (.iaload, 1) := by decide +kernel
theorem d_L_law_561 : decode c_L_law 561 = .ok (.invokevirtual 70, 3) := by decide +kernel
theorem d_L_law_564 : decode c_L_law 564 = .ok (.if_icmp .eq 180, 3) := by decide +kernel
theorem d_L_law_567 : decode c_L_law 567 = .ok (.iconst 0, 1) := by decide +kernel
theorem d_L_law_568 : decode c_L_law 568 = .ok (.ireturn, 1) := by decide +kernel
theorem d_L_law_569 : decode c_L_law 569 = .ok (.aload_n 1, 1) := by decide +kernel
theorem d_L_law_570 : decode c_L_law 570 = .ok (.aload_n 0, 1) := by decide +kernel
theorem d_L_law_571 : decode c_L_law 571 = .ok (.iload_n 3, 1) := by decide +kernel
theorem d_L_law_572 : decode c_L_law 572 = .ok (.iconst 1, 1) := by decide +kernel
theorem d_L_law_573 : decode c_L_law 573 = .ok (.iadd, 1) := by decide +kernel
theorem d_L_law_574 : decode c_L_law 574 = .ok (.iaload, 1) := by decide +kernel
theorem d_L_law_575 : decode c_L_law 575 = .ok (.invokevirtual 71, 3) := by decide +kernel
theorem d_L_law_578 : decode c_L_law 578 = .ok (.aload_n 2, 1) := by decide +kernel
theorem d_L_law_579 : decode c_L_law 579 = .ok (.aload_n 0, 1) := by decide +kernel
theorem d_L_law_580 : decode c_L_law 580 = .ok (.iload_n 3, 1) := by decide +kernel
theorem d_L_law_581 : decode c_L_law 581 = .ok (.iconst 1, 1) := by decide +kernel
theorem d_L_law_582 : decode c_L_law 582 = .ok (.iadd, 1) := by decide +kernel
theorem d_L_law_583 : decode c_L_law 583 = .ok (.iaload, 1) := by decide +kernel
theorem d_L_law_584 : decode c_L_law 584 = .ok (.invokevirtual 75, 3) := by decide +kernel
theorem d_L_law_587 : decode c_L_law 587 = .ok (.lcmp, 1) := by decide +kernel
theorem d_L_law_588 : decode c_L_law 588 = .ok (.ifCond .eq 156, 3) := by decide +kernel
theorem d_L_law_591 : decode c_L_law 591 = .ok (.iconst 0, 1) := by decide +kernel
theorem d_L_law_592 : decode c_L_law 592 = .ok (.ireturn, 1) := by decide +kernel
theorem d_L_law_593 : decode c_L_law 593 = .ok (.aload_n 1, 1) := by decide +kernel
theorem d_L_law_594 : decode c_L_law 594 = .ok (.aload_n 0, 1) := by decide +kernel
theorem d_L_law_595 : decode c_L_law 595 = .ok (.iload_n 3, 1) := by decide +kernel
theorem d_L_law_596 : decode c_L_law 596 = .ok (.iconst 1, 1) := by decide +kernel
theorem d_L_law_597 : decode c_L_law 597 = .ok (.iadd, 1) := by decide +kernel
theorem d_L_law_598 : decode c_L_law 598 = .ok (.iaload, 1) := by decide +kernel
theorem d_L_law_599 : decode c_L_law 599 = .ok (.invokevirtual 76, 3) := by decide +kernel
theorem d_L_law_602 : decode c_L_law 602 = .ok (.aload_n 2, 1) := by decide +kernel
theorem d_L_law_603 : decode c_L_law 603 = .ok (.aload_n 0, 1) := by decide +kernel
theorem d_L_law_604 : decode c_L_law 604 = .ok (.iload_n 3, 1) := by decide +kernel
theorem d_L_law_605 : decode c_L_law 605 = .ok (.iconst 1, 1) := by decide +kernel
theorem d_L_law_606 : decode c_L_law 606 = .ok (.iadd, 1) := by decide +kernel
theorem d_L_law_607 : decode c_L_law 607 = .ok (.iaload, 1) := by decide +kernel
theorem d_L_law_608 : decode c_L_law 608 = .ok (.invokevirtual 79, 3) := by decide +kernel
theorem d_L_law_611 : decode c_L_law 611 = .ok (.if_icmp .eq 133, 3) := by decide +kernel
theorem d_L_law_614 : decode c_L_law 614 = .ok (.iconst 0, 1) := by decide +kernel
theorem d_L_law_615 : decode c_L_law 615 = .ok (.ireturn, 1) := by decide +kernel
theorem d_L_law_616 : decode c_L_law 616 = .ok (.aload_n 1, 1) := by decide +kernel
theorem d_L_law_617 : decode c_L_law 617 = .ok (.aload_n 0, 1) := by decide +kernel
theorem d_L_law_618 : decode c_L_law 618 = .ok (.iload_n 3, 1) := by decide +kernel
theorem d_L_law_619 : decode c_L_law 619 = .ok (.iconst 1, 1) := by decide +kernel
theorem d_L_law_620 : decode c_L_law 620 = .ok (.iadd, 1) := by decide +kernel
theorem d_L_law_621 : decode c_L_law 621 = .ok (.iaload, 1) := by decide +kernel
theorem d_L_law_622 : decode c_L_law 622 = .ok (.invokevirtual 80, 3) := by decide +kernel
theorem d_L_law_625 : decode c_L_law 625 = .ok (.aload_n 2, 1) := by decide +kernel
theorem d_L_law_626 : decode c_L_law 626 = .ok (.aload_n 0, 1) := by decide +kernel
theorem d_L_law_627 : decode c_L_law 627 = .ok (.iload_n 3, 1) := by decide +kernel
theorem d_L_law_628 : decode c_L_law 628 = .ok (.iconst 1, 1) := by decide +kernel
theorem d_L_law_629 : decode c_L_law 629 = .ok (.iadd, 1) := by decide +kernel
theorem d_L_law_630 : decode c_L_law 630 = .ok (.iaload, 1) := by decide +kernel
theorem d_L_law_631 : decode c_L_law 631 = .ok (.invokevirtual 83, 3) := by decide +kernel
theorem d_L_law_634 : decode c_L_law 634 = .ok (.if_icmp .eq 110, 3) := by decide +kernel
theorem d_L_law_637 : decode c_L_law 637 = .ok (.iconst 0, 1) := by decide +kernel
theorem d_L_law_638 : decode c_L_law 638 = .ok (.ireturn, 1) := by decide +kernel
theorem d_L_law_639 : decode c_L_law 639 = .ok (.aload_n 1, 1) := by decide +kernel
theorem d_L_law_640 : decode c_L_law 640 = .ok (.aload_n 0, 1) := by decide +kernel
theorem d_L_law_641 : decode c_L_law 641 = .ok (.iload_n 3, 1) := by decide +kernel
theorem d_L_law_642 : decode c_L_law 642 = .ok (.iconst 1, 1) := by decide +kernel
theorem d_L_law_643 : decode c_L_law 643 = .ok (.iadd, 1) := by decide +kernel
theorem d_L_law_644 : decode c_L_law 644 = .ok (.iaload, 1) := by decide +kernel
theorem d_L_law_645 : decode c_L_law 645 = .ok (.invokevirtual 84, 3) := by decide +kernel
theorem d_L_law_648 : decode c_L_law 648 = .ok (.aload_n 2, 1) := by decide +kernel
theorem d_L_law_649 : decode c_L_law 649 = .ok (.aload_n 0, 1) := by decide +kernel
theorem d_L_law_650 : decode c_L_law 650 = .ok (.iload_n 3, 1) := by decide +kernel
theorem d_L_law_651 : decode c_L_law 651 = .ok (.iconst 1, 1) := by decide +kernel
theorem d_L_law_652 : decode c_L_law 652 = .ok (.iadd, 1) := by decide +kernel
theorem d_L_law_653 : decode c_L_law 653 = .ok (.iaload, 1) := by decide +kernel
theorem d_L_law_654 : decode c_L_law 654 = .ok (.invokevirtual 87, 3) := by decide +kernel
theorem d_L_law_657 : decode c_L_law 657 = .ok (.if_icmp .eq 87, 3) := by decide +kernel
theorem d_L_law_660 : decode c_L_law 660 = .ok (.iconst 0, 1) := by decide +kernel
theorem d_L_law_661 : decode c_L_law 661 = .ok (.ireturn, 1) := by decide +kernel
theorem d_L_law_662 : decode c_L_law 662 = .ok (.aload_n 1, 1) := by decide +kernel
theorem d_L_law_663 : decode c_L_law 663 = .ok (.aload_n 0, 1) := by decide +kernel
theorem d_L_law_664 : decode c_L_law 664 = .ok (.iload_n 3, 1) := by decide +kernel
theorem d_L_law_665 : decode c_L_law 665 = .ok (.iconst 1, 1) := by decide +kernel
theorem d_L_law_666 : decode c_L_law 666 = .ok (.iadd, 1) := by decide +kernel
theorem d_L_law_667 : decode c_L_law 667 = .ok (.iaload, 1) := by decide +kernel
theorem d_L_law_668 : decode c_L_law 668 = .ok (.invokevirtual 88, 3) := by decide +kernel
theorem d_L_law_671 : decode c_L_law 671 = .ok (.aload_n 2, 1) := by decide +kernel
theorem d_L_law_672 : decode c_L_law 672 = .ok (.aload_n 0, 1) := by decide +kernel
theorem d_L_law_673 : decode c_L_law 673 = .ok (.iload_n 3, 1) := by decide +kernel
theorem d_L_law_674 : decode c_L_law 674 = .ok (.iconst 1, 1) := by decide +kernel
theorem d_L_law_675 : decode c_L_law 675 = .ok (.iadd, 1) := by decide +kernel
theorem d_L_law_676 : decode c_L_law 676 = .ok (.iaload, 1) := by decide +kernel
theorem d_L_law_677 : decode c_L_law 677 = .ok (.invokevirtual 91, 3) := by decide +kernel
theorem d_L_law_680 : decode c_L_law 680 = .ok (.if_icmp .eq 64, 3) := by decide +kernel
theorem d_L_law_683 : decode c_L_law 683 = .ok (.iconst 0, 1) := by decide +kernel
theorem d_L_law_684 : decode c_L_law 684 = .ok (.ireturn, 1) := by decide +kernel
theorem d_L_law_685 : decode c_L_law 685 = .ok (.aload_n 1, 1) := by decide +kernel
theorem d_L_law_686 : decode c_L_law 686 = .ok (.invokevirtual 92, 3) := by decide +kernel
theorem d_L_law_689 : decode c_L_law 689 = .ok (.aload_n 2, 1) := by decide +kernel
theorem d_L_law_690 : decode c_L_law 690 = .ok (.invokevirtual 95, 3) := by decide +kernel
theorem d_L_law_693 : decode c_L_law 693 = .ok (.if_icmp .eq 51, 3) := by decide +kernel
theorem d_L_law_696 : decode c_L_law 696 = .ok (.iconst 0, 1) := by decide +kernel
theorem d_L_law_697 : decode c_L_law 697 = .ok (.ireturn, 1) := by decide +kernel
theorem d_L_law_698 : decode c_L_law 698 = .ok (.aload_n 1, 1) := by decide +kernel
theorem d_L_law_699 : decode c_L_law 699 = .ok (.aload_n 0, 1) := by decide +kernel
theorem d_L_law_700 : decode c_L_law 700 = .ok (.iload_n 3, 1) := by decide +kernel
theorem d_L_law_701 : decode c_L_law 701 = .ok (.iconst 1, 1) := by decide +kernel
theorem d_L_law_702 : decode c_L_law 702 = .ok (.iadd, 1) := by decide +kernel
theorem d_L_law_703 : decode c_L_law 703 = .ok (.iaload, 1) := by decide +kernel
theorem d_L_law_704 : decode c_L_law 704 = .ok (.invokevirtual 96, 3) := by decide +kernel
theorem d_L_law_707 : decode c_L_law 707 = .ok (.aload_n 2, 1) := by decide +kernel
theorem d_L_law_708 : decode c_L_law 708 = .ok (.aload_n 0, 1) := by decide +kernel
theorem d_L_law_709 : decode c_L_law 709 = .ok (.iload_n 3, 1) := by decide +kernel
theorem d_L_law_710 : decode c_L_law 710 = .ok (.iconst 1, 1) := by decide +kernel
theorem d_L_law_711 : decode c_L_law 711 = .ok (.iadd, 1) := by decide +kernel
theorem d_L_law_712 : decode c_L_law 712 = .ok (.iaload, 1) := by decide +kernel
theorem d_L_law_713 : decode c_L_law 713 = .ok (.invokevirtual 99, 3) := by decide +kernel
theorem d_L_law_716 : decode c_L_law 716 = .ok (.if_icmp .eq 28, 3) := by decide +kernel
theorem d_L_law_719 : decode c_L_law 719 = .ok (.iconst 0, 1) := by decide +kernel
theorem d_L_law_720 : decode c_L_law 720 = .ok (.ireturn, 1) := by decide +kernel
theorem d_L_law_721 : decode c_L_law 721 = .ok (.aload_n 1, 1) := by decide +kernel
theorem d_L_law_722 : decode c_L_law 722 = .ok (.aload_n 0, 1) := by decide +kernel
theorem d_L_law_723 : decode c_L_law 723 = .ok (.iload_n 3, 1) := by decide +kernel
theorem d_L_law_724 : decode c_L_law 724 = .ok (.iconst 1, 1) := by decide +kernel
theorem d_L_law_725 : decode c_L_law 725 = .ok (.iadd, 1) := by decide +kernel
theorem d_L_law_726 : decode c_L_law 726 = .ok (.iaload, 1) := by decide +kernel
theorem d_L_law_727 : decode c_L_law 727 = .ok (.invokevirtual 100, 3) := by decide +kernel
theorem d_L_law_730 : decode c_L_law 730 = .ok (.aload_n 2, 1) := by decide +kernel
theorem d_L_law_731 : decode c_L_law 731 = .ok (.aload_n 0, 1) := by decide +kernel
theorem d_L_law_732 : decode c_L_law 732 = .ok (.iload_n 3, 1) := by decide +kernel
theorem d_L_law_733 : decode c_L_law 733 = .ok (.iconst 1, 1) := by decide +kernel
theorem d_L_law_734 : decode c_L_law 734 = .ok (.iadd, 1) := by decide +kernel
theorem d_L_law_735 : decode c_L_law 735 = .ok (.iaload, 1) := by decide +kernel
theorem d_L_law_736 : decode c_L_law 736 = .ok (.invokevirtual 103, 3) := by decide +kernel
theorem d_L_law_739 : decode c_L_law 739 = .ok (.if_icmp .eq 5, 3) := by decide +kernel
theorem d_L_law_742 : decode c_L_law 742 = .ok (.iconst 0, 1) := by decide +kernel
theorem d_L_law_743 : decode c_L_law 743 = .ok (.ireturn, 1) := by decide +kernel
theorem d_L_law_744 : decode c_L_law 744 = .ok (.iinc 3 5, 3) := by decide +kernel
theorem d_L_law_747 : decode c_L_law 747 = .ok (.goto (-729), 3) := by decide +kernel
theorem d_L_law_750 : decode c_L_law 750 = .ok (.iconst 1, 1) := by decide +kernel
theorem d_L_law_751 : decode c_L_law 751 = .ok (.ireturn, 1) := by decide +kernel
