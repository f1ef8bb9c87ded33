theorem d_La_cell_0 : decode c_La_cell 0 = .ok (.iload_n 1, 1) := by decide +kernel
theorem d_La_cell_1 : decode c_La_cell 1 = .ok (.aload_n 0, 1) := by decide +kernel
theorem d_La_cell_2 : decode c_La_cell 2 = .ok (.arraylength, 1) := by decide +kernel
theorem d_La_cell_3 : decode c_La_cell 3 = .ok (.if_icmp .ge 9, 3) := by decide +kernel
theorem d_La_cell_6 : decode c_La_cell 6 = .ok (.aload_n 0, 1) := by decide +kernel
theorem d_La_cell_7 : decode c_La_cell 7 = .ok (.iload_n 1, 1) := by decide +kernel
theorem d_La_cell_8 : decode c_La_cell 8 = .ok (.iaload, 1) := by decide +kernel
theorem d_La_cell_9 : decode c_La_cell 9 = .ok (.goto 4, 3) := by decide +kernel
theorem d_La_cell_12 : decode c_La_cell 12 = .ok (.iconst 0, 1) := by decide +kernel
theorem d_La_cell_13 : decode c_La_cell 13 = .ok (.ireturn, 1) := by decide +kernel
theorem d_La_law_0 : decode code 0 = .ok (.new 7, 3) := by decide +kernel
theorem d_La_law_3 : decode code 3 = .ok (.dup, 1) := by decide +kernel
theorem d_La_law_4 : decode code 4 = .ok (.aload_n 0, 1) := by decide +kernel
theorem d_La_law_5 : decode code 5 = .ok (.iconst 0, 1) := by decide +kernel
theorem d_La_law_6 : decode code 6 = .ok (.invokestatic 9, 3) := by decide +kernel
theorem d_La_law_9 : decode code 9 = .ok (.invokespecial 15, 3) := by decide +kernel
theorem d_La_law_12 : decode code 12 = .ok (.astore_n 1, 1) := by decide +kernel
theorem d_La_law_13 : decode code 13 = .ok (.new 18, 3) := by decide +kernel
theorem d_La_law_16 : decode code 16 = .ok (.dup, 1) := by decide +kernel
theorem d_La_law_17 : decode code 17 = .ok (.aload_n 0, 1) := by decide +kernel
theorem d_La_law_18 : decode code 18 = .ok (.iconst 0, 1) := by decide +kernel
theorem d_La_law_19 : decode code 19 = .ok (.invokestatic 9, 3) := by decide +kernel
theorem d_La_law_22 : decode code 22 = .ok (.invokespecial 20, 3) := by decide +kernel
theorem d_La_law_25 : decode code 25 = .ok (.astore_n 2, 1) := by decide +kernel
theorem d_La_law_26 : decode code 26 = .ok (.iconst 1, 1) := by decide +kernel
theorem d_La_law_27 : decode code 27 = .ok (.istore_n 3, 1) := by decide +kernel
theorem d_La_law_28 : decode code 28 = .ok (.iload_n 3, 1) := by decide +kernel
theorem d_La_law_29 : decode code 29 = .ok (.aload_n 0, 1) := by decide +kernel
theorem d_La_law_30 : decode code 30 = .ok (.arraylength, 1) := by decide +kernel
theorem d_La_law_31 : decode code 31 = .ok (.iconst 5, 1) := by decide +kernel
theorem d_La_law_32 : decode code 32 = .ok (.isub, 1) := by decide +kernel
theorem d_La_law_33 : decode code 33 = .ok (.if_icmp .gt 780, 3) := by decide +kernel
theorem d_La_law_36 : decode code 36 = .ok (.aload_n 0, 1) := by decide +kernel
theorem d_La_law_37 : decode code 37 = .ok (.iload_n 3, 1) := by decide +kernel
theorem d_La_law_38 : decode code 38 = .ok (.iaload, 1) := by decide +kernel
theorem d_La_law_39 : decode code 39 = .ok (.bipush 31, 2) := by decide +kernel
theorem d_La_law_41 : decode code 41 = .ok (.iand, 1) := by decide +kernel
theorem d_La_law_42 : decode code 42 = .ok (.tableswitch 765 0 18 #[90, 133, 186, 235, 284, 333, 366, 409, 472, 505, 518, 561, 574, 607, 640, 673, 706, 729, 752], 90) := by decide +kernel
theorem d_La_law_132 : decode code 132 = .ok (.aload_n 1, 1) := by decide +kernel
theorem d_La_law_133 : decode code 133 = .ok (.aload_n 0, 1) := by decide +kernel
theorem d_La_law_134 : decode code 134 = .ok (.iload_n 3, 1) := by decide +kernel
theorem d_La_law_135 : decode code 135 = .ok (.iconst 1, 1) := by decide +kernel
theorem d_La_law_136 : decode code 136 = .ok (.iadd, 1) := by decide +kernel
theorem d_La_law_137 : decode code 137 = .ok (.iaload, 1) := by decide +kernel
theorem d_La_law_138 : decode code 138 = .ok (.aload_n 0, 1) := by decide +kernel
theorem d_La_law_139 : decode code 139 = .ok (.iload_n 3, 1) := by decide +kernel
theorem d_La_law_140 : decode code 140 = .ok (.iconst 2, 1) := by decide +kernel
theorem d_La_law_141 : decode code 141 = .ok (.iadd, 1) := by decide +kernel
theorem d_La_law_142 : decode code 142 = .ok (.iaload, 1) := by decide +kernel
theorem d_La_law_143 : decode code 143 = .ok (.aload_n 0, 1) := by decide +kernel
theorem d_La_law_144 : decode code 144 = .ok (.iload_n 3, 1) := by decide +kernel
theorem d_La_law_145 : decode code 145 = .ok (.iconst 3, 1) := by decide +kernel
theorem d_La_law_146 : decode code 146 = .ok (.iadd, 1) := by decide +kernel
theorem d_La_law_147 : decode code 147 = .ok (.iaload, 1) := by decide +kernel
theorem d_La_law_148 : decode code 148 = .ok (.invokevirtual 21, 3) := by decide +kernel
theorem d_La_law_151 : decode code 151 = .ok (.aload_n 2, 1) := by decide +kernel
theorem d_La_law_152 : decode code 152 = .ok (.aload_n 0, 1) := by decide +kernel
theorem d_La_law_153 : decode code 153 = .ok (.iload_n 3, 1) := by decide +kernel
theorem d_La_law_154 : decode code 154 = .ok (.iconst 1, 1) := by decide +kernel
theorem d_La_law_155 : decode code 155 = .ok (.iadd, 1) := by decide +kernel
theorem d_La_law_156 : decode code 156 = .ok (.iaload, 1) := by decide +kernel
theorem d_La_law_157 : decode code 157 = .ok (.aload_n 0, 1) := by decide +kernel
theorem d_La_law_158 : decode code 158 = .ok (.iload_n 3, 1) := by decide +kernel
theorem d_La_law_159 : decode code 159 = .ok (.iconst 2, 1) := by decide +kernel
theorem d_La_law_160 : decode code 160 = .ok (.iadd, 1) := by decide +kernel
theorem d_La_law_161 : decode code 161 = .ok (.iaload, 1) := by decide +kernel
theorem d_La_law_162 : decode code 162 = .ok (.aload_n 0, 1) := by decide +kernel
theorem d_La_law_163 : decode code 163 = .ok (.iload_n 3, 1) := by decide +kernel
theorem d_La_law_164 : decode code 164 = .ok (.iconst 3, 1) := by decide +kernel
theorem d_La_law_165 : decode code 165 = .ok (.iadd, 1) := by decide +kernel
theorem d_La_law_166 : decode code 166 = .ok (.iaload, 1) := by decide +kernel
theorem d_La_law_167 : decode code 167 = .ok (.invokevirtual 25, 3) := by decide +kernel
theorem d_La_law_170 : decode code 170 = .ok (.if_icmp .eq 637, 3) := by decide +kernel
theorem d_La_law_173 : decode code 173 = .ok (.iconst 0, 1) := by decide +kernel
theorem d_La_law_174 : decode code 174 = .ok (.ireturn, 1) := by decide +kernel
theorem d_La_law_175 : decode code 175 = .ok (.aload_n 1, 1) := by decide +kernel
theorem d_La_law_176 : decode code 176 = .ok (.aload_n 0, 1) := by decide +kernel
theorem d_La_law_177 : decode code 177 = .ok (.iload_n 3, 1) := by decide +kernel
theorem d_La_law_178 : decode code 178 = .ok (.iconst 1, 1) := by decide +kernel
theorem d_La_law_179 : decode code 179 = .ok (.iadd, 1) := by decide +kernel
theorem d_La_law_180 : decode code 180 = .ok (.iaload, 1) := by decide +kernel
theorem d_La_law_181 : decode code 181 = .ok (.aload_n 0, 1) := by decide +kernel
theorem d_La_law_182 : decode code 182 = .ok (.iload_n 3, 1) := by decide +kernel
theorem d_La_law_183 : decode code 183 = .ok (.iconst 2, 1) := by decide +kernel
theorem d_La_law_184 : decode code 184 = .ok (.iadd, 1) := by decide +kernel
theorem d_La_law_185 : decode code 185 = .ok (.iaload, 1) := by decide +kernel
theorem d_La_law_186 : decode code 186 = .ok (.aload_n 0, 1) := by decide +kernel
theorem d_La_law_187 : decode code 187 = .ok (.iload_n 3, 1) := by decide +kernel
theorem d_La_law_188 : decode code 188 = .ok (.iconst 3, 1) := by decide +kernel
theorem d_La_law_189 : decode code 189 = .ok (.iadd, 1) := by decide +kernel
theorem d_La_law_190 : decode code 190 = .ok (.iaload, 1) := by decide +kernel
theorem d_La_law_191 : decode code 191 = .ok (.aload_n 0, 1) := by decide +kernel
theorem d_La_law_192 : decode code 192 = .ok (.iload_n 3, 1) := by decide +kernel
theorem d_La_law_193 : decode code 193 = .ok (.iconst 4, 1) := by decide +kernel
theorem d_La_law_194 : decode code 194 = .ok (.iadd, 1) := by decide +kernel
theorem d_La_law_195 : decode code 195 = .ok (.iaload, 1) := by decide +kernel
theorem d_La_law_196 : decode code 196 = .ok (.invokevirtual 26, 3) := by decide +kernel
theorem d_La_law_199 : decode code 199 = .ok (.aload_n 2, 1) := by decide +kernel
theorem d_La_law_200 : decode code 200 = .ok (.aload_n 0, 1) := by decide +kernel
theorem d_La_law_201 : decode code 201 = .ok (.iload_n 3, 1) := by decide +kernel
theorem d_La_law_202 : decode code 202 = .ok (.iconst 1, 1) := by decide +kernel
theorem d_La_law_203 : decode code 203 = .ok (.iadd, 1) := by decide +kernel
theorem d_La_law_204 : decode code 204 = .ok (.iaload, 1) := by decide +kernel
theorem d_La_law_205 : decode code 205 = .ok (.aload_n 0, 1) := by decide +kernel
theorem d_La_law_206 : decode code 206 = .ok (.iload_n 3, 1) := by decide +kernel
theorem d_La_law_207 : decode code 207 = .ok (.iconst 2, 1) := by decide +kernel
theorem d_La_law_208 : decode code 208 = .ok (.iadd, 1) := by decide +kernel
theorem d_La_law_209 : decode code 209 = .ok (.iaload, 1) := by decide +kernel
theorem d_La_law_210 : decode code 210 = .ok (.aload_n 0, 1) := by decide +kernel
theorem d_La_law_211 : decode code 211 = .ok (.iload_n 3, 1) := by decide +kernel
theorem d_La_law_212 : decode code 212 = .ok (.iconst 3, 1) := by decide +kernel
theorem d_La_law_213 : decode code 213 = .ok (.iadd, 1) := by decide +kernel
theorem d_La_law_214 : decode code 214 = .ok (.iaload, 1) := by decide +kernel
theorem d_La_law_215 : decode code 215 = .ok (.aload_n 0, 1) := by decide +kernel
theorem d_La_law_216 : decode code 216 = .ok (.iload_n 3, 1) := by decide +kernel
theorem d_La_law_217 : decode code 217 = .ok (.iconst 4, 1) := by decide +kernel
theorem d_La_law_218 : decode code 218 = .ok (.iadd, 1) := by decide +kernel
theorem d_La_law_219 : decode code 219 = .ok (.iaload, 1) := by decide +kernel
theorem d_La_law_220 : decode code 220 = .ok (.invokevirtual 30, 3) := by decide +kernel
theorem d_La_law_223 : decode code 223 = .ok (.if_icmp .eq 584, 3) := by decide +kernel
theorem d_La_law_226 : decode code 226 = .ok (.iconst 0, 1) := by decide +kernel
theorem d_La_law_227 : decode code 227 = .ok (.ireturn, 1) := by decide +kernel
theorem d_La_law_228 : decode code 228 = .ok (.aload_n 1, 1) := by decide +kernel
theorem d_La_law_229 : decode code 229 = .ok (.aload_n 0, 1) := by decide +kernel
theorem d_La_law_230 : decode code 230 = .ok (.iload_n 3, 1) := by decide +kernel
theorem d_La_law_231 : decode code 231 = .ok (.iconst 1, 1) := by decide +kernel
theorem d_La_law_232 : decode code 232 = .ok (.iadd, 1) := by decide +kernel
theorem d_La_law_233 : decode code 233 = .ok (.iaload, 1) := by decide +kernel
theorem d_La_law_234 : decode code 234 = .ok (.aload_n 0, 1) := by decide +kernel
theorem d_La_law_235 : decode code 235 = .ok (.iload_n 3, 1) := by decide +kernel
theorem d_La_law_236 : decode code 236 = .ok (.iconst 2, 1) := by decide +kernel
theorem d_La_law_237 : decode code 237 = .ok (.iadd, 1) := by decide +kernel
theorem d_La_law_238 : decode code 238 = .ok (.iaload, 1) := by decide +kernel
theorem d_La_law_239 : decode code 239 = .ok (.ifCond .eq 7, 3) := by decide +kernel
theorem d_La_law_242 : decode code 242 = .ok (.iconst 1, 1) := by decide +kernel
theorem d_La_law_243 : decode code 243 = .ok (.goto 4, 3) := by decide +kernel
theorem d_La_law_246 : decode code 246 = .ok (.iconst 0, 1) := by decide +kernel
theorem d_La_law_247 : decode code 247 = .ok (.invokevirtual 31, 3) := by decide +kernel
theorem d_La_law_250 : decode code 250 = .ok (.aload_n 2, 1) := by decide +kernel
theorem d_La_law_251 : decode code 251 = .ok (.aload_n 0, 1) := by decide +kernel
theorem d_La_law_252 : decode code 252 = .ok (.iload_n 3, 1) := by decide +kernel
theorem d_La_law_253 : decode code 253 = .ok (.iconst 1, 1) := by decide +kernel
theorem d_La_law_254 : decode code 254 = .ok (.iadd, 1) := by decide +kernel
theorem d_La_law_255 : decode code 255 = .ok (.iaload, 1) := by decide +kernel
theorem d_La_law_256 : decode code 256 = .ok (.aload_n 0, 1) := by decide +kernel
theorem d_La_law_257 : decode code 257 = .ok (.iload_n 3, 1) := by decide +kernel
theorem d_La_law_258 : decode code 258 = .ok (.iconst 2, 1) := by decide +kernel
theorem d_La_law_259 : decode code 259 = .ok (.iadd, 1) := by decide +kernel
theorem d_La_law_260 : decode code 260 = .ok (.iaload, 1) := by decide +kernel
theorem d_La_law_261 : decode code 261 = .ok (.ifCond .eq 7, 3) := by decide +kernel
theorem d_La_law_264 : decode code 264 = .ok (.iconst 1, 1) := by decide +kernel
theorem d_La_law_265 : decode code 265 = .ok (.goto 4, 3) := by decide +kernel
theorem d_La_law_268 : decode code 268 = .ok (.iconst 0, 1) := by decide +kernel
theorem d_La_law_269 : decode code 269 = .ok (.invokevirtual 35, 3) := by decide +kernel
theorem d_La_law_272 : decode code 272 = .ok (.if_icmp .eq 535, 3) := by decide +kernel
theorem d_La_law_275 : decode code 275 = .ok (.iconst 0, 1) := by decide +kernel
theorem d_La_law_276 : decode code 276 = .ok (.ireturn, 1) := by decide +kernel
theorem d_La_law_277 : decode code 277 = .ok (.aload_n 1, 1) := by decide +kernel
theorem d_La_law_278 : decode code 278 = .ok (.aload_n 0, 1) := by decide +kernel
theorem d_La_law_279 : decode code 279 = .ok (.iload_n 3, 1) := by decide +kernel
theorem d_La_law_280 : decode code 280 = .ok (.iconst 1, 1) := by decide +kernel
theorem d_La_law_281 : decode code 281 = .ok (.iadd, 1) := by decide +kernel
theorem d_La_law_282 : decode code 282 = .ok (.iaload, 1) := by decide +kernel
theorem d_La_law_283 : decode code 283 = .ok (.aload_n 0, 1) := by decide +kernel
theorem d_La_law_284 : decode code 284 = .ok (.iload_n 3, 1) := by decide +kernel
theorem d_La_law_285 : decode code 285 = .ok (.iconst 2, 1) := by decide +kernel
theorem d_La_law_286 : decode code 286 = .ok (.iadd, 1) := by decide +kernel
theorem d_La_law_287 : decode code 287 = .ok (.iaload, 1) := by decide +kernel
theorem d_La_law_288 : decode code 288 = .ok (.ifCond .eq 7, 3) := by decide +kernel
theorem d_La_law_291 : decode code 291 = .ok (.iconst 1, 1) := by decide +kernel
theorem d_La_law_292 : decode code 292 = .ok (.goto 4, 3) := by decide +kernel
theorem d_La_law_295 : decode code 295 = .ok (.iconst 0, 1) := by decide +kernel
theorem d_La_law_296 : decode code 296 = .ok (.invokevirtual 36, 3) := by decide +kernel
theorem d_La_law_299 : decode code 299 = .ok (.aload_n 2, 1) := by decide +kernel
theorem d_La_law_300 : decode code 300 = .ok (.aload_n 0, 1) := by decide +kernel
theorem d_La_law_301 : decode code 301 = .ok (.iload_n 3, 1) := by decide +kernel
theorem d_La_law_302 : decode code 302 = .ok (.iconst 1, 1) := by decide +kernel
theorem d_La_law_303 : decode code 303 = .ok (.iadd, 1) := by decide +kernel
theorem d_La_law_304 : decode code 304 = .ok (.iaload, 1) := by decide +kernel
theorem d_La_law_305 : decode code 305 = .ok (.aload_n 0, 1) := by decide +kernel
theorem d_La_law_306 : decode code 306 = .ok (.iload_n 3, 1) := by decide +kernel
theorem d_La_law_307 : decode code 307 = .ok (.iconst 2, 1) := by decide +kernel
theorem d_La_law_308 : decode code 308 = .ok (.iadd, 1) := by decide +kernel
theorem d_La_law_309 : decode code 309 = .ok (.iaload, 1) := by decide +kernel
theorem d_La_law_310 : decode code 310 = .ok (.ifCond .eq 7, 3) := by decide +kernel
theorem d_La_law_313 : decode code 313 = .ok (.iconst 1, 1) := by decide +kernel
theorem d_La_law_314 : decode code 314 = .ok (.goto 4, 3) := by decide +kernel
theorem d_La_law_317 : decode code 317 = .ok (.iconst 0, 1) := by decide +kernel
theorem d_La_law_318 : decode code 318 = .ok (.invokevirtual 39, 3) := by decide +kernel
theorem d_La_law_321 : decode code 321 = .ok (.if_icmp .eq 486, 3) := by decide +kernel
theorem d_La_law_324 : decode code 324 = .ok (.iconst 0, 1) := by decide +kernel
theorem d_La_law_325 : decode code 325 = .ok (.ireturn, 1) := by decide +kernel
theorem d_La_law_326 : decode code 326 = .ok (.aload_n 1, 1) := by decide +kernel
theorem d_La_law_327 : decode code 327 = .ok (.aload_n 0, 1) := by decide +kernel
theorem d_La_law_328 : decode code 328 = .ok (.iload_n 3, 1) := by decide +kernel
theorem d_La_law_329 : decode code 329 = .ok (.iconst 1, 1) := by decide +kernel
theorem d_La_law_330 : decode code 330 = .ok (.iadd, 1) := by decide +kernel
theorem d_La_law_331 : decode code 331 = .ok (.iaload, 1) := by decide +kernel
theorem d_La_law_332 : decode code 332 = .ok (.aload_n 0, 1) := by decide +kernel
theorem d_La_law_333 : decode code 333 = .ok (.iload_n 3, 1) := by decide +kernel
theorem d_La_law_334 : decode code 334 = .ok (.iconst 2, 1) := by decide +kernel
theorem d_La_law_335 : decode code 335 = .ok (.iadd, 1) := by decide +kernel
theorem d_La_law_336 : decode code 336 = .ok (.iaload, 1) := by decide +kernel
theorem d_La_law_337 : decode code 337 = .ok (.ifCond .eq 7, 3) := by decide +kernel
theorem d_La_law_340 : decode code 340 = .ok (.iconst 1, 1) := by decide +kernel
theorem d_La_law_341 : decode code 341 = .ok (.goto 4, 3) := by decide +kernel
theorem d_La_law_344 : decode code 344 = .ok (.iconst 0, 1) := by decide +kernel
theorem d_La_law_345 : decode code 345 = .ok (.invokevirtual 40, 3) := by decide +kernel
theorem d_La_law_348 : decode code 348 = .ok (.aload_n 2, 1) := by decide +kernel
theorem d_La_law_349 : decode code 349 = .ok (.aload_n 0, 1) := by decide +kernel
theorem d_La_law_350 : decode code 350 = .ok (.iload_n 3, 1) := by decide +kernel
theorem d_La_law_351 : decode code 351 = .ok (.iconst 1, 1) := by decide +kernel
theorem d_La_law_352 : decode code 352 = .ok (.iadd, 1) := by decide +kernel
theorem d_La_law_353 : decode code 353 = .ok (.iaload, 1) := by decide +kernel
theorem d_La_law_354 : decode code 354 = .ok (.aload_n 0, 1) := by decide +kernel
theorem d_La_law_355 : decode code 355 = .ok (.iload_n 3, 1) := by decide +kernel
theorem d_La_law_356 : decode code 356 = .ok (.iconst 2, 1) := by decide +kernel
theorem d_La_law_357 : decode code 357 = .ok (.iadd, 1) := by decide +kernel
theorem d_La_law_358 : decode code 358 = .ok (.iaload, 1) := by decide +kernel
theorem d_La_law_359 : decode code 359 = .ok (.ifCond .eq 7, 3) := by decide +kernel
theorem d_La_law_362 : decode code 362 = .ok (.iconst 1, 1) := by decide +kernel
theorem d_La_law_363 : decode code 363 = .ok (.goto 4, 3) := by decide +kernel
theorem d_La_law_366 : decode code 366 = .ok (.iconst 0, 1) := by decide +kernel
theorem d_La_law_367 : decode code 367 = .ok (.invokevirtual 43, 3) := by decide +kernel
theorem d_La_law_370 : decode code 370 = .ok (.if_icmp .eq 437, 3) := by decide +kernel
theorem d_La_law_373 : decode code 373 = .ok (.iconst 0, 1) := by decide +kernel
theorem d_La_law_374 : decode code 374 = .ok (.ireturn, 1) := by decide +kernel
theorem d_La_law_375 : decode code 375 = .ok (.aload_n 1, 1) := by decide +kernel
theorem d_La_law_376 : decode code 376 = .ok (.aload_n 0, 1) := by decide +kernel
theorem d_La_law_377 : decode code 377 = .ok (.iload_n 3, 1) := by decide +kernel
theorem d_La_law_378 : decode code 378 = .ok (.iconst 1, 1) := by decide +kernel
theorem d_La_law_379 : decode code 379 = .ok (.iadd, 1) := by decide +kernel
theorem d_La_law_380 : decode code 380 = .ok (.iaload, 1) := by decide +kernel
theorem d_La_law_381 : decode code 381 = .ok (.aload_n 0, 1) := by decide +kernel
theorem d_La_law_382 : decode code 382 = .ok (.iload_n 3, 1) := by decide +kernel
theorem d_La_law_383 : decode code 383 = .ok (.iconst 2, 1) := by decide +kernel
theorem d_La_law_384 : decode code 384 = .ok (.iadd, 1) := by decide +kernel
theorem d_La_law_385 : decode code 385 = .ok (.iaload, 1) := by decide +kernel
theorem d_La_law_386 : decode code 386 = .ok (.invokevirtual 44, 3) := by decide +kernel
theorem d_La_law_389 : decode code 389 = .ok (.aload_n 2, 1) := by decide +kernel
theorem d_La_law_390 : decode code 390 = .ok (.aload_n 0, 1) := by decide +kernel
theorem d_La_law_391 : decode code 391 = .ok (.iload_n 3, 1) := by decide +kernel
theorem d_La_law_392 : decode code 392 = .ok (.iconst 1, 1) := by decide +kernel
theorem d_La_law_393 : decode code 393 = .ok (.iadd, 1) := by decide +kernel
theorem d_La_law_394 : decode code 394 = .ok (.iaload, 1) := by decide +kernel
theorem d_La_law_395 : decode code 395 = .ok (.aload_n 0, 1) := by decide +kernel
theorem d_La_law_396 : decode code 396 = .ok (.iload_n 3, 1) := by decide +kernel
theorem d_La_law_397 : decode code 397 = .ok (.iconst 2, 1) := by decide +kernel
theorem d_La_law_398 : decode code 398 = .ok (.iadd, 1) := by decide +kernel
theorem d_La_law_399 : decode code 399 = .ok (.iaload, 1) := by decide +kernel
theorem d_La_law_400 : decode code 400 = .ok (.invokevirtual 48, 3) := by decide +kernel
theorem d_La_law_403 : decode code 403 = .ok (.if_icmp .eq 404, 3) := by decide +kernel
theorem d_La_law_406 : decode code 406 = .ok (.iconst 0, 1) := by decide +kernel
theorem d_La_law_407 : decode code 407 = .ok (.ireturn, 1) := by decide +kernel
theorem d_La_law_408 : decode code 408 = .ok (.aload_n 1, 1) := by decide +kernel
theorem d_La_law_409 : decode code 409 = .ok (.aload_n 0, 1) := by decide +kernel
theorem d_La_law_410 : decode code 410 = .ok (.iload_n 3, 1) := by decide +kernel
theorem d_La_law_411 : decode code 411 = .ok (.iconst 1, 1) := by decide +kernel
theorem d_La_law_412 : decode code 412 = .ok (.iadd, 1) := by decide +kernel
theorem d_La_law_413 : decode code 413 = .ok (.iaload, 1) := by decide +kernel
theorem d_La_law_414 : decode code 414 = .ok (.aload_n 0, 1) := by decide +kernel
theorem d_La_law_415 : decode code 415 = .ok (.iload_n 3, 1) := by decide +kernel
theorem d_La_law_416 : decode code 416 = .ok (.iconst 2, 1) := by decide +kernel
theorem d_La_law_417 : decode code 417 = .ok (.iadd, 1) := by decide +kernel
theorem d_La_law_418 : decode code 418 = .ok (.iaload, 1) := by decide +kernel
theorem d_La_law_419 : decode code 419 = .ok (.aload_n 0, 1) := by decide +kernel
theorem d_La_law_420 : decode code 420 = .ok (.iload_n 3, 1) := by decide +kernel
theorem d_La_law_421 : decode code 421 = .ok (.iconst 3, 1) := by decide +kernel
theorem d_La_law_422 : decode code 422 = .ok (.iadd, 1) := by decide +kernel
theorem d_La_law_423 : decode code 423 = .ok (.iaload, 1) := by decide +kernel
theorem d_La_law_424 : decode code 424 = .ok (.invokevirtual 49, 3) := by decide +kernel
theorem d_La_law_427 : decode code 427 = .ok (.aload_n 2, 1) := by decide +kernel
theorem d_La_law_428 : decode code 428 = .ok (.aload_n 0, 1) := by decide +kernel
theorem d_La_law_429 : decode code 429 = .ok (.iload_n 3, 1) := by decide +kernel
theorem d_La_law_430 : decode code 430 = .ok (.iconst 1, 1) := by decide +kernel
theorem d_La_law_431 : decode code 431 = .ok (.iadd, 1) := by decide +kernel
theorem d_La_law_432 : decode code 432 = .ok (.iaload, 1) := by decide +kernel
theorem d_La_law_433 : decode code 433 = .ok (.aload_n 0, 1) := by decide +kernel
theorem d_La_law_434 : decode code 434 = .ok (.iload_n 3, 1) := by decide +kernel
theorem d_La_law_435 : decode code 435 = .ok (.iconst 2, 1) := by decide +kernel
theorem d_La_law_436 : decode code 436 = .ok (.iadd, 1) := by decide +kernel
theorem d_La_law_437 : decode code 437 = .ok (.iaload, 1) := by decide +kernel
theorem d_La_law_438 : decode code 438 = .ok (.aload_n 0, 1) := by decide +kernel
theorem d_La_law_439 : decode code 439 = .ok (.iload_n 3, 1) := by decide +kernel
theorem d_La_law_440 : decode code 440 = .ok (.iconst 3, 1) := by decide +kernel
theorem d_La_law_441 : decode code 441 = .ok (.iadd, 1) := by decide +kernel
theorem d_La_law_442 : decode code 442 = .ok (.iaload, 1) := by decide +kernel
theorem d_La_law_443 : decode code 443 = .ok (.invokevirtual 52, 3) := by decide +kernel
theorem d_La_law_446 : decode code 446 = .ok (.if_icmp .eq 361, 3) := by decide +kernel
theorem d_La_law_449 : decode code 449 = .ok (.iconst 0, 1) := by decide +kernel
theorem d_La_law_450 : decode code 450 = .ok (.ireturn, 1) := by decide +kernel
theorem d_La_law_451 : decode code 451 = .ok (.aload_n 1, 1) := by decide +kernel
theorem d_La_law_452 : decode code 452 = .ok (.aload_n 0, 1) := by decide +kernel
theorem d_La_law_453 : decode code 453 = .ok (.iload_n 3, 1) := by decide +kernel
theorem d_La_law_454 : decode code 454 = .ok (.iconst 1, 1) := by decide +kernel
theorem d_La_law_455 : decode code 455 = .ok (.iadd, 1) := by decide +kernel
theorem d_La_law_456 : decode code 456 = .ok (.iaload, 1) := by decide +kernel
theorem d_La_law_457 : decode code 457 = .ok (.i2l, 1) := by decide +kernel
theorem d_La_law_458 : decode code 458 = .ok (.bipush 32, 2) := by decide +kernel
theorem d_La_law_460 : decode code 460 = .ok (.lshl, 1) := by decide +kernel
theorem d_La_law_461 : decode code 461 = .ok (.aload_n 0, 1) := by decide +kernel
theorem d_La_law_462 : decode code 462 = .ok (.iload_n 3, 1) := by decide +kernel
theorem d_La_law_463 : decode code 463 = .ok (.iconst 2, 1) := by decide +kernel
theorem d_La_law_464 : decode code 464 = .ok (.iadd, 1) := by decide +kernel
theorem d_La_law_465 : decode code 465 = .ok (.iaload, 1) := by decide +kernel
theorem d_La_law_466 : decode code 466 = .ok (.i2l, 1) := by decide +kernel
theorem d_La_law_467 : decode code 467 = .ok (.ldc2_w 53, 3) := by decide +kernel
theorem d_La_law_470 : decode code 470 = .ok (.land, 1) := by decide +kernel
theorem d_La_law_471 : decode code 471 = .ok (.lor, 1) := by decide +kernel
theorem d_La_law_472 : decode code 472 = .ok (.aload_n 0, 1) := by decide +kernel
theorem d_La_law_473 : decode code 473 = .ok (.iload_n 3, 1) := by decide +kernel
theorem d_La_law_474 : decode code 474 = .ok (.iconst 3, 1) := by decide +kernel
theorem d_La_law_475 : decode code 475 = .ok (.iadd, 1) := by decide +kernel
theorem d_La_law_476 : decode code 476 = .ok (.iaload, 1) := by decide +kernel
theorem d_La_law_477 : decode code 477 = .ok (.invokevirtual 55, 3) := by decide +kernel
theorem d_La_law_480 : decode code 480 = .ok (.aload_n 2, 1) := by decide +kernel
theorem d_La_law_481 : decode code 481 = .ok (.aload_n 0, 1) := by decide +kernel
theorem d_La_law_482 : decode code 482 = .ok (.iload_n 3, 1) := by decide +kernel
theorem d_La_law_483 : decode code 483 = .ok (.iconst 1, 1) := by decide +kernel
theorem d_La_law_484 : decode code 484 = .ok (.iadd, 1) := by decide +kernel
theorem d_La_law_485 : decode code 485 = .ok (.iaload, 1) := by decide +kernel
theorem d_La_law_486 : decode code 486 = .ok (.i2l, 1) := by decide +kernel
theorem d_La_law_487 : decode code 487 = .ok (.bipush 32, 2) := by decide +kernel
theorem d_La_law_489 : decode code 489 = .ok (.lshl, 1) := by decide +kernel
theorem d_La_law_490 : decode code 490 = .ok (.aload_n 0, 1) := by decide +kernel
theorem d_La_law_491 : decode code 491 = .ok (.iload_n 3, 1) := by decide +kernel
theorem d_La_law_492 : decode code 492 = .ok (.iconst 2, 1) := by decide +kernel
theorem d_La_law_493 : decode code 493 = .ok (.iadd, 1) := by decide +kernel
theorem d_La_law_494 : decode code 494 = .ok (.iaload, 1) := by decide +kernel
theorem d_La_law_495 : decode code 495 = .ok (.i2l, 1) := by decide +kernel
theorem d_La_law_496 : decode code 496 = .ok (.ldc2_w 53, 3) := by decide +kernel
theorem d_La_law_499 : decode code 499 = .ok (.land, 1) := by decide +kernel
theorem d_La_law_500 : decode code 500 = .ok (.lor, 1) := by decide +kernel
theorem d_La_law_501 : decode code 501 = .ok (.aload_n 0, 1) := by decide +kernel
theorem d_La_law_502 : decode code 502 = .ok (.iload_n 3, 1) := by decide +kernel
theorem d_La_law_503 : decode code 503 = .ok (.iconst 3, 1) := by decide +kernel
theorem d_La_law_504 : decode code 504 = .ok (.iadd, 1) := by decide +kernel
theorem d_La_law_505 : decode code 505 = .ok (.iaload, 1) := by decide +kernel
theorem d_La_law_506 : decode code 506 = .ok (.invokevirtual 59, 3) := by decide +kernel
theorem d_La_law_509 : decode code 509 = .ok (.if_icmp .eq 298, 3) := by decide +kernel
theorem d_La_law_512 : decode code 512 = .ok (.iconst 0, 1) := by decide +kernel
theorem d_La_law_513 : decode code 513 = .ok (.ireturn, 1) := by decide +kernel
theorem d_La_law_514 : decode code 514 = .ok (.aload_n 1, 1) := by decide +kernel
theorem d_La_law_515 : decode code 515 = .ok (.aload_n 0, 1) := by decide +kernel
theorem d_La_law_516 : decode code 516 = .ok (.iload_n 3, 1) := by decide +kernel
theorem d_La_law_517 : decode code 517 = .ok (.iconst 1, 1) := by decide +kernel
theorem d_La_law_518 : decode code 518 = .ok (.iadd, 1) := by decide +kernel
theorem d_La_law_519 : decode code 519 = .ok (.iaload, 1) := by decide +kernel
theorem d_La_law_520 : decode code 520 = .ok (.aload_n 0, 1) := by decide +kernel
theorem d_La_law_521 : decode code 521 = .ok (.iload_n 3, 1) := by decide +kernel
theorem d_La_law_522 : decode code 522 = .ok (.iconst 2, 1) := by decide +kernel
theorem d_La_law_523 : decode code 523 = .ok (.iadd, 1) := by decide +kernel
theorem d_La_law_524 : decode code 524 = .ok (.iaload, 1) := by decide +kernel
theorem d_La_law_525 : decode code 525 = .ok (.invokevirtual 60, 3) := by decide +kernel
theorem d_La_law_528 : decode code 528 = .ok (.aload_n 2, 1) := by decide +kernel
theorem d_La_law_529 : decode code 529 = .ok (.aload_n 0, 1) := by decide +kernel
theorem d_La_law_530 : decode code 530 = .ok (.iload_n 3, 1) := by decide +kernel
theorem d_La_law_531 : decode code 531 = .ok (.iconst 1, 1) := by decide +kernel
theorem d_La_law_532 : decode code 532 = .ok (.iadd, 1) := by decide +kernel
theorem d_La_law_533 : decode code 533 = .ok (.iaload, 1) := by decide +kernel
theorem d_La_law_534 : decode code 534 = .ok (.aload_n 0, 1) := by decide +kernel
theorem d_La_law_535 : decode code 535 = .ok (.iload_n 3, 1) := by decide +kernel
theorem d_La_law_536 : decode code 536 = .ok (.iconst 2, 1) := by decide +kernel
theorem d_La_law_537 : decode code 537 = .ok (.iadd, 1) := by decide +kernel
theorem d_La_law_538 : decode code 538 = .ok (.iaload, 1) := by decide +kernel
theorem d_La_law_539 : decode code 539 = .ok (.invokevirtual 63, 3) := by decide +kernel
theorem d_La_law_542 : decode code 542 = .ok (.if_icmp .eq 265, 3) := by decide +kernel
theorem d_La_law_545 : decode code 545 = .ok (.iconst 0, 1) := by decide +kernel
theorem d_La_law_546 : decode code 546 = .ok (.ireturn, 1) := by decide +kernel
theorem d_La_law_547 : decode code 547 = .ok (.aload_n 1, 1) := by decide +kernel
theorem d_La_law_548 : decode code 548 = .ok (.invokevirtual 64, 3) := by decide +kernel
theorem d_La_law_551 : decode code 551 = .ok (.aload_n 2, 1) := by decide +kernel
theorem d_La_law_552 : decode code 552 = .ok (.invokevirtual 68, 3) := by decide +kernel
theorem d_La_law_555 : decode code 555 = .ok (.if_icmp .eq 252, 3) := by decide +kernel
theorem d_La_law_558 : decode code 558 = .ok (.iconst 0, 1) := by decide +kernel
theorem d_La_law_559 : decode code 559 = .ok (.ireturn, 1) := by decide +kernel
theorem d_La_law_560 : decode code 560 = .ok (.aload_n 1, 1) := by decide +kernel
theorem d_La_law_561 : decode code 561 = .ok (.aload_n 0, 1) := by decide +kernel
theorem d_La_law_562 : decode code 562 = .ok (.iload_n 3, 1) := by decide +kernel
theorem d_La_law_563 : decode code 563 = .ok (.iconst 1, 1) := by decide +kernel
theorem d_La_law_564 : decode code 564 = .ok (.iadd, 1) := by decide +kernel
theorem d_La_law_565 : decode code 565 = .ok (.iaload, 1) := by decide +kernel
theorem d_La_law_566 : decode code 566 = .ok (.aload_n 0, 1) := by decide +kernel
theorem d_La_law_567 : decode code 567 = .ok (.iload_n 3, 1) := by decide +kernel
theorem d_La_law_568 : decode code 568 = .ok (.iconst 2, 1) := by decide +kernel
theorem d_La_law_569 : decode code 569 = .ok (.iadd, 1) := by decide +kernel
theorem d_La_law_570 : decode code 570 = .ok (.iaload, 1) := by decide +kernel
theorem d_La_law_571 : decode code 571 = .ok (.aload_n 0, 1) := by decide +kernel
theorem d_La_law_572 : decode code 572 = .ok (.iload_n 3, 1) := by decide +kernel
theorem d_La_law_573 : decode code 573 = .ok (.iconst 3, 1) := by decide +kernel
theorem d_La_law_574 : decode code 574 = .ok (.iadd, 1) := by decide +kernel
theorem d_La_law_575 : decode code 575 = .ok (.iaload, 1) := by decide +kernel
theorem d_La_law_576 : decode code 576 = .ok (.invokevirtual 69, 3) := by decide +kernel
theorem d_La_law_579 : decode code 579 = .ok (.aload_n 2, 1) := by decide +kernel
theorem d_La_law_580 : decode code 580 = .ok (.aload_n 0, 1) := by decide +kernel
theorem d_La_law_581 : decode code 581 = .ok (.iload_n 3, 1) := by decide +kernel
theorem d_La_law_582 : decode code 582 = .ok (.iconst 1, 1) := by decide +kernel
theorem d_La_law_583 : decode code 583 = .ok (.iadd, 1) := by decide +kernel
theorem d_La_law_584 : decode code 584 = .ok (.iaload, 1) := by decide +kernel
theorem d_La_law_585 : decode code 585 = .ok (.aload_n 0, 1) := by decide +kernel
theorem d_La_law_586 : decode code 586 = .ok (.iload_n 3, 1) := by decide +kernel
theorem d_La_law_587 : decode code 587 = .ok (.iconst 2, 1) := by decide +kernel
theorem d_La_law_588 : decode code 588 = .ok (.iadd, 1) := by decide +kernel
theorem d_La_law_589 : decode code 589 = .ok (.iaload, 1) := by decide +kernel
theorem d_La_law_590 : decode code 590 = .ok (.aload_n 0, 1) := by decide +kernel
theorem d_La_law_591 : decode code 591 = .ok (.iload_n 3, 1) := by decide +kernel
theorem d_La_law_592 : decode code 592 = .ok (.iconst 3, 1) := by decide +kernel
theorem d_La_law_593 : decode code 593 = .ok (.iadd, 1) := by decide +kernel
theorem d_La_law_594 : decode code 594 = .ok (.iaload, 1) := by decide +kernel
theorem d_La_law_595 : decode code 595 = .ok (.invokevirtual 73, 3) := by decide +kernel
theorem d_La_law_598 : decode code 598 = .ok (.if_icmp .eq 209, 3) := by decide +kernel
theorem d_La_law_601 : decode code 601 = .ok (.iconst 0, 1) := by decide +kernel
theorem d_La_law_602 : decode code 602 = .ok (.ireturn, 1) := by decide +kernel
theorem d_La_law_603 : decode code 603 = .ok (.aload_n 1, 1) := by decide +kernel
theorem d_La_law_604 : decode code 604 = .ok (.invokevirtual 74, 3) := by decide +kernel
theorem d_La_law_607 : decode code 607 = .ok (.aload_n 2, 1) := by decide +kernel
theorem d_La_law_608 : decode code 608 = .ok (.invokevirtual 77, 3) := by decide +kernel
theorem d_La_law_611 : decode code 611 = .ok (.if_icmp .eq 196, 3) := by decide +kernel
theorem d_La_law_614 : decode code 614 = .ok (.iconst 0, 1) := by decide +kernel
theorem d_La_law_615 : decode code 615 = .ok (.ireturn, 1) := by decide +kernel
theorem d_La_law_616 : decode code 616 = .ok (.aload_n 1, 1) := by decide +kernel
theorem d_La_law_617 : decode code 617 = .ok (.aload_n 0, 1) := by decide +kernel
theorem d_La_law_618 : decode code 618 = .ok (.iload_n 3, 1) := by decide +kernel
theorem d_La_law_619 : decode code 619 = .ok (.iconst 1, 1) := by decide +kernel
theorem d_La_law_620 : decode code 620 = .ok (.iadd, 1) := by decide +kernel
theorem d_La_law_621 : decode code 621 = .ok (.iaload, 1) := by decide +kernel
theorem d_La_law_622 : decode code 622 = .ok (.aload_n 0, 1) := by decide +kernel
theorem d_La_law_623 : decode code 623 = .ok (.iload_n 3, 1) := by decide +kernel
theorem d_La_law_624 : decode code 624 = .ok (.iconst 2, 1) := by decide +kernel
theorem d_La_law_625 : decode code 625 = .ok (.iadd, 1) := by decide +kernel
theorem d_La_law_626 : decode code 626 = .ok (.iaload, 1) := by decide +kernel
theorem d_La_law_627 : decode code 627 = .ok (.invokevirtual 78, 3) := by decide +kernel
theorem d_La_law_630 : decode code 630 = .ok (.aload_n 2, 1) := by decide +kernel
theorem d_La_law_631 : decode code 631 = .ok (.aload_n 0, 1) := by decide +kernel
theorem d_La_law_632 : decode code 632 = .ok (.iload_n 3, 1) := by decide +kernel
theorem d_La_law_633 : decode code 633 = .ok (.iconst 1, 1) := by decide +kernel
theorem d_La_law_634 : decode code 634 = .ok (.iadd, 1) := by decide +kernel
theorem d_La_law_635 : decode code 635 = .ok (.iaload, 1) := by decide +kernel
theorem d_La_law_636 : decode code 636 = .ok (.aload_n 0, 1) := by decide +kernel
theorem d_La_law_637 : decode code 637 = .ok (.iload_n 3, 1) := by decide +kernel
theorem d_La_law_638 : decode code 638 = .ok (.iconst 2, 1) := by decide +kernel
theorem d_La_law_639 : decode code 639 = .ok (.iadd, 1) := by decide +kernel
theorem d_La_law_640 : decode code 640 = .ok (.iaload, 1) := by decide +kernel
theorem d_La_law_641 : decode code 641 = .ok (.invokevirtual 82, 3) := by decide +kernel
theorem d_La_law_644 : decode code 644 = .ok (.if_icmp .eq 163, 3) := by decide +kernel
theorem d_La_law_647 : decode code 647 = .ok (.iconst 0, 1) := by decide +kernel
theorem d_La_law_648 : decode code 648 = .ok (.ireturn, 1) := by decide +kernel
theorem d_La_law_649 : decode code 649 = .ok (.aload_n 1, 1) := by decide +kernel
theorem d_La_law_650 : decode code 650 = .ok (.aload_n 0, 1) := by decide +kernel
theorem d_La_law_651 : decode code 651 = .ok (.iload_n 3, 1) := by decide +kernel
theorem d_La_law_652 : decode code 652 = .ok (.iconst 1, 1) := by decide +kernel
theorem d_La_law_653 : decode code 653 = .ok (.iadd, 1) := by decide +kernel
theorem d_La_law_654 : decode code 654 = .ok (.iaload, 1) := by decide +kernel
theorem d_La_law_655 : decode code 655 = .ok (.aload_n 0, 1) := by decide +kernel
theorem d_La_law_656 : decode code 656 = .ok (.iload_n 3, 1) := by decide +kernel
theorem d_La_law_657 : decode code 657 = .ok (.iconst 2, 1) := by decide +kernel
theorem d_La_law_658 : decode code 658 = .ok (.iadd, 1) := by decide +kernel
theorem d_La_law_659 : decode code 659 = .ok (.iaload, 1) := by decide +kernel
theorem d_La_law_660 : decode code 660 = .ok (.invokevirtual 83, 3) := by decide +kernel
theorem d_La_law_663 : decode code 663 = .ok (.aload_n 2, 1) := by decide +kernel
theorem d_La_law_664 : decode code 664 = .ok (.aload_n 0, 1) := by decide +kernel
theorem d_La_law_665 : decode code 665 = .ok (.iload_n 3, 1) := by decide +kernel
theorem d_La_law_666 : decode code 666 = .ok (.iconst 1, 1) := by decide +kernel
theorem d_La_law_667 : decode code 667 = .ok (.iadd, 1) := by decide +kernel
theorem d_La_law_668 : decode code 668 = .ok (.iaload, 1) := by decide +kernel
theorem d_La_law_669 : decode code 669 = .ok (.aload_n 0, 1) := by decide +kernel
theorem d_La_law_670 : decode code 670 = .ok (.iload_n 3, 1) := by decide +kernel
theorem d_La_law_671 : decode code 671 = .ok (.iconst 2, 1) := by decide +kernel
theorem d_La_law_672 : decode code 672 = .ok (.iadd, 1) := by decide +kernel
theorem d_La_law_673 : decode code 673 = .ok (.iaload, 1) := by decide +kernel
theorem d_La_law_674 : decode code 674 = .ok (.invokevirtual 86, 3) := by decide +kernel
theorem d_La_law_677 : decode code 677 = .ok (.if_icmp .eq 130, 3) := by decide +kernel
theorem d_La_law_680 : decode code 680 = .ok (.iconst 0, 1) := by decide +kernel
theorem d_La_law_681 : decode code 681 = .ok (.ireturn, 1) := by decide +kernel
theorem d_La_law_682 : decode code 682 = .ok (.aload_n 1, 1) := by decide +kernel
theorem d_La_law_683 : decode code 683 = .ok (.aload_n 0, 1) := by decide +kernel
theorem d_La_law_684 : decode code 684 = .ok (.iload_n 3, 1) := by decide +kernel
theorem d_La_law_685 : decode code 685 = .ok (.iconst 1, 1) := by decide +kernel
theorem d_La_law_686 : decode code 686 = .ok (.iadd, 1) := by decide +kernel
theorem d_La_law_687 : decode code 687 = .ok (.iaload, 1) := by decide +kernel
theorem d_La_law_688 : decode code 688 = .ok (.aload_n 0, 1) := by decide +kernel
theorem d_La_law_689 : decode code 689 = .ok (.iload_n 3, 1) := by decide +kernel
theorem d_La_law_690 : decode code 690 = .ok (.iconst 2, 1) := by decide +kernel
theorem d_La_law_691 : decode code 691 = .ok (.iadd, 1) := by decide +kernel
theorem d_La_law_692 : decode code 692 = .ok (.iaload, 1) := by decide +kernel
theorem d_La_law_693 : decode code 693 = .ok (.invokevirtual 87, 3) := by decide +kernel
theorem d_La_law_696 : decode code 696 = .ok (.aload_n 2, 1) := by decide +kernel
theorem d_La_law_697 : decode code 697 = .ok (.aload_n 0, 1) := by decide +kernel
theorem d_La_law_698 : decode code 698 = .ok (.iload_n 3, 1) := by decide +kernel
theorem d_La_law_699 : decode code 699 = .ok (.iconst 1, 1) := by decide +kernel
theorem d_La_law_700 : decode code 700 = .ok (.iadd, 1) := by decide +kernel
theorem d_La_law_701 : decode code 701 = .ok (.iaload, 1) := by decide +kernel
theorem d_La_law_702 : decode code 702 = .ok (.aload_n 0, 1) := by decide +kernel
theorem d_La_law_703 : decode code 703 = .ok (.iload_n 3, 1) := by decide +kernel
theorem d_La_law_704 : decode code 704 = .ok (.iconst 2, 1) := by decide +kernel
theorem d_La_law_705 : decode code 705 = .ok (.iadd, 1) := by decide +kernel
theorem d_La_law_706 : decode code 706 = .ok (.iaload, 1) := by decide +kernel
theorem d_La_law_707 : decode code 707 = .ok (.invokevirtual 90, 3) := by decide +kernel
theorem d_La_law_710 : decode code 710 = .ok (.if_icmp .eq 97, 3) := by decide +kernel
theorem d_La_law_713 : decode code 713 = .ok (.iconst 0, 1) := by decide +kernel
theorem d_La_law_714 : decode code 714 = .ok (.ireturn, 1) := by decide +kernel
theorem d_La_law_715 : decode code 715 = .ok (.aload_n 1, 1) := by decide +kernel
theorem d_La_law_716 : decode code 716 = .ok (.aload_n 0, 1) := by decide +kernel
theorem d_La_law_717 : decode code 717 = .ok (.iload_n 3, 1) := by decide +kernel
theorem d_La_law_718 : decode code 718 = .ok (.iconst 1, 1) := by decide +kernel
theorem d_La_law_719 : decode code 719 = .ok (.iadd, 1) := by decide +kernel
theorem d_La_law_720 : decode code 720 = .ok (.iaload, 1) := by decide +kernel
theorem d_La_law_721 : decode code 721 = .ok (.aload_n 0, 1) := by decide +kernel
theorem d_La_law_722 : decode code 722 = .ok (.iload_n 3, 1) := by decide +kernel
theorem d_La_law_723 : decode code 723 = .ok (.iconst 2, 1) := by decide +kernel
theorem d_La_law_724 : decode code 724 = .ok (.iadd, 1) := by decide +kernel
theorem d_La_law_725 : decode code 725 = .ok (.iaload, 1) := by decide +kernel
theorem d_La_law_726 : decode code 726 = .ok (.invokevirtual 91, 3) := by decide +kernel
theorem d_La_law_729 : decode code 729 = .ok (.aload_n 2, 1) := by decide +kernel
theorem d_La_law_730 : decode code 730 = .ok (.aload_n 0, 1) := by decide +kernel
theorem d_La_law_731 : decode code 731 = .ok (.iload_n 3, 1) := by decide +kernel
theorem d_La_law_732 : decode code 732 = .ok (.iconst 1, 1) := by decide +kernel
theorem d_La_law_733 : decode code 733 = .ok (.iadd, 1) := by decide +kernel
theorem d_La_law_734 : decode code 734 = .ok (.iaload, 1) := by decide +kernel
theorem d_La_law_735 : decode code 735 = .ok (.aload_n 0, 1) := by decide +kernel
theorem d_La_law_736 : decode code 736 = .ok (.iload_n 3, 1) := by decide +kernel
theorem d_La_law_737 : decode code 737 = .ok (.iconst 2, 1) := by decide +kernel
theorem d_La_law_738 : decode code 738 = .ok (.iadd, 1) := by decide +kernel
theorem d_La_law_739 : decode code 739 = .ok (.iaload, 1) := by decide +kernel
theorem d_La_law_740 : decode code 740 = .ok (.invokevirtual 94, 3) := by decide +kernel
theorem d_La_law_743 : decode code 743 = .ok (.if_icmp .eq 64, 3) := by decide +kernel
theorem d_La_law_746 : decode code 746 = .ok (.iconst 0, 1) := by decide +kernel
theorem d_La_law_747 : decode code 747 = .ok (.ireturn, 1) := by decide +kernel
theorem d_La_law_748 : decode code 748 = .ok (.aload_n 1, 1) := by decide +kernel
theorem d_La_law_749 : decode code 749 = .ok (.aload_n 0, 1) := by decide +kernel
theorem d_La_law_750 : decode code 750 = .ok (.iload_n 3, 1) := by decide +kernel
theorem d_La_law_751 : decode code 751 = .ok (.iconst 1, 1) := by decide +kernel
theorem d_La_law_752 : decode code 752 = .ok (.iadd, 1) := by decide +kernel
theorem d_La_law_753 : decode code 753 = .ok (.iaload, 1) := by decide +kernel
theorem d_La_law_754 : decode code 754 = .ok (.invokevirtual 95, 3) := by decide +kernel
theorem d_La_law_757 : decode code 757 = .ok (.aload_n 2, 1) := by decide +kernel
theorem d_La_law_758 : decode code 758 = .ok (.aload_n 0, 1) := by decide +kernel
theorem d_La_law_759 : decode code 759 = .ok (.iload_n 3, 1) := by decide +kernel
theorem d_La_law_760 : decode code 760 = .ok (.iconst 1, 1) := by decide +kernel
theorem d_La_law_761 : decode code 761 = .ok (.iadd, 1) := by decide +kernel
theorem d_La_law_762 : decode code 762 = .ok (.iaload, 1) := by decide +kernel
theorem d_La_law_763 : decode code 763 = .ok (.invokevirtual 99, 3) := by decide +kernel
theorem d_La_law_766 : decode code 766 = .ok (.if_icmp .eq 41, 3) := by decide +kernel
theorem d_La_law_769 : decode code 769 = .ok (.iconst 0, 1) := by decide +kernel
theorem d_La_law_770 : decode code 770 = .ok (.ireturn, 1) := by decide +kernel
theorem d_La_law_771 : decode code 771 = .ok (.aload_n 1, 1) := by decide +kernel
theorem d_La_law_772 : decode code 772 = .ok (.aload_n 0, 1) := by decide +kernel
theorem d_La_law_773 : decode code 773 = .ok (.iload_n 3, 1) := by decide +kernel
theorem d_La_law_774 : decode code 774 = .ok (.iconst 1, 1) := by decide +kernel
theorem d_La_law_775 : decode code 775 = .ok (.iadd, 1) := by decide +kernel
theorem d_La_law_776 : decode code 776 = .ok (.iaload, 1) := by decide +kernel
theorem d_La_law_777 : decode code 777 = .ok (.invokevirtual 100, 3) := by decide +kernel
theorem d_La_law_780 : decode code 780 = .ok (.aload_n 2, 1) := by decide +kernel
theorem d_La_law_781 : decode code 781 = .ok (.aload_n 0, 1) := by decide +kernel
theorem d_La_law_782 : decode code 782 = .ok (.iload_n 3, 1) := by decide +kernel
theorem d_La_law_783 : decode code 783 = .ok (.iconst 1, 1) := by decide +kernel
theorem d_La_law_784 : decode code 784 = .ok (.iadd, 1) := by decide +kernel
theorem d_La_law_785 : decode code 785 = .ok (.iaload, 1) := by decide +kernel
theorem d_La_law_786 : decode code 786 = .ok (.invokevirtual 103, 3) := by decide +kernel
theorem d_La_law_789 : decode code 789 = .ok (.if_icmp .eq 18, 3) := by decide +kernel
theorem d_La_law_792 : decode code 792 = .ok (.iconst 0, 1) := by decide +kernel
theorem d_La_law_793 : decode code 793 = .ok (.ireturn, 1) := by decide +kernel
theorem d_La_law_794 : decode code 794 = .ok (.aload_n 1, 1) := by decide +kernel
theorem d_La_law_795 : decode code 795 = .ok (.invokevirtual 104, 3) := by decide +kernel
theorem d_La_law_798 : decode code 798 = .ok (.aload_n 2, 1) := by decide +kernel
theorem d_La_law_799 : decode code 799 = .ok (.invokevirtual 107, 3) := by decide +kernel
theorem d_La_law_802 : decode code 802 = .ok (.if_icmp .eq 5, 3) := by decide +kernel
theorem d_La_law_805 : decode code 805 = .ok (.iconst 0, 1) := by decide +kernel
theorem d_La_law_806 : decode code 806 = .ok (.ireturn, 1) := by decide +kernel
theorem d_La_law_807 : decode code 807 = .ok (.iinc 3 5, 3) := by decide +kernel
theorem d_La_law_810 : decode code 810 = .ok (.goto (-782), 3) := by decide +kernel
theorem d_La_law_813 : decode code 813 = .ok (.iconst 1, 1) := by decide +kernel
theorem d_La_law_814 : decode code 814 = .ok (.ireturn, 1) := by decide +kernel
theorem wm_1114 : Cond.code y_PG_favourite c_PG_favourite 1 (some .int) ∈ pj_W := pj_mem 1114 (by decide +kernel) rfl
theorem wm_1113 : Cond.selects "PortGuard" y_PG_favourite y_PG_favourite ∈ pj_W := pj_mem 1113 (by decide +kernel) rfl
theorem wm_1112 : Cond.instanceMethod y_PG_favourite ∈ pj_W := pj_mem 1112 (by decide +kernel) rfl
theorem wm_1111 : Cond.methodLink "PortGuardLaw" 104 y_PG_favourite ∈ pj_W := pj_mem 1111 (by decide +kernel) rfl
theorem wm_1629 : Cond.code y_Mo_favourite c_Mo_favourite 1 (some .int) ∈ pj_W := pj_mem 1629 (by decide +kernel) rfl
theorem wm_1628 : Cond.selects "PortGuardModel" y_Mo_favourite y_Mo_favourite ∈ pj_W := pj_mem 1628 (by decide +kernel) rfl
theorem wm_1627 : Cond.instanceMethod y_Mo_favourite ∈ pj_W := pj_mem 1627 (by decide +kernel) rfl
theorem wm_1626 : Cond.methodLink "PortGuardLaw" 107 y_Mo_favourite ∈ pj_W := pj_mem 1626 (by decide +kernel) rfl
theorem wm_1110 : Cond.code y_PG_learned c_PG_learned 2 (some .int) ∈ pj_W := pj_mem 1110 (by decide +kernel) rfl
theorem wm_1109 : Cond.selects "PortGuard" y_PG_learned y_PG_learned ∈ pj_W := pj_mem 1109 (by decide +kernel) rfl
theorem wm_1108 : Cond.instanceMethod y_PG_learned ∈ pj_W := pj_mem 1108 (by decide +kernel) rfl
theorem wm_1107 : Cond.methodLink "PortGuardLaw" 100 y_PG_learned ∈ pj_W := pj_mem 1107 (by decide +kernel) rfl
theorem wm_1625 : Cond.code y_Mo_learned c_Mo_learned 2 (some .int) ∈ pj_W := pj_mem 1625 (by decide +kernel) rfl
theorem wm_1624 : Cond.selects "PortGuardModel" y_Mo_learned y_Mo_learned ∈ pj_W := pj_mem 1624 (by decide +kernel) rfl
theorem wm_1623 : Cond.instanceMethod y_Mo_learned ∈ pj_W := pj_mem 1623 (by decide +kernel) rfl
theorem wm_1622 : Cond.methodLink "PortGuardLaw" 103 y_Mo_learned ∈ pj_W := pj_mem 1622 (by decide +kernel) rfl
theorem wm_1106 : Cond.code y_PG_wrong c_PG_wrong 4 (some .int) ∈ pj_W := pj_mem 1106 (by decide +kernel) rfl
theorem wm_1105 : Cond.selects "PortGuard" y_PG_wrong y_PG_wrong ∈ pj_W := pj_mem 1105 (by decide +kernel) rfl
theorem wm_1104 : Cond.instanceMethod y_PG_wrong ∈ pj_W := pj_mem 1104 (by decide +kernel) rfl
theorem wm_1103 : Cond.methodLink "PortGuardLaw" 95 y_PG_wrong ∈ pj_W := pj_mem 1103 (by decide +kernel) rfl
theorem wm_1621 : Cond.code y_Mo_wrong c_Mo_wrong 2 (some .int) ∈ pj_W := pj_mem 1621 (by decide +kernel) rfl
theorem wm_1620 : Cond.selects "PortGuardModel" y_Mo_wrong y_Mo_wrong ∈ pj_W := pj_mem 1620 (by decide +kernel) rfl
theorem wm_1619 : Cond.instanceMethod y_Mo_wrong ∈ pj_W := pj_mem 1619 (by decide +kernel) rfl
theorem wm_1618 : Cond.methodLink "PortGuardLaw" 99 y_Mo_wrong ∈ pj_W := pj_mem 1618 (by decide +kernel) rfl
theorem wm_1098 : Cond.code y_PG_server c_PG_server 3 (some .int) ∈ pj_W := pj_mem 1098 (by decide +kernel) rfl
theorem wm_1097 : Cond.selects "PortGuard" y_PG_server y_PG_server ∈ pj_W := pj_mem 1097 (by decide +kernel) rfl
theorem wm_1096 : Cond.instanceMethod y_PG_server ∈ pj_W := pj_mem 1096 (by decide +kernel) rfl
theorem wm_1095 : Cond.methodLink "PortGuardLaw" 91 y_PG_server ∈ pj_W := pj_mem 1095 (by decide +kernel) rfl
theorem wm_1617 : Cond.code y_Mo_server c_Mo_server 3 (some .int) ∈ pj_W := pj_mem 1617 (by decide +kernel) rfl
theorem wm_1616 : Cond.selects "PortGuardModel" y_Mo_server y_Mo_server ∈ pj_W := pj_mem 1616 (by decide +kernel) rfl
theorem wm_1615 : Cond.instanceMethod y_Mo_server ∈ pj_W := pj_mem 1615 (by decide +kernel) rfl
theorem wm_1614 : Cond.methodLink "PortGuardLaw" 94 y_Mo_server ∈ pj_W := pj_mem 1614 (by decide +kernel) rfl
theorem wm_1090 : Cond.code y_PG_station c_PG_station 3 (some .int) ∈ pj_W := pj_mem 1090 (by decide +kernel) rfl
theorem wm_1089 : Cond.selects "PortGuard" y_PG_station y_PG_station ∈ pj_W := pj_mem 1089 (by decide +kernel) rfl
theorem wm_1088 : Cond.instanceMethod y_PG_station ∈ pj_W := pj_mem 1088 (by decide +kernel) rfl
theorem wm_1087 : Cond.methodLink "PortGuardLaw" 87 y_PG_station ∈ pj_W := pj_mem 1087 (by decide +kernel) rfl
theorem wm_1613 : Cond.code y_Mo_station c_Mo_station 3 (some .int) ∈ pj_W := pj_mem 1613 (by decide +kernel) rfl
theorem wm_1612 : Cond.selects "PortGuardModel" y_Mo_station y_Mo_station ∈ pj_W := pj_mem 1612 (by decide +kernel) rfl
theorem wm_1611 : Cond.instanceMethod y_Mo_station ∈ pj_W := pj_mem 1611 (by decide +kernel) rfl
theorem wm_1610 : Cond.methodLink "PortGuardLaw" 90 y_Mo_station ∈ pj_W := pj_mem 1610 (by decide +kernel) rfl
theorem wm_1082 : Cond.code y_PG_port c_PG_port 3 (some .int) ∈ pj_W := pj_mem 1082 (by decide +kernel) rfl
theorem wm_1081 : Cond.selects "PortGuard" y_PG_port y_PG_port ∈ pj_W := pj_mem 1081 (by decide +kernel) rfl
theorem wm_1080 : Cond.instanceMethod y_PG_port ∈ pj_W := pj_mem 1080 (by decide +kernel) rfl
theorem wm_1079 : Cond.methodLink "PortGuardLaw" 83 y_PG_port ∈ pj_W := pj_mem 1079 (by decide +kernel) rfl
theorem wm_1609 : Cond.code y_Mo_port c_Mo_port 3 (some .int) ∈ pj_W := pj_mem 1609 (by decide +kernel) rfl
theorem wm_1608 : Cond.selects "PortGuardModel" y_Mo_port y_Mo_port ∈ pj_W := pj_mem 1608 (by decide +kernel) rfl
theorem wm_1607 : Cond.instanceMethod y_Mo_port ∈ pj_W := pj_mem 1607 (by decide +kernel) rfl
theorem wm_1606 : Cond.methodLink "PortGuardLaw" 86 y_Mo_port ∈ pj_W := pj_mem 1606 (by decide +kernel) rfl
theorem wm_1078 : Cond.code y_PG_message c_PG_message 3 (some .int) ∈ pj_W := pj_mem 1078 (by decide +kernel) rfl
theorem wm_1077 : Cond.selects "PortGuard" y_PG_message y_PG_message ∈ pj_W := pj_mem 1077 (by decide +kernel) rfl
theorem wm_1076 : Cond.instanceMethod y_PG_message ∈ pj_W := pj_mem 1076 (by decide +kernel) rfl
theorem wm_1075 : Cond.methodLink "PortGuardLaw" 78 y_PG_message ∈ pj_W := pj_mem 1075 (by decide +kernel) rfl
theorem wm_1605 : Cond.code y_Mo_message c_Mo_message 3 (some .int) ∈ pj_W := pj_mem 1605 (by decide +kernel) rfl
theorem wm_1604 : Cond.selects "PortGuardModel" y_Mo_message y_Mo_message ∈ pj_W := pj_mem 1604 (by decide +kernel) rfl
theorem wm_1603 : Cond.instanceMethod y_Mo_message ∈ pj_W := pj_mem 1603 (by decide +kernel) rfl
theorem wm_1602 : Cond.methodLink "PortGuardLaw" 82 y_Mo_message ∈ pj_W := pj_mem 1602 (by decide +kernel) rfl
theorem wm_1074 : Cond.code y_PG_waiting c_PG_waiting 1 (some .int) ∈ pj_W := pj_mem 1074 (by decide +kernel) rfl
theorem wm_1073 : Cond.selects "PortGuard" y_PG_waiting y_PG_waiting ∈ pj_W := pj_mem 1073 (by decide +kernel) rfl
theorem wm_1072 : Cond.instanceMethod y_PG_waiting ∈ pj_W := pj_mem 1072 (by decide +kernel) rfl
theorem wm_1071 : Cond.methodLink "PortGuardLaw" 74 y_PG_waiting ∈ pj_W := pj_mem 1071 (by decide +kernel) rfl
theorem wm_1601 : Cond.code y_Mo_waiting c_Mo_waiting 1 (some .int) ∈ pj_W := pj_mem 1601 (by decide +kernel) rfl
theorem wm_1600 : Cond.selects "PortGuardModel" y_Mo_waiting y_Mo_waiting ∈ pj_W := pj_mem 1600 (by decide +kernel) rfl
theorem wm_1599 : Cond.instanceMethod y_Mo_waiting ∈ pj_W := pj_mem 1599 (by decide +kernel) rfl
theorem wm_1598 : Cond.methodLink "PortGuardLaw" 77 y_Mo_waiting ∈ pj_W := pj_mem 1598 (by decide +kernel) rfl
theorem wm_1066 : Cond.code y_PG_data c_PG_data 4 (some .int) ∈ pj_W := pj_mem 1066 (by decide +kernel) rfl
theorem wm_1065 : Cond.selects "PortGuard" y_PG_data y_PG_data ∈ pj_W := pj_mem 1065 (by decide +kernel) rfl
theorem wm_1064 : Cond.instanceMethod y_PG_data ∈ pj_W := pj_mem 1064 (by decide +kernel) rfl
theorem wm_1063 : Cond.methodLink "PortGuardLaw" 69 y_PG_data ∈ pj_W := pj_mem 1063 (by decide +kernel) rfl
theorem wm_1597 : Cond.code y_Mo_data c_Mo_data 7 (some .int) ∈ pj_W := pj_mem 1597 (by decide +kernel) rfl
theorem wm_1596 : Cond.selects "PortGuardModel" y_Mo_data y_Mo_data ∈ pj_W := pj_mem 1596 (by decide +kernel) rfl
theorem wm_1595 : Cond.instanceMethod y_Mo_data ∈ pj_W := pj_mem 1595 (by decide +kernel) rfl
theorem wm_1594 : Cond.methodLink "PortGuardLaw" 73 y_Mo_data ∈ pj_W := pj_mem 1594 (by decide +kernel) rfl
theorem wm_1049 : Cond.code y_PG_tick c_PG_tick 2 (some .int) ∈ pj_W := pj_mem 1049 (by decide +kernel) rfl
theorem wm_1048 : Cond.selects "PortGuard" y_PG_tick y_PG_tick ∈ pj_W := pj_mem 1048 (by decide +kernel) rfl
theorem wm_1047 : Cond.instanceMethod y_PG_tick ∈ pj_W := pj_mem 1047 (by decide +kernel) rfl
theorem wm_1046 : Cond.methodLink "PortGuardLaw" 64 y_PG_tick ∈ pj_W := pj_mem 1046 (by decide +kernel) rfl
theorem wm_1401 : Cond.code y_Mo_tick c_Mo_tick 2 (some .int) ∈ pj_W := pj_mem 1401 (by decide +kernel) rfl
theorem wm_1400 : Cond.selects "PortGuardModel" y_Mo_tick y_Mo_tick ∈ pj_W := pj_mem 1400 (by decide +kernel) rfl
theorem wm_1399 : Cond.instanceMethod y_Mo_tick ∈ pj_W := pj_mem 1399 (by decide +kernel) rfl
theorem wm_1398 : Cond.methodLink "PortGuardLaw" 68 y_Mo_tick ∈ pj_W := pj_mem 1398 (by decide +kernel) rfl
theorem wm_1041 : Cond.code y_PG_forge c_PG_forge 3 (some .boolean) ∈ pj_W := pj_mem 1041 (by decide +kernel) rfl
theorem wm_1040 : Cond.selects "PortGuard" y_PG_forge y_PG_forge ∈ pj_W := pj_mem 1040 (by decide +kernel) rfl
theorem wm_1039 : Cond.instanceMethod y_PG_forge ∈ pj_W := pj_mem 1039 (by decide +kernel) rfl
theorem wm_1038 : Cond.methodLink "PortGuardLaw" 60 y_PG_forge ∈ pj_W := pj_mem 1038 (by decide +kernel) rfl
theorem wm_1593 : Cond.code y_Mo_forge c_Mo_forge 4 (some .boolean) ∈ pj_W := pj_mem 1593 (by decide +kernel) rfl
theorem wm_1592 : Cond.selects "PortGuardModel" y_Mo_forge y_Mo_forge ∈ pj_W := pj_mem 1592 (by decide +kernel) rfl
theorem wm_1591 : Cond.instanceMethod y_Mo_forge ∈ pj_W := pj_mem 1591 (by decide +kernel) rfl
theorem wm_1590 : Cond.methodLink "PortGuardLaw" 63 y_Mo_forge ∈ pj_W := pj_mem 1590 (by decide +kernel) rfl
theorem wm_1630 : Cond.constantLong "PortGuardLaw" 53 4294967295 ∈ pj_W := pj_mem 1630 (by decide +kernel) rfl
theorem wm_1036 : Cond.code y_PG_draft c_PG_draft 5 (some .boolean) ∈ pj_W := pj_mem 1036 (by decide +kernel) rfl
theorem wm_1035 : Cond.selects "PortGuard" y_PG_draft y_PG_draft ∈ pj_W := pj_mem 1035 (by decide +kernel) rfl
theorem wm_1034 : Cond.instanceMethod y_PG_draft ∈ pj_W := pj_mem 1034 (by decide +kernel) rfl
theorem wm_1033 : Cond.methodLink "PortGuardLaw" 55 y_PG_draft ∈ pj_W := pj_mem 1033 (by decide +kernel) rfl
theorem wm_1588 : Cond.code y_Mo_draft c_Mo_draft 5 (some .boolean) ∈ pj_W := pj_mem 1588 (by decide +kernel) rfl
theorem wm_1587 : Cond.selects "PortGuardModel" y_Mo_draft y_Mo_draft ∈ pj_W := pj_mem 1587 (by decide +kernel) rfl
theorem wm_1586 : Cond.instanceMethod y_Mo_draft ∈ pj_W := pj_mem 1586 (by decide +kernel) rfl
theorem wm_1585 : Cond.methodLink "PortGuardLaw" 59 y_Mo_draft ∈ pj_W := pj_mem 1585 (by decide +kernel) rfl
theorem wm_1030 : Cond.code y_PG_alter c_PG_alter 5 (some .boolean) ∈ pj_W := pj_mem 1030 (by decide +kernel) rfl
theorem wm_1029 : Cond.selects "PortGuard" y_PG_alter y_PG_alter ∈ pj_W := pj_mem 1029 (by decide +kernel) rfl
theorem wm_1028 : Cond.instanceMethod y_PG_alter ∈ pj_W := pj_mem 1028 (by decide +kernel) rfl
theorem wm_1027 : Cond.methodLink "PortGuardLaw" 49 y_PG_alter ∈ pj_W := pj_mem 1027 (by decide +kernel) rfl
theorem wm_1584 : Cond.code y_Mo_alter c_Mo_alter 4 (some .boolean) ∈ pj_W := pj_mem 1584 (by decide +kernel) rfl
theorem wm_1583 : Cond.selects "PortGuardModel" y_Mo_alter y_Mo_alter ∈ pj_W := pj_mem 1583 (by decide +kernel) rfl
theorem wm_1582 : Cond.instanceMethod y_Mo_alter ∈ pj_W := pj_mem 1582 (by decide +kernel) rfl
theorem wm_1581 : Cond.methodLink "PortGuardLaw" 52 y_Mo_alter ∈ pj_W := pj_mem 1581 (by decide +kernel) rfl
theorem wm_678 : Cond.code y_PG_pass c_PG_pass 5 (some .boolean) ∈ pj_W := pj_mem 678 (by decide +kernel) rfl
theorem wm_677 : Cond.selects "PortGuard" y_PG_pass y_PG_pass ∈ pj_W := pj_mem 677 (by decide +kernel) rfl
theorem wm_676 : Cond.instanceMethod y_PG_pass ∈ pj_W := pj_mem 676 (by decide +kernel) rfl
theorem wm_675 : Cond.methodLink "PortGuardLaw" 44 y_PG_pass ∈ pj_W := pj_mem 675 (by decide +kernel) rfl
theorem wm_1463 : Cond.code y_Mo_pass c_Mo_pass 6 (some .boolean) ∈ pj_W := pj_mem 1463 (by decide +kernel) rfl
theorem wm_1462 : Cond.selects "PortGuardModel" y_Mo_pass y_Mo_pass ∈ pj_W := pj_mem 1462 (by decide +kernel) rfl
theorem wm_1461 : Cond.instanceMethod y_Mo_pass ∈ pj_W := pj_mem 1461 (by decide +kernel) rfl
theorem wm_1460 : Cond.methodLink "PortGuardLaw" 48 y_Mo_pass ∈ pj_W := pj_mem 1460 (by decide +kernel) rfl
theorem wm_667 : Cond.code y_PG_power c_PG_power 3 (some .boolean) ∈ pj_W := pj_mem 667 (by decide +kernel) rfl
theorem wm_666 : Cond.selects "PortGuard" y_PG_power y_PG_power ∈ pj_W := pj_mem 666 (by decide +kernel) rfl
theorem wm_665 : Cond.instanceMethod y_PG_power ∈ pj_W := pj_mem 665 (by decide +kernel) rfl
theorem wm_664 : Cond.methodLink "PortGuardLaw" 40 y_PG_power ∈ pj_W := pj_mem 664 (by decide +kernel) rfl
theorem wm_1369 : Cond.code y_Mo_power c_Mo_power 3 (some .boolean) ∈ pj_W := pj_mem 1369 (by decide +kernel) rfl
theorem wm_1368 : Cond.selects "PortGuardModel" y_Mo_power y_Mo_power ∈ pj_W := pj_mem 1368 (by decide +kernel) rfl
theorem wm_1367 : Cond.instanceMethod y_Mo_power ∈ pj_W := pj_mem 1367 (by decide +kernel) rfl
theorem wm_1366 : Cond.methodLink "PortGuardLaw" 43 y_Mo_power ∈ pj_W := pj_mem 1366 (by decide +kernel) rfl
theorem wm_597 : Cond.code y_PG_link c_PG_link 3 (some .boolean) ∈ pj_W := pj_mem 597 (by decide +kernel) rfl
theorem wm_596 : Cond.selects "PortGuard" y_PG_link y_PG_link ∈ pj_W := pj_mem 596 (by decide +kernel) rfl
theorem wm_595 : Cond.instanceMethod y_PG_link ∈ pj_W := pj_mem 595 (by decide +kernel) rfl
theorem wm_594 : Cond.methodLink "PortGuardLaw" 36 y_PG_link ∈ pj_W := pj_mem 594 (by decide +kernel) rfl
theorem wm_1373 : Cond.code y_Mo_link c_Mo_link 3 (some .boolean) ∈ pj_W := pj_mem 1373 (by decide +kernel) rfl
theorem wm_1372 : Cond.selects "PortGuardModel" y_Mo_link y_Mo_link ∈ pj_W := pj_mem 1372 (by decide +kernel) rfl
theorem wm_1371 : Cond.instanceMethod y_Mo_link ∈ pj_W := pj_mem 1371 (by decide +kernel) rfl
theorem wm_1370 : Cond.methodLink "PortGuardLaw" 39 y_Mo_link ∈ pj_W := pj_mem 1370 (by decide +kernel) rfl
theorem wm_569 : Cond.code y_PG_start c_PG_start 3 (some .boolean) ∈ pj_W := pj_mem 569 (by decide +kernel) rfl
theorem wm_568 : Cond.selects "PortGuard" y_PG_start y_PG_start ∈ pj_W := pj_mem 568 (by decide +kernel) rfl
theorem wm_567 : Cond.instanceMethod y_PG_start ∈ pj_W := pj_mem 567 (by decide +kernel) rfl
theorem wm_566 : Cond.methodLink "PortGuardLaw" 31 y_PG_start ∈ pj_W := pj_mem 566 (by decide +kernel) rfl
theorem wm_1357 : Cond.code y_Mo_start c_Mo_start 3 (some .boolean) ∈ pj_W := pj_mem 1357 (by decide +kernel) rfl
theorem wm_1356 : Cond.selects "PortGuardModel" y_Mo_start y_Mo_start ∈ pj_W := pj_mem 1356 (by decide +kernel) rfl
theorem wm_1355 : Cond.instanceMethod y_Mo_start ∈ pj_W := pj_mem 1355 (by decide +kernel) rfl
theorem wm_1354 : Cond.methodLink "PortGuardLaw" 35 y_Mo_start ∈ pj_W := pj_mem 1354 (by decide +kernel) rfl
theorem wm_554 : Cond.code y_PG_host c_PG_host 5 (some .boolean) ∈ pj_W := pj_mem 554 (by decide +kernel) rfl
theorem wm_553 : Cond.selects "PortGuard" y_PG_host y_PG_host ∈ pj_W := pj_mem 553 (by decide +kernel) rfl
theorem wm_552 : Cond.instanceMethod y_PG_host ∈ pj_W := pj_mem 552 (by decide +kernel) rfl
theorem wm_551 : Cond.methodLink "PortGuardLaw" 26 y_PG_host ∈ pj_W := pj_mem 551 (by decide +kernel) rfl
theorem wm_1349 : Cond.code y_Mo_host c_Mo_host 5 (some .boolean) ∈ pj_W := pj_mem 1349 (by decide +kernel) rfl
theorem wm_1348 : Cond.selects "PortGuardModel" y_Mo_host y_Mo_host ∈ pj_W := pj_mem 1348 (by decide +kernel) rfl
theorem wm_1347 : Cond.instanceMethod y_Mo_host ∈ pj_W := pj_mem 1347 (by decide +kernel) rfl
theorem wm_1346 : Cond.methodLink "PortGuardLaw" 30 y_Mo_host ∈ pj_W := pj_mem 1346 (by decide +kernel) rfl
theorem wm_550 : Cond.code y_PG_user c_PG_user 4 (some .boolean) ∈ pj_W := pj_mem 550 (by decide +kernel) rfl
theorem wm_549 : Cond.selects "PortGuard" y_PG_user y_PG_user ∈ pj_W := pj_mem 549 (by decide +kernel) rfl
theorem wm_548 : Cond.instanceMethod y_PG_user ∈ pj_W := pj_mem 548 (by decide +kernel) rfl
theorem wm_547 : Cond.methodLink "PortGuardLaw" 21 y_PG_user ∈ pj_W := pj_mem 547 (by decide +kernel) rfl
theorem wm_1345 : Cond.code y_Mo_user c_Mo_user 4 (some .boolean) ∈ pj_W := pj_mem 1345 (by decide +kernel) rfl
theorem wm_1344 : Cond.selects "PortGuardModel" y_Mo_user y_Mo_user ∈ pj_W := pj_mem 1344 (by decide +kernel) rfl
theorem wm_1343 : Cond.instanceMethod y_Mo_user ∈ pj_W := pj_mem 1343 (by decide +kernel) rfl
theorem wm_1342 : Cond.methodLink "PortGuardLaw" 25 y_Mo_user ∈ pj_W := pj_mem 1342 (by decide +kernel) rfl
theorem wm_1115 : Cond.methodLink "PortGuardLaw" 9 y_La_cell ∈ pj_W := pj_mem 1115 (by decide +kernel) rfl
theorem wm_1116 : Cond.static y_La_cell ∈ pj_W := pj_mem 1116 (by decide +kernel) rfl
theorem wm_90 : Cond.initialized "PortGuardLaw" ∈ pj_W := pj_mem 90 (by decide +kernel) rfl
theorem wm_1117 : Cond.code y_La_cell c_La_cell 2 (some .int) ∈ pj_W := pj_mem 1117 (by decide +kernel) rfl
theorem wm_107 : Cond.classLink "PortGuardLaw" 7 "PortGuard" ∈ pj_W := pj_mem 107 (by decide +kernel) rfl
theorem wm_108 : Cond.instantiable "PortGuard" 7 ∈ pj_W := pj_mem 108 (by decide +kernel) rfl
theorem wm_109 : Cond.methodLink "PortGuardLaw" 15 y_PG_init ∈ pj_W := pj_mem 109 (by decide +kernel) rfl
theorem wm_110 : Cond.instanceMethod y_PG_init ∈ pj_W := pj_mem 110 (by decide +kernel) rfl
theorem wm_111 : Cond.code y_PG_init c_PG_init 3 none ∈ pj_W := pj_mem 111 (by decide +kernel) rfl
theorem wm_1118 : Cond.classLink "PortGuardLaw" 18 "PortGuardModel" ∈ pj_W := pj_mem 1118 (by decide +kernel) rfl
theorem wm_1119 : Cond.instantiable "PortGuardModel" 72 ∈ pj_W := pj_mem 1119 (by decide +kernel) rfl
theorem wm_1120 : Cond.methodLink "PortGuardLaw" 20 y_Mo_init ∈ pj_W := pj_mem 1120 (by decide +kernel) rfl
theorem wm_1121 : Cond.instanceMethod y_Mo_init ∈ pj_W := pj_mem 1121 (by decide +kernel) rfl
theorem wm_1122 : Cond.code y_Mo_init c_Mo_init 2 none ∈ pj_W := pj_mem 1122 (by decide +kernel) rfl
