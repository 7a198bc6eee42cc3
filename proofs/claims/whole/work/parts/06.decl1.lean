theorem qd_L_law_0 : decode qc_L_law 0 = .ok (.new 8, 3) := by decide +kernel
theorem qd_L_law_3 : decode qc_L_law 3 = .ok (.dup, 1) := by decide +kernel
theorem qd_L_law_4 : decode qc_L_law 4 = .ok (.invokespecial 58, 3) := by decide +kernel
theorem qd_L_law_7 : decode qc_L_law 7 = .ok (.astore_n 1, 1) := by decide +kernel
theorem qd_L_law_8 : decode qc_L_law 8 = .ok (.new 59, 3) := by decide +kernel
theorem qd_L_law_11 : decode qc_L_law 11 = .ok (.dup, 1) := by decide +kernel
theorem qd_L_law_12 : decode qc_L_law 12 = .ok (.invokespecial 61, 3) := by decide +kernel
theorem qd_L_law_15 : decode qc_L_law 15 = .ok (.astore_n 2, 1) := by decide +kernel
theorem qd_L_law_16 : decode qc_L_law 16 = .ok (.iconst 1, 1) := by decide +kernel
theorem qd_L_law_17 : decode qc_L_law 17 = .ok (.newarray .long, 2) := by decide +kernel
theorem qd_L_law_19 : decode qc_L_law 19 = .ok (.astore_n 3, 1) := by decide +kernel
theorem qd_L_law_20 : decode qc_L_law 20 = .ok (.iconst 0, 1) := by decide +kernel
theorem qd_L_law_21 : decode qc_L_law 21 = .ok (.istore 4, 2) := by decide +kernel
theorem qd_L_law_23 : decode qc_L_law 23 = .ok (.iload 4, 2) := by decide +kernel
theorem qd_L_law_25 : decode qc_L_law 25 = .ok (.aload_n 0, 1) := by decide +kernel
theorem qd_L_law_26 : decode qc_L_law 26 = .ok (.arraylength, 1) := by decide +kernel
theorem qd_L_law_27 : decode qc_L_law 27 = .ok (.bipush 7, 2) := by decide +kernel
theorem qd_L_law_29 : decode qc_L_law 29 = .ok (.isub, 1) := by decide +kernel
theorem qd_L_law_30 : decode qc_L_law 30 = .ok (.if_icmp .gt 1223, 3) := by decide +kernel
theorem qd_L_law_33 : decode qc_L_law 33 = .ok (.aload_n 0, 1) := by decide +kernel
theorem qd_L_law_34 : decode qc_L_law 34 = .ok (.iload 4, 2) := by decide +kernel
theorem qd_L_law_36 : decode qc_L_law 36 = .ok (.iaload, 1) := by decide +kernel
theorem qd_L_law_37 : decode qc_L_law 37 = .ok (.bipush 15, 2) := by decide +kernel
theorem qd_L_law_39 : decode qc_L_law 39 = .ok (.iand, 1) := by decide +kernel
theorem qd_L_law_40 : decode qc_L_law 40 = .ok (.tableswitch 1207 0 13 #[72, 160, 304, 360, 415, 482, 550, 618, 673, 772, 828, 955, 1082, 1182], 72) := by decide +kernel
theorem qd_L_law_112 : decode qc_L_law 112 = .ok (.aload_n 1, 1) := by decide +kernel
theorem qd_L_law_113 : decode qc_L_law 113 = .ok (.aload_n 0, 1) := by decide +kernel
theorem qd_L_law_114 : decode qc_L_law 114 = .ok (.iload 4, 2) := by decide +kernel
theorem qd_L_law_116 : decode qc_L_law 116 = .ok (.iconst 1, 1) := by decide +kernel
theorem qd_L_law_117 : decode qc_L_law 117 = .ok (.iadd, 1) := by decide +kernel
theorem qd_L_law_118 : decode qc_L_law 118 = .ok (.iaload, 1) := by decide +kernel
theorem qd_L_law_119 : decode qc_L_law 119 = .ok (.i2l, 1) := by decide +kernel
theorem qd_L_law_120 : decode qc_L_law 120 = .ok (.bipush 32, 2) := by decide +kernel
theorem qd_L_law_122 : decode qc_L_law 122 = .ok (.lshl, 1) := by decide +kernel
theorem qd_L_law_123 : decode qc_L_law 123 = .ok (.aload_n 0, 1) := by decide +kernel
theorem qd_L_law_124 : decode qc_L_law 124 = .ok (.iload 4, 2) := by decide +kernel
theorem qd_L_law_126 : decode qc_L_law 126 = .ok (.iconst 2, 1) := by decide +kernel
theorem qd_L_law_127 : decode qc_L_law 127 = .ok (.iadd, 1) := by decide +kernel
theorem qd_L_law_128 : decode qc_L_law 128 = .ok (.iaload, 1) := by decide +kernel
theorem qd_L_law_129 : decode qc_L_law 129 = .ok (.i2l, 1) := by decide +kernel
theorem qd_L_law_130 : decode qc_L_law 130 = .ok (.ldc2_w 62, 3) := by decide +kernel
theorem qd_L_law_133 : decode qc_L_law 133 = .ok (.land, 1) := by decide +kernel
theorem qd_L_law_134 : decode qc_L_law 134 = .ok (.lor, 1) := by decide +kernel
theorem qd_L_law_135 : decode qc_L_law 135 = .ok (.aload_n 3, 1) := by decide +kernel
theorem qd_L_law_136 : decode qc_L_law 136 = .ok (.invokestatic 64, 3) := by decide +kernel
theorem qd_L_law_139 : decode qc_L_law 139 = .ok (.istore 5, 2) := by decide +kernel
theorem qd_L_law_141 : decode qc_L_law 141 = .ok (.aload_n 2, 1) := by decide +kernel
theorem qd_L_law_142 : decode qc_L_law 142 = .ok (.aload_n 0, 1) := by decide +kernel
theorem qd_L_law_143 : decode qc_L_law 143 = .ok (.iload 4, 2) := by decide +kernel
theorem qd_L_law_145 : decode qc_L_law 145 = .ok (.iconst 1, 1) := by decide +kernel
theorem qd_L_law_146 : decode qc_L_law 146 = .ok (.iadd, 1) := by decide +kernel
theorem qd_L_law_147 : decode qc_L_law 147 = .ok (.iaload, 1) := by decide +kernel
theorem qd_L_law_148 : decode qc_L_law 148 = .ok (.i2l, 1) := by decide +kernel
theorem qd_L_law_149 : decode qc_L_law 149 = .ok (.bipush 32, 2) := by decide +kernel
theorem qd_L_law_151 : decode qc_L_law 151 = .ok (.lshl, 1) := by decide +kernel
theorem qd_L_law_152 : decode qc_L_law 152 = .ok (.aload_n 0, 1) := by decide +kernel
theorem qd_L_law_153 : decode qc_L_law 153 = .ok (.iload 4, 2) := by decide +kernel
theorem qd_L_law_155 : decode qc_L_law 155 = .ok (.iconst 2, 1) := by decide +kernel
theorem qd_L_law_156 : decode qc_L_law 156 = .ok (.iadd, 1) := by decide +kernel
theorem qd_L_law_157 : decode qc_L_law 157 = .ok (.iaload, 1) := by decide +kernel
theorem qd_L_law_158 : decode qc_L_law 158 = .ok (.i2l, 1) := by decide +kernel
theorem qd_L_law_159 : decode qc_L_law 159 = .ok (.ldc2_w 62, 3) := by decide +kernel
theorem qd_L_law_162 : decode qc_L_law 162 = .ok (.land, 1) := by decide +kernel
theorem qd_L_law_163 : decode qc_L_law 163 = .ok (.lor, 1) := by decide +kernel
theorem qd_L_law_164 : decode qc_L_law 164 = .ok (.invokevirtual 69, 3) := by decide +kernel
theorem qd_L_law_167 : decode qc_L_law 167 = .ok (.istore 6, 2) := by decide +kernel
theorem qd_L_law_169 : decode qc_L_law 169 = .ok (.aload_n 2, 1) := by decide +kernel
theorem qd_L_law_170 : decode qc_L_law 170 = .ok (.invokevirtual 70, 3) := by decide +kernel
theorem qd_L_law_173 : decode qc_L_law 173 = .ok (.iload 5, 2) := by decide +kernel
theorem qd_L_law_175 : decode qc_L_law 175 = .ok (.if_icmp .eq 5, 3) := by decide +kernel
theorem qd_L_law_178 : decode qc_L_law 178 = .ok (.iconst 0, 1) := by decide +kernel
theorem qd_L_law_179 : decode qc_L_law 179 = .ok (.ireturn, 1) := by decide +kernel
theorem qd_L_law_180 : decode qc_L_law 180 = .ok (.iload 5, 2) := by decide +kernel
theorem qd_L_law_182 : decode qc_L_law 182 = .ok (.ifCond .ne 15, 3) := by decide +kernel
theorem qd_L_law_185 : decode qc_L_law 185 = .ok (.aload_n 3, 1) := by decide +kernel
theorem qd_L_law_186 : decode qc_L_law 186 = .ok (.iconst 0, 1) := by decide +kernel
theorem qd_L_law_187 : decode qc_L_law 187 = .ok (.laload, 1) := by decide +kernel
theorem qd_L_law_188 : decode qc_L_law 188 = .ok (.iload 6, 2) := by decide +kernel
theorem qd_L_law_190 : decode qc_L_law 190 = .ok (.i2l, 1) := by decide +kernel
theorem qd_L_law_191 : decode qc_L_law 191 = .ok (.lcmp, 1) := by decide +kernel
theorem qd_L_law_192 : decode qc_L_law 192 = .ok (.ifCond .eq 5, 3) := by decide +kernel
theorem qd_L_law_195 : decode qc_L_law 195 = .ok (.iconst 0, 1) := by decide +kernel
theorem qd_L_law_196 : decode qc_L_law 196 = .ok (.ireturn, 1) := by decide +kernel
theorem qd_L_law_197 : decode qc_L_law 197 = .ok (.goto 1050, 3) := by decide +kernel
theorem qd_L_law_200 : decode qc_L_law 200 = .ok (.aload_n 1, 1) := by decide +kernel
theorem qd_L_law_201 : decode qc_L_law 201 = .ok (.aload_n 0, 1) := by decide +kernel
theorem qd_L_law_202 : decode qc_L_law 202 = .ok (.iload 4, 2) := by decide +kernel
theorem qd_L_law_204 : decode qc_L_law 204 = .ok (.iconst 1, 1) := by decide +kernel
theorem qd_L_law_205 : decode qc_L_law 205 = .ok (.iadd, 1) := by decide +kernel
theorem qd_L_law_206 : decode qc_L_law 206 = .ok (.iaload, 1) := by decide +kernel
theorem qd_L_law_207 : decode qc_L_law 207 = .ok (.aload_n 0, 1) := by decide +kernel
theorem qd_L_law_208 : decode qc_L_law 208 = .ok (.iload 4, 2) := by decide +kernel
theorem qd_L_law_210 : decode qc_L_law 210 = .ok (.iconst 2, 1) := by decide +kernel
theorem qd_L_law_211 : decode qc_L_law 211 = .ok (.iadd, 1) := by decide +kernel
theorem qd_L_law_212 : decode qc_L_law 212 = .ok (.iaload, 1) := by decide +kernel
theorem qd_L_law_213 : decode qc_L_law 213 = .ok (.i2l, 1) := by decide +kernel
theorem qd_L_law_214 : decode qc_L_law 214 = .ok (.bipush 32, 2) := by decide +kernel
theorem qd_L_law_216 : decode qc_L_law 216 = .ok (.lshl, 1) := by decide +kernel
theorem qd_L_law_217 : decode qc_L_law 217 = .ok (.aload_n 0, 1) := by decide +kernel
theorem qd_L_law_218 : decode qc_L_law 218 = .ok (.iload 4, 2) := by decide +kernel
theorem qd_L_law_220 : decode qc_L_law 220 = .ok (.iconst 3, 1) := by decide +kernel
theorem qd_L_law_221 : decode qc_L_law 221 = .ok (.iadd, 1) := by decide +kernel
theorem qd_L_law_222 : decode qc_L_law 222 = .ok (.iaload, 1) := by decide +kernel
theorem qd_L_law_223 : decode qc_L_law 223 = .ok (.i2l, 1) := by decide +kernel
theorem qd_L_law_224 : decode qc_L_law 224 = .ok (.ldc2_w 62, 3) := by decide +kernel
theorem qd_L_law_227 : decode qc_L_law 227 = .ok (.land, 1) := by decide +kernel
theorem qd_L_law_228 : decode qc_L_law 228 = .ok (.lor, 1) := by decide +kernel
theorem qd_L_law_229 : decode qc_L_law 229 = .ok (.aload_n 0, 1) := by decide +kernel
theorem qd_L_law_230 : decode qc_L_law 230 = .ok (.iload 4, 2) := by decide +kernel
theorem qd_L_law_232 : decode qc_L_law 232 = .ok (.iconst 4, 1) := by decide +kernel
theorem qd_L_law_233 : decode qc_L_law 233 = .ok (.iadd, 1) := by decide +kernel
theorem qd_L_law_234 : decode qc_L_law 234 = .ok (.iaload, 1) := by decide +kernel
theorem qd_L_law_235 : decode qc_L_law 235 = .ok (.i2l, 1) := by decide +kernel
theorem qd_L_law_236 : decode qc_L_law 236 = .ok (.bipush 32, 2) := by decide +kernel
theorem qd_L_law_238 : decode qc_L_law 238 = .ok (.lshl, 1) := by decide +kernel
theorem qd_L_law_239 : decode qc_L_law 239 = .ok (.aload_n 0, 1) := by decide +kernel
theorem qd_L_law_240 : decode qc_L_law 240 = .ok (.iload 4, 2) := by decide +kernel
theorem qd_L_law_242 : decode qc_L_law 242 = .ok (.iconst 5, 1) := by decide +kernel
theorem qd_L_law_243 : decode qc_L_law 243 = .ok (.iadd, 1) := by decide +kernel
theorem qd_L_law_244 : decode qc_L_law 244 = .ok (.iaload, 1) := by decide +kernel
theorem qd_L_law_245 : decode qc_L_law 245 = .ok (.i2l, 1) := by decide +kernel
theorem qd_L_law_246 : decode qc_L_law 246 = .ok (.ldc2_w 62, 3) := by decide +kernel
theorem qd_L_law_249 : decode qc_L_law 249 = .ok (.land, 1) := by decide +kernel
theorem qd_L_law_250 : decode qc_L_law 250 = .ok (.lor, 1) := by decide +kernel
theorem qd_L_law_251 : decode qc_L_law 251 = .ok (.aload_n 3, 1) := by decide +kernel
theorem qd_L_law_252 : decode qc_L_law 252 = .ok (.invokestatic 74, 3) := by decide +kernel
theorem qd_L_law_255 : decode qc_L_law 255 = .ok (.istore 5, 2) := by decide +kernel
theorem qd_L_law_257 : decode qc_L_law 257 = .ok (.aload_n 2, 1) := by decide +kernel
theorem qd_L_law_258 : decode qc_L_law 258 = .ok (.aload_n 0, 1) := by decide +kernel
theorem qd_L_law_259 : decode qc_L_law 259 = .ok (.iload 4, 2) := by decide +kernel
theorem qd_L_law_261 : decode qc_L_law 261 = .ok (.iconst 1, 1) := by decide +kernel
theorem qd_L_law_262 : decode qc_L_law 262 = .ok (.iadd, 1) := by decide +kernel
theorem qd_L_law_263 : decode qc_L_law 263 = .ok (.iaload, 1) := by decide +kernel
theorem qd_L_law_264 : decode qc_L_law 264 = .ok (.aload_n 0, 1) := by decide +kernel
theorem qd_L_law_265 : decode qc_L_law 265 = .ok (.iload 4, 2) := by decide +kernel
theorem qd_L_law_267 : decode qc_L_law 267 = .ok (.iconst 2, 1) := by decide +kernel
theorem qd_L_law_268 : decode qc_L_law 268 = .ok (.iadd, 1) := by decide +kernel
theorem qd_L_law_269 : decode qc_L_law 269 = .ok (.iaload, 1) := by decide +kernel
theorem qd_L_law_270 : decode qc_L_law 270 = .ok (.i2l, 1) := by decide +kernel
theorem qd_L_law_271 : decode qc_L_law 271 = .ok (.bipush 32, 2) := by decide +kernel
theorem qd_L_law_273 : decode qc_L_law 273 = .ok (.lshl, 1) := by decide +kernel
theorem qd_L_law_274 : decode qc_L_law 274 = .ok (.aload_n 0, 1) := by decide +kernel
theorem qd_L_law_275 : decode qc_L_law 275 = .ok (.iload 4, 2) := by decide +kernel
theorem qd_L_law_277 : decode qc_L_law 277 = .ok (.iconst 3, 1) := by decide +kernel
theorem qd_L_law_278 : decode qc_L_law 278 = .ok (.iadd, 1) := by decide +kernel
theorem qd_L_law_279 : decode qc_L_law 279 = .ok (.iaload, 1) := by decide +kernel
theorem qd_L_law_280 : decode qc_L_law 280 = .ok (.i2l, 1) := by decide +kernel
theorem qd_L_law_281 : decode qc_L_law 281 = .ok (.ldc2_w 62, 3) := by decide +kernel
theorem qd_L_law_284 : decode qc_L_law 284 = .ok (.land, 1) := by decide +kernel
theorem qd_L_law_285 : decode qc_L_law 285 = .ok (.lor, 1) := by decide +kernel
theorem qd_L_law_286 : decode qc_L_law 286 = .ok (.aload_n 0, 1) := by decide +kernel
theorem qd_L_law_287 : decode qc_L_law 287 = .ok (.iload 4, 2) := by decide +kernel
theorem qd_L_law_289 : decode qc_L_law 289 = .ok (.iconst 4, 1) := by decide +kernel
theorem qd_L_law_290 : decode qc_L_law 290 = .ok (.iadd, 1) := by decide +kernel
theorem qd_L_law_291 : decode qc_L_law 291 = .ok (.iaload, 1) := by decide +kernel
theorem qd_L_law_292 : decode qc_L_law 292 = .ok (.i2l, 1) := by decide +kernel
theorem qd_L_law_293 : decode qc_L_law 293 = .ok (.bipush 32, 2) := by decide +kernel
theorem qd_L_law_295 : decode qc_L_law 295 = .ok (.lshl, 1) := by decide +kernel
theorem qd_L_law_296 : decode qc_L_law 296 = .ok (.aload_n 0, 1) := by decide +kernel
theorem qd_L_law_297 : decode qc_L_law 297 = .ok (.iload 4, 2) := by decide +kernel
theorem qd_L_law_299 : decode qc_L_law 299 = .ok (.iconst 5, 1) := by decide +kernel
theorem qd_L_law_300 : decode qc_L_law 300 = .ok (.iadd, 1) := by decide +kernel
theorem qd_L_law_301 : decode qc_L_law 301 = .ok (.iaload, 1) := by decide +kernel
theorem qd_L_law_302 : decode qc_L_law 302 = .ok (.i2l, 1) := by decide +kernel
theorem qd_L_law_303 : decode qc_L_law 303 = .ok (.ldc2_w 62, 3) := by decide +kernel
theorem qd_L_law_306 : decode qc_L_law 306 = .ok (.land, 1) := by decide +kernel
theorem qd_L_law_307 : decode qc_L_law 307 = .ok (.lor, 1) := by decide +kernel
theorem qd_L_law_308 : decode qc_L_law 308 = .ok (.invokevirtual 77, 3) := by decide +kernel
theorem qd_L_law_311 : decode qc_L_law 311 = .ok (.istore 6, 2) := by decide +kernel
theorem qd_L_law_313 : decode qc_L_law 313 = .ok (.aload_n 2, 1) := by decide +kernel
theorem qd_L_law_314 : decode qc_L_law 314 = .ok (.invokevirtual 70, 3) := by decide +kernel
theorem qd_L_law_317 : decode qc_L_law 317 = .ok (.iload 5, 2) := by decide +kernel
theorem qd_L_law_319 : decode qc_L_law 319 = .ok (.if_icmp .eq 5, 3) := by decide +kernel
theorem qd_L_law_322 : decode qc_L_law 322 = .ok (.iconst 0, 1) := by decide +kernel
theorem qd_L_law_323 : decode qc_L_law 323 = .ok (.ireturn, 1) := by decide +kernel
theorem qd_L_law_324 : decode qc_L_law 324 = .ok (.iload 5, 2) := by decide +kernel
theorem qd_L_law_326 : decode qc_L_law 326 = .ok (.ifCond .ne 15, 3) := by decide +kernel
theorem qd_L_law_329 : decode qc_L_law 329 = .ok (.aload_n 3, 1) := by decide +kernel
theorem qd_L_law_330 : decode qc_L_law 330 = .ok (.iconst 0, 1) := by decide +kernel
theorem qd_L_law_331 : decode qc_L_law 331 = .ok (.laload, 1) := by decide +kernel
theorem qd_L_law_332 : decode qc_L_law 332 = .ok (.iload 6, 2) := by decide +kernel
theorem qd_L_law_334 : decode qc_L_law 334 = .ok (.i2l, 1) := by decide +kernel
theorem qd_L_law_335 : decode qc_L_law 335 = .ok (.lcmp, 1) := by decide +kernel
theorem qd_L_law_336 : decode qc_L_law 336 = .ok (.ifCond .eq 5, 3) := by decide +kernel
theorem qd_L_law_339 : decode qc_L_law 339 = .ok (.iconst 0, 1) := by decide +kernel
theorem qd_L_law_340 : decode qc_L_law 340 = .ok (.ireturn, 1) := by decide +kernel
theorem qd_L_law_341 : decode qc_L_law 341 = .ok (.goto 906, 3) := by decide +kernel
theorem qd_L_law_344 : decode qc_L_law 344 = .ok (.aload_n 1, 1) := by decide +kernel
theorem qd_L_law_345 : decode qc_L_law 345 = .ok (.aload_n 0, 1) := by decide +kernel
theorem qd_L_law_346 : decode qc_L_law 346 = .ok (.iload 4, 2) := by decide +kernel
theorem qd_L_law_348 : decode qc_L_law 348 = .ok (.iconst 1, 1) := by decide +kernel
theorem qd_L_law_349 : decode qc_L_law 349 = .ok (.iadd, 1) := by decide +kernel
theorem qd_L_law_350 : decode qc_L_law 350 = .ok (.iaload, 1) := by decide +kernel
theorem qd_L_law_351 : decode qc_L_law 351 = .ok (.aload_n 3, 1) := by decide +kernel
theorem qd_L_law_352 : decode qc_L_law 352 = .ok (.invokestatic 78, 3) := by decide +kernel
theorem qd_L_law_355 : decode qc_L_law 355 = .ok (.istore 5, 2) := by decide +kernel
theorem qd_L_law_357 : decode qc_L_law 357 = .ok (.aload_n 2, 1) := by decide +kernel
theorem qd_L_law_358 : decode qc_L_law 358 = .ok (.aload_n 0, 1) := by decide +kernel
theorem qd_L_law_359 : decode qc_L_law 359 = .ok (.iload 4, 2) := by decide +kernel
theorem qd_L_law_361 : decode qc_L_law 361 = .ok (.iconst 1, 1) := by decide +kernel
theorem qd_L_law_362 : decode qc_L_law 362 = .ok (.iadd, 1) := by decide +kernel
theorem qd_L_law_363 : decode qc_L_law 363 = .ok (.iaload, 1) := by decide +kernel
theorem qd_L_law_364 : decode qc_L_law 364 = .ok (.invokevirtual 81, 3) := by decide +kernel
theorem qd_L_law_367 : decode qc_L_law 367 = .ok (.istore 6, 2) := by decide +kernel
theorem qd_L_law_369 : decode qc_L_law 369 = .ok (.aload_n 2, 1) := by decide +kernel
theorem qd_L_law_370 : decode qc_L_law 370 = .ok (.invokevirtual 70, 3) := by decide +kernel
theorem qd_L_law_373 : decode qc_L_law 373 = .ok (.iload 5, 2) := by decide +kernel
theorem qd_L_law_375 : decode qc_L_law 375 = .ok (.if_icmp .eq 5, 3) := by decide +kernel
theorem qd_L_law_378 : decode qc_L_law 378 = .ok (.iconst 0, 1) := by decide +kernel
theorem qd_L_law_379 : decode qc_L_law 379 = .ok (.ireturn, 1) := by decide +kernel
theorem qd_L_law_380 : decode qc_L_law 380 = .ok (.iload 5, 2) := by decide +kernel
theorem qd_L_law_382 : decode qc_L_law 382 = .ok (.ifCond .ne 15, 3) := by decide +kernel
theorem qd_L_law_385 : decode qc_L_law 385 = .ok (.aload_n 3, 1) := by decide +kernel
theorem qd_L_law_386 : decode qc_L_law 386 = .ok (.iconst 0, 1) := by decide +kernel
theorem qd_L_law_387 : decode qc_L_law 387 = .ok (.laload, 1) := by decide +kernel
theorem qd_L_law_388 : decode qc_L_law 388 = .ok (.iload 6, 2) := by decide +kernel
theorem qd_L_law_390 : decode qc_L_law 390 = .ok (.i2l, 1) := by decide +kernel
theorem qd_L_law_391 : decode qc_L_law 391 = .ok (.lcmp, 1) := by decide +kernel
theorem qd_L_law_392 : decode qc_L_law 392 = .ok (.ifCond .eq 5, 3) := by decide +kernel
theorem qd_L_law_395 : decode qc_L_law 395 = .ok (.iconst 0, 1) := by decide +kernel
theorem qd_L_law_396 : decode qc_L_law 396 = .ok (.ireturn, 1) := by decide +kernel
theorem qd_L_law_397 : decode qc_L_law 397 = .ok (.goto 850, 3) := by decide +kernel
theorem qd_L_law_400 : decode qc_L_law 400 = .ok (.aload_n 1, 1) := by decide +kernel
theorem qd_L_law_401 : decode qc_L_law 401 = .ok (.aload_n 0, 1) := by decide +kernel
theorem qd_L_law_402 : decode qc_L_law 402 = .ok (.iload 4, 2) := by decide +kernel
theorem qd_L_law_404 : decode qc_L_law 404 = .ok (.iconst 1, 1) := by decide +kernel
theorem qd_L_law_405 : decode qc_L_law 405 = .ok (.iadd, 1) := by decide +kernel
theorem qd_L_law_406 : decode qc_L_law 406 = .ok (.iaload, 1) := by decide +kernel
theorem qd_L_law_407 : decode qc_L_law 407 = .ok (.aload_n 3, 1) := by decide +kernel
theorem qd_L_law_408 : decode qc_L_law 408 = .ok (.invokestatic 82, 3) := by decide +kernel
theorem qd_L_law_411 : decode qc_L_law 411 = .ok (.istore 5, 2) := by decide +kernel
theorem qd_L_law_413 : decode qc_L_law 413 = .ok (.aload_n 2, 1) := by decide +kernel
theorem qd_L_law_414 : decode qc_L_law 414 = .ok (.aload_n 0, 1) := by decide +kernel
theorem qd_L_law_415 : decode qc_L_law 415 = .ok (.iload 4, 2) := by decide +kernel
theorem qd_L_law_417 : decode qc_L_law 417 = .ok (.iconst 1, 1) := by decide +kernel
theorem qd_L_law_418 : decode qc_L_law 418 = .ok (.iadd, 1) := by decide +kernel
theorem qd_L_law_419 : decode qc_L_law 419 = .ok (.iaload, 1) := by decide +kernel
theorem qd_L_law_420 : decode qc_L_law 420 = .ok (.invokevirtual 84, 3) := by decide +kernel
theorem qd_L_law_423 : decode qc_L_law 423 = .ok (.lstore 6, 2) := by decide +kernel
theorem qd_L_law_425 : decode qc_L_law 425 = .ok (.aload_n 2, 1) := by decide +kernel
theorem qd_L_law_426 : decode qc_L_law 426 = .ok (.invokevirtual 70, 3) := by decide +kernel
theorem qd_L_law_429 : decode qc_L_law 429 = .ok (.iload 5, 2) := by decide +kernel
theorem qd_L_law_431 : decode qc_L_law 431 = .ok (.if_icmp .eq 5, 3) := by decide +kernel
theorem qd_L_law_434 : decode qc_L_law 434 = .ok (.iconst 0, 1) := by decide +kernel
theorem qd_L_law_435 : decode qc_L_law 435 = .ok (.ireturn, 1) := by decide +kernel
theorem qd_L_law_436 : decode qc_L_law 436 = .ok (.iload 5, 2) := by decide +kernel
theorem qd_L_law_438 : decode qc_L_law 438 = .ok (.ifCond .ne 14, 3) := by decide +kernel
theorem qd_L_law_441 : decode qc_L_law 441 = .ok (.aload_n 3, 1) := by decide +kernel
theorem qd_L_law_442 : decode qc_L_law 442 = .ok (.iconst 0, 1) := by decide +kernel
theorem qd_L_law_443 : decode qc_L_law 443 = .ok (.laload, 1) := by decide +kernel
theorem qd_L_law_444 : decode qc_L_law 444 = .ok (.lload 6, 2) := by decide +kernel
theorem qd_L_law_446 : decode qc_L_law 446 = .ok (.lcmp, 1) := by decide +kernel
theorem qd_L_law_447 : decode qc_L_law 447 = .ok (.ifCond .eq 5, 3) := by decide +kernel
theorem qd_L_law_450 : decode qc_L_law 450 = .ok (.iconst 0, 1) := by decide +kernel
theorem qd_L_law_451 : decode qc_L_law 451 = .ok (.ireturn, 1) := by decide +kernel
theorem qd_L_law_452 : decode qc_L_law 452 = .ok (.goto 795, 3) := by decide +kernel
theorem qd_L_law_455 : decode qc_L_law 455 = .ok (.aload_n 1, 1) := by decide +kernel
theorem qd_L_law_456 : decode qc_L_law 456 = .ok (.aload_n 0, 1) := by decide +kernel
theorem qd_L_law_457 : decode qc_L_law 457 = .ok (.iload 4, 2) := by decide +kernel
theorem qd_L_law_459 : decode qc_L_law 459 = .ok (.iconst 1, 1) := by decide +kernel
theorem qd_L_law_460 : decode qc_L_law 460 = .ok (.iadd, 1) := by decide +kernel
theorem qd_L_law_461 : decode qc_L_law 461 = .ok (.iaload, 1) := by decide +kernel
theorem qd_L_law_462 : decode qc_L_law 462 = .ok (.aload_n 0, 1) := by decide +kernel
theorem qd_L_law_463 : decode qc_L_law 463 = .ok (.iload 4, 2) := by decide +kernel
theorem qd_L_law_465 : decode qc_L_law 465 = .ok (.iconst 2, 1) := by decide +kernel
theorem qd_L_law_466 : decode qc_L_law 466 = .ok (.iadd, 1) := by decide +kernel
theorem qd_L_law_467 : decode qc_L_law 467 = .ok (.iaload, 1) := by decide +kernel
theorem qd_L_law_468 : decode qc_L_law 468 = .ok (.aload_n 3, 1) := by decide +kernel
theorem qd_L_law_469 : decode qc_L_law 469 = .ok (.invokestatic 85, 3) := by decide +kernel
theorem qd_L_law_472 : decode qc_L_law 472 = .ok (.istore 5, 2) := by decide +kernel
