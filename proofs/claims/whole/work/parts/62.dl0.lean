/-! decode rows of the law -/
theorem d_L_law_0 : decode code 0 = .ok (.new 8, 3) := by decide +kernel
theorem d_L_law_3 : decode code 3 = .ok (.dup, 1) := by decide +kernel
theorem d_L_law_4 : decode code 4 = .ok (.aload_n 0, 1) := by decide +kernel
theorem d_L_law_5 : decode code 5 = .ok (.iconst 0, 1) := by decide +kernel
theorem d_L_law_6 : decode code 6 = .ok (.invokestatic 91, 3) := by decide +kernel
theorem d_L_law_9 : decode code 9 = .ok (.invokespecial 97, 3) := by decide +kernel
theorem d_L_law_12 : decode code 12 = .ok (.astore_n 1, 1) := by decide +kernel
theorem d_L_law_13 : decode code 13 = .ok (.new 100, 3) := by decide +kernel
theorem d_L_law_16 : decode code 16 = .ok (.dup, 1) := by decide +kernel
theorem d_L_law_17 : decode code 17 = .ok (.aload_n 0, 1) := by decide +kernel
theorem d_L_law_18 : decode code 18 = .ok (.iconst 0, 1) := by decide +kernel
theorem d_L_law_19 : decode code 19 = .ok (.invokestatic 91, 3) := by decide +kernel
theorem d_L_law_22 : decode code 22 = .ok (.invokespecial 102, 3) := by decide +kernel
theorem d_L_law_25 : decode code 25 = .ok (.astore_n 2, 1) := by decide +kernel
theorem d_L_law_26 : decode code 26 = .ok (.iconst 1, 1) := by decide +kernel
theorem d_L_law_27 : decode code 27 = .ok (.newarray .long, 2) := by decide +kernel
theorem d_L_law_29 : decode code 29 = .ok (.astore_n 3, 1) := by decide +kernel
theorem d_L_law_30 : decode code 30 = .ok (.iconst 1, 1) := by decide +kernel
theorem d_L_law_31 : decode code 31 = .ok (.istore 4, 2) := by decide +kernel
theorem d_L_law_33 : decode code 33 = .ok (.iload 4, 2) := by decide +kernel
theorem d_L_law_35 : decode code 35 = .ok (.aload_n 0, 1) := by decide +kernel
theorem d_L_law_36 : decode code 36 = .ok (.arraylength, 1) := by decide +kernel
theorem d_L_law_37 : decode code 37 = .ok (.iconst 5, 1) := by decide +kernel
theorem d_L_law_38 : decode code 38 = .ok (.isub, 1) := by decide +kernel
theorem d_L_law_39 : decode code 39 = .ok (.if_icmp .gt 1667, 3) := by decide +kernel
theorem d_L_law_42 : decode code 42 = .ok (.aload_n 0, 1) := by decide +kernel
theorem d_L_law_43 : decode code 43 = .ok (.iload 4, 2) := by decide +kernel
theorem d_L_law_45 : decode code 45 = .ok (.iaload, 1) := by decide +kernel
theorem d_L_law_46 : decode code 46 = .ok (.bipush 31, 2) := by decide +kernel
theorem d_L_law_48 : decode code 48 = .ok (.iand, 1) := by decide +kernel
theorem d_L_law_49 : decode code 49 = .ok (.tableswitch 1651 0 20 #[99, 211, 311, 411, 479, 571, 639, 707, 775, 843, 911, 978, 1033, 1088, 1144, 1212, 1280, 1360, 1440, 1515, 1583], 99) := by decide +kernel
theorem d_L_law_148 : decode code 148 = .ok (.aload_n 1, 1) := by decide +kernel
theorem d_L_law_149 : decode code 149 = .ok (.aload_n 0, 1) := by decide +kernel
theorem d_L_law_150 : decode code 150 = .ok (.iload 4, 2) := by decide +kernel
theorem d_L_law_152 : decode code 152 = .ok (.iconst 1, 1) := by decide +kernel
theorem d_L_law_153 : decode code 153 = .ok (.iadd, 1) := by decide +kernel
theorem d_L_law_154 : decode code 154 = .ok (.iaload, 1) := by decide +kernel
theorem d_L_law_155 : decode code 155 = .ok (.aload_n 0, 1) := by decide +kernel
theorem d_L_law_156 : decode code 156 = .ok (.iload 4, 2) := by decide +kernel
theorem d_L_law_158 : decode code 158 = .ok (.iconst 2, 1) := by decide +kernel
theorem d_L_law_159 : decode code 159 = .ok (.iadd, 1) := by decide +kernel
theorem d_L_law_160 : decode code 160 = .ok (.iaload, 1) := by decide +kernel
theorem d_L_law_161 : decode code 161 = .ok (.i2l, 1) := by decide +kernel
theorem d_L_law_162 : decode code 162 = .ok (.bipush 32, 2) := by decide +kernel
theorem d_L_law_164 : decode code 164 = .ok (.lshl, 1) := by decide +kernel
theorem d_L_law_165 : decode code 165 = .ok (.aload_n 0, 1) := by decide +kernel
theorem d_L_law_166 : decode code 166 = .ok (.iload 4, 2) := by decide +kernel
theorem d_L_law_168 : decode code 168 = .ok (.iconst 3, 1) := by decide +kernel
theorem d_L_law_169 : decode code 169 = .ok (.iadd, 1) := by decide +kernel
theorem d_L_law_170 : decode code 170 = .ok (.iaload, 1) := by decide +kernel
theorem d_L_law_171 : decode code 171 = .ok (.i2l, 1) := by decide +kernel
theorem d_L_law_172 : decode code 172 = .ok (.ldc2_w 103, 3) := by decide +kernel
theorem d_L_law_175 : decode code 175 = .ok (.land, 1) := by decide +kernel
theorem d_L_law_176 : decode code 176 = .ok (.lor, 1) := by decide +kernel
theorem d_L_law_177 : decode code 177 = .ok (.aload_n 0, 1) := by decide +kernel
theorem d_L_law_178 : decode code 178 = .ok (.iload 4, 2) := by decide +kernel
theorem d_L_law_180 : decode code 180 = .ok (.iconst 4, 1) := by decide +kernel
theorem d_L_law_181 : decode code 181 = .ok (.iadd, 1) := by decide +kernel
theorem d_L_law_182 : decode code 182 = .ok (.iaload, 1) := by decide +kernel
theorem d_L_law_183 : decode code 183 = .ok (.aload_n 3, 1) := by decide +kernel
theorem d_L_law_184 : decode code 184 = .ok (.invokestatic 105, 3) := by decide +kernel
theorem d_L_law_187 : decode code 187 = .ok (.istore 5, 2) := by decide +kernel
theorem d_L_law_189 : decode code 189 = .ok (.aload_n 2, 1) := by decide +kernel
theorem d_L_law_190 : decode code 190 = .ok (.aload_n 0, 1) := by decide +kernel
theorem d_L_law_191 : decode code 191 = .ok (.iload 4, 2) := by decide +kernel
theorem d_L_law_193 : decode code 193 = .ok (.iconst 1, 1) := by decide +kernel
theorem d_L_law_194 : decode code 194 = .ok (.iadd, 1) := by decide +kernel
theorem d_L_law_195 : decode code 195 = .ok (.iaload, 1) := by decide +kernel
theorem d_L_law_196 : decode code 196 = .ok (.aload_n 0, 1) := by decide +kernel
theorem d_L_law_197 : decode code 197 = .ok (.iload 4, 2) := by decide +kernel
theorem d_L_law_199 : decode code 199 = .ok (.iconst 2, 1) := by decide +kernel
theorem d_L_law_200 : decode code 200 = .ok (.iadd, 1) := by decide +kernel
theorem d_L_law_201 : decode code 201 = .ok (.iaload, 1) := by decide +kernel
theorem d_L_law_202 : decode code 202 = .ok (.i2l, 1) := by decide +kernel
theorem d_L_law_203 : decode code 203 = .ok (.bipush 32, 2) := by decide +kernel
theorem d_L_law_205 : decode code 205 = .ok (.lshl, 1) := by decide +kernel
theorem d_L_law_206 : decode code 206 = .ok (.aload_n 0, 1) := by decide +kernel
theorem d_L_law_207 : decode code 207 = .ok (.iload 4, 2) := by decide +kernel
theorem d_L_law_209 : decode code 209 = .ok (.iconst 3, 1) := by decide +kernel
theorem d_L_law_210 : decode code 210 = .ok (.iadd, 1) := by decide +kernel
theorem d_L_law_211 : decode code 211 = .ok (.iaload, 1) := by decide +kernel
theorem d_L_law_212 : decode code 212 = .ok (.i2l, 1) := by decide +kernel
theorem d_L_law_213 : decode code 213 = .ok (.ldc2_w 103, 3) := by decide +kernel
theorem d_L_law_216 : decode code 216 = .ok (.land, 1) := by decide +kernel
theorem d_L_law_217 : decode code 217 = .ok (.lor, 1) := by decide +kernel
theorem d_L_law_218 : decode code 218 = .ok (.aload_n 0, 1) := by decide +kernel
theorem d_L_law_219 : decode code 219 = .ok (.iload 4, 2) := by decide +kernel
theorem d_L_law_221 : decode code 221 = .ok (.iconst 4, 1) := by decide +kernel
theorem d_L_law_222 : decode code 222 = .ok (.iadd, 1) := by decide +kernel
theorem d_L_law_223 : decode code 223 = .ok (.iaload, 1) := by decide +kernel
theorem d_L_law_224 : decode code 224 = .ok (.invokevirtual 108, 3) := by decide +kernel
theorem d_L_law_227 : decode code 227 = .ok (.istore 6, 2) := by decide +kernel
theorem d_L_law_229 : decode code 229 = .ok (.aload_n 2, 1) := by decide +kernel
theorem d_L_law_230 : decode code 230 = .ok (.invokevirtual 109, 3) := by decide +kernel
theorem d_L_law_233 : decode code 233 = .ok (.iload 5, 2) := by decide +kernel
theorem d_L_law_235 : decode code 235 = .ok (.if_icmp .eq 5, 3) := by decide +kernel
theorem d_L_law_238 : decode code 238 = .ok (.iconst 0, 1) := by decide +kernel
theorem d_L_law_239 : decode code 239 = .ok (.ireturn, 1) := by decide +kernel
theorem d_L_law_240 : decode code 240 = .ok (.iload 5, 2) := by decide +kernel
theorem d_L_law_242 : decode code 242 = .ok (.ifCond .ne 15, 3) := by decide +kernel
theorem d_L_law_245 : decode code 245 = .ok (.aload_n 3, 1) := by decide +kernel
theorem d_L_law_246 : decode code 246 = .ok (.iconst 0, 1) := by decide +kernel
theorem d_L_law_247 : decode code 247 = .ok (.laload, 1) := by decide +kernel
theorem d_L_law_248 : decode code 248 = .ok (.iload 6, 2) := by decide +kernel
theorem d_L_law_250 : decode code 250 = .ok (.i2l, 1) := by decide +kernel
theorem d_L_law_251 : decode code 251 = .ok (.lcmp, 1) := by decide +kernel
theorem d_L_law_252 : decode code 252 = .ok (.ifCond .eq 5, 3) := by decide +kernel
theorem d_L_law_255 : decode code 255 = .ok (.iconst 0, 1) := by decide +kernel
theorem d_L_law_256 : decode code 256 = .ok (.ireturn, 1) := by decide +kernel
theorem d_L_law_257 : decode code 257 = .ok (.goto 1443, 3) := by decide +kernel
theorem d_L_law_260 : decode code 260 = .ok (.aload_n 1, 1) := by decide +kernel
theorem d_L_law_261 : decode code 261 = .ok (.aload_n 0, 1) := by decide +kernel
theorem d_L_law_262 : decode code 262 = .ok (.iload 4, 2) := by decide +kernel
theorem d_L_law_264 : decode code 264 = .ok (.iconst 1, 1) := by decide +kernel
theorem d_L_law_265 : decode code 265 = .ok (.iadd, 1) := by decide +kernel
theorem d_L_law_266 : decode code 266 = .ok (.iaload, 1) := by decide +kernel
theorem d_L_law_267 : decode code 267 = .ok (.aload_n 0, 1) := by decide +kernel
theorem d_L_law_268 : decode code 268 = .ok (.iload 4, 2) := by decide +kernel
theorem d_L_law_270 : decode code 270 = .ok (.iconst 2, 1) := by decide +kernel
theorem d_L_law_271 : decode code 271 = .ok (.iadd, 1) := by decide +kernel
theorem d_L_law_272 : decode code 272 = .ok (.iaload, 1) := by decide +kernel
theorem d_L_law_273 : decode code 273 = .ok (.i2l, 1) := by decide +kernel
theorem d_L_law_274 : decode code 274 = .ok (.bipush 32, 2) := by decide +kernel
theorem d_L_law_276 : decode code 276 = .ok (.lshl, 1) := by decide +kernel
theorem d_L_law_277 : decode code 277 = .ok (.aload_n 0, 1) := by decide +kernel
theorem d_L_law_278 : decode code 278 = .ok (.iload 4, 2) := by decide +kernel
theorem d_L_law_280 : decode code 280 = .ok (.iconst 3, 1) := by decide +kernel
theorem d_L_law_281 : decode code 281 = .ok (.iadd, 1) := by decide +kernel
theorem d_L_law_282 : decode code 282 = .ok (.iaload, 1) := by decide +kernel
theorem d_L_law_283 : decode code 283 = .ok (.i2l, 1) := by decide +kernel
theorem d_L_law_284 : decode code 284 = .ok (.ldc2_w 103, 3) := by decide +kernel
theorem d_L_law_287 : decode code 287 = .ok (.land, 1) := by decide +kernel
theorem d_L_law_288 : decode code 288 = .ok (.lor, 1) := by decide +kernel
theorem d_L_law_289 : decode code 289 = .ok (.aload_n 3, 1) := by decide +kernel
theorem d_L_law_290 : decode code 290 = .ok (.invokestatic 113, 3) := by decide +kernel
theorem d_L_law_293 : decode code 293 = .ok (.istore 5, 2) := by decide +kernel
theorem d_L_law_295 : decode code 295 = .ok (.aload_n 2, 1) := by decide +kernel
theorem d_L_law_296 : decode code 296 = .ok (.aload_n 0, 1) := by decide +kernel
theorem d_L_law_297 : decode code 297 = .ok (.iload 4, 2) := by decide +kernel
theorem d_L_law_299 : decode code 299 = .ok (.iconst 1, 1) := by decide +kernel
theorem d_L_law_300 : decode code 300 = .ok (.iadd, 1) := by decide +kernel
theorem d_L_law_301 : decode code 301 = .ok (.iaload, 1) := by decide +kernel
theorem d_L_law_302 : decode code 302 = .ok (.aload_n 0, 1) := by decide +kernel
theorem d_L_law_303 : decode code 303 = .ok (.iload 4, 2) := by decide +kernel
theorem d_L_law_305 : decode code 305 = .ok (.iconst 2, 1) := by decide +kernel
theorem d_L_law_306 : decode code 306 = .ok (.iadd, 1) := by decide +kernel
theorem d_L_law_307 : decode code 307 = .ok (.iaload, 1) := by decide +kernel
theorem d_L_law_308 : decode code 308 = .ok (.i2l, 1) := by decide +kernel
theorem d_L_law_309 : decode code 309 = .ok (.bipush 32, 2) := by decide +kernel
theorem d_L_law_311 : decode code 311 = .ok (.lshl, 1) := by decide +kernel
theorem d_L_law_312 : decode code 312 = .ok (.aload_n 0, 1) := by decide +kernel
theorem d_L_law_313 : decode code 313 = .ok (.iload 4, 2) := by decide +kernel
theorem d_L_law_315 : decode code 315 = .ok (.iconst 3, 1) := by decide +kernel
theorem d_L_law_316 : decode code 316 = .ok (.iadd, 1) := by decide +kernel
theorem d_L_law_317 : decode code 317 = .ok (.iaload, 1) := by decide +kernel
theorem d_L_law_318 : decode code 318 = .ok (.i2l, 1) := by decide +kernel
theorem d_L_law_319 : decode code 319 = .ok (.ldc2_w 103, 3) := by decide +kernel
theorem d_L_law_322 : decode code 322 = .ok (.land, 1) := by decide +kernel
theorem d_L_law_323 : decode code 323 = .ok (.lor, 1) := by decide +kernel
theorem d_L_law_324 : decode code 324 = .ok (.invokevirtual 116, 3) := by decide +kernel
theorem d_L_law_327 : decode code 327 = .ok (.istore 6, 2) := by decide +kernel
theorem d_L_law_329 : decode code 329 = .ok (.aload_n 2, 1) := by decide +kernel
theorem d_L_law_330 : decode code 330 = .ok (.invokevirtual 109, 3) := by decide +kernel
theorem d_L_law_333 : decode code 333 = .ok (.iload 5, 2) := by decide +kernel
theorem d_L_law_335 : decode code 335 = .ok (.if_icmp .eq 5, 3) := by decide +kernel
theorem d_L_law_338 : decode code 338 = .ok (.iconst 0, 1) := by decide +kernel
theorem d_L_law_339 : decode code 339 = .ok (.ireturn, 1) := by decide +kernel
theorem d_L_law_340 : decode code 340 = .ok (.iload 5, 2) := by decide +kernel
theorem d_L_law_342 : decode code 342 = .ok (.ifCond .ne 15, 3) := by decide +kernel
theorem d_L_law_345 : decode code 345 = .ok (.aload_n 3, 1) := by decide +kernel
theorem d_L_law_346 : decode code 346 = .ok (.iconst 0, 1) := by decide +kernel
theorem d_L_law_347 : decode code 347 = .ok (.laload, 1) := by decide +kernel
theorem d_L_law_348 : decode code 348 = .ok (.iload 6, 2) := by decide +kernel
theorem d_L_law_350 : decode code 350 = .ok (.i2l, 1) := by decide +kernel
theorem d_L_law_351 : decode code 351 = .ok (.lcmp, 1) := by decide +kernel
theorem d_L_law_352 : decode code 352 = .ok (.ifCond .eq 5, 3) := by decide +kernel
theorem d_L_law_355 : decode code 355 = .ok (.iconst 0, 1) := by decide +kernel
theorem d_L_law_356 : decode code 356 = .ok (.ireturn, 1) := by decide +kernel
theorem d_L_law_357 : decode code 357 = .ok (.goto 1343, 3) := by decide +kernel
theorem d_L_law_360 : decode code 360 = .ok (.aload_n 1, 1) := by decide +kernel
