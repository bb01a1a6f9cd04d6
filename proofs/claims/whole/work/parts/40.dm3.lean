/-! decode rows -/
theorem d_M_lettered_0 : decode b_M_lettered 0 = .ok (.iload_n 2, 1) := by decide +kernel
theorem d_M_lettered_1 : decode b_M_lettered 1 = .ok (.iload_n 3, 1) := by decide +kernel
theorem d_M_lettered_2 : decode b_M_lettered 2 = .ok (.if_icmp .lt 11, 3) := by decide +kernel
theorem d_M_lettered_5 : decode b_M_lettered 5 = .ok (.aload_n 0, 1) := by decide +kernel
theorem d_M_lettered_6 : decode b_M_lettered 6 = .ok (.bipush (-3), 2) := by decide +kernel
theorem d_M_lettered_8 : decode b_M_lettered 8 = .ok (.putfield 100, 3) := by decide +kernel
theorem d_M_lettered_11 : decode b_M_lettered 11 = .ok (.iconst 0, 1) := by decide +kernel
theorem d_M_lettered_12 : decode b_M_lettered 12 = .ok (.ireturn, 1) := by decide +kernel
theorem d_M_lettered_13 : decode b_M_lettered 13 = .ok (.aload_n 0, 1) := by decide +kernel
theorem d_M_lettered_14 : decode b_M_lettered 14 = .ok (.iload_n 1, 1) := by decide +kernel
theorem d_M_lettered_15 : decode b_M_lettered 15 = .ok (.iload_n 2, 1) := by decide +kernel
theorem d_M_lettered_16 : decode b_M_lettered 16 = .ok (.invokevirtual 47, 3) := by decide +kernel
theorem d_M_lettered_19 : decode b_M_lettered 19 = .ok (.istore 4, 2) := by decide +kernel
theorem d_M_lettered_21 : decode b_M_lettered 21 = .ok (.iload 4, 2) := by decide +kernel
theorem d_M_lettered_23 : decode b_M_lettered 23 = .ok (.sipush 128, 3) := by decide +kernel
theorem d_M_lettered_26 : decode b_M_lettered 26 = .ok (.if_icmp .ge 7, 3) := by decide +kernel
theorem d_M_lettered_29 : decode b_M_lettered 29 = .ok (.iconst 1, 1) := by decide +kernel
theorem d_M_lettered_30 : decode b_M_lettered 30 = .ok (.goto 52, 3) := by decide +kernel
theorem d_M_lettered_33 : decode b_M_lettered 33 = .ok (.iload 4, 2) := by decide +kernel
theorem d_M_lettered_35 : decode b_M_lettered 35 = .ok (.sipush 192, 3) := by decide +kernel
theorem d_M_lettered_38 : decode b_M_lettered 38 = .ok (.if_icmp .ge 7, 3) := by decide +kernel
theorem d_M_lettered_41 : decode b_M_lettered 41 = .ok (.iconst 0, 1) := by decide +kernel
theorem d_M_lettered_42 : decode b_M_lettered 42 = .ok (.goto 40, 3) := by decide +kernel
theorem d_M_lettered_45 : decode b_M_lettered 45 = .ok (.iload 4, 2) := by decide +kernel
theorem d_M_lettered_47 : decode b_M_lettered 47 = .ok (.sipush 224, 3) := by decide +kernel
theorem d_M_lettered_50 : decode b_M_lettered 50 = .ok (.if_icmp .ge 7, 3) := by decide +kernel
theorem d_M_lettered_53 : decode b_M_lettered 53 = .ok (.iconst 2, 1) := by decide +kernel
theorem d_M_lettered_54 : decode b_M_lettered 54 = .ok (.goto 28, 3) := by decide +kernel
theorem d_M_lettered_57 : decode b_M_lettered 57 = .ok (.iload 4, 2) := by decide +kernel
theorem d_M_lettered_59 : decode b_M_lettered 59 = .ok (.sipush 240, 3) := by decide +kernel
theorem d_M_lettered_62 : decode b_M_lettered 62 = .ok (.if_icmp .ge 7, 3) := by decide +kernel
theorem d_M_lettered_65 : decode b_M_lettered 65 = .ok (.iconst 3, 1) := by decide +kernel
theorem d_M_lettered_66 : decode b_M_lettered 66 = .ok (.goto 16, 3) := by decide +kernel
theorem d_M_lettered_69 : decode b_M_lettered 69 = .ok (.iload 4, 2) := by decide +kernel
theorem d_M_lettered_71 : decode b_M_lettered 71 = .ok (.sipush 248, 3) := by decide +kernel
theorem d_M_lettered_74 : decode b_M_lettered 74 = .ok (.if_icmp .ge 7, 3) := by decide +kernel
theorem d_M_lettered_77 : decode b_M_lettered 77 = .ok (.iconst 4, 1) := by decide +kernel
theorem d_M_lettered_78 : decode b_M_lettered 78 = .ok (.goto 4, 3) := by decide +kernel
theorem d_M_lettered_81 : decode b_M_lettered 81 = .ok (.iconst 0, 1) := by decide +kernel
theorem d_M_lettered_82 : decode b_M_lettered 82 = .ok (.istore 5, 2) := by decide +kernel
theorem d_M_lettered_84 : decode b_M_lettered 84 = .ok (.iload 5, 2) := by decide +kernel
theorem d_M_lettered_86 : decode b_M_lettered 86 = .ok (.iconst 1, 1) := by decide +kernel
theorem d_M_lettered_87 : decode b_M_lettered 87 = .ok (.if_icmp .ne 8, 3) := by decide +kernel
theorem d_M_lettered_90 : decode b_M_lettered 90 = .ok (.iload 4, 2) := by decide +kernel
theorem d_M_lettered_92 : decode b_M_lettered 92 = .ok (.goto 39, 3) := by decide +kernel
theorem d_M_lettered_95 : decode b_M_lettered 95 = .ok (.iload 5, 2) := by decide +kernel
theorem d_M_lettered_97 : decode b_M_lettered 97 = .ok (.iconst 2, 1) := by decide +kernel
theorem d_M_lettered_98 : decode b_M_lettered 98 = .ok (.if_icmp .ne 12, 3) := by decide +kernel
theorem d_M_lettered_101 : decode b_M_lettered 101 = .ok (.iload 4, 2) := by decide +kernel
theorem d_M_lettered_103 : decode b_M_lettered 103 = .ok (.sipush 192, 3) := by decide +kernel
theorem d_M_lettered_106 : decode b_M_lettered 106 = .ok (.isub, 1) := by decide +kernel
theorem d_M_lettered_107 : decode b_M_lettered 107 = .ok (.goto 24, 3) := by decide +kernel
theorem d_M_lettered_110 : decode b_M_lettered 110 = .ok (.iload 5, 2) := by decide +kernel
theorem d_M_lettered_112 : decode b_M_lettered 112 = .ok (.iconst 3, 1) := by decide +kernel
theorem d_M_lettered_113 : decode b_M_lettered 113 = .ok (.if_icmp .ne 12, 3) := by decide +kernel
theorem d_M_lettered_116 : decode b_M_lettered 116 = .ok (.iload 4, 2) := by decide +kernel
theorem d_M_lettered_118 : decode b_M_lettered 118 = .ok (.sipush 224, 3) := by decide +kernel
theorem d_M_lettered_121 : decode b_M_lettered 121 = .ok (.isub, 1) := by decide +kernel
theorem d_M_lettered_122 : decode b_M_lettered 122 = .ok (.goto 9, 3) := by decide +kernel
theorem d_M_lettered_125 : decode b_M_lettered 125 = .ok (.iload 4, 2) := by decide +kernel
theorem d_M_lettered_127 : decode b_M_lettered 127 = .ok (.sipush 240, 3) := by decide +kernel
theorem d_M_lettered_130 : decode b_M_lettered 130 = .ok (.isub, 1) := by decide +kernel
theorem d_M_lettered_131 : decode b_M_lettered 131 = .ok (.istore 6, 2) := by decide +kernel
theorem d_M_lettered_133 : decode b_M_lettered 133 = .ok (.aload_n 0, 1) := by decide +kernel
theorem d_M_lettered_134 : decode b_M_lettered 134 = .ok (.iload 5, 2) := by decide +kernel
theorem d_M_lettered_136 : decode b_M_lettered 136 = .ok (.ifCond .ne 8, 3) := by decide +kernel
theorem d_M_lettered_139 : decode b_M_lettered 139 = .ok (.bipush (-2), 2) := by decide +kernel
theorem d_M_lettered_141 : decode b_M_lettered 141 = .ok (.goto 4, 3) := by decide +kernel
theorem d_M_lettered_144 : decode b_M_lettered 144 = .ok (.iconst 1, 1) := by decide +kernel
theorem d_M_lettered_145 : decode b_M_lettered 145 = .ok (.putfield 100, 3) := by decide +kernel
theorem d_M_lettered_148 : decode b_M_lettered 148 = .ok (.aload_n 0, 1) := by decide +kernel
theorem d_M_lettered_149 : decode b_M_lettered 149 = .ok (.getfield 100, 3) := by decide +kernel
theorem d_M_lettered_152 : decode b_M_lettered 152 = .ok (.ifCond .le 151, 3) := by decide +kernel
theorem d_M_lettered_155 : decode b_M_lettered 155 = .ok (.aload_n 0, 1) := by decide +kernel
theorem d_M_lettered_156 : decode b_M_lettered 156 = .ok (.getfield 100, 3) := by decide +kernel
theorem d_M_lettered_159 : decode b_M_lettered 159 = .ok (.iload 5, 2) := by decide +kernel
theorem d_M_lettered_161 : decode b_M_lettered 161 = .ok (.if_icmp .gt 142, 3) := by decide +kernel
theorem d_M_lettered_164 : decode b_M_lettered 164 = .ok (.iload 6, 2) := by decide +kernel
theorem d_M_lettered_166 : decode b_M_lettered 166 = .ok (.bipush 6, 2) := by decide +kernel
theorem d_M_lettered_168 : decode b_M_lettered 168 = .ok (.iload 5, 2) := by decide +kernel
theorem d_M_lettered_170 : decode b_M_lettered 170 = .ok (.aload_n 0, 1) := by decide +kernel
theorem d_M_lettered_171 : decode b_M_lettered 171 = .ok (.getfield 100, 3) := by decide +kernel
theorem d_M_lettered_174 : decode b_M_lettered 174 = .ok (.isub, 1) := by decide +kernel
theorem d_M_lettered_175 : decode b_M_lettered 175 = .ok (.imul, 1) := by decide +kernel
theorem d_M_lettered_176 : decode b_M_lettered 176 = .ok (.ishl, 1) := by decide +kernel
theorem d_M_lettered_177 : decode b_M_lettered 177 = .ok (.istore 7, 2) := by decide +kernel
theorem d_M_lettered_179 : decode b_M_lettered 179 = .ok (.iload 7, 2) := by decide +kernel
theorem d_M_lettered_181 : decode b_M_lettered 181 = .ok (.iconst 1, 1) := by decide +kernel
theorem d_M_lettered_182 : decode b_M_lettered 182 = .ok (.bipush 6, 2) := by decide +kernel
theorem d_M_lettered_184 : decode b_M_lettered 184 = .ok (.iload 5, 2) := by decide +kernel
theorem d_M_lettered_186 : decode b_M_lettered 186 = .ok (.aload_n 0, 1) := by decide +kernel
theorem d_M_lettered_187 : decode b_M_lettered 187 = .ok (.getfield 100, 3) := by decide +kernel
theorem d_M_lettered_190 : decode b_M_lettered 190 = .ok (.isub, 1) := by decide +kernel
theorem d_M_lettered_191 : decode b_M_lettered 191 = .ok (.imul, 1) := by decide +kernel
theorem d_M_lettered_192 : decode b_M_lettered 192 = .ok (.ishl, 1) := by decide +kernel
theorem d_M_lettered_193 : decode b_M_lettered 193 = .ok (.iadd, 1) := by decide +kernel
theorem d_M_lettered_194 : decode b_M_lettered 194 = .ok (.iconst 1, 1) := by decide +kernel
theorem d_M_lettered_195 : decode b_M_lettered 195 = .ok (.isub, 1) := by decide +kernel
theorem d_M_lettered_196 : decode b_M_lettered 196 = .ok (.istore 8, 2) := by decide +kernel
theorem d_M_lettered_198 : decode b_M_lettered 198 = .ok (.iload 5, 2) := by decide +kernel
theorem d_M_lettered_200 : decode b_M_lettered 200 = .ok (.iload 7, 2) := by decide +kernel
theorem d_M_lettered_202 : decode b_M_lettered 202 = .ok (.iload 8, 2) := by decide +kernel
theorem d_M_lettered_204 : decode b_M_lettered 204 = .ok (.invokestatic 113, 3) := by decide +kernel
theorem d_M_lettered_207 : decode b_M_lettered 207 = .ok (.ifCond .ne 12, 3) := by decide +kernel
theorem d_M_lettered_210 : decode b_M_lettered 210 = .ok (.aload_n 0, 1) := by decide +kernel
theorem d_M_lettered_211 : decode b_M_lettered 211 = .ok (.bipush (-2), 2) := by decide +kernel
theorem d_M_lettered_213 : decode b_M_lettered 213 = .ok (.putfield 100, 3) := by decide +kernel
theorem d_M_lettered_216 : decode b_M_lettered 216 = .ok (.goto 84, 3) := by decide +kernel
theorem d_M_lettered_219 : decode b_M_lettered 219 = .ok (.aload_n 0, 1) := by decide +kernel
theorem d_M_lettered_220 : decode b_M_lettered 220 = .ok (.getfield 100, 3) := by decide +kernel
theorem d_M_lettered_223 : decode b_M_lettered 223 = .ok (.iload 5, 2) := by decide +kernel
theorem d_M_lettered_225 : decode b_M_lettered 225 = .ok (.if_icmp .ne 6, 3) := by decide +kernel
theorem d_M_lettered_228 : decode b_M_lettered 228 = .ok (.iload 6, 2) := by decide +kernel
theorem d_M_lettered_230 : decode b_M_lettered 230 = .ok (.ireturn, 1) := by decide +kernel
theorem d_M_lettered_231 : decode b_M_lettered 231 = .ok (.iload_n 2, 1) := by decide +kernel
theorem d_M_lettered_232 : decode b_M_lettered 232 = .ok (.aload_n 0, 1) := by decide +kernel
theorem d_M_lettered_233 : decode b_M_lettered 233 = .ok (.getfield 100, 3) := by decide +kernel
theorem d_M_lettered_236 : decode b_M_lettered 236 = .ok (.iadd, 1) := by decide +kernel
theorem d_M_lettered_237 : decode b_M_lettered 237 = .ok (.iload_n 3, 1) := by decide +kernel
theorem d_M_lettered_238 : decode b_M_lettered 238 = .ok (.if_icmp .lt 12, 3) := by decide +kernel
theorem d_M_lettered_241 : decode b_M_lettered 241 = .ok (.aload_n 0, 1) := by decide +kernel
theorem d_M_lettered_242 : decode b_M_lettered 242 = .ok (.bipush (-3), 2) := by decide +kernel
theorem d_M_lettered_244 : decode b_M_lettered 244 = .ok (.putfield 100, 3) := by decide +kernel
theorem d_M_lettered_247 : decode b_M_lettered 247 = .ok (.goto 53, 3) := by decide +kernel
theorem d_M_lettered_250 : decode b_M_lettered 250 = .ok (.aload_n 0, 1) := by decide +kernel
theorem d_M_lettered_251 : decode b_M_lettered 251 = .ok (.iload_n 1, 1) := by decide +kernel
theorem d_M_lettered_252 : decode b_M_lettered 252 = .ok (.iload_n 2, 1) := by decide +kernel
theorem d_M_lettered_253 : decode b_M_lettered 253 = .ok (.aload_n 0, 1) := by decide +kernel
theorem d_M_lettered_254 : decode b_M_lettered 254 = .ok (.getfield 100, 3) := by decide +kernel
theorem d_M_lettered_257 : decode b_M_lettered 257 = .ok (.iadd, 1) := by decide +kernel
theorem d_M_lettered_258 : decode b_M_lettered 258 = .ok (.invokevirtual 47, 3) := by decide +kernel
theorem d_M_lettered_261 : decode b_M_lettered 261 = .ok (.istore 9, 2) := by decide +kernel
theorem d_M_lettered_263 : decode b_M_lettered 263 = .ok (.bipush 64, 2) := by decide +kernel
theorem d_M_lettered_265 : decode b_M_lettered 265 = .ok (.iload 6, 2) := by decide +kernel
theorem d_M_lettered_267 : decode b_M_lettered 267 = .ok (.imul, 1) := by decide +kernel
theorem d_M_lettered_268 : decode b_M_lettered 268 = .ok (.iload 9, 2) := by decide +kernel
theorem d_M_lettered_270 : decode b_M_lettered 270 = .ok (.bipush 64, 2) := by decide +kernel
theorem d_M_lettered_272 : decode b_M_lettered 272 = .ok (.irem, 1) := by decide +kernel
theorem d_M_lettered_273 : decode b_M_lettered 273 = .ok (.iadd, 1) := by decide +kernel
theorem d_M_lettered_274 : decode b_M_lettered 274 = .ok (.istore 6, 2) := by decide +kernel
theorem d_M_lettered_276 : decode b_M_lettered 276 = .ok (.aload_n 0, 1) := by decide +kernel
theorem d_M_lettered_277 : decode b_M_lettered 277 = .ok (.iload 9, 2) := by decide +kernel
theorem d_M_lettered_279 : decode b_M_lettered 279 = .ok (.bipush 64, 2) := by decide +kernel
theorem d_M_lettered_281 : decode b_M_lettered 281 = .ok (.idiv, 1) := by decide +kernel
theorem d_M_lettered_282 : decode b_M_lettered 282 = .ok (.iconst 2, 1) := by decide +kernel
theorem d_M_lettered_283 : decode b_M_lettered 283 = .ok (.if_icmp .ne 12, 3) := by decide +kernel
theorem d_M_lettered_286 : decode b_M_lettered 286 = .ok (.aload_n 0, 1) := by decide +kernel
theorem d_M_lettered_287 : decode b_M_lettered 287 = .ok (.getfield 100, 3) := by decide +kernel
theorem d_M_lettered_290 : decode b_M_lettered 290 = .ok (.iconst 1, 1) := by decide +kernel
theorem d_M_lettered_291 : decode b_M_lettered 291 = .ok (.iadd, 1) := by decide +kernel
theorem d_M_lettered_292 : decode b_M_lettered 292 = .ok (.goto 5, 3) := by decide +kernel
theorem d_M_lettered_295 : decode b_M_lettered 295 = .ok (.bipush (-2), 2) := by decide +kernel
theorem d_M_lettered_297 : decode b_M_lettered 297 = .ok (.putfield 100, 3) := by decide +kernel
theorem d_M_lettered_300 : decode b_M_lettered 300 = .ok (.goto (-152), 3) := by decide +kernel
theorem d_M_lettered_303 : decode b_M_lettered 303 = .ok (.iconst 0, 1) := by decide +kernel
theorem d_M_lettered_304 : decode b_M_lettered 304 = .ok (.ireturn, 1) := by decide +kernel
theorem d_M_readLetter_0 : decode b_M_readLetter 0 = .ok (.aload_n 0, 1) := by decide +kernel
theorem d_M_readLetter_1 : decode b_M_readLetter 1 = .ok (.iconst 0, 1) := by decide +kernel
theorem d_M_readLetter_2 : decode b_M_readLetter 2 = .ok (.putfield 26, 3) := by decide +kernel
theorem d_M_readLetter_5 : decode b_M_readLetter 5 = .ok (.iload_n 1, 1) := by decide +kernel
theorem d_M_readLetter_6 : decode b_M_readLetter 6 = .ok (.invokestatic 52, 3) := by decide +kernel
theorem d_M_readLetter_9 : decode b_M_readLetter 9 = .ok (.ifCond .ne 9, 3) := by decide +kernel
theorem d_M_readLetter_12 : decode b_M_readLetter 12 = .ok (.aload_n 0, 1) := by decide +kernel
theorem d_M_readLetter_13 : decode b_M_readLetter 13 = .ok (.iconst 1, 1) := by decide +kernel
theorem d_M_readLetter_14 : decode b_M_readLetter 14 = .ok (.invokevirtual 56, 3) := by decide +kernel
theorem d_M_readLetter_17 : decode b_M_readLetter 17 = .ok (.ireturn, 1) := by decide +kernel
theorem d_M_readLetter_18 : decode b_M_readLetter 18 = .ok (.aload_n 0, 1) := by decide +kernel
theorem d_M_readLetter_19 : decode b_M_readLetter 19 = .ok (.iload_n 1, 1) := by decide +kernel
theorem d_M_readLetter_20 : decode b_M_readLetter 20 = .ok (.aload_n 0, 1) := by decide +kernel
theorem d_M_readLetter_21 : decode b_M_readLetter 21 = .ok (.getfield 18, 3) := by decide +kernel
theorem d_M_readLetter_24 : decode b_M_readLetter 24 = .ok (.iload_n 1, 1) := by decide +kernel
theorem d_M_readLetter_25 : decode b_M_readLetter 25 = .ok (.iaload, 1) := by decide +kernel
theorem d_M_readLetter_26 : decode b_M_readLetter 26 = .ok (.aload_n 0, 1) := by decide +kernel
theorem d_M_readLetter_27 : decode b_M_readLetter 27 = .ok (.getfield 14, 3) := by decide +kernel
theorem d_M_readLetter_30 : decode b_M_readLetter 30 = .ok (.iload_n 1, 1) := by decide +kernel
theorem d_M_readLetter_31 : decode b_M_readLetter 31 = .ok (.iaload, 1) := by decide +kernel
theorem d_M_readLetter_32 : decode b_M_readLetter 32 = .ok (.invokevirtual 116, 3) := by decide +kernel
theorem d_M_readLetter_35 : decode b_M_readLetter 35 = .ok (.istore_n 2, 1) := by decide +kernel
theorem d_M_readLetter_36 : decode b_M_readLetter 36 = .ok (.aload_n 0, 1) := by decide +kernel
theorem d_M_readLetter_37 : decode b_M_readLetter 37 = .ok (.getfield 100, 3) := by decide +kernel
theorem d_M_readLetter_40 : decode b_M_readLetter 40 = .ok (.ifCond .ge 8, 3) := by decide +kernel
theorem d_M_readLetter_43 : decode b_M_readLetter 43 = .ok (.aload_n 0, 1) := by decide +kernel
theorem d_M_readLetter_44 : decode b_M_readLetter 44 = .ok (.invokevirtual 107, 3) := by decide +kernel
theorem d_M_readLetter_47 : decode b_M_readLetter 47 = .ok (.ireturn, 1) := by decide +kernel
theorem d_M_readLetter_48 : decode b_M_readLetter 48 = .ok (.aload_n 0, 1) := by decide +kernel
theorem d_M_readLetter_49 : decode b_M_readLetter 49 = .ok (.getfield 18, 3) := by decide +kernel
theorem d_M_readLetter_52 : decode b_M_readLetter 52 = .ok (.iload_n 1, 1) := by decide +kernel
theorem d_M_readLetter_53 : decode b_M_readLetter 53 = .ok (.dup2, 1) := by decide +kernel
theorem d_M_readLetter_54 : decode b_M_readLetter 54 = .ok (.iaload, 1) := by decide +kernel
theorem d_M_readLetter_55 : decode b_M_readLetter 55 = .ok (.aload_n 0, 1) := by decide +kernel
theorem d_M_readLetter_56 : decode b_M_readLetter 56 = .ok (.getfield 100, 3) := by decide +kernel
theorem d_M_readLetter_59 : decode b_M_readLetter 59 = .ok (.iadd, 1) := by decide +kernel
theorem d_M_readLetter_60 : decode b_M_readLetter 60 = .ok (.iastore, 1) := by decide +kernel
theorem d_M_readLetter_61 : decode b_M_readLetter 61 = .ok (.iload_n 2, 1) := by decide +kernel
theorem d_M_readLetter_62 : decode b_M_readLetter 62 = .ok (.ireturn, 1) := by decide +kernel
theorem d_M_unwrap_0 : decode b_M_unwrap 0 = .ok (.iload_n 1, 1) := by decide +kernel
theorem d_M_unwrap_1 : decode b_M_unwrap 1 = .ok (.invokestatic 52, 3) := by decide +kernel
theorem d_M_unwrap_4 : decode b_M_unwrap 4 = .ok (.ifCond .eq 10, 3) := by decide +kernel
theorem d_M_unwrap_7 : decode b_M_unwrap 7 = .ok (.iload_n 2, 1) := by decide +kernel
theorem d_M_unwrap_8 : decode b_M_unwrap 8 = .ok (.invokestatic 52, 3) := by decide +kernel
theorem d_M_unwrap_11 : decode b_M_unwrap 11 = .ok (.ifCond .ne 9, 3) := by decide +kernel
theorem d_M_unwrap_14 : decode b_M_unwrap 14 = .ok (.aload_n 0, 1) := by decide +kernel
theorem d_M_unwrap_15 : decode b_M_unwrap 15 = .ok (.iconst 1, 1) := by decide +kernel
theorem d_M_unwrap_16 : decode b_M_unwrap 16 = .ok (.invokevirtual 56, 3) := by decide +kernel
theorem d_M_unwrap_19 : decode b_M_unwrap 19 = .ok (.ireturn, 1) := by decide +kernel
theorem d_M_unwrap_20 : decode b_M_unwrap 20 = .ok (.iload_n 1, 1) := by decide +kernel
theorem d_M_unwrap_21 : decode b_M_unwrap 21 = .ok (.iload_n 2, 1) := by decide +kernel
theorem d_M_unwrap_22 : decode b_M_unwrap 22 = .ok (.if_icmp .ne 9, 3) := by decide +kernel
theorem d_M_unwrap_25 : decode b_M_unwrap 25 = .ok (.aload_n 0, 1) := by decide +kernel
theorem d_M_unwrap_26 : decode b_M_unwrap 26 = .ok (.iconst 2, 1) := by decide +kernel
theorem d_M_unwrap_27 : decode b_M_unwrap 27 = .ok (.invokevirtual 56, 3) := by decide +kernel
theorem d_M_unwrap_30 : decode b_M_unwrap 30 = .ok (.ireturn, 1) := by decide +kernel
theorem d_M_unwrap_31 : decode b_M_unwrap 31 = .ok (.aload_n 0, 1) := by decide +kernel
theorem d_M_unwrap_32 : decode b_M_unwrap 32 = .ok (.iload_n 1, 1) := by decide +kernel
theorem d_M_unwrap_33 : decode b_M_unwrap 33 = .ok (.aload_n 0, 1) := by decide +kernel
theorem d_M_unwrap_34 : decode b_M_unwrap 34 = .ok (.getfield 18, 3) := by decide +kernel
theorem d_M_unwrap_37 : decode b_M_unwrap 37 = .ok (.iload_n 1, 1) := by decide +kernel
theorem d_M_unwrap_38 : decode b_M_unwrap 38 = .ok (.iaload, 1) := by decide +kernel
theorem d_M_unwrap_39 : decode b_M_unwrap 39 = .ok (.invokevirtual 103, 3) := by decide +kernel
theorem d_M_unwrap_42 : decode b_M_unwrap 42 = .ok (.lstore 4, 2) := by decide +kernel
theorem d_M_unwrap_44 : decode b_M_unwrap 44 = .ok (.aload_n 0, 1) := by decide +kernel
theorem d_M_unwrap_45 : decode b_M_unwrap 45 = .ok (.getfield 100, 3) := by decide +kernel
theorem d_M_unwrap_48 : decode b_M_unwrap 48 = .ok (.ifCond .ge 8, 3) := by decide +kernel
theorem d_M_unwrap_51 : decode b_M_unwrap 51 = .ok (.aload_n 0, 1) := by decide +kernel
theorem d_M_unwrap_52 : decode b_M_unwrap 52 = .ok (.invokevirtual 107, 3) := by decide +kernel
theorem d_M_unwrap_55 : decode b_M_unwrap 55 = .ok (.ireturn, 1) := by decide +kernel
theorem d_M_unwrap_56 : decode b_M_unwrap 56 = .ok (.lload 4, 2) := by decide +kernel
theorem d_M_unwrap_58 : decode b_M_unwrap 58 = .ok (.lconst 0, 1) := by decide +kernel
theorem d_M_unwrap_59 : decode b_M_unwrap 59 = .ok (.lcmp, 1) := by decide +kernel
theorem d_M_unwrap_60 : decode b_M_unwrap 60 = .ok (.ifCond .lt 12, 3) := by decide +kernel
theorem d_M_unwrap_63 : decode b_M_unwrap 63 = .ok (.lload 4, 2) := by decide +kernel
theorem d_M_unwrap_65 : decode b_M_unwrap 65 = .ok (.ldc2_w 119, 3) := by decide +kernel
theorem d_M_unwrap_68 : decode b_M_unwrap 68 = .ok (.lcmp, 1) := by decide +kernel
theorem d_M_unwrap_69 : decode b_M_unwrap 69 = .ok (.ifCond .le 9, 3) := by decide +kernel
theorem d_M_unwrap_72 : decode b_M_unwrap 72 = .ok (.aload_n 0, 1) := by decide +kernel
theorem d_M_unwrap_73 : decode b_M_unwrap 73 = .ok (.iconst 2, 1) := by decide +kernel
theorem d_M_unwrap_74 : decode b_M_unwrap 74 = .ok (.invokevirtual 56, 3) := by decide +kernel
theorem d_M_unwrap_77 : decode b_M_unwrap 77 = .ok (.ireturn, 1) := by decide +kernel
theorem d_M_unwrap_78 : decode b_M_unwrap 78 = .ok (.lload 4, 2) := by decide +kernel
theorem d_M_unwrap_80 : decode b_M_unwrap 80 = .ok (.l2i, 1) := by decide +kernel
theorem d_M_unwrap_81 : decode b_M_unwrap 81 = .ok (.istore 6, 2) := by decide +kernel
theorem d_M_unwrap_83 : decode b_M_unwrap 83 = .ok (.aload_n 0, 1) := by decide +kernel
theorem d_M_unwrap_84 : decode b_M_unwrap 84 = .ok (.getfield 18, 3) := by decide +kernel
theorem d_M_unwrap_87 : decode b_M_unwrap 87 = .ok (.iload_n 1, 1) := by decide +kernel
theorem d_M_unwrap_88 : decode b_M_unwrap 88 = .ok (.iaload, 1) := by decide +kernel
theorem d_M_unwrap_89 : decode b_M_unwrap 89 = .ok (.aload_n 0, 1) := by decide +kernel
theorem d_M_unwrap_90 : decode b_M_unwrap 90 = .ok (.getfield 100, 3) := by decide +kernel
theorem d_M_unwrap_93 : decode b_M_unwrap 93 = .ok (.iadd, 1) := by decide +kernel
theorem d_M_unwrap_94 : decode b_M_unwrap 94 = .ok (.iload_n 3, 1) := by decide +kernel
theorem d_M_unwrap_95 : decode b_M_unwrap 95 = .ok (.iadd, 1) := by decide +kernel
theorem d_M_unwrap_96 : decode b_M_unwrap 96 = .ok (.istore 7, 2) := by decide +kernel
theorem d_M_unwrap_98 : decode b_M_unwrap 98 = .ok (.iload 7, 2) := by decide +kernel
theorem d_M_unwrap_100 : decode b_M_unwrap 100 = .ok (.aload_n 0, 1) := by decide +kernel
theorem d_M_unwrap_101 : decode b_M_unwrap 101 = .ok (.getfield 14, 3) := by decide +kernel
theorem d_M_unwrap_104 : decode b_M_unwrap 104 = .ok (.iload_n 1, 1) := by decide +kernel
theorem d_M_unwrap_105 : decode b_M_unwrap 105 = .ok (.iaload, 1) := by decide +kernel
theorem d_M_unwrap_106 : decode b_M_unwrap 106 = .ok (.if_icmp .gt 17, 3) := by decide +kernel
theorem d_M_unwrap_109 : decode b_M_unwrap 109 = .ok (.iload 6, 2) := by decide +kernel
theorem d_M_unwrap_111 : decode b_M_unwrap 111 = .ok (.aload_n 0, 1) := by decide +kernel
theorem d_M_unwrap_112 : decode b_M_unwrap 112 = .ok (.getfield 14, 3) := by decide +kernel
theorem d_M_unwrap_115 : decode b_M_unwrap 115 = .ok (.iload_n 1, 1) := by decide +kernel
theorem d_M_unwrap_116 : decode b_M_unwrap 116 = .ok (.iaload, 1) := by decide +kernel
theorem d_M_unwrap_117 : decode b_M_unwrap 117 = .ok (.iload 7, 2) := by decide +kernel
theorem d_M_unwrap_119 : decode b_M_unwrap 119 = .ok (.isub, 1) := by decide +kernel
theorem d_M_unwrap_120 : decode b_M_unwrap 120 = .ok (.if_icmp .le 9, 3) := by decide +kernel
theorem d_M_unwrap_123 : decode b_M_unwrap 123 = .ok (.aload_n 0, 1) := by decide +kernel
theorem d_M_unwrap_124 : decode b_M_unwrap 124 = .ok (.iconst 3, 1) := by decide +kernel
theorem d_M_unwrap_125 : decode b_M_unwrap 125 = .ok (.invokevirtual 56, 3) := by decide +kernel
theorem d_M_unwrap_128 : decode b_M_unwrap 128 = .ok (.ireturn, 1) := by decide +kernel
theorem d_M_unwrap_129 : decode b_M_unwrap 129 = .ok (.iload_n 3, 1) := by decide +kernel
theorem d_M_unwrap_130 : decode b_M_unwrap 130 = .ok (.ifCond .le 32, 3) := by decide +kernel
theorem d_M_unwrap_133 : decode b_M_unwrap 133 = .ok (.aload_n 0, 1) := by decide +kernel
theorem d_M_unwrap_134 : decode b_M_unwrap 134 = .ok (.iload_n 1, 1) := by decide +kernel
theorem d_M_unwrap_135 : decode b_M_unwrap 135 = .ok (.iload 7, 2) := by decide +kernel
theorem d_M_unwrap_137 : decode b_M_unwrap 137 = .ok (.iconst 4, 1) := by decide +kernel
theorem d_M_unwrap_138 : decode b_M_unwrap 138 = .ok (.isub, 1) := by decide +kernel
theorem d_M_unwrap_139 : decode b_M_unwrap 139 = .ok (.iconst 4, 1) := by decide +kernel
theorem d_M_unwrap_140 : decode b_M_unwrap 140 = .ok (.invokevirtual 96, 3) := by decide +kernel
theorem d_M_unwrap_143 : decode b_M_unwrap 143 = .ok (.l2i, 1) := by decide +kernel
theorem d_M_unwrap_144 : decode b_M_unwrap 144 = .ok (.aload_n 0, 1) := by decide +kernel
theorem d_M_unwrap_145 : decode b_M_unwrap 145 = .ok (.iload_n 1, 1) := by decide +kernel
theorem d_M_unwrap_146 : decode b_M_unwrap 146 = .ok (.iload 7, 2) := by decide +kernel
theorem d_M_unwrap_148 : decode b_M_unwrap 148 = .ok (.iload 6, 2) := by decide +kernel
theorem d_M_unwrap_150 : decode b_M_unwrap 150 = .ok (.invokevirtual 89, 3) := by decide +kernel
theorem d_M_unwrap_153 : decode b_M_unwrap 153 = .ok (.if_icmp .eq 9, 3) := by decide +kernel
theorem d_M_unwrap_156 : decode b_M_unwrap 156 = .ok (.aload_n 0, 1) := by decide +kernel
theorem d_M_unwrap_157 : decode b_M_unwrap 157 = .ok (.iconst 4, 1) := by decide +kernel
theorem d_M_unwrap_158 : decode b_M_unwrap 158 = .ok (.invokevirtual 56, 3) := by decide +kernel
theorem d_M_unwrap_161 : decode b_M_unwrap 161 = .ok (.ireturn, 1) := by decide +kernel
theorem d_M_unwrap_162 : decode b_M_unwrap 162 = .ok (.aload_n 0, 1) := by decide +kernel
theorem d_M_unwrap_163 : decode b_M_unwrap 163 = .ok (.getfield 14, 3) := by decide +kernel
theorem d_M_unwrap_166 : decode b_M_unwrap 166 = .ok (.iload_n 2, 1) := by decide +kernel
theorem d_M_unwrap_167 : decode b_M_unwrap 167 = .ok (.iconst 0, 1) := by decide +kernel
theorem d_M_unwrap_168 : decode b_M_unwrap 168 = .ok (.iastore, 1) := by decide +kernel
theorem d_M_unwrap_169 : decode b_M_unwrap 169 = .ok (.aload_n 0, 1) := by decide +kernel
theorem d_M_unwrap_170 : decode b_M_unwrap 170 = .ok (.getfield 18, 3) := by decide +kernel
theorem d_M_unwrap_173 : decode b_M_unwrap 173 = .ok (.iload_n 2, 1) := by decide +kernel
theorem d_M_unwrap_174 : decode b_M_unwrap 174 = .ok (.iconst 0, 1) := by decide +kernel
theorem d_M_unwrap_175 : decode b_M_unwrap 175 = .ok (.iastore, 1) := by decide +kernel
theorem d_M_unwrap_176 : decode b_M_unwrap 176 = .ok (.iconst 0, 1) := by decide +kernel
theorem d_M_unwrap_177 : decode b_M_unwrap 177 = .ok (.istore 8, 2) := by decide +kernel
theorem d_M_unwrap_179 : decode b_M_unwrap 179 = .ok (.iload 8, 2) := by decide +kernel
theorem d_M_unwrap_181 : decode b_M_unwrap 181 = .ok (.iload 6, 2) := by decide +kernel
theorem d_M_unwrap_183 : decode b_M_unwrap 183 = .ok (.if_icmp .ge 24, 3) := by decide +kernel
theorem d_M_unwrap_186 : decode b_M_unwrap 186 = .ok (.aload_n 0, 1) := by decide +kernel
theorem d_M_unwrap_187 : decode b_M_unwrap 187 = .ok (.iload_n 2, 1) := by decide +kernel
theorem d_M_unwrap_188 : decode b_M_unwrap 188 = .ok (.aload_n 0, 1) := by decide +kernel
theorem d_M_unwrap_189 : decode b_M_unwrap 189 = .ok (.iload_n 1, 1) := by decide +kernel
theorem d_M_unwrap_190 : decode b_M_unwrap 190 = .ok (.iload 7, 2) := by decide +kernel
theorem d_M_unwrap_192 : decode b_M_unwrap 192 = .ok (.iload 8, 2) := by decide +kernel
theorem d_M_unwrap_194 : decode b_M_unwrap 194 = .ok (.iadd, 1) := by decide +kernel
theorem d_M_unwrap_195 : decode b_M_unwrap 195 = .ok (.invokevirtual 47, 3) := by decide +kernel
theorem d_M_unwrap_198 : decode b_M_unwrap 198 = .ok (.invokevirtual 43, 3) := by decide +kernel
theorem d_M_unwrap_201 : decode b_M_unwrap 201 = .ok (.iinc 8 1, 3) := by decide +kernel
theorem d_M_unwrap_204 : decode b_M_unwrap 204 = .ok (.goto (-25), 3) := by decide +kernel
theorem d_M_unwrap_207 : decode b_M_unwrap 207 = .ok (.aload_n 0, 1) := by decide +kernel
theorem d_M_unwrap_208 : decode b_M_unwrap 208 = .ok (.getfield 18, 3) := by decide +kernel
theorem d_M_unwrap_211 : decode b_M_unwrap 211 = .ok (.iload_n 1, 1) := by decide +kernel
theorem d_M_unwrap_212 : decode b_M_unwrap 212 = .ok (.iload 7, 2) := by decide +kernel
theorem d_M_unwrap_214 : decode b_M_unwrap 214 = .ok (.iload 6, 2) := by decide +kernel
theorem d_M_unwrap_216 : decode b_M_unwrap 216 = .ok (.iadd, 1) := by decide +kernel
theorem d_M_unwrap_217 : decode b_M_unwrap 217 = .ok (.iastore, 1) := by decide +kernel
theorem d_M_unwrap_218 : decode b_M_unwrap 218 = .ok (.iload 6, 2) := by decide +kernel
theorem d_M_unwrap_220 : decode b_M_unwrap 220 = .ok (.ireturn, 1) := by decide +kernel
theorem d_M_readBlock_0 : decode b_M_readBlock 0 = .ok (.aload_n 0, 1) := by decide +kernel
theorem d_M_readBlock_1 : decode b_M_readBlock 1 = .ok (.iconst 0, 1) := by decide +kernel
theorem d_M_readBlock_2 : decode b_M_readBlock 2 = .ok (.putfield 26, 3) := by decide +kernel
theorem d_M_readBlock_5 : decode b_M_readBlock 5 = .ok (.aload_n 0, 1) := by decide +kernel
theorem d_M_readBlock_6 : decode b_M_readBlock 6 = .ok (.iload_n 1, 1) := by decide +kernel
theorem d_M_readBlock_7 : decode b_M_readBlock 7 = .ok (.iload_n 2, 1) := by decide +kernel
theorem d_M_readBlock_8 : decode b_M_readBlock 8 = .ok (.iconst 0, 1) := by decide +kernel
theorem d_M_readBlock_9 : decode b_M_readBlock 9 = .ok (.invokevirtual 121, 3) := by decide +kernel
theorem d_M_readBlock_12 : decode b_M_readBlock 12 = .ok (.ireturn, 1) := by decide +kernel
theorem d_M_readFrame_0 : decode b_M_readFrame 0 = .ok (.aload_n 0, 1) := by decide +kernel
theorem d_M_readFrame_1 : decode b_M_readFrame 1 = .ok (.iconst 0, 1) := by decide +kernel
theorem d_M_readFrame_2 : decode b_M_readFrame 2 = .ok (.putfield 26, 3) := by decide +kernel
theorem d_M_readFrame_5 : decode b_M_readFrame 5 = .ok (.aload_n 0, 1) := by decide +kernel
theorem d_M_readFrame_6 : decode b_M_readFrame 6 = .ok (.iload_n 1, 1) := by decide +kernel
theorem d_M_readFrame_7 : decode b_M_readFrame 7 = .ok (.iload_n 2, 1) := by decide +kernel
theorem d_M_readFrame_8 : decode b_M_readFrame 8 = .ok (.iconst 4, 1) := by decide +kernel
theorem d_M_readFrame_9 : decode b_M_readFrame 9 = .ok (.invokevirtual 121, 3) := by decide +kernel
theorem d_M_readFrame_12 : decode b_M_readFrame 12 = .ok (.ireturn, 1) := by decide +kernel
theorem d_M_letters_0 : decode b_M_letters 0 = .ok (.aload_n 0, 1) := by decide +kernel
theorem d_M_letters_1 : decode b_M_letters 1 = .ok (.iconst 0, 1) := by decide +kernel
theorem d_M_letters_2 : decode b_M_letters 2 = .ok (.putfield 26, 3) := by decide +kernel
theorem d_M_letters_5 : decode b_M_letters 5 = .ok (.iload_n 1, 1) := by decide +kernel
theorem d_M_letters_6 : decode b_M_letters 6 = .ok (.invokestatic 52, 3) := by decide +kernel
theorem d_M_letters_9 : decode b_M_letters 9 = .ok (.ifCond .ne 9, 3) := by decide +kernel
theorem d_M_letters_12 : decode b_M_letters 12 = .ok (.aload_n 0, 1) := by decide +kernel
theorem d_M_letters_13 : decode b_M_letters 13 = .ok (.iconst 1, 1) := by decide +kernel
theorem d_M_letters_14 : decode b_M_letters 14 = .ok (.invokevirtual 56, 3) := by decide +kernel
theorem d_M_letters_17 : decode b_M_letters 17 = .ok (.ireturn, 1) := by decide +kernel
theorem d_M_letters_18 : decode b_M_letters 18 = .ok (.aload_n 0, 1) := by decide +kernel
theorem d_M_letters_19 : decode b_M_letters 19 = .ok (.iload_n 1, 1) := by decide +kernel
theorem d_M_letters_20 : decode b_M_letters 20 = .ok (.iload_n 2, 1) := by decide +kernel
theorem d_M_letters_21 : decode b_M_letters 21 = .ok (.iload_n 3, 1) := by decide +kernel
theorem d_M_letters_22 : decode b_M_letters 22 = .ok (.invokevirtual 85, 3) := by decide +kernel
theorem d_M_letters_25 : decode b_M_letters 25 = .ok (.ifCond .ne 9, 3) := by decide +kernel
theorem d_M_letters_28 : decode b_M_letters 28 = .ok (.aload_n 0, 1) := by decide +kernel
theorem d_M_letters_29 : decode b_M_letters 29 = .ok (.iconst 2, 1) := by decide +kernel
theorem d_M_letters_30 : decode b_M_letters 30 = .ok (.invokevirtual 56, 3) := by decide +kernel
theorem d_M_letters_33 : decode b_M_letters 33 = .ok (.ireturn, 1) := by decide +kernel
theorem d_M_letters_34 : decode b_M_letters 34 = .ok (.iconst 0, 1) := by decide +kernel
theorem d_M_letters_35 : decode b_M_letters 35 = .ok (.istore 4, 2) := by decide +kernel
theorem d_M_letters_37 : decode b_M_letters 37 = .ok (.iload_n 2, 1) := by decide +kernel
theorem d_M_letters_38 : decode b_M_letters 38 = .ok (.istore 5, 2) := by decide +kernel
theorem d_M_letters_40 : decode b_M_letters 40 = .ok (.iload 5, 2) := by decide +kernel
theorem d_M_letters_42 : decode b_M_letters 42 = .ok (.iload_n 2, 1) := by decide +kernel
theorem d_M_letters_43 : decode b_M_letters 43 = .ok (.iload_n 3, 1) := by decide +kernel
theorem d_M_letters_44 : decode b_M_letters 44 = .ok (.iadd, 1) := by decide +kernel
theorem d_M_letters_45 : decode b_M_letters 45 = .ok (.if_icmp .ge 42, 3) := by decide +kernel
theorem d_M_letters_48 : decode b_M_letters 48 = .ok (.aload_n 0, 1) := by decide +kernel
theorem d_M_letters_49 : decode b_M_letters 49 = .ok (.iload_n 1, 1) := by decide +kernel
theorem d_M_letters_50 : decode b_M_letters 50 = .ok (.iload 5, 2) := by decide +kernel
theorem d_M_letters_52 : decode b_M_letters 52 = .ok (.iload_n 2, 1) := by decide +kernel
theorem d_M_letters_53 : decode b_M_letters 53 = .ok (.iload_n 3, 1) := by decide +kernel
theorem d_M_letters_54 : decode b_M_letters 54 = .ok (.iadd, 1) := by decide +kernel
theorem d_M_letters_55 : decode b_M_letters 55 = .ok (.invokevirtual 116, 3) := by decide +kernel
theorem d_M_letters_58 : decode b_M_letters 58 = .ok (.pop, 1) := by decide +kernel
theorem d_M_letters_59 : decode b_M_letters 59 = .ok (.aload_n 0, 1) := by decide +kernel
theorem d_M_letters_60 : decode b_M_letters 60 = .ok (.getfield 100, 3) := by decide +kernel
theorem d_M_letters_63 : decode b_M_letters 63 = .ok (.ifCond .ge 9, 3) := by decide +kernel
theorem d_M_letters_66 : decode b_M_letters 66 = .ok (.aload_n 0, 1) := by decide +kernel
theorem d_M_letters_67 : decode b_M_letters 67 = .ok (.iconst 2, 1) := by decide +kernel
theorem d_M_letters_68 : decode b_M_letters 68 = .ok (.invokevirtual 56, 3) := by decide +kernel
theorem d_M_letters_71 : decode b_M_letters 71 = .ok (.ireturn, 1) := by decide +kernel
theorem d_M_letters_72 : decode b_M_letters 72 = .ok (.iload 5, 2) := by decide +kernel
theorem d_M_letters_74 : decode b_M_letters 74 = .ok (.aload_n 0, 1) := by decide +kernel
theorem d_M_letters_75 : decode b_M_letters 75 = .ok (.getfield 100, 3) := by decide +kernel
theorem d_M_letters_78 : decode b_M_letters 78 = .ok (.iadd, 1) := by decide +kernel
theorem d_M_letters_79 : decode b_M_letters 79 = .ok (.istore 5, 2) := by decide +kernel
theorem d_M_letters_81 : decode b_M_letters 81 = .ok (.iinc 4 1, 3) := by decide +kernel
theorem d_M_letters_84 : decode b_M_letters 84 = .ok (.goto (-44), 3) := by decide +kernel
theorem d_M_letters_87 : decode b_M_letters 87 = .ok (.iload 4, 2) := by decide +kernel
theorem d_M_letters_89 : decode b_M_letters 89 = .ok (.ireturn, 1) := by decide +kernel
