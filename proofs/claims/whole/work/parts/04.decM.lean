theorem dX8_init_0 : decode cX8_init 0 = .ok (.aload_n 0, 1) := by decide +kernel
theorem dX8_init_1 : decode cX8_init 1 = .ok (.invokespecial 1, 3) := by decide +kernel
theorem dX8_init_4 : decode cX8_init 4 = .ok (.aload_n 0, 1) := by decide +kernel
theorem dX8_init_5 : decode cX8_init 5 = .ok (.bipush 8, 2) := by decide +kernel
theorem dX8_init_7 : decode cX8_init 7 = .ok (.newarray .int, 2) := by decide +kernel
theorem dX8_init_9 : decode cX8_init 9 = .ok (.putfield 7, 3) := by decide +kernel
theorem dX8_init_12 : decode cX8_init 12 = .ok (.aload_n 0, 1) := by decide +kernel
theorem dX8_init_13 : decode cX8_init 13 = .ok (.bipush 6, 2) := by decide +kernel
theorem dX8_init_15 : decode cX8_init 15 = .ok (.newarray .boolean, 2) := by decide +kernel
theorem dX8_init_17 : decode cX8_init 17 = .ok (.putfield 13, 3) := by decide +kernel
theorem dX8_init_20 : decode cX8_init 20 = .ok (.aload_n 0, 1) := by decide +kernel
theorem dX8_init_21 : decode cX8_init 21 = .ok (.bipush 6, 2) := by decide +kernel
theorem dX8_init_23 : decode cX8_init 23 = .ok (.newarray .int, 2) := by decide +kernel
theorem dX8_init_25 : decode cX8_init 25 = .ok (.putfield 17, 3) := by decide +kernel
theorem dX8_init_28 : decode cX8_init 28 = .ok (.aload_n 0, 1) := by decide +kernel
theorem dX8_init_29 : decode cX8_init 29 = .ok (.bipush 18, 2) := by decide +kernel
theorem dX8_init_31 : decode cX8_init 31 = .ok (.newarray .int, 2) := by decide +kernel
theorem dX8_init_33 : decode cX8_init 33 = .ok (.putfield 20, 3) := by decide +kernel
theorem dX8_init_36 : decode cX8_init 36 = .ok (.aload_n 0, 1) := by decide +kernel
theorem dX8_init_37 : decode cX8_init 37 = .ok (.bipush 6, 2) := by decide +kernel
theorem dX8_init_39 : decode cX8_init 39 = .ok (.newarray .int, 2) := by decide +kernel
theorem dX8_init_41 : decode cX8_init 41 = .ok (.putfield 23, 3) := by decide +kernel
theorem dX8_init_44 : decode cX8_init 44 = .ok (.aload_n 0, 1) := by decide +kernel
theorem dX8_init_45 : decode cX8_init 45 = .ok (.bipush 30, 2) := by decide +kernel
theorem dX8_init_47 : decode cX8_init 47 = .ok (.newarray .int, 2) := by decide +kernel
theorem dX8_init_49 : decode cX8_init 49 = .ok (.putfield 26, 3) := by decide +kernel
theorem dX8_init_52 : decode cX8_init 52 = .ok (.aload_n 0, 1) := by decide +kernel
theorem dX8_init_53 : decode cX8_init 53 = .ok (.bipush 30, 2) := by decide +kernel
theorem dX8_init_55 : decode cX8_init 55 = .ok (.newarray .int, 2) := by decide +kernel
theorem dX8_init_57 : decode cX8_init 57 = .ok (.putfield 29, 3) := by decide +kernel
theorem dX8_init_60 : decode cX8_init 60 = .ok (.aload_n 0, 1) := by decide +kernel
theorem dX8_init_61 : decode cX8_init 61 = .ok (.bipush 30, 2) := by decide +kernel
theorem dX8_init_63 : decode cX8_init 63 = .ok (.newarray .int, 2) := by decide +kernel
theorem dX8_init_65 : decode cX8_init 65 = .ok (.putfield 32, 3) := by decide +kernel
theorem dX8_init_68 : decode cX8_init 68 = .ok (.aload_n 0, 1) := by decide +kernel
theorem dX8_init_69 : decode cX8_init 69 = .ok (.bipush 30, 2) := by decide +kernel
theorem dX8_init_71 : decode cX8_init 71 = .ok (.newarray .int, 2) := by decide +kernel
theorem dX8_init_73 : decode cX8_init 73 = .ok (.putfield 35, 3) := by decide +kernel
theorem dX8_init_76 : decode cX8_init 76 = .ok (.aload_n 0, 1) := by decide +kernel
theorem dX8_init_77 : decode cX8_init 77 = .ok (.bipush 30, 2) := by decide +kernel
theorem dX8_init_79 : decode cX8_init 79 = .ok (.newarray .int, 2) := by decide +kernel
theorem dX8_init_81 : decode cX8_init 81 = .ok (.putfield 38, 3) := by decide +kernel
theorem dX8_init_84 : decode cX8_init 84 = .ok (.aload_n 0, 1) := by decide +kernel
theorem dX8_init_85 : decode cX8_init 85 = .ok (.bipush 30, 2) := by decide +kernel
theorem dX8_init_87 : decode cX8_init 87 = .ok (.newarray .int, 2) := by decide +kernel
theorem dX8_init_89 : decode cX8_init 89 = .ok (.putfield 41, 3) := by decide +kernel
theorem dX8_init_92 : decode cX8_init 92 = .ok (.aload_n 0, 1) := by decide +kernel
theorem dX8_init_93 : decode cX8_init 93 = .ok (.bipush 30, 2) := by decide +kernel
theorem dX8_init_95 : decode cX8_init 95 = .ok (.newarray .int, 2) := by decide +kernel
theorem dX8_init_97 : decode cX8_init 97 = .ok (.putfield 44, 3) := by decide +kernel
theorem dX8_init_100 : decode cX8_init 100 = .ok (.aload_n 0, 1) := by decide +kernel
theorem dX8_init_101 : decode cX8_init 101 = .ok (.bipush 10, 2) := by decide +kernel
theorem dX8_init_103 : decode cX8_init 103 = .ok (.newarray .int, 2) := by decide +kernel
theorem dX8_init_105 : decode cX8_init 105 = .ok (.putfield 47, 3) := by decide +kernel
theorem dX8_init_108 : decode cX8_init 108 = .ok (.aload_n 0, 1) := by decide +kernel
theorem dX8_init_109 : decode cX8_init 109 = .ok (.bipush 10, 2) := by decide +kernel
theorem dX8_init_111 : decode cX8_init 111 = .ok (.newarray .int, 2) := by decide +kernel
theorem dX8_init_113 : decode cX8_init 113 = .ok (.putfield 50, 3) := by decide +kernel
theorem dX8_init_116 : decode cX8_init 116 = .ok (.aload_n 0, 1) := by decide +kernel
theorem dX8_init_117 : decode cX8_init 117 = .ok (.bipush 10, 2) := by decide +kernel
theorem dX8_init_119 : decode cX8_init 119 = .ok (.newarray .int, 2) := by decide +kernel
theorem dX8_init_121 : decode cX8_init 121 = .ok (.putfield 53, 3) := by decide +kernel
theorem dX8_init_124 : decode cX8_init 124 = .ok (.aload_n 0, 1) := by decide +kernel
theorem dX8_init_125 : decode cX8_init 125 = .ok (.bipush 10, 2) := by decide +kernel
theorem dX8_init_127 : decode cX8_init 127 = .ok (.newarray .int, 2) := by decide +kernel
theorem dX8_init_129 : decode cX8_init 129 = .ok (.putfield 56, 3) := by decide +kernel
theorem dX8_init_132 : decode cX8_init 132 = .ok (.aload_n 0, 1) := by decide +kernel
theorem dX8_init_133 : decode cX8_init 133 = .ok (.bipush 10, 2) := by decide +kernel
theorem dX8_init_135 : decode cX8_init 135 = .ok (.newarray .int, 2) := by decide +kernel
theorem dX8_init_137 : decode cX8_init 137 = .ok (.putfield 59, 3) := by decide +kernel
theorem dX8_init_140 : decode cX8_init 140 = .ok (.aload_n 0, 1) := by decide +kernel
theorem dX8_init_141 : decode cX8_init 141 = .ok (.bipush 10, 2) := by decide +kernel
theorem dX8_init_143 : decode cX8_init 143 = .ok (.newarray .int, 2) := by decide +kernel
theorem dX8_init_145 : decode cX8_init 145 = .ok (.putfield 62, 3) := by decide +kernel
theorem dX8_init_148 : decode cX8_init 148 = .ok (.aload_n 0, 1) := by decide +kernel
theorem dX8_init_149 : decode cX8_init 149 = .ok (.bipush 10, 2) := by decide +kernel
theorem dX8_init_151 : decode cX8_init 151 = .ok (.newarray .int, 2) := by decide +kernel
theorem dX8_init_153 : decode cX8_init 153 = .ok (.putfield 65, 3) := by decide +kernel
theorem dX8_init_156 : decode cX8_init 156 = .ok (.aload_n 0, 1) := by decide +kernel
theorem dX8_init_157 : decode cX8_init 157 = .ok (.bipush 10, 2) := by decide +kernel
theorem dX8_init_159 : decode cX8_init 159 = .ok (.newarray .boolean, 2) := by decide +kernel
theorem dX8_init_161 : decode cX8_init 161 = .ok (.putfield 68, 3) := by decide +kernel
theorem dX8_init_164 : decode cX8_init 164 = .ok (.aload_n 0, 1) := by decide +kernel
theorem dX8_init_165 : decode cX8_init 165 = .ok (.bipush 10, 2) := by decide +kernel
theorem dX8_init_167 : decode cX8_init 167 = .ok (.newarray .int, 2) := by decide +kernel
theorem dX8_init_169 : decode cX8_init 169 = .ok (.putfield 71, 3) := by decide +kernel
theorem dX8_init_172 : decode cX8_init 172 = .ok (.aload_n 0, 1) := by decide +kernel
theorem dX8_init_173 : decode cX8_init 173 = .ok (.bipush 10, 2) := by decide +kernel
theorem dX8_init_175 : decode cX8_init 175 = .ok (.newarray .int, 2) := by decide +kernel
theorem dX8_init_177 : decode cX8_init 177 = .ok (.putfield 74, 3) := by decide +kernel
theorem dX8_init_180 : decode cX8_init 180 = .ok (.aload_n 0, 1) := by decide +kernel
theorem dX8_init_181 : decode cX8_init 181 = .ok (.bipush 10, 2) := by decide +kernel
theorem dX8_init_183 : decode cX8_init 183 = .ok (.newarray .int, 2) := by decide +kernel
theorem dX8_init_185 : decode cX8_init 185 = .ok (.putfield 77, 3) := by decide +kernel
theorem dX8_init_188 : decode cX8_init 188 = .ok (.aload_n 0, 1) := by decide +kernel
theorem dX8_init_189 : decode cX8_init 189 = .ok (.bipush 60, 2) := by decide +kernel
theorem dX8_init_191 : decode cX8_init 191 = .ok (.newarray .int, 2) := by decide +kernel
theorem dX8_init_193 : decode cX8_init 193 = .ok (.putfield 80, 3) := by decide +kernel
theorem dX8_init_196 : decode cX8_init 196 = .ok (.aload_n 0, 1) := by decide +kernel
theorem dX8_init_197 : decode cX8_init 197 = .ok (.sipush 400, 3) := by decide +kernel
theorem dX8_init_200 : decode cX8_init 200 = .ok (.newarray .int, 2) := by decide +kernel
theorem dX8_init_202 : decode cX8_init 202 = .ok (.putfield 83, 3) := by decide +kernel
theorem dX8_init_205 : decode cX8_init 205 = .ok (.aload_n 0, 1) := by decide +kernel
theorem dX8_init_206 : decode cX8_init 206 = .ok (.sipush 400, 3) := by decide +kernel
theorem dX8_init_209 : decode cX8_init 209 = .ok (.newarray .int, 2) := by decide +kernel
theorem dX8_init_211 : decode cX8_init 211 = .ok (.putfield 86, 3) := by decide +kernel
theorem dX8_init_214 : decode cX8_init 214 = .ok (.aload_n 0, 1) := by decide +kernel
theorem dX8_init_215 : decode cX8_init 215 = .ok (.sipush 400, 3) := by decide +kernel
theorem dX8_init_218 : decode cX8_init 218 = .ok (.newarray .int, 2) := by decide +kernel
theorem dX8_init_220 : decode cX8_init 220 = .ok (.putfield 89, 3) := by decide +kernel
theorem dX8_init_223 : decode cX8_init 223 = .ok (.aload_n 0, 1) := by decide +kernel
theorem dX8_init_224 : decode cX8_init 224 = .ok (.sipush 400, 3) := by decide +kernel
theorem dX8_init_227 : decode cX8_init 227 = .ok (.newarray .int, 2) := by decide +kernel
theorem dX8_init_229 : decode cX8_init 229 = .ok (.putfield 92, 3) := by decide +kernel
theorem dX8_init_232 : decode cX8_init 232 = .ok (.aload_n 0, 1) := by decide +kernel
theorem dX8_init_233 : decode cX8_init 233 = .ok (.sipush 400, 3) := by decide +kernel
theorem dX8_init_236 : decode cX8_init 236 = .ok (.newarray .int, 2) := by decide +kernel
theorem dX8_init_238 : decode cX8_init 238 = .ok (.putfield 95, 3) := by decide +kernel
theorem dX8_init_241 : decode cX8_init 241 = .ok (.aload_n 0, 1) := by decide +kernel
theorem dX8_init_242 : decode cX8_init 242 = .ok (.sipush 400, 3) := by decide +kernel
theorem dX8_init_245 : decode cX8_init 245 = .ok (.newarray .int, 2) := by decide +kernel
theorem dX8_init_247 : decode cX8_init 247 = .ok (.putfield 98, 3) := by decide +kernel
theorem dX8_init_250 : decode cX8_init 250 = .ok (.aload_n 0, 1) := by decide +kernel
theorem dX8_init_251 : decode cX8_init 251 = .ok (.sipush 400, 3) := by decide +kernel
theorem dX8_init_254 : decode cX8_init 254 = .ok (.newarray .int, 2) := by decide +kernel
theorem dX8_init_256 : decode cX8_init 256 = .ok (.putfield 101, 3) := by decide +kernel
theorem dX8_init_259 : decode cX8_init 259 = .ok (.aload_n 0, 1) := by decide +kernel
theorem dX8_init_260 : decode cX8_init 260 = .ok (.bipush 36, 2) := by decide +kernel
theorem dX8_init_262 : decode cX8_init 262 = .ok (.newarray .int, 2) := by decide +kernel
theorem dX8_init_264 : decode cX8_init 264 = .ok (.putfield 104, 3) := by decide +kernel
theorem dX8_init_267 : decode cX8_init 267 = .ok (.aload_n 0, 1) := by decide +kernel
theorem dX8_init_268 : decode cX8_init 268 = .ok (.bipush 36, 2) := by decide +kernel
theorem dX8_init_270 : decode cX8_init 270 = .ok (.newarray .int, 2) := by decide +kernel
theorem dX8_init_272 : decode cX8_init 272 = .ok (.putfield 107, 3) := by decide +kernel
theorem dX8_init_275 : decode cX8_init 275 = .ok (.iconst 0, 1) := by decide +kernel
theorem dX8_init_276 : decode cX8_init 276 = .ok (.istore_n 1, 1) := by decide +kernel
theorem dX8_init_277 : decode cX8_init 277 = .ok (.iload_n 1, 1) := by decide +kernel
theorem dX8_init_278 : decode cX8_init 278 = .ok (.bipush 6, 2) := by decide +kernel
theorem dX8_init_280 : decode cX8_init 280 = .ok (.if_icmp .ge 52, 3) := by decide +kernel
theorem dX8_init_283 : decode cX8_init 283 = .ok (.aload_n 0, 1) := by decide +kernel
theorem dX8_init_284 : decode cX8_init 284 = .ok (.getfield 17, 3) := by decide +kernel
theorem dX8_init_287 : decode cX8_init 287 = .ok (.iload_n 1, 1) := by decide +kernel
theorem dX8_init_288 : decode cX8_init 288 = .ok (.iconst (-1), 1) := by decide +kernel
theorem dX8_init_289 : decode cX8_init 289 = .ok (.iastore, 1) := by decide +kernel
theorem dX8_init_290 : decode cX8_init 290 = .ok (.aload_n 0, 1) := by decide +kernel
theorem dX8_init_291 : decode cX8_init 291 = .ok (.getfield 20, 3) := by decide +kernel
theorem dX8_init_294 : decode cX8_init 294 = .ok (.iconst 3, 1) := by decide +kernel
theorem dX8_init_295 : decode cX8_init 295 = .ok (.iload_n 1, 1) := by decide +kernel
theorem dX8_init_296 : decode cX8_init 296 = .ok (.imul, 1) := by decide +kernel
theorem dX8_init_297 : decode cX8_init 297 = .ok (.iconst 0, 1) := by decide +kernel
theorem dX8_init_298 : decode cX8_init 298 = .ok (.iadd, 1) := by decide +kernel
theorem dX8_init_299 : decode cX8_init 299 = .ok (.bipush 10, 2) := by decide +kernel
theorem dX8_init_301 : decode cX8_init 301 = .ok (.iastore, 1) := by decide +kernel
theorem dX8_init_302 : decode cX8_init 302 = .ok (.aload_n 0, 1) := by decide +kernel
theorem dX8_init_303 : decode cX8_init 303 = .ok (.getfield 20, 3) := by decide +kernel
theorem dX8_init_306 : decode cX8_init 306 = .ok (.iconst 3, 1) := by decide +kernel
theorem dX8_init_307 : decode cX8_init 307 = .ok (.iload_n 1, 1) := by decide +kernel
theorem dX8_init_308 : decode cX8_init 308 = .ok (.imul, 1) := by decide +kernel
theorem dX8_init_309 : decode cX8_init 309 = .ok (.iconst 1, 1) := by decide +kernel
theorem dX8_init_310 : decode cX8_init 310 = .ok (.iadd, 1) := by decide +kernel
theorem dX8_init_311 : decode cX8_init 311 = .ok (.bipush 50, 2) := by decide +kernel
theorem dX8_init_313 : decode cX8_init 313 = .ok (.iastore, 1) := by decide +kernel
theorem dX8_init_314 : decode cX8_init 314 = .ok (.aload_n 0, 1) := by decide +kernel
theorem dX8_init_315 : decode cX8_init 315 = .ok (.getfield 20, 3) := by decide +kernel
theorem dX8_init_318 : decode cX8_init 318 = .ok (.iconst 3, 1) := by decide +kernel
theorem dX8_init_319 : decode cX8_init 319 = .ok (.iload_n 1, 1) := by decide +kernel
theorem dX8_init_320 : decode cX8_init 320 = .ok (.imul, 1) := by decide +kernel
theorem dX8_init_321 : decode cX8_init 321 = .ok (.iconst 2, 1) := by decide +kernel
theorem dX8_init_322 : decode cX8_init 322 = .ok (.iadd, 1) := by decide +kernel
theorem dX8_init_323 : decode cX8_init 323 = .ok (.bipush 20, 2) := by decide +kernel
theorem dX8_init_325 : decode cX8_init 325 = .ok (.iastore, 1) := by decide +kernel
theorem dX8_init_326 : decode cX8_init 326 = .ok (.iinc 1 1, 3) := by decide +kernel
theorem dX8_init_329 : decode cX8_init 329 = .ok (.goto (-52), 3) := by decide +kernel
theorem dX8_init_332 : decode cX8_init 332 = .ok (.iconst 0, 1) := by decide +kernel
theorem dX8_init_333 : decode cX8_init 333 = .ok (.istore_n 1, 1) := by decide +kernel
theorem dX8_init_334 : decode cX8_init 334 = .ok (.iload_n 1, 1) := by decide +kernel
theorem dX8_init_335 : decode cX8_init 335 = .ok (.bipush 60, 2) := by decide +kernel
theorem dX8_init_337 : decode cX8_init 337 = .ok (.if_icmp .ge 16, 3) := by decide +kernel
theorem dX8_init_340 : decode cX8_init 340 = .ok (.aload_n 0, 1) := by decide +kernel
theorem dX8_init_341 : decode cX8_init 341 = .ok (.getfield 80, 3) := by decide +kernel
theorem dX8_init_344 : decode cX8_init 344 = .ok (.iload_n 1, 1) := by decide +kernel
theorem dX8_init_345 : decode cX8_init 345 = .ok (.iconst (-1), 1) := by decide +kernel
theorem dX8_init_346 : decode cX8_init 346 = .ok (.iastore, 1) := by decide +kernel
theorem dX8_init_347 : decode cX8_init 347 = .ok (.iinc 1 1, 3) := by decide +kernel
theorem dX8_init_350 : decode cX8_init 350 = .ok (.goto (-16), 3) := by decide +kernel
theorem dX8_init_353 : decode cX8_init 353 = .ok (.return_, 1) := by decide +kernel
theorem dX8_thrown_0 : decode cX8_thrown 0 = .ok (.aload_n 0, 1) := by decide +kernel
theorem dX8_thrown_1 : decode cX8_thrown 1 = .ok (.getfield 110, 3) := by decide +kernel
theorem dX8_thrown_4 : decode cX8_thrown 4 = .ok (.ireturn, 1) := by decide +kernel
theorem dX8_in_0 : decode cX8_in 0 = .ok (.iload_n 0, 1) := by decide +kernel
theorem dX8_in_1 : decode cX8_in 1 = .ok (.iload_n 1, 1) := by decide +kernel
theorem dX8_in_2 : decode cX8_in 2 = .ok (.if_icmp .lt 12, 3) := by decide +kernel
theorem dX8_in_5 : decode cX8_in 5 = .ok (.iload_n 0, 1) := by decide +kernel
theorem dX8_in_6 : decode cX8_in 6 = .ok (.iload_n 2, 1) := by decide +kernel
theorem dX8_in_7 : decode cX8_in 7 = .ok (.if_icmp .gt 7, 3) := by decide +kernel
theorem dX8_in_10 : decode cX8_in 10 = .ok (.iconst 1, 1) := by decide +kernel
theorem dX8_in_11 : decode cX8_in 11 = .ok (.goto 4, 3) := by decide +kernel
theorem dX8_in_14 : decode cX8_in 14 = .ok (.iconst 0, 1) := by decide +kernel
theorem dX8_in_15 : decode cX8_in 15 = .ok (.ireturn, 1) := by decide +kernel
theorem dX8_isNetwork_0 : decode cX8_isNetwork 0 = .ok (.iload_n 0, 1) := by decide +kernel
theorem dX8_isNetwork_1 : decode cX8_isNetwork 1 = .ok (.iconst 0, 1) := by decide +kernel
theorem dX8_isNetwork_2 : decode cX8_isNetwork 2 = .ok (.iconst 5, 1) := by decide +kernel
theorem dX8_isNetwork_3 : decode cX8_isNetwork 3 = .ok (.invokestatic 114, 3) := by decide +kernel
theorem dX8_isNetwork_6 : decode cX8_isNetwork 6 = .ok (.ireturn, 1) := by decide +kernel
theorem dX8_isPlace_0 : decode cX8_isPlace 0 = .ok (.iload_n 0, 1) := by decide +kernel
theorem dX8_isPlace_1 : decode cX8_isPlace 1 = .ok (.iconst 0, 1) := by decide +kernel
theorem dX8_isPlace_2 : decode cX8_isPlace 2 = .ok (.bipush 7, 2) := by decide +kernel
theorem dX8_isPlace_4 : decode cX8_isPlace 4 = .ok (.invokestatic 114, 3) := by decide +kernel
theorem dX8_isPlace_7 : decode cX8_isPlace 7 = .ok (.ireturn, 1) := by decide +kernel
theorem dX8_isSubscriber_0 : decode cX8_isSubscriber 0 = .ok (.iload_n 1, 1) := by decide +kernel
theorem dX8_isSubscriber_1 : decode cX8_isSubscriber 1 = .ok (.iconst 0, 1) := by decide +kernel
theorem dX8_isSubscriber_2 : decode cX8_isSubscriber 2 = .ok (.aload_n 0, 1) := by decide +kernel
theorem dX8_isSubscriber_3 : decode cX8_isSubscriber 3 = .ok (.getfield 118, 3) := by decide +kernel
theorem dX8_isSubscriber_6 : decode cX8_isSubscriber 6 = .ok (.iconst 1, 1) := by decide +kernel
theorem dX8_isSubscriber_7 : decode cX8_isSubscriber 7 = .ok (.isub, 1) := by decide +kernel
theorem dX8_isSubscriber_8 : decode cX8_isSubscriber 8 = .ok (.invokestatic 114, 3) := by decide +kernel
theorem dX8_isSubscriber_11 : decode cX8_isSubscriber 11 = .ok (.ireturn, 1) := by decide +kernel
theorem dX8_isIn_0 : decode cX8_isIn 0 = .ok (.iload_n 0, 1) := by decide +kernel
theorem dX8_isIn_1 : decode cX8_isIn 1 = .ok (.iload_n 1, 1) := by decide +kernel
theorem dX8_isIn_2 : decode cX8_isIn 2 = .ok (.ishr, 1) := by decide +kernel
theorem dX8_isIn_3 : decode cX8_isIn 3 = .ok (.iconst 1, 1) := by decide +kernel
theorem dX8_isIn_4 : decode cX8_isIn 4 = .ok (.iand, 1) := by decide +kernel
theorem dX8_isIn_5 : decode cX8_isIn 5 = .ok (.iconst 1, 1) := by decide +kernel
theorem dX8_isIn_6 : decode cX8_isIn 6 = .ok (.if_icmp .ne 7, 3) := by decide +kernel
theorem dX8_isIn_9 : decode cX8_isIn 9 = .ok (.iconst 1, 1) := by decide +kernel
theorem dX8_isIn_10 : decode cX8_isIn 10 = .ok (.goto 4, 3) := by decide +kernel
theorem dX8_isIn_13 : decode cX8_isIn 13 = .ok (.iconst 0, 1) := by decide +kernel
theorem dX8_isIn_14 : decode cX8_isIn 14 = .ok (.ireturn, 1) := by decide +kernel
theorem dX8_reach_0 : decode cX8_reach 0 = .ok (.aload_n 0, 1) := by decide +kernel
theorem dX8_reach_1 : decode cX8_reach 1 = .ok (.iload_n 1, 1) := by decide +kernel
theorem dX8_reach_2 : decode cX8_reach 2 = .ok (.invokestatic 121, 3) := by decide +kernel
theorem dX8_reach_5 : decode cX8_reach 5 = .ok (.ifCond .ne 7, 3) := by decide +kernel
theorem dX8_reach_8 : decode cX8_reach 8 = .ok (.iconst 1, 1) := by decide +kernel
theorem dX8_reach_9 : decode cX8_reach 9 = .ok (.goto 18, 3) := by decide +kernel
theorem dX8_reach_12 : decode cX8_reach 12 = .ok (.iload_n 2, 1) := by decide +kernel
theorem dX8_reach_13 : decode cX8_reach 13 = .ok (.iconst 0, 1) := by decide +kernel
theorem dX8_reach_14 : decode cX8_reach 14 = .ok (.bipush 63, 2) := by decide +kernel
theorem dX8_reach_16 : decode cX8_reach 16 = .ok (.invokestatic 114, 3) := by decide +kernel
theorem dX8_reach_19 : decode cX8_reach 19 = .ok (.ifCond .eq 7, 3) := by decide +kernel
theorem dX8_reach_22 : decode cX8_reach 22 = .ok (.iconst 0, 1) := by decide +kernel
theorem dX8_reach_23 : decode cX8_reach 23 = .ok (.goto 4, 3) := by decide +kernel
theorem dX8_reach_26 : decode cX8_reach 26 = .ok (.iconst 2, 1) := by decide +kernel
theorem dX8_reach_27 : decode cX8_reach 27 = .ok (.putfield 110, 3) := by decide +kernel
theorem dX8_reach_30 : decode cX8_reach 30 = .ok (.aload_n 0, 1) := by decide +kernel
theorem dX8_reach_31 : decode cX8_reach 31 = .ok (.getfield 110, 3) := by decide +kernel
theorem dX8_reach_34 : decode cX8_reach 34 = .ok (.ifCond .le 5, 3) := by decide +kernel
theorem dX8_reach_37 : decode cX8_reach 37 = .ok (.iconst 0, 1) := by decide +kernel
theorem dX8_reach_38 : decode cX8_reach 38 = .ok (.ireturn, 1) := by decide +kernel
theorem dX8_reach_39 : decode cX8_reach 39 = .ok (.aload_n 0, 1) := by decide +kernel
theorem dX8_reach_40 : decode cX8_reach 40 = .ok (.getfield 7, 3) := by decide +kernel
theorem dX8_reach_43 : decode cX8_reach 43 = .ok (.iload_n 1, 1) := by decide +kernel
theorem dX8_reach_44 : decode cX8_reach 44 = .ok (.iaload, 1) := by decide +kernel
theorem dX8_reach_45 : decode cX8_reach 45 = .ok (.istore_n 3, 1) := by decide +kernel
theorem dX8_reach_46 : decode cX8_reach 46 = .ok (.aload_n 0, 1) := by decide +kernel
theorem dX8_reach_47 : decode cX8_reach 47 = .ok (.getfield 7, 3) := by decide +kernel
theorem dX8_reach_50 : decode cX8_reach 50 = .ok (.iload_n 1, 1) := by decide +kernel
theorem dX8_reach_51 : decode cX8_reach 51 = .ok (.iload_n 2, 1) := by decide +kernel
theorem dX8_reach_52 : decode cX8_reach 52 = .ok (.iastore, 1) := by decide +kernel
theorem dX8_reach_53 : decode cX8_reach 53 = .ok (.iconst 0, 1) := by decide +kernel
theorem dX8_reach_54 : decode cX8_reach 54 = .ok (.istore 4, 2) := by decide +kernel
theorem dX8_reach_56 : decode cX8_reach 56 = .ok (.iload 4, 2) := by decide +kernel
theorem dX8_reach_58 : decode cX8_reach 58 = .ok (.aload_n 0, 1) := by decide +kernel
theorem dX8_reach_59 : decode cX8_reach 59 = .ok (.getfield 118, 3) := by decide +kernel
theorem dX8_reach_62 : decode cX8_reach 62 = .ok (.if_icmp .ge 53, 3) := by decide +kernel
theorem dX8_reach_65 : decode cX8_reach 65 = .ok (.aload_n 0, 1) := by decide +kernel
theorem dX8_reach_66 : decode cX8_reach 66 = .ok (.getfield 50, 3) := by decide +kernel
theorem dX8_reach_69 : decode cX8_reach 69 = .ok (.iload 4, 2) := by decide +kernel
theorem dX8_reach_71 : decode cX8_reach 71 = .ok (.iaload, 1) := by decide +kernel
theorem dX8_reach_72 : decode cX8_reach 72 = .ok (.iload_n 1, 1) := by decide +kernel
theorem dX8_reach_73 : decode cX8_reach 73 = .ok (.if_icmp .ne 36, 3) := by decide +kernel
theorem dX8_reach_76 : decode cX8_reach 76 = .ok (.aload_n 0, 1) := by decide +kernel
theorem dX8_reach_77 : decode cX8_reach 77 = .ok (.getfield 56, 3) := by decide +kernel
theorem dX8_reach_80 : decode cX8_reach 80 = .ok (.iload 4, 2) := by decide +kernel
theorem dX8_reach_82 : decode cX8_reach 82 = .ok (.iaload, 1) := by decide +kernel
theorem dX8_reach_83 : decode cX8_reach 83 = .ok (.iconst (-1), 1) := by decide +kernel
theorem dX8_reach_84 : decode cX8_reach 84 = .ok (.if_icmp .eq 25, 3) := by decide +kernel
theorem dX8_reach_87 : decode cX8_reach 87 = .ok (.iload_n 2, 1) := by decide +kernel
theorem dX8_reach_88 : decode cX8_reach 88 = .ok (.aload_n 0, 1) := by decide +kernel
theorem dX8_reach_89 : decode cX8_reach 89 = .ok (.getfield 56, 3) := by decide +kernel
theorem dX8_reach_92 : decode cX8_reach 92 = .ok (.iload 4, 2) := by decide +kernel
theorem dX8_reach_94 : decode cX8_reach 94 = .ok (.iaload, 1) := by decide +kernel
theorem dX8_reach_95 : decode cX8_reach 95 = .ok (.invokestatic 125, 3) := by decide +kernel
theorem dX8_reach_98 : decode cX8_reach 98 = .ok (.ifCond .ne 11, 3) := by decide +kernel
theorem dX8_reach_101 : decode cX8_reach 101 = .ok (.aload_n 0, 1) := by decide +kernel
theorem dX8_reach_102 : decode cX8_reach 102 = .ok (.getfield 56, 3) := by decide +kernel
theorem dX8_reach_105 : decode cX8_reach 105 = .ok (.iload 4, 2) := by decide +kernel
theorem dX8_reach_107 : decode cX8_reach 107 = .ok (.iconst (-1), 1) := by decide +kernel
theorem dX8_reach_108 : decode cX8_reach 108 = .ok (.iastore, 1) := by decide +kernel
theorem dX8_reach_109 : decode cX8_reach 109 = .ok (.iinc 4 1, 3) := by decide +kernel
theorem dX8_reach_112 : decode cX8_reach 112 = .ok (.goto (-56), 3) := by decide +kernel
theorem dX8_reach_115 : decode cX8_reach 115 = .ok (.iload_n 3, 1) := by decide +kernel
theorem dX8_reach_116 : decode cX8_reach 116 = .ok (.ireturn, 1) := by decide +kernel
theorem dX8_empties_0 : decode cX8_empties 0 = .ok (.iconst 0, 1) := by decide +kernel
theorem dX8_empties_1 : decode cX8_empties 1 = .ok (.istore_n 2, 1) := by decide +kernel
theorem dX8_empties_2 : decode cX8_empties 2 = .ok (.iload_n 2, 1) := by decide +kernel
theorem dX8_empties_3 : decode cX8_empties 3 = .ok (.bipush 10, 2) := by decide +kernel
theorem dX8_empties_5 : decode cX8_empties 5 = .ok (.if_icmp .ge 21, 3) := by decide +kernel
theorem dX8_empties_8 : decode cX8_empties 8 = .ok (.aload_n 0, 1) := by decide +kernel
theorem dX8_empties_9 : decode cX8_empties 9 = .ok (.getfield 80, 3) := by decide +kernel
theorem dX8_empties_12 : decode cX8_empties 12 = .ok (.bipush 10, 2) := by decide +kernel
theorem dX8_empties_14 : decode cX8_empties 14 = .ok (.iload_n 1, 1) := by decide +kernel
theorem dX8_empties_15 : decode cX8_empties 15 = .ok (.imul, 1) := by decide +kernel
theorem dX8_empties_16 : decode cX8_empties 16 = .ok (.iload_n 2, 1) := by decide +kernel
theorem dX8_empties_17 : decode cX8_empties 17 = .ok (.iadd, 1) := by decide +kernel
theorem dX8_empties_18 : decode cX8_empties 18 = .ok (.iconst (-1), 1) := by decide +kernel
theorem dX8_empties_19 : decode cX8_empties 19 = .ok (.iastore, 1) := by decide +kernel
theorem dX8_empties_20 : decode cX8_empties 20 = .ok (.iinc 2 1, 3) := by decide +kernel
theorem dX8_empties_23 : decode cX8_empties 23 = .ok (.goto (-21), 3) := by decide +kernel
theorem dX8_empties_26 : decode cX8_empties 26 = .ok (.return_, 1) := by decide +kernel
theorem dX8_dead_0 : decode cX8_dead 0 = .ok (.aload_n 0, 1) := by decide +kernel
theorem dX8_dead_1 : decode cX8_dead 1 = .ok (.iload_n 1, 1) := by decide +kernel
theorem dX8_dead_2 : decode cX8_dead 2 = .ok (.invokestatic 129, 3) := by decide +kernel
theorem dX8_dead_5 : decode cX8_dead 5 = .ok (.ifCond .eq 7, 3) := by decide +kernel
theorem dX8_dead_8 : decode cX8_dead 8 = .ok (.iconst 0, 1) := by decide +kernel
theorem dX8_dead_9 : decode cX8_dead 9 = .ok (.goto 4, 3) := by decide +kernel
theorem dX8_dead_12 : decode cX8_dead 12 = .ok (.iconst 1, 1) := by decide +kernel
theorem dX8_dead_13 : decode cX8_dead 13 = .ok (.putfield 110, 3) := by decide +kernel
theorem dX8_dead_16 : decode cX8_dead 16 = .ok (.aload_n 0, 1) := by decide +kernel
theorem dX8_dead_17 : decode cX8_dead 17 = .ok (.getfield 110, 3) := by decide +kernel
theorem dX8_dead_20 : decode cX8_dead 20 = .ok (.ifCond .le 5, 3) := by decide +kernel
theorem dX8_dead_23 : decode cX8_dead 23 = .ok (.iconst 0, 1) := by decide +kernel
theorem dX8_dead_24 : decode cX8_dead 24 = .ok (.ireturn, 1) := by decide +kernel
theorem dX8_dead_25 : decode cX8_dead 25 = .ok (.aload_n 0, 1) := by decide +kernel
theorem dX8_dead_26 : decode cX8_dead 26 = .ok (.getfield 13, 3) := by decide +kernel
theorem dX8_dead_29 : decode cX8_dead 29 = .ok (.iload_n 1, 1) := by decide +kernel
theorem dX8_dead_30 : decode cX8_dead 30 = .ok (.baload, 1) := by decide +kernel
theorem dX8_dead_31 : decode cX8_dead 31 = .ok (.istore_n 3, 1) := by decide +kernel
theorem dX8_dead_32 : decode cX8_dead 32 = .ok (.aload_n 0, 1) := by decide +kernel
theorem dX8_dead_33 : decode cX8_dead 33 = .ok (.getfield 13, 3) := by decide +kernel
theorem dX8_dead_36 : decode cX8_dead 36 = .ok (.iload_n 1, 1) := by decide +kernel
theorem dX8_dead_37 : decode cX8_dead 37 = .ok (.iload_n 2, 1) := by decide +kernel
theorem dX8_dead_38 : decode cX8_dead 38 = .ok (.bastore, 1) := by decide +kernel
theorem dX8_dead_39 : decode cX8_dead 39 = .ok (.iload_n 2, 1) := by decide +kernel
theorem dX8_dead_40 : decode cX8_dead 40 = .ok (.ifCond .eq 55, 3) := by decide +kernel
theorem dX8_dead_43 : decode cX8_dead 43 = .ok (.aload_n 0, 1) := by decide +kernel
theorem dX8_dead_44 : decode cX8_dead 44 = .ok (.iload_n 1, 1) := by decide +kernel
theorem dX8_dead_45 : decode cX8_dead 45 = .ok (.invokevirtual 132, 3) := by decide +kernel
theorem dX8_dead_48 : decode cX8_dead 48 = .ok (.iconst 0, 1) := by decide +kernel
theorem dX8_dead_49 : decode cX8_dead 49 = .ok (.istore 4, 2) := by decide +kernel
theorem dX8_dead_51 : decode cX8_dead 51 = .ok (.iload 4, 2) := by decide +kernel
theorem dX8_dead_53 : decode cX8_dead 53 = .ok (.aload_n 0, 1) := by decide +kernel
theorem dX8_dead_54 : decode cX8_dead 54 = .ok (.getfield 118, 3) := by decide +kernel
theorem dX8_dead_57 : decode cX8_dead 57 = .ok (.if_icmp .ge 38, 3) := by decide +kernel
theorem dX8_dead_60 : decode cX8_dead 60 = .ok (.aload_n 0, 1) := by decide +kernel
theorem dX8_dead_61 : decode cX8_dead 61 = .ok (.getfield 56, 3) := by decide +kernel
theorem dX8_dead_64 : decode cX8_dead 64 = .ok (.iload 4, 2) := by decide +kernel
theorem dX8_dead_66 : decode cX8_dead 66 = .ok (.aload_n 0, 1) := by decide +kernel
theorem dX8_dead_67 : decode cX8_dead 67 = .ok (.getfield 56, 3) := by decide +kernel
theorem dX8_dead_70 : decode cX8_dead 70 = .ok (.iload 4, 2) := by decide +kernel
theorem dX8_dead_72 : decode cX8_dead 72 = .ok (.iaload, 1) := by decide +kernel
theorem dX8_dead_73 : decode cX8_dead 73 = .ok (.iload_n 1, 1) := by decide +kernel
theorem dX8_dead_74 : decode cX8_dead 74 = .ok (.if_icmp .ne 7, 3) := by decide +kernel
theorem dX8_dead_77 : decode cX8_dead 77 = .ok (.iconst (-1), 1) := by decide +kernel
theorem dX8_dead_78 : decode cX8_dead 78 = .ok (.goto 10, 3) := by decide +kernel
theorem dX8_dead_81 : decode cX8_dead 81 = .ok (.aload_n 0, 1) := by decide +kernel
theorem dX8_dead_82 : decode cX8_dead 82 = .ok (.getfield 56, 3) := by decide +kernel
theorem dX8_dead_85 : decode cX8_dead 85 = .ok (.iload 4, 2) := by decide +kernel
theorem dX8_dead_87 : decode cX8_dead 87 = .ok (.iaload, 1) := by decide +kernel
theorem dX8_dead_88 : decode cX8_dead 88 = .ok (.iastore, 1) := by decide +kernel
theorem dX8_dead_89 : decode cX8_dead 89 = .ok (.iinc 4 1, 3) := by decide +kernel
theorem dX8_dead_92 : decode cX8_dead 92 = .ok (.goto (-41), 3) := by decide +kernel
theorem dX8_dead_95 : decode cX8_dead 95 = .ok (.iload_n 3, 1) := by decide +kernel
theorem dX8_dead_96 : decode cX8_dead 96 = .ok (.ireturn, 1) := by decide +kernel
theorem dX8_agree_0 : decode cX8_agree 0 = .ok (.iload_n 1, 1) := by decide +kernel
theorem dX8_agree_1 : decode cX8_agree 1 = .ok (.invokestatic 129, 3) := by decide +kernel
theorem dX8_agree_4 : decode cX8_agree 4 = .ok (.ifCond .eq 14, 3) := by decide +kernel
theorem dX8_agree_7 : decode cX8_agree 7 = .ok (.iload_n 2, 1) := by decide +kernel
theorem dX8_agree_8 : decode cX8_agree 8 = .ok (.invokestatic 129, 3) := by decide +kernel
theorem dX8_agree_11 : decode cX8_agree 11 = .ok (.ifCond .eq 7, 3) := by decide +kernel
theorem dX8_agree_14 : decode cX8_agree 14 = .ok (.iconst 1, 1) := by decide +kernel
theorem dX8_agree_15 : decode cX8_agree 15 = .ok (.goto 4, 3) := by decide +kernel
theorem dX8_agree_18 : decode cX8_agree 18 = .ok (.iconst 0, 1) := by decide +kernel
theorem dX8_agree_19 : decode cX8_agree 19 = .ok (.istore 8, 2) := by decide +kernel
theorem dX8_agree_21 : decode cX8_agree 21 = .ok (.iload_n 1, 1) := by decide +kernel
theorem dX8_agree_22 : decode cX8_agree 22 = .ok (.iload_n 2, 1) := by decide +kernel
theorem dX8_agree_23 : decode cX8_agree 23 = .ok (.if_icmp .eq 64, 3) := by decide +kernel
theorem dX8_agree_26 : decode cX8_agree 26 = .ok (.iload_n 3, 1) := by decide +kernel
theorem dX8_agree_27 : decode cX8_agree 27 = .ok (.iconst 0, 1) := by decide +kernel
theorem dX8_agree_28 : decode cX8_agree 28 = .ok (.ldc 136, 2) := by decide +kernel
theorem dX8_agree_30 : decode cX8_agree 30 = .ok (.invokestatic 114, 3) := by decide +kernel
theorem dX8_agree_33 : decode cX8_agree 33 = .ok (.ifCond .eq 54, 3) := by decide +kernel
theorem dX8_agree_36 : decode cX8_agree 36 = .ok (.iload 4, 2) := by decide +kernel
theorem dX8_agree_38 : decode cX8_agree 38 = .ok (.iload_n 3, 1) := by decide +kernel
theorem dX8_agree_39 : decode cX8_agree 39 = .ok (.iconst 1, 1) := by decide +kernel
theorem dX8_agree_40 : decode cX8_agree 40 = .ok (.iadd, 1) := by decide +kernel
theorem dX8_agree_41 : decode cX8_agree 41 = .ok (.ldc 137, 2) := by decide +kernel
theorem dX8_agree_43 : decode cX8_agree 43 = .ok (.invokestatic 114, 3) := by decide +kernel
theorem dX8_agree_46 : decode cX8_agree 46 = .ok (.ifCond .eq 41, 3) := by decide +kernel
theorem dX8_agree_49 : decode cX8_agree 49 = .ok (.iload 5, 2) := by decide +kernel
theorem dX8_agree_51 : decode cX8_agree 51 = .ok (.iconst 0, 1) := by decide +kernel
theorem dX8_agree_52 : decode cX8_agree 52 = .ok (.bipush 99, 2) := by decide +kernel
theorem dX8_agree_54 : decode cX8_agree 54 = .ok (.invokestatic 114, 3) := by decide +kernel
theorem dX8_agree_57 : decode cX8_agree 57 = .ok (.ifCond .eq 30, 3) := by decide +kernel
theorem dX8_agree_60 : decode cX8_agree 60 = .ok (.iload 6, 2) := by decide +kernel
theorem dX8_agree_62 : decode cX8_agree 62 = .ok (.iconst 0, 1) := by decide +kernel
theorem dX8_agree_63 : decode cX8_agree 63 = .ok (.sipush 9999, 3) := by decide +kernel
theorem dX8_agree_66 : decode cX8_agree 66 = .ok (.invokestatic 114, 3) := by decide +kernel
theorem dX8_agree_69 : decode cX8_agree 69 = .ok (.ifCond .eq 18, 3) := by decide +kernel
theorem dX8_agree_72 : decode cX8_agree 72 = .ok (.iload 7, 2) := by decide +kernel
theorem dX8_agree_74 : decode cX8_agree 74 = .ok (.iconst 0, 1) := by decide +kernel
theorem dX8_agree_75 : decode cX8_agree 75 = .ok (.iload 5, 2) := by decide +kernel
theorem dX8_agree_77 : decode cX8_agree 77 = .ok (.invokestatic 114, 3) := by decide +kernel
theorem dX8_agree_80 : decode cX8_agree 80 = .ok (.ifCond .eq 7, 3) := by decide +kernel
theorem dX8_agree_83 : decode cX8_agree 83 = .ok (.iconst 1, 1) := by decide +kernel
theorem dX8_agree_84 : decode cX8_agree 84 = .ok (.goto 4, 3) := by decide +kernel
theorem dX8_agree_87 : decode cX8_agree 87 = .ok (.iconst 0, 1) := by decide +kernel
theorem dX8_agree_88 : decode cX8_agree 88 = .ok (.istore 9, 2) := by decide +kernel
theorem dX8_agree_90 : decode cX8_agree 90 = .ok (.aload_n 0, 1) := by decide +kernel
theorem dX8_agree_91 : decode cX8_agree 91 = .ok (.iload 8, 2) := by decide +kernel
theorem dX8_agree_93 : decode cX8_agree 93 = .ok (.ifCond .ne 7, 3) := by decide +kernel
theorem dX8_agree_96 : decode cX8_agree 96 = .ok (.iconst 1, 1) := by decide +kernel
theorem dX8_agree_97 : decode cX8_agree 97 = .ok (.goto 26, 3) := by decide +kernel
theorem dX8_agree_100 : decode cX8_agree 100 = .ok (.iload 9, 2) := by decide +kernel
theorem dX8_agree_102 : decode cX8_agree 102 = .ok (.ifCond .ne 7, 3) := by decide +kernel
theorem dX8_agree_105 : decode cX8_agree 105 = .ok (.iconst 2, 1) := by decide +kernel
theorem dX8_agree_106 : decode cX8_agree 106 = .ok (.goto 17, 3) := by decide +kernel
theorem dX8_agree_109 : decode cX8_agree 109 = .ok (.aload_n 0, 1) := by decide +kernel
theorem dX8_agree_110 : decode cX8_agree 110 = .ok (.getfield 138, 3) := by decide +kernel
theorem dX8_agree_113 : decode cX8_agree 113 = .ok (.bipush 30, 2) := by decide +kernel
theorem dX8_agree_115 : decode cX8_agree 115 = .ok (.if_icmp .ne 7, 3) := by decide +kernel
theorem dX8_agree_118 : decode cX8_agree 118 = .ok (.iconst 3, 1) := by decide +kernel
theorem dX8_agree_119 : decode cX8_agree 119 = .ok (.goto 4, 3) := by decide +kernel
theorem dX8_agree_122 : decode cX8_agree 122 = .ok (.iconst 0, 1) := by decide +kernel
theorem dX8_agree_123 : decode cX8_agree 123 = .ok (.putfield 110, 3) := by decide +kernel
theorem dX8_agree_126 : decode cX8_agree 126 = .ok (.aload_n 0, 1) := by decide +kernel
theorem dX8_agree_127 : decode cX8_agree 127 = .ok (.getfield 110, 3) := by decide +kernel
theorem dX8_agree_130 : decode cX8_agree 130 = .ok (.ifCond .le 5, 3) := by decide +kernel
theorem dX8_agree_133 : decode cX8_agree 133 = .ok (.iconst 0, 1) := by decide +kernel
theorem dX8_agree_134 : decode cX8_agree 134 = .ok (.ireturn, 1) := by decide +kernel
theorem dX8_agree_135 : decode cX8_agree 135 = .ok (.aload_n 0, 1) := by decide +kernel
theorem dX8_agree_136 : decode cX8_agree 136 = .ok (.getfield 26, 3) := by decide +kernel
theorem dX8_agree_139 : decode cX8_agree 139 = .ok (.aload_n 0, 1) := by decide +kernel
theorem dX8_agree_140 : decode cX8_agree 140 = .ok (.getfield 138, 3) := by decide +kernel
theorem dX8_agree_143 : decode cX8_agree 143 = .ok (.iload_n 1, 1) := by decide +kernel
theorem dX8_agree_144 : decode cX8_agree 144 = .ok (.iastore, 1) := by decide +kernel
theorem dX8_agree_145 : decode cX8_agree 145 = .ok (.aload_n 0, 1) := by decide +kernel
theorem dX8_agree_146 : decode cX8_agree 146 = .ok (.getfield 29, 3) := by decide +kernel
theorem dX8_agree_149 : decode cX8_agree 149 = .ok (.aload_n 0, 1) := by decide +kernel
theorem dX8_agree_150 : decode cX8_agree 150 = .ok (.getfield 138, 3) := by decide +kernel
theorem dX8_agree_153 : decode cX8_agree 153 = .ok (.iload_n 2, 1) := by decide +kernel
theorem dX8_agree_154 : decode cX8_agree 154 = .ok (.iastore, 1) := by decide +kernel
theorem dX8_agree_155 : decode cX8_agree 155 = .ok (.aload_n 0, 1) := by decide +kernel
theorem dX8_agree_156 : decode cX8_agree 156 = .ok (.getfield 32, 3) := by decide +kernel
theorem dX8_agree_159 : decode cX8_agree 159 = .ok (.aload_n 0, 1) := by decide +kernel
theorem dX8_agree_160 : decode cX8_agree 160 = .ok (.getfield 138, 3) := by decide +kernel
theorem dX8_agree_163 : decode cX8_agree 163 = .ok (.iload_n 3, 1) := by decide +kernel
theorem dX8_agree_164 : decode cX8_agree 164 = .ok (.iastore, 1) := by decide +kernel
theorem dX8_agree_165 : decode cX8_agree 165 = .ok (.aload_n 0, 1) := by decide +kernel
theorem dX8_agree_166 : decode cX8_agree 166 = .ok (.getfield 35, 3) := by decide +kernel
theorem dX8_agree_169 : decode cX8_agree 169 = .ok (.aload_n 0, 1) := by decide +kernel
theorem dX8_agree_170 : decode cX8_agree 170 = .ok (.getfield 138, 3) := by decide +kernel
theorem dX8_agree_173 : decode cX8_agree 173 = .ok (.iload 4, 2) := by decide +kernel
theorem dX8_agree_175 : decode cX8_agree 175 = .ok (.iastore, 1) := by decide +kernel
theorem dX8_agree_176 : decode cX8_agree 176 = .ok (.aload_n 0, 1) := by decide +kernel
theorem dX8_agree_177 : decode cX8_agree 177 = .ok (.getfield 38, 3) := by decide +kernel
theorem dX8_agree_180 : decode cX8_agree 180 = .ok (.aload_n 0, 1) := by decide +kernel
theorem dX8_agree_181 : decode cX8_agree 181 = .ok (.getfield 138, 3) := by decide +kernel
theorem dX8_agree_184 : decode cX8_agree 184 = .ok (.iload 5, 2) := by decide +kernel
theorem dX8_agree_186 : decode cX8_agree 186 = .ok (.iastore, 1) := by decide +kernel
theorem dX8_agree_187 : decode cX8_agree 187 = .ok (.aload_n 0, 1) := by decide +kernel
theorem dX8_agree_188 : decode cX8_agree 188 = .ok (.getfield 41, 3) := by decide +kernel
theorem dX8_agree_191 : decode cX8_agree 191 = .ok (.aload_n 0, 1) := by decide +kernel
theorem dX8_agree_192 : decode cX8_agree 192 = .ok (.getfield 138, 3) := by decide +kernel
theorem dX8_agree_195 : decode cX8_agree 195 = .ok (.iload 6, 2) := by decide +kernel
theorem dX8_agree_197 : decode cX8_agree 197 = .ok (.iastore, 1) := by decide +kernel
theorem dX8_agree_198 : decode cX8_agree 198 = .ok (.aload_n 0, 1) := by decide +kernel
theorem dX8_agree_199 : decode cX8_agree 199 = .ok (.getfield 44, 3) := by decide +kernel
theorem dX8_agree_202 : decode cX8_agree 202 = .ok (.aload_n 0, 1) := by decide +kernel
theorem dX8_agree_203 : decode cX8_agree 203 = .ok (.getfield 138, 3) := by decide +kernel
theorem dX8_agree_206 : decode cX8_agree 206 = .ok (.iload 7, 2) := by decide +kernel
theorem dX8_agree_208 : decode cX8_agree 208 = .ok (.iastore, 1) := by decide +kernel
theorem dX8_agree_209 : decode cX8_agree 209 = .ok (.aload_n 0, 1) := by decide +kernel
theorem dX8_agree_210 : decode cX8_agree 210 = .ok (.dup, 1) := by decide +kernel
theorem dX8_agree_211 : decode cX8_agree 211 = .ok (.getfield 138, 3) := by decide +kernel
theorem dX8_agree_214 : decode cX8_agree 214 = .ok (.iconst 1, 1) := by decide +kernel
theorem dX8_agree_215 : decode cX8_agree 215 = .ok (.iadd, 1) := by decide +kernel
theorem dX8_agree_216 : decode cX8_agree 216 = .ok (.putfield 138, 3) := by decide +kernel
theorem dX8_agree_219 : decode cX8_agree 219 = .ok (.aload_n 0, 1) := by decide +kernel
theorem dX8_agree_220 : decode cX8_agree 220 = .ok (.getfield 138, 3) := by decide +kernel
theorem dX8_agree_223 : decode cX8_agree 223 = .ok (.ireturn, 1) := by decide +kernel
theorem dX8_agreement_0 : decode cX8_agreement 0 = .ok (.iconst (-1), 1) := by decide +kernel
theorem dX8_agreement_1 : decode cX8_agreement 1 = .ok (.istore_n 3, 1) := by decide +kernel
theorem dX8_agreement_2 : decode cX8_agreement 2 = .ok (.iconst 0, 1) := by decide +kernel
theorem dX8_agreement_3 : decode cX8_agreement 3 = .ok (.istore 4, 2) := by decide +kernel
theorem dX8_agreement_5 : decode cX8_agreement 5 = .ok (.iload 4, 2) := by decide +kernel
theorem dX8_agreement_7 : decode cX8_agreement 7 = .ok (.aload_n 0, 1) := by decide +kernel
theorem dX8_agreement_8 : decode cX8_agreement 8 = .ok (.getfield 138, 3) := by decide +kernel
theorem dX8_agreement_11 : decode cX8_agreement 11 = .ok (.if_icmp .ge 78, 3) := by decide +kernel
theorem dX8_agreement_14 : decode cX8_agreement 14 = .ok (.aload_n 0, 1) := by decide +kernel
theorem dX8_agreement_15 : decode cX8_agreement 15 = .ok (.getfield 26, 3) := by decide +kernel
theorem dX8_agreement_18 : decode cX8_agreement 18 = .ok (.iload 4, 2) := by decide +kernel
theorem dX8_agreement_20 : decode cX8_agreement 20 = .ok (.iaload, 1) := by decide +kernel
theorem dX8_agreement_21 : decode cX8_agreement 21 = .ok (.iload_n 1, 1) := by decide +kernel
theorem dX8_agreement_22 : decode cX8_agreement 22 = .ok (.if_icmp .ne 18, 3) := by decide +kernel
theorem dX8_agreement_25 : decode cX8_agreement 25 = .ok (.aload_n 0, 1) := by decide +kernel
theorem dX8_agreement_26 : decode cX8_agreement 26 = .ok (.getfield 29, 3) := by decide +kernel
theorem dX8_agreement_29 : decode cX8_agreement 29 = .ok (.iload 4, 2) := by decide +kernel
theorem dX8_agreement_31 : decode cX8_agreement 31 = .ok (.iaload, 1) := by decide +kernel
theorem dX8_agreement_32 : decode cX8_agreement 32 = .ok (.iload_n 2, 1) := by decide +kernel
theorem dX8_agreement_33 : decode cX8_agreement 33 = .ok (.if_icmp .ne 7, 3) := by decide +kernel
theorem dX8_agreement_36 : decode cX8_agreement 36 = .ok (.iconst 1, 1) := by decide +kernel
theorem dX8_agreement_37 : decode cX8_agreement 37 = .ok (.goto 4, 3) := by decide +kernel
theorem dX8_agreement_40 : decode cX8_agreement 40 = .ok (.iconst 0, 1) := by decide +kernel
theorem dX8_agreement_41 : decode cX8_agreement 41 = .ok (.istore 5, 2) := by decide +kernel
theorem dX8_agreement_43 : decode cX8_agreement 43 = .ok (.iload 5, 2) := by decide +kernel
theorem dX8_agreement_45 : decode cX8_agreement 45 = .ok (.ifCond .eq 36, 3) := by decide +kernel
theorem dX8_agreement_48 : decode cX8_agreement 48 = .ok (.aload_n 0, 1) := by decide +kernel
theorem dX8_agreement_49 : decode cX8_agreement 49 = .ok (.getfield 141, 3) := by decide +kernel
theorem dX8_agreement_52 : decode cX8_agreement 52 = .ok (.aload_n 0, 1) := by decide +kernel
theorem dX8_agreement_53 : decode cX8_agreement 53 = .ok (.getfield 32, 3) := by decide +kernel
theorem dX8_agreement_56 : decode cX8_agreement 56 = .ok (.iload 4, 2) := by decide +kernel
theorem dX8_agreement_58 : decode cX8_agreement 58 = .ok (.iaload, 1) := by decide +kernel
theorem dX8_agreement_59 : decode cX8_agreement 59 = .ok (.if_icmp .lt 22, 3) := by decide +kernel
theorem dX8_agreement_62 : decode cX8_agreement 62 = .ok (.aload_n 0, 1) := by decide +kernel
theorem dX8_agreement_63 : decode cX8_agreement 63 = .ok (.getfield 141, 3) := by decide +kernel
theorem dX8_agreement_66 : decode cX8_agreement 66 = .ok (.aload_n 0, 1) := by decide +kernel
theorem dX8_agreement_67 : decode cX8_agreement 67 = .ok (.getfield 35, 3) := by decide +kernel
theorem dX8_agreement_70 : decode cX8_agreement 70 = .ok (.iload 4, 2) := by decide +kernel
theorem dX8_agreement_72 : decode cX8_agreement 72 = .ok (.iaload, 1) := by decide +kernel
theorem dX8_agreement_73 : decode cX8_agreement 73 = .ok (.if_icmp .ge 8, 3) := by decide +kernel
theorem dX8_agreement_76 : decode cX8_agreement 76 = .ok (.iload 4, 2) := by decide +kernel
theorem dX8_agreement_78 : decode cX8_agreement 78 = .ok (.goto 4, 3) := by decide +kernel
theorem dX8_agreement_81 : decode cX8_agreement 81 = .ok (.iload_n 3, 1) := by decide +kernel
theorem dX8_agreement_82 : decode cX8_agreement 82 = .ok (.istore_n 3, 1) := by decide +kernel
theorem dX8_agreement_83 : decode cX8_agreement 83 = .ok (.iinc 4 1, 3) := by decide +kernel
theorem dX8_agreement_86 : decode cX8_agreement 86 = .ok (.goto (-81), 3) := by decide +kernel
theorem dX8_agreement_89 : decode cX8_agreement 89 = .ok (.iload_n 3, 1) := by decide +kernel
theorem dX8_agreement_90 : decode cX8_agreement 90 = .ok (.ireturn, 1) := by decide +kernel
theorem dX8_steer_0 : decode cX8_steer 0 = .ok (.aload_n 0, 1) := by decide +kernel
theorem dX8_steer_1 : decode cX8_steer 1 = .ok (.iload_n 1, 1) := by decide +kernel
theorem dX8_steer_2 : decode cX8_steer 2 = .ok (.invokestatic 129, 3) := by decide +kernel
theorem dX8_steer_5 : decode cX8_steer 5 = .ok (.ifCond .eq 15, 3) := by decide +kernel
theorem dX8_steer_8 : decode cX8_steer 8 = .ok (.iload_n 2, 1) := by decide +kernel
theorem dX8_steer_9 : decode cX8_steer 9 = .ok (.iconst (-1), 1) := by decide +kernel
theorem dX8_steer_10 : decode cX8_steer 10 = .ok (.if_icmp .eq 14, 3) := by decide +kernel
theorem dX8_steer_13 : decode cX8_steer 13 = .ok (.iload_n 2, 1) := by decide +kernel
theorem dX8_steer_14 : decode cX8_steer 14 = .ok (.invokestatic 129, 3) := by decide +kernel
theorem dX8_steer_17 : decode cX8_steer 17 = .ok (.ifCond .ne 7, 3) := by decide +kernel
theorem dX8_steer_20 : decode cX8_steer 20 = .ok (.iconst 1, 1) := by decide +kernel
theorem dX8_steer_21 : decode cX8_steer 21 = .ok (.goto 13, 3) := by decide +kernel
theorem dX8_steer_24 : decode cX8_steer 24 = .ok (.iload_n 2, 1) := by decide +kernel
theorem dX8_steer_25 : decode cX8_steer 25 = .ok (.iload_n 1, 1) := by decide +kernel
theorem dX8_steer_26 : decode cX8_steer 26 = .ok (.if_icmp .ne 7, 3) := by decide +kernel
theorem dX8_steer_29 : decode cX8_steer 29 = .ok (.iconst 2, 1) := by decide +kernel
theorem dX8_steer_30 : decode cX8_steer 30 = .ok (.goto 4, 3) := by decide +kernel
theorem dX8_steer_33 : decode cX8_steer 33 = .ok (.iconst 0, 1) := by decide +kernel
theorem dX8_steer_34 : decode cX8_steer 34 = .ok (.putfield 110, 3) := by decide +kernel
theorem dX8_steer_37 : decode cX8_steer 37 = .ok (.aload_n 0, 1) := by decide +kernel
theorem dX8_steer_38 : decode cX8_steer 38 = .ok (.getfield 110, 3) := by decide +kernel
theorem dX8_steer_41 : decode cX8_steer 41 = .ok (.ifCond .le 5, 3) := by decide +kernel
theorem dX8_steer_44 : decode cX8_steer 44 = .ok (.iconst 0, 1) := by decide +kernel
theorem dX8_steer_45 : decode cX8_steer 45 = .ok (.ireturn, 1) := by decide +kernel
theorem dX8_steer_46 : decode cX8_steer 46 = .ok (.aload_n 0, 1) := by decide +kernel
theorem dX8_steer_47 : decode cX8_steer 47 = .ok (.getfield 17, 3) := by decide +kernel
theorem dX8_steer_50 : decode cX8_steer 50 = .ok (.iload_n 1, 1) := by decide +kernel
theorem dX8_steer_51 : decode cX8_steer 51 = .ok (.iaload, 1) := by decide +kernel
theorem dX8_steer_52 : decode cX8_steer 52 = .ok (.istore_n 3, 1) := by decide +kernel
theorem dX8_steer_53 : decode cX8_steer 53 = .ok (.aload_n 0, 1) := by decide +kernel
theorem dX8_steer_54 : decode cX8_steer 54 = .ok (.getfield 17, 3) := by decide +kernel
theorem dX8_steer_57 : decode cX8_steer 57 = .ok (.iload_n 1, 1) := by decide +kernel
theorem dX8_steer_58 : decode cX8_steer 58 = .ok (.iload_n 2, 1) := by decide +kernel
theorem dX8_steer_59 : decode cX8_steer 59 = .ok (.iastore, 1) := by decide +kernel
theorem dX8_steer_60 : decode cX8_steer 60 = .ok (.iload_n 3, 1) := by decide +kernel
theorem dX8_steer_61 : decode cX8_steer 61 = .ok (.ireturn, 1) := by decide +kernel
theorem dX8_prices_0 : decode cX8_prices 0 = .ok (.aload_n 0, 1) := by decide +kernel
theorem dX8_prices_1 : decode cX8_prices 1 = .ok (.iload_n 1, 1) := by decide +kernel
theorem dX8_prices_2 : decode cX8_prices 2 = .ok (.invokestatic 129, 3) := by decide +kernel
theorem dX8_prices_5 : decode cX8_prices 5 = .ok (.ifCond .ne 7, 3) := by decide +kernel
theorem dX8_prices_8 : decode cX8_prices 8 = .ok (.iconst 1, 1) := by decide +kernel
theorem dX8_prices_9 : decode cX8_prices 9 = .ok (.goto 39, 3) := by decide +kernel
theorem dX8_prices_12 : decode cX8_prices 12 = .ok (.iload_n 2, 1) := by decide +kernel
theorem dX8_prices_13 : decode cX8_prices 13 = .ok (.iconst 0, 1) := by decide +kernel
theorem dX8_prices_14 : decode cX8_prices 14 = .ok (.bipush 99, 2) := by decide +kernel
theorem dX8_prices_16 : decode cX8_prices 16 = .ok (.invokestatic 114, 3) := by decide +kernel
theorem dX8_prices_19 : decode cX8_prices 19 = .ok (.ifCond .eq 28, 3) := by decide +kernel
theorem dX8_prices_22 : decode cX8_prices 22 = .ok (.iload_n 3, 1) := by decide +kernel
theorem dX8_prices_23 : decode cX8_prices 23 = .ok (.iconst 0, 1) := by decide +kernel
theorem dX8_prices_24 : decode cX8_prices 24 = .ok (.bipush 99, 2) := by decide +kernel
theorem dX8_prices_26 : decode cX8_prices 26 = .ok (.invokestatic 114, 3) := by decide +kernel
theorem dX8_prices_29 : decode cX8_prices 29 = .ok (.ifCond .eq 18, 3) := by decide +kernel
theorem dX8_prices_32 : decode cX8_prices 32 = .ok (.iload 4, 2) := by decide +kernel
theorem dX8_prices_34 : decode cX8_prices 34 = .ok (.iconst 0, 1) := by decide +kernel
theorem dX8_prices_35 : decode cX8_prices 35 = .ok (.bipush 99, 2) := by decide +kernel
theorem dX8_prices_37 : decode cX8_prices 37 = .ok (.invokestatic 114, 3) := by decide +kernel
theorem dX8_prices_40 : decode cX8_prices 40 = .ok (.ifCond .eq 7, 3) := by decide +kernel
theorem dX8_prices_43 : decode cX8_prices 43 = .ok (.iconst 0, 1) := by decide +kernel
theorem dX8_prices_44 : decode cX8_prices 44 = .ok (.goto 4, 3) := by decide +kernel
theorem dX8_prices_47 : decode cX8_prices 47 = .ok (.iconst 2, 1) := by decide +kernel
theorem dX8_prices_48 : decode cX8_prices 48 = .ok (.putfield 110, 3) := by decide +kernel
theorem dX8_prices_51 : decode cX8_prices 51 = .ok (.aload_n 0, 1) := by decide +kernel
theorem dX8_prices_52 : decode cX8_prices 52 = .ok (.getfield 110, 3) := by decide +kernel
theorem dX8_prices_55 : decode cX8_prices 55 = .ok (.ifCond .ne 37, 3) := by decide +kernel
theorem dX8_prices_58 : decode cX8_prices 58 = .ok (.aload_n 0, 1) := by decide +kernel
theorem dX8_prices_59 : decode cX8_prices 59 = .ok (.getfield 20, 3) := by decide +kernel
theorem dX8_prices_62 : decode cX8_prices 62 = .ok (.iconst 3, 1) := by decide +kernel
theorem dX8_prices_63 : decode cX8_prices 63 = .ok (.iload_n 1, 1) := by decide +kernel
theorem dX8_prices_64 : decode cX8_prices 64 = .ok (.imul, 1) := by decide +kernel
theorem dX8_prices_65 : decode cX8_prices 65 = .ok (.iconst 0, 1) := by decide +kernel
theorem dX8_prices_66 : decode cX8_prices 66 = .ok (.iadd, 1) := by decide +kernel
theorem dX8_prices_67 : decode cX8_prices 67 = .ok (.iload_n 2, 1) := by decide +kernel
theorem dX8_prices_68 : decode cX8_prices 68 = .ok (.iastore, 1) := by decide +kernel
theorem dX8_prices_69 : decode cX8_prices 69 = .ok (.aload_n 0, 1) := by decide +kernel
theorem dX8_prices_70 : decode cX8_prices 70 = .ok (.getfield 20, 3) := by decide +kernel
theorem dX8_prices_73 : decode cX8_prices 73 = .ok (.iconst 3, 1) := by decide +kernel
theorem dX8_prices_74 : decode cX8_prices 74 = .ok (.iload_n 1, 1) := by decide +kernel
theorem dX8_prices_75 : decode cX8_prices 75 = .ok (.imul, 1) := by decide +kernel
theorem dX8_prices_76 : decode cX8_prices 76 = .ok (.iconst 1, 1) := by decide +kernel
theorem dX8_prices_77 : decode cX8_prices 77 = .ok (.iadd, 1) := by decide +kernel
theorem dX8_prices_78 : decode cX8_prices 78 = .ok (.iload_n 3, 1) := by decide +kernel
theorem dX8_prices_79 : decode cX8_prices 79 = .ok (.iastore, 1) := by decide +kernel
theorem dX8_prices_80 : decode cX8_prices 80 = .ok (.aload_n 0, 1) := by decide +kernel
theorem dX8_prices_81 : decode cX8_prices 81 = .ok (.getfield 20, 3) := by decide +kernel
theorem dX8_prices_84 : decode cX8_prices 84 = .ok (.iconst 3, 1) := by decide +kernel
theorem dX8_prices_85 : decode cX8_prices 85 = .ok (.iload_n 1, 1) := by decide +kernel
theorem dX8_prices_86 : decode cX8_prices 86 = .ok (.imul, 1) := by decide +kernel
theorem dX8_prices_87 : decode cX8_prices 87 = .ok (.iconst 2, 1) := by decide +kernel
theorem dX8_prices_88 : decode cX8_prices 88 = .ok (.iadd, 1) := by decide +kernel
theorem dX8_prices_89 : decode cX8_prices 89 = .ok (.iload 4, 2) := by decide +kernel
theorem dX8_prices_91 : decode cX8_prices 91 = .ok (.iastore, 1) := by decide +kernel
theorem dX8_prices_92 : decode cX8_prices 92 = .ok (.return_, 1) := by decide +kernel
theorem dX8_lose_0 : decode cX8_lose 0 = .ok (.aload_n 0, 1) := by decide +kernel
theorem dX8_lose_1 : decode cX8_lose 1 = .ok (.iload_n 1, 1) := by decide +kernel
theorem dX8_lose_2 : decode cX8_lose 2 = .ok (.invokestatic 129, 3) := by decide +kernel
theorem dX8_lose_5 : decode cX8_lose 5 = .ok (.ifCond .ne 7, 3) := by decide +kernel
theorem dX8_lose_8 : decode cX8_lose 8 = .ok (.iconst 1, 1) := by decide +kernel
theorem dX8_lose_9 : decode cX8_lose 9 = .ok (.goto 18, 3) := by decide +kernel
theorem dX8_lose_12 : decode cX8_lose 12 = .ok (.iload_n 2, 1) := by decide +kernel
theorem dX8_lose_13 : decode cX8_lose 13 = .ok (.iconst 0, 1) := by decide +kernel
theorem dX8_lose_14 : decode cX8_lose 14 = .ok (.bipush 9, 2) := by decide +kernel
theorem dX8_lose_16 : decode cX8_lose 16 = .ok (.invokestatic 114, 3) := by decide +kernel
theorem dX8_lose_19 : decode cX8_lose 19 = .ok (.ifCond .eq 7, 3) := by decide +kernel
theorem dX8_lose_22 : decode cX8_lose 22 = .ok (.iconst 0, 1) := by decide +kernel
theorem dX8_lose_23 : decode cX8_lose 23 = .ok (.goto 4, 3) := by decide +kernel
theorem dX8_lose_26 : decode cX8_lose 26 = .ok (.iconst 2, 1) := by decide +kernel
theorem dX8_lose_27 : decode cX8_lose 27 = .ok (.putfield 110, 3) := by decide +kernel
theorem dX8_lose_30 : decode cX8_lose 30 = .ok (.aload_n 0, 1) := by decide +kernel
theorem dX8_lose_31 : decode cX8_lose 31 = .ok (.getfield 110, 3) := by decide +kernel
theorem dX8_lose_34 : decode cX8_lose 34 = .ok (.ifCond .le 5, 3) := by decide +kernel
theorem dX8_lose_37 : decode cX8_lose 37 = .ok (.iconst 0, 1) := by decide +kernel
theorem dX8_lose_38 : decode cX8_lose 38 = .ok (.ireturn, 1) := by decide +kernel
theorem dX8_lose_39 : decode cX8_lose 39 = .ok (.aload_n 0, 1) := by decide +kernel
theorem dX8_lose_40 : decode cX8_lose 40 = .ok (.getfield 23, 3) := by decide +kernel
theorem dX8_lose_43 : decode cX8_lose 43 = .ok (.iload_n 1, 1) := by decide +kernel
theorem dX8_lose_44 : decode cX8_lose 44 = .ok (.iaload, 1) := by decide +kernel
theorem dX8_lose_45 : decode cX8_lose 45 = .ok (.istore_n 3, 1) := by decide +kernel
theorem dX8_lose_46 : decode cX8_lose 46 = .ok (.aload_n 0, 1) := by decide +kernel
theorem dX8_lose_47 : decode cX8_lose 47 = .ok (.getfield 23, 3) := by decide +kernel
theorem dX8_lose_50 : decode cX8_lose 50 = .ok (.iload_n 1, 1) := by decide +kernel
theorem dX8_lose_51 : decode cX8_lose 51 = .ok (.iload_n 2, 1) := by decide +kernel
theorem dX8_lose_52 : decode cX8_lose 52 = .ok (.iastore, 1) := by decide +kernel
theorem dX8_lose_53 : decode cX8_lose 53 = .ok (.iload_n 3, 1) := by decide +kernel
theorem dX8_lose_54 : decode cX8_lose 54 = .ok (.ireturn, 1) := by decide +kernel
theorem dX8_crash_0 : decode cX8_crash 0 = .ok (.aload_n 0, 1) := by decide +kernel
theorem dX8_crash_1 : decode cX8_crash 1 = .ok (.iload_n 1, 1) := by decide +kernel
theorem dX8_crash_2 : decode cX8_crash 2 = .ok (.invokestatic 129, 3) := by decide +kernel
theorem dX8_crash_5 : decode cX8_crash 5 = .ok (.ifCond .eq 7, 3) := by decide +kernel
theorem dX8_crash_8 : decode cX8_crash 8 = .ok (.iconst 0, 1) := by decide +kernel
theorem dX8_crash_9 : decode cX8_crash 9 = .ok (.goto 4, 3) := by decide +kernel
theorem dX8_crash_12 : decode cX8_crash 12 = .ok (.iconst 1, 1) := by decide +kernel
theorem dX8_crash_13 : decode cX8_crash 13 = .ok (.putfield 110, 3) := by decide +kernel
theorem dX8_crash_16 : decode cX8_crash 16 = .ok (.aload_n 0, 1) := by decide +kernel
theorem dX8_crash_17 : decode cX8_crash 17 = .ok (.getfield 110, 3) := by decide +kernel
theorem dX8_crash_20 : decode cX8_crash 20 = .ok (.ifCond .le 5, 3) := by decide +kernel
theorem dX8_crash_23 : decode cX8_crash 23 = .ok (.iconst 0, 1) := by decide +kernel
theorem dX8_crash_24 : decode cX8_crash 24 = .ok (.ireturn, 1) := by decide +kernel
theorem dX8_crash_25 : decode cX8_crash 25 = .ok (.iconst 0, 1) := by decide +kernel
theorem dX8_crash_26 : decode cX8_crash 26 = .ok (.istore_n 2, 1) := by decide +kernel
theorem dX8_crash_27 : decode cX8_crash 27 = .ok (.iconst 0, 1) := by decide +kernel
theorem dX8_crash_28 : decode cX8_crash 28 = .ok (.istore_n 3, 1) := by decide +kernel
theorem dX8_crash_29 : decode cX8_crash 29 = .ok (.iload_n 3, 1) := by decide +kernel
theorem dX8_crash_30 : decode cX8_crash 30 = .ok (.bipush 10, 2) := by decide +kernel
theorem dX8_crash_32 : decode cX8_crash 32 = .ok (.if_icmp .ge 32, 3) := by decide +kernel
theorem dX8_crash_35 : decode cX8_crash 35 = .ok (.iload_n 2, 1) := by decide +kernel
theorem dX8_crash_36 : decode cX8_crash 36 = .ok (.aload_n 0, 1) := by decide +kernel
theorem dX8_crash_37 : decode cX8_crash 37 = .ok (.getfield 80, 3) := by decide +kernel
theorem dX8_crash_40 : decode cX8_crash 40 = .ok (.bipush 10, 2) := by decide +kernel
theorem dX8_crash_42 : decode cX8_crash 42 = .ok (.iload_n 1, 1) := by decide +kernel
theorem dX8_crash_43 : decode cX8_crash 43 = .ok (.imul, 1) := by decide +kernel
theorem dX8_crash_44 : decode cX8_crash 44 = .ok (.iload_n 3, 1) := by decide +kernel
theorem dX8_crash_45 : decode cX8_crash 45 = .ok (.iadd, 1) := by decide +kernel
theorem dX8_crash_46 : decode cX8_crash 46 = .ok (.iaload, 1) := by decide +kernel
theorem dX8_crash_47 : decode cX8_crash 47 = .ok (.iconst (-1), 1) := by decide +kernel
theorem dX8_crash_48 : decode cX8_crash 48 = .ok (.if_icmp .ne 7, 3) := by decide +kernel
theorem dX8_crash_51 : decode cX8_crash 51 = .ok (.iconst 0, 1) := by decide +kernel
theorem dX8_crash_52 : decode cX8_crash 52 = .ok (.goto 4, 3) := by decide +kernel
theorem dX8_crash_55 : decode cX8_crash 55 = .ok (.iconst 1, 1) := by decide +kernel
theorem dX8_crash_56 : decode cX8_crash 56 = .ok (.iadd, 1) := by decide +kernel
theorem dX8_crash_57 : decode cX8_crash 57 = .ok (.istore_n 2, 1) := by decide +kernel
theorem dX8_crash_58 : decode cX8_crash 58 = .ok (.iinc 3 1, 3) := by decide +kernel
theorem dX8_crash_61 : decode cX8_crash 61 = .ok (.goto (-32), 3) := by decide +kernel
theorem dX8_crash_64 : decode cX8_crash 64 = .ok (.aload_n 0, 1) := by decide +kernel
theorem dX8_crash_65 : decode cX8_crash 65 = .ok (.iload_n 1, 1) := by decide +kernel
theorem dX8_crash_66 : decode cX8_crash 66 = .ok (.invokevirtual 132, 3) := by decide +kernel
theorem dX8_crash_69 : decode cX8_crash 69 = .ok (.iload_n 2, 1) := by decide +kernel
theorem dX8_crash_70 : decode cX8_crash 70 = .ok (.ireturn, 1) := by decide +kernel
theorem dX8_subscriber_0 : decode cX8_subscriber 0 = .ok (.aload_n 0, 1) := by decide +kernel
theorem dX8_subscriber_1 : decode cX8_subscriber 1 = .ok (.iload_n 1, 1) := by decide +kernel
theorem dX8_subscriber_2 : decode cX8_subscriber 2 = .ok (.invokestatic 129, 3) := by decide +kernel
theorem dX8_subscriber_5 : decode cX8_subscriber 5 = .ok (.ifCond .eq 10, 3) := by decide +kernel
theorem dX8_subscriber_8 : decode cX8_subscriber 8 = .ok (.iload_n 2, 1) := by decide +kernel
theorem dX8_subscriber_9 : decode cX8_subscriber 9 = .ok (.invokestatic 121, 3) := by decide +kernel
theorem dX8_subscriber_12 : decode cX8_subscriber 12 = .ok (.ifCond .ne 7, 3) := by decide +kernel
theorem dX8_subscriber_15 : decode cX8_subscriber 15 = .ok (.iconst 1, 1) := by decide +kernel
theorem dX8_subscriber_16 : decode cX8_subscriber 16 = .ok (.goto 31, 3) := by decide +kernel
theorem dX8_subscriber_19 : decode cX8_subscriber 19 = .ok (.iload_n 3, 1) := by decide +kernel
theorem dX8_subscriber_20 : decode cX8_subscriber 20 = .ok (.iconst 0, 1) := by decide +kernel
theorem dX8_subscriber_21 : decode cX8_subscriber 21 = .ok (.bipush 63, 2) := by decide +kernel
theorem dX8_subscriber_23 : decode cX8_subscriber 23 = .ok (.invokestatic 114, 3) := by decide +kernel
theorem dX8_subscriber_26 : decode cX8_subscriber 26 = .ok (.ifCond .ne 7, 3) := by decide +kernel
theorem dX8_subscriber_29 : decode cX8_subscriber 29 = .ok (.iconst 2, 1) := by decide +kernel
theorem dX8_subscriber_30 : decode cX8_subscriber 30 = .ok (.goto 17, 3) := by decide +kernel
theorem dX8_subscriber_33 : decode cX8_subscriber 33 = .ok (.aload_n 0, 1) := by decide +kernel
theorem dX8_subscriber_34 : decode cX8_subscriber 34 = .ok (.getfield 118, 3) := by decide +kernel
theorem dX8_subscriber_37 : decode cX8_subscriber 37 = .ok (.bipush 10, 2) := by decide +kernel
theorem dX8_subscriber_39 : decode cX8_subscriber 39 = .ok (.if_icmp .ne 7, 3) := by decide +kernel
theorem dX8_subscriber_42 : decode cX8_subscriber 42 = .ok (.iconst 3, 1) := by decide +kernel
theorem dX8_subscriber_43 : decode cX8_subscriber 43 = .ok (.goto 4, 3) := by decide +kernel
theorem dX8_subscriber_46 : decode cX8_subscriber 46 = .ok (.iconst 0, 1) := by decide +kernel
theorem dX8_subscriber_47 : decode cX8_subscriber 47 = .ok (.putfield 110, 3) := by decide +kernel
theorem dX8_subscriber_50 : decode cX8_subscriber 50 = .ok (.aload_n 0, 1) := by decide +kernel
theorem dX8_subscriber_51 : decode cX8_subscriber 51 = .ok (.getfield 110, 3) := by decide +kernel
theorem dX8_subscriber_54 : decode cX8_subscriber 54 = .ok (.ifCond .le 5, 3) := by decide +kernel
theorem dX8_subscriber_57 : decode cX8_subscriber 57 = .ok (.iconst 0, 1) := by decide +kernel
theorem dX8_subscriber_58 : decode cX8_subscriber 58 = .ok (.ireturn, 1) := by decide +kernel
theorem dX8_subscriber_59 : decode cX8_subscriber 59 = .ok (.aload_n 0, 1) := by decide +kernel
theorem dX8_subscriber_60 : decode cX8_subscriber 60 = .ok (.getfield 47, 3) := by decide +kernel
theorem dX8_subscriber_63 : decode cX8_subscriber 63 = .ok (.aload_n 0, 1) := by decide +kernel
theorem dX8_subscriber_64 : decode cX8_subscriber 64 = .ok (.getfield 118, 3) := by decide +kernel
theorem dX8_subscriber_67 : decode cX8_subscriber 67 = .ok (.iload_n 1, 1) := by decide +kernel
theorem dX8_subscriber_68 : decode cX8_subscriber 68 = .ok (.iastore, 1) := by decide +kernel
theorem dX8_subscriber_69 : decode cX8_subscriber 69 = .ok (.aload_n 0, 1) := by decide +kernel
theorem dX8_subscriber_70 : decode cX8_subscriber 70 = .ok (.getfield 50, 3) := by decide +kernel
theorem dX8_subscriber_73 : decode cX8_subscriber 73 = .ok (.aload_n 0, 1) := by decide +kernel
theorem dX8_subscriber_74 : decode cX8_subscriber 74 = .ok (.getfield 118, 3) := by decide +kernel
theorem dX8_subscriber_77 : decode cX8_subscriber 77 = .ok (.iload_n 2, 1) := by decide +kernel
theorem dX8_subscriber_78 : decode cX8_subscriber 78 = .ok (.iastore, 1) := by decide +kernel
theorem dX8_subscriber_79 : decode cX8_subscriber 79 = .ok (.aload_n 0, 1) := by decide +kernel
theorem dX8_subscriber_80 : decode cX8_subscriber 80 = .ok (.getfield 53, 3) := by decide +kernel
theorem dX8_subscriber_83 : decode cX8_subscriber 83 = .ok (.aload_n 0, 1) := by decide +kernel
theorem dX8_subscriber_84 : decode cX8_subscriber 84 = .ok (.getfield 118, 3) := by decide +kernel
theorem dX8_subscriber_87 : decode cX8_subscriber 87 = .ok (.iload_n 3, 1) := by decide +kernel
theorem dX8_subscriber_88 : decode cX8_subscriber 88 = .ok (.iastore, 1) := by decide +kernel
theorem dX8_subscriber_89 : decode cX8_subscriber 89 = .ok (.aload_n 0, 1) := by decide +kernel
theorem dX8_subscriber_90 : decode cX8_subscriber 90 = .ok (.getfield 56, 3) := by decide +kernel
theorem dX8_subscriber_93 : decode cX8_subscriber 93 = .ok (.aload_n 0, 1) := by decide +kernel
theorem dX8_subscriber_94 : decode cX8_subscriber 94 = .ok (.getfield 118, 3) := by decide +kernel
theorem dX8_subscriber_97 : decode cX8_subscriber 97 = .ok (.iconst (-1), 1) := by decide +kernel
theorem dX8_subscriber_98 : decode cX8_subscriber 98 = .ok (.iastore, 1) := by decide +kernel
theorem dX8_subscriber_99 : decode cX8_subscriber 99 = .ok (.aload_n 0, 1) := by decide +kernel
theorem dX8_subscriber_100 : decode cX8_subscriber 100 = .ok (.getfield 62, 3) := by decide +kernel
theorem dX8_subscriber_103 : decode cX8_subscriber 103 = .ok (.aload_n 0, 1) := by decide +kernel
theorem dX8_subscriber_104 : decode cX8_subscriber 104 = .ok (.getfield 118, 3) := by decide +kernel
theorem dX8_subscriber_107 : decode cX8_subscriber 107 = .ok (.iconst (-1), 1) := by decide +kernel
theorem dX8_subscriber_108 : decode cX8_subscriber 108 = .ok (.iastore, 1) := by decide +kernel
theorem dX8_subscriber_109 : decode cX8_subscriber 109 = .ok (.aload_n 0, 1) := by decide +kernel
theorem dX8_subscriber_110 : decode cX8_subscriber 110 = .ok (.getfield 65, 3) := by decide +kernel
theorem dX8_subscriber_113 : decode cX8_subscriber 113 = .ok (.aload_n 0, 1) := by decide +kernel
theorem dX8_subscriber_114 : decode cX8_subscriber 114 = .ok (.getfield 118, 3) := by decide +kernel
theorem dX8_subscriber_117 : decode cX8_subscriber 117 = .ok (.sipush 5000, 3) := by decide +kernel
theorem dX8_subscriber_120 : decode cX8_subscriber 120 = .ok (.iastore, 1) := by decide +kernel
theorem dX8_subscriber_121 : decode cX8_subscriber 121 = .ok (.aload_n 0, 1) := by decide +kernel
theorem dX8_subscriber_122 : decode cX8_subscriber 122 = .ok (.dup, 1) := by decide +kernel
theorem dX8_subscriber_123 : decode cX8_subscriber 123 = .ok (.getfield 118, 3) := by decide +kernel
theorem dX8_subscriber_126 : decode cX8_subscriber 126 = .ok (.iconst 1, 1) := by decide +kernel
theorem dX8_subscriber_127 : decode cX8_subscriber 127 = .ok (.iadd, 1) := by decide +kernel
theorem dX8_subscriber_128 : decode cX8_subscriber 128 = .ok (.putfield 118, 3) := by decide +kernel
theorem dX8_subscriber_131 : decode cX8_subscriber 131 = .ok (.aload_n 0, 1) := by decide +kernel
theorem dX8_subscriber_132 : decode cX8_subscriber 132 = .ok (.getfield 118, 3) := by decide +kernel
theorem dX8_subscriber_135 : decode cX8_subscriber 135 = .ok (.iconst 1, 1) := by decide +kernel
theorem dX8_subscriber_136 : decode cX8_subscriber 136 = .ok (.isub, 1) := by decide +kernel
theorem dX8_subscriber_137 : decode cX8_subscriber 137 = .ok (.ireturn, 1) := by decide +kernel
theorem dX8_move_0 : decode cX8_move 0 = .ok (.aload_n 0, 1) := by decide +kernel
theorem dX8_move_1 : decode cX8_move 1 = .ok (.aload_n 0, 1) := by decide +kernel
theorem dX8_move_2 : decode cX8_move 2 = .ok (.iload_n 1, 1) := by decide +kernel
theorem dX8_move_3 : decode cX8_move 3 = .ok (.invokevirtual 144, 3) := by decide +kernel
theorem dX8_move_6 : decode cX8_move 6 = .ok (.ifCond .eq 14, 3) := by decide +kernel
theorem dX8_move_9 : decode cX8_move 9 = .ok (.iload_n 2, 1) := by decide +kernel
theorem dX8_move_10 : decode cX8_move 10 = .ok (.invokestatic 121, 3) := by decide +kernel
theorem dX8_move_13 : decode cX8_move 13 = .ok (.ifCond .eq 7, 3) := by decide +kernel
theorem dX8_move_16 : decode cX8_move 16 = .ok (.iconst 0, 1) := by decide +kernel
theorem dX8_move_17 : decode cX8_move 17 = .ok (.goto 4, 3) := by decide +kernel
theorem dX8_move_20 : decode cX8_move 20 = .ok (.iconst 1, 1) := by decide +kernel
theorem dX8_move_21 : decode cX8_move 21 = .ok (.putfield 110, 3) := by decide +kernel
theorem dX8_move_24 : decode cX8_move 24 = .ok (.aload_n 0, 1) := by decide +kernel
theorem dX8_move_25 : decode cX8_move 25 = .ok (.getfield 110, 3) := by decide +kernel
theorem dX8_move_28 : decode cX8_move 28 = .ok (.ifCond .le 5, 3) := by decide +kernel
theorem dX8_move_31 : decode cX8_move 31 = .ok (.iconst 0, 1) := by decide +kernel
theorem dX8_move_32 : decode cX8_move 32 = .ok (.ireturn, 1) := by decide +kernel
theorem dX8_move_33 : decode cX8_move 33 = .ok (.aload_n 0, 1) := by decide +kernel
theorem dX8_move_34 : decode cX8_move 34 = .ok (.getfield 50, 3) := by decide +kernel
theorem dX8_move_37 : decode cX8_move 37 = .ok (.iload_n 1, 1) := by decide +kernel
theorem dX8_move_38 : decode cX8_move 38 = .ok (.iload_n 2, 1) := by decide +kernel
theorem dX8_move_39 : decode cX8_move 39 = .ok (.iastore, 1) := by decide +kernel
theorem dX8_move_40 : decode cX8_move 40 = .ok (.aload_n 0, 1) := by decide +kernel
theorem dX8_move_41 : decode cX8_move 41 = .ok (.getfield 59, 3) := by decide +kernel
theorem dX8_move_44 : decode cX8_move 44 = .ok (.iload_n 1, 1) := by decide +kernel
theorem dX8_move_45 : decode cX8_move 45 = .ok (.iconst 0, 1) := by decide +kernel
theorem dX8_move_46 : decode cX8_move 46 = .ok (.iastore, 1) := by decide +kernel
theorem dX8_move_47 : decode cX8_move 47 = .ok (.aload_n 0, 1) := by decide +kernel
theorem dX8_move_48 : decode cX8_move 48 = .ok (.getfield 56, 3) := by decide +kernel
theorem dX8_move_51 : decode cX8_move 51 = .ok (.iload_n 1, 1) := by decide +kernel
theorem dX8_move_52 : decode cX8_move 52 = .ok (.iaload, 1) := by decide +kernel
theorem dX8_move_53 : decode cX8_move 53 = .ok (.iconst (-1), 1) := by decide +kernel
theorem dX8_move_54 : decode cX8_move 54 = .ok (.if_icmp .eq 28, 3) := by decide +kernel
theorem dX8_move_57 : decode cX8_move 57 = .ok (.aload_n 0, 1) := by decide +kernel
theorem dX8_move_58 : decode cX8_move 58 = .ok (.getfield 7, 3) := by decide +kernel
theorem dX8_move_61 : decode cX8_move 61 = .ok (.iload_n 2, 1) := by decide +kernel
theorem dX8_move_62 : decode cX8_move 62 = .ok (.iaload, 1) := by decide +kernel
theorem dX8_move_63 : decode cX8_move 63 = .ok (.aload_n 0, 1) := by decide +kernel
theorem dX8_move_64 : decode cX8_move 64 = .ok (.getfield 56, 3) := by decide +kernel
theorem dX8_move_67 : decode cX8_move 67 = .ok (.iload_n 1, 1) := by decide +kernel
theorem dX8_move_68 : decode cX8_move 68 = .ok (.iaload, 1) := by decide +kernel
theorem dX8_move_69 : decode cX8_move 69 = .ok (.invokestatic 125, 3) := by decide +kernel
theorem dX8_move_72 : decode cX8_move 72 = .ok (.ifCond .ne 10, 3) := by decide +kernel
theorem dX8_move_75 : decode cX8_move 75 = .ok (.aload_n 0, 1) := by decide +kernel
theorem dX8_move_76 : decode cX8_move 76 = .ok (.getfield 56, 3) := by decide +kernel
theorem dX8_move_79 : decode cX8_move 79 = .ok (.iload_n 1, 1) := by decide +kernel
theorem dX8_move_80 : decode cX8_move 80 = .ok (.iconst (-1), 1) := by decide +kernel
theorem dX8_move_81 : decode cX8_move 81 = .ok (.iastore, 1) := by decide +kernel
theorem dX8_move_82 : decode cX8_move 82 = .ok (.aload_n 0, 1) := by decide +kernel
theorem dX8_move_83 : decode cX8_move 83 = .ok (.getfield 56, 3) := by decide +kernel
theorem dX8_move_86 : decode cX8_move 86 = .ok (.iload_n 1, 1) := by decide +kernel
theorem dX8_move_87 : decode cX8_move 87 = .ok (.iaload, 1) := by decide +kernel
theorem dX8_move_88 : decode cX8_move 88 = .ok (.ireturn, 1) := by decide +kernel
theorem dX8_off_0 : decode cX8_off 0 = .ok (.aload_n 0, 1) := by decide +kernel
theorem dX8_off_1 : decode cX8_off 1 = .ok (.aload_n 0, 1) := by decide +kernel
theorem dX8_off_2 : decode cX8_off 2 = .ok (.iload_n 1, 1) := by decide +kernel
theorem dX8_off_3 : decode cX8_off 3 = .ok (.invokevirtual 144, 3) := by decide +kernel
theorem dX8_off_6 : decode cX8_off 6 = .ok (.ifCond .eq 7, 3) := by decide +kernel
theorem dX8_off_9 : decode cX8_off 9 = .ok (.iconst 0, 1) := by decide +kernel
theorem dX8_off_10 : decode cX8_off 10 = .ok (.goto 4, 3) := by decide +kernel
theorem dX8_off_13 : decode cX8_off 13 = .ok (.iconst 1, 1) := by decide +kernel
theorem dX8_off_14 : decode cX8_off 14 = .ok (.putfield 110, 3) := by decide +kernel
theorem dX8_off_17 : decode cX8_off 17 = .ok (.aload_n 0, 1) := by decide +kernel
theorem dX8_off_18 : decode cX8_off 18 = .ok (.getfield 110, 3) := by decide +kernel
theorem dX8_off_21 : decode cX8_off 21 = .ok (.ifCond .le 5, 3) := by decide +kernel
theorem dX8_off_24 : decode cX8_off 24 = .ok (.iconst 0, 1) := by decide +kernel
theorem dX8_off_25 : decode cX8_off 25 = .ok (.ireturn, 1) := by decide +kernel
theorem dX8_off_26 : decode cX8_off 26 = .ok (.aload_n 0, 1) := by decide +kernel
theorem dX8_off_27 : decode cX8_off 27 = .ok (.getfield 56, 3) := by decide +kernel
theorem dX8_off_30 : decode cX8_off 30 = .ok (.iload_n 1, 1) := by decide +kernel
theorem dX8_off_31 : decode cX8_off 31 = .ok (.iaload, 1) := by decide +kernel
theorem dX8_off_32 : decode cX8_off 32 = .ok (.istore_n 2, 1) := by decide +kernel
theorem dX8_off_33 : decode cX8_off 33 = .ok (.aload_n 0, 1) := by decide +kernel
theorem dX8_off_34 : decode cX8_off 34 = .ok (.getfield 56, 3) := by decide +kernel
theorem dX8_off_37 : decode cX8_off 37 = .ok (.iload_n 1, 1) := by decide +kernel
theorem dX8_off_38 : decode cX8_off 38 = .ok (.iconst (-1), 1) := by decide +kernel
theorem dX8_off_39 : decode cX8_off 39 = .ok (.iastore, 1) := by decide +kernel
theorem dX8_off_40 : decode cX8_off 40 = .ok (.iload_n 2, 1) := by decide +kernel
theorem dX8_off_41 : decode cX8_off 41 = .ok (.ireturn, 1) := by decide +kernel
theorem dX8_reason_0 : decode cX8_reason 0 = .ok (.aload_n 0, 1) := by decide +kernel
theorem dX8_reason_1 : decode cX8_reason 1 = .ok (.getfield 7, 3) := by decide +kernel
theorem dX8_reason_4 : decode cX8_reason 4 = .ok (.aload_n 0, 1) := by decide +kernel
theorem dX8_reason_5 : decode cX8_reason 5 = .ok (.getfield 50, 3) := by decide +kernel
theorem dX8_reason_8 : decode cX8_reason 8 = .ok (.iload_n 1, 1) := by decide +kernel
theorem dX8_reason_9 : decode cX8_reason 9 = .ok (.iaload, 1) := by decide +kernel
theorem dX8_reason_10 : decode cX8_reason 10 = .ok (.iaload, 1) := by decide +kernel
theorem dX8_reason_11 : decode cX8_reason 11 = .ok (.iload_n 2, 1) := by decide +kernel
theorem dX8_reason_12 : decode cX8_reason 12 = .ok (.invokestatic 125, 3) := by decide +kernel
theorem dX8_reason_15 : decode cX8_reason 15 = .ok (.ifCond .ne 5, 3) := by decide +kernel
theorem dX8_reason_18 : decode cX8_reason 18 = .ok (.iconst 1, 1) := by decide +kernel
theorem dX8_reason_19 : decode cX8_reason 19 = .ok (.ireturn, 1) := by decide +kernel
theorem dX8_reason_20 : decode cX8_reason 20 = .ok (.aload_n 0, 1) := by decide +kernel
theorem dX8_reason_21 : decode cX8_reason 21 = .ok (.getfield 13, 3) := by decide +kernel
theorem dX8_reason_24 : decode cX8_reason 24 = .ok (.iload_n 2, 1) := by decide +kernel
theorem dX8_reason_25 : decode cX8_reason 25 = .ok (.baload, 1) := by decide +kernel
theorem dX8_reason_26 : decode cX8_reason 26 = .ok (.ifCond .eq 5, 3) := by decide +kernel
theorem dX8_reason_29 : decode cX8_reason 29 = .ok (.iconst 2, 1) := by decide +kernel
theorem dX8_reason_30 : decode cX8_reason 30 = .ok (.ireturn, 1) := by decide +kernel
theorem dX8_reason_31 : decode cX8_reason 31 = .ok (.aload_n 0, 1) := by decide +kernel
theorem dX8_reason_32 : decode cX8_reason 32 = .ok (.getfield 53, 3) := by decide +kernel
theorem dX8_reason_35 : decode cX8_reason 35 = .ok (.iload_n 1, 1) := by decide +kernel
theorem dX8_reason_36 : decode cX8_reason 36 = .ok (.iaload, 1) := by decide +kernel
theorem dX8_reason_37 : decode cX8_reason 37 = .ok (.iload_n 2, 1) := by decide +kernel
theorem dX8_reason_38 : decode cX8_reason 38 = .ok (.invokestatic 125, 3) := by decide +kernel
theorem dX8_reason_41 : decode cX8_reason 41 = .ok (.ifCond .eq 7, 3) := by decide +kernel
theorem dX8_reason_44 : decode cX8_reason 44 = .ok (.iconst 3, 1) := by decide +kernel
theorem dX8_reason_45 : decode cX8_reason 45 = .ok (.goto 33, 3) := by decide +kernel
theorem dX8_reason_48 : decode cX8_reason 48 = .ok (.iload_n 2, 1) := by decide +kernel
theorem dX8_reason_49 : decode cX8_reason 49 = .ok (.aload_n 0, 1) := by decide +kernel
theorem dX8_reason_50 : decode cX8_reason 50 = .ok (.getfield 47, 3) := by decide +kernel
theorem dX8_reason_53 : decode cX8_reason 53 = .ok (.iload_n 1, 1) := by decide +kernel
theorem dX8_reason_54 : decode cX8_reason 54 = .ok (.iaload, 1) := by decide +kernel
theorem dX8_reason_55 : decode cX8_reason 55 = .ok (.if_icmp .eq 22, 3) := by decide +kernel
theorem dX8_reason_58 : decode cX8_reason 58 = .ok (.aload_n 0, 1) := by decide +kernel
theorem dX8_reason_59 : decode cX8_reason 59 = .ok (.aload_n 0, 1) := by decide +kernel
theorem dX8_reason_60 : decode cX8_reason 60 = .ok (.getfield 47, 3) := by decide +kernel
theorem dX8_reason_63 : decode cX8_reason 63 = .ok (.iload_n 1, 1) := by decide +kernel
theorem dX8_reason_64 : decode cX8_reason 64 = .ok (.iaload, 1) := by decide +kernel
theorem dX8_reason_65 : decode cX8_reason 65 = .ok (.iload_n 2, 1) := by decide +kernel
theorem dX8_reason_66 : decode cX8_reason 66 = .ok (.invokevirtual 147, 3) := by decide +kernel
theorem dX8_reason_69 : decode cX8_reason 69 = .ok (.iconst (-1), 1) := by decide +kernel
theorem dX8_reason_70 : decode cX8_reason 70 = .ok (.if_icmp .ne 7, 3) := by decide +kernel
theorem dX8_reason_73 : decode cX8_reason 73 = .ok (.iconst 4, 1) := by decide +kernel
theorem dX8_reason_74 : decode cX8_reason 74 = .ok (.goto 4, 3) := by decide +kernel
theorem dX8_reason_77 : decode cX8_reason 77 = .ok (.iconst 0, 1) := by decide +kernel
theorem dX8_reason_78 : decode cX8_reason 78 = .ok (.ireturn, 1) := by decide +kernel
theorem dX8_isSteered_0 : decode cX8_isSteered 0 = .ok (.aload_n 0, 1) := by decide +kernel
theorem dX8_isSteered_1 : decode cX8_isSteered 1 = .ok (.getfield 17, 3) := by decide +kernel
theorem dX8_isSteered_4 : decode cX8_isSteered 4 = .ok (.aload_n 0, 1) := by decide +kernel
theorem dX8_isSteered_5 : decode cX8_isSteered 5 = .ok (.getfield 47, 3) := by decide +kernel
theorem dX8_isSteered_8 : decode cX8_isSteered 8 = .ok (.iload_n 1, 1) := by decide +kernel
theorem dX8_isSteered_9 : decode cX8_isSteered 9 = .ok (.iaload, 1) := by decide +kernel
theorem dX8_isSteered_10 : decode cX8_isSteered 10 = .ok (.iaload, 1) := by decide +kernel
theorem dX8_isSteered_11 : decode cX8_isSteered 11 = .ok (.istore_n 3, 1) := by decide +kernel
theorem dX8_isSteered_12 : decode cX8_isSteered 12 = .ok (.iload_n 3, 1) := by decide +kernel
theorem dX8_isSteered_13 : decode cX8_isSteered 13 = .ok (.iconst (-1), 1) := by decide +kernel
theorem dX8_isSteered_14 : decode cX8_isSteered 14 = .ok (.if_icmp .eq 31, 3) := by decide +kernel
theorem dX8_isSteered_17 : decode cX8_isSteered 17 = .ok (.iload_n 3, 1) := by decide +kernel
theorem dX8_isSteered_18 : decode cX8_isSteered 18 = .ok (.iload_n 2, 1) := by decide +kernel
theorem dX8_isSteered_19 : decode cX8_isSteered 19 = .ok (.if_icmp .eq 26, 3) := by decide +kernel
theorem dX8_isSteered_22 : decode cX8_isSteered 22 = .ok (.aload_n 0, 1) := by decide +kernel
theorem dX8_isSteered_23 : decode cX8_isSteered 23 = .ok (.iload_n 1, 1) := by decide +kernel
theorem dX8_isSteered_24 : decode cX8_isSteered 24 = .ok (.iload_n 3, 1) := by decide +kernel
theorem dX8_isSteered_25 : decode cX8_isSteered 25 = .ok (.invokevirtual 151, 3) := by decide +kernel
theorem dX8_isSteered_28 : decode cX8_isSteered 28 = .ok (.ifCond .ne 17, 3) := by decide +kernel
theorem dX8_isSteered_31 : decode cX8_isSteered 31 = .ok (.aload_n 0, 1) := by decide +kernel
theorem dX8_isSteered_32 : decode cX8_isSteered 32 = .ok (.getfield 59, 3) := by decide +kernel
theorem dX8_isSteered_35 : decode cX8_isSteered 35 = .ok (.iload_n 1, 1) := by decide +kernel
theorem dX8_isSteered_36 : decode cX8_isSteered 36 = .ok (.iaload, 1) := by decide +kernel
theorem dX8_isSteered_37 : decode cX8_isSteered 37 = .ok (.iconst 2, 1) := by decide +kernel
theorem dX8_isSteered_38 : decode cX8_isSteered 38 = .ok (.if_icmp .ge 7, 3) := by decide +kernel
theorem dX8_isSteered_41 : decode cX8_isSteered 41 = .ok (.iconst 1, 1) := by decide +kernel
theorem dX8_isSteered_42 : decode cX8_isSteered 42 = .ok (.goto 4, 3) := by decide +kernel
theorem dX8_isSteered_45 : decode cX8_isSteered 45 = .ok (.iconst 0, 1) := by decide +kernel
theorem dX8_isSteered_46 : decode cX8_isSteered 46 = .ok (.ireturn, 1) := by decide +kernel
theorem dX8_makesContact_0 : decode cX8_makesContact 0 = .ok (.aload_n 0, 1) := by decide +kernel
theorem dX8_makesContact_1 : decode cX8_makesContact 1 = .ok (.getfield 56, 3) := by decide +kernel
theorem dX8_makesContact_4 : decode cX8_makesContact 4 = .ok (.iload_n 1, 1) := by decide +kernel
theorem dX8_makesContact_5 : decode cX8_makesContact 5 = .ok (.iaload, 1) := by decide +kernel
theorem dX8_makesContact_6 : decode cX8_makesContact 6 = .ok (.istore_n 2, 1) := by decide +kernel
theorem dX8_makesContact_7 : decode cX8_makesContact 7 = .ok (.aload_n 0, 1) := by decide +kernel
theorem dX8_makesContact_8 : decode cX8_makesContact 8 = .ok (.getfield 80, 3) := by decide +kernel
theorem dX8_makesContact_11 : decode cX8_makesContact 11 = .ok (.bipush 10, 2) := by decide +kernel
theorem dX8_makesContact_13 : decode cX8_makesContact 13 = .ok (.iload_n 2, 1) := by decide +kernel
theorem dX8_makesContact_14 : decode cX8_makesContact 14 = .ok (.imul, 1) := by decide +kernel
theorem dX8_makesContact_15 : decode cX8_makesContact 15 = .ok (.iload_n 1, 1) := by decide +kernel
theorem dX8_makesContact_16 : decode cX8_makesContact 16 = .ok (.iadd, 1) := by decide +kernel
theorem dX8_makesContact_17 : decode cX8_makesContact 17 = .ok (.aload_n 0, 1) := by decide +kernel
theorem dX8_makesContact_18 : decode cX8_makesContact 18 = .ok (.getfield 141, 3) := by decide +kernel
theorem dX8_makesContact_21 : decode cX8_makesContact 21 = .ok (.iastore, 1) := by decide +kernel
theorem dX8_makesContact_22 : decode cX8_makesContact 22 = .ok (.aload_n 0, 1) := by decide +kernel
theorem dX8_makesContact_23 : decode cX8_makesContact 23 = .ok (.getfield 23, 3) := by decide +kernel
theorem dX8_makesContact_26 : decode cX8_makesContact 26 = .ok (.iload_n 2, 1) := by decide +kernel
theorem dX8_makesContact_27 : decode cX8_makesContact 27 = .ok (.iaload, 1) := by decide +kernel
theorem dX8_makesContact_28 : decode cX8_makesContact 28 = .ok (.ifCond .le 14, 3) := by decide +kernel
theorem dX8_makesContact_31 : decode cX8_makesContact 31 = .ok (.aload_n 0, 1) := by decide +kernel
theorem dX8_makesContact_32 : decode cX8_makesContact 32 = .ok (.getfield 23, 3) := by decide +kernel
theorem dX8_makesContact_35 : decode cX8_makesContact 35 = .ok (.iload_n 2, 1) := by decide +kernel
theorem dX8_makesContact_36 : decode cX8_makesContact 36 = .ok (.dup2, 1) := by decide +kernel
theorem dX8_makesContact_37 : decode cX8_makesContact 37 = .ok (.iaload, 1) := by decide +kernel
theorem dX8_makesContact_38 : decode cX8_makesContact 38 = .ok (.iconst 1, 1) := by decide +kernel
theorem dX8_makesContact_39 : decode cX8_makesContact 39 = .ok (.isub, 1) := by decide +kernel
theorem dX8_makesContact_40 : decode cX8_makesContact 40 = .ok (.iastore, 1) := by decide +kernel
theorem dX8_makesContact_41 : decode cX8_makesContact 41 = .ok (.return_, 1) := by decide +kernel
theorem dX8_makesContact_42 : decode cX8_makesContact 42 = .ok (.aload_n 0, 1) := by decide +kernel
theorem dX8_makesContact_43 : decode cX8_makesContact 43 = .ok (.getfield 62, 3) := by decide +kernel
theorem dX8_makesContact_46 : decode cX8_makesContact 46 = .ok (.iload_n 1, 1) := by decide +kernel
theorem dX8_makesContact_47 : decode cX8_makesContact 47 = .ok (.iaload, 1) := by decide +kernel
theorem dX8_makesContact_48 : decode cX8_makesContact 48 = .ok (.iconst (-1), 1) := by decide +kernel
theorem dX8_makesContact_49 : decode cX8_makesContact 49 = .ok (.if_icmp .eq 30, 3) := by decide +kernel
theorem dX8_makesContact_52 : decode cX8_makesContact 52 = .ok (.aload_n 0, 1) := by decide +kernel
theorem dX8_makesContact_53 : decode cX8_makesContact 53 = .ok (.getfield 62, 3) := by decide +kernel
theorem dX8_makesContact_56 : decode cX8_makesContact 56 = .ok (.iload_n 1, 1) := by decide +kernel
theorem dX8_makesContact_57 : decode cX8_makesContact 57 = .ok (.iaload, 1) := by decide +kernel
theorem dX8_makesContact_58 : decode cX8_makesContact 58 = .ok (.iload_n 2, 1) := by decide +kernel
theorem dX8_makesContact_59 : decode cX8_makesContact 59 = .ok (.if_icmp .eq 20, 3) := by decide +kernel
theorem dX8_makesContact_62 : decode cX8_makesContact 62 = .ok (.aload_n 0, 1) := by decide +kernel
theorem dX8_makesContact_63 : decode cX8_makesContact 63 = .ok (.getfield 80, 3) := by decide +kernel
theorem dX8_makesContact_66 : decode cX8_makesContact 66 = .ok (.bipush 10, 2) := by decide +kernel
theorem dX8_makesContact_68 : decode cX8_makesContact 68 = .ok (.aload_n 0, 1) := by decide +kernel
theorem dX8_makesContact_69 : decode cX8_makesContact 69 = .ok (.getfield 62, 3) := by decide +kernel
theorem dX8_makesContact_72 : decode cX8_makesContact 72 = .ok (.iload_n 1, 1) := by decide +kernel
theorem dX8_makesContact_73 : decode cX8_makesContact 73 = .ok (.iaload, 1) := by decide +kernel
theorem dX8_makesContact_74 : decode cX8_makesContact 74 = .ok (.imul, 1) := by decide +kernel
theorem dX8_makesContact_75 : decode cX8_makesContact 75 = .ok (.iload_n 1, 1) := by decide +kernel
theorem dX8_makesContact_76 : decode cX8_makesContact 76 = .ok (.iadd, 1) := by decide +kernel
theorem dX8_makesContact_77 : decode cX8_makesContact 77 = .ok (.iconst (-1), 1) := by decide +kernel
theorem dX8_makesContact_78 : decode cX8_makesContact 78 = .ok (.iastore, 1) := by decide +kernel
theorem dX8_makesContact_79 : decode cX8_makesContact 79 = .ok (.aload_n 0, 1) := by decide +kernel
theorem dX8_makesContact_80 : decode cX8_makesContact 80 = .ok (.getfield 62, 3) := by decide +kernel
theorem dX8_makesContact_83 : decode cX8_makesContact 83 = .ok (.iload_n 1, 1) := by decide +kernel
theorem dX8_makesContact_84 : decode cX8_makesContact 84 = .ok (.iload_n 2, 1) := by decide +kernel
theorem dX8_makesContact_85 : decode cX8_makesContact 85 = .ok (.iastore, 1) := by decide +kernel
theorem dX8_makesContact_86 : decode cX8_makesContact 86 = .ok (.return_, 1) := by decide +kernel
theorem dX8_attach_0 : decode cX8_attach 0 = .ok (.aload_n 0, 1) := by decide +kernel
theorem dX8_attach_1 : decode cX8_attach 1 = .ok (.aload_n 0, 1) := by decide +kernel
theorem dX8_attach_2 : decode cX8_attach 2 = .ok (.iload_n 1, 1) := by decide +kernel
theorem dX8_attach_3 : decode cX8_attach 3 = .ok (.invokevirtual 144, 3) := by decide +kernel
theorem dX8_attach_6 : decode cX8_attach 6 = .ok (.ifCond .eq 10, 3) := by decide +kernel
theorem dX8_attach_9 : decode cX8_attach 9 = .ok (.iload_n 2, 1) := by decide +kernel
theorem dX8_attach_10 : decode cX8_attach 10 = .ok (.invokestatic 129, 3) := by decide +kernel
theorem dX8_attach_13 : decode cX8_attach 13 = .ok (.ifCond .ne 7, 3) := by decide +kernel
theorem dX8_attach_16 : decode cX8_attach 16 = .ok (.iconst 1, 1) := by decide +kernel
theorem dX8_attach_17 : decode cX8_attach 17 = .ok (.goto 18, 3) := by decide +kernel
theorem dX8_attach_20 : decode cX8_attach 20 = .ok (.aload_n 0, 1) := by decide +kernel
theorem dX8_attach_21 : decode cX8_attach 21 = .ok (.getfield 56, 3) := by decide +kernel
theorem dX8_attach_24 : decode cX8_attach 24 = .ok (.iload_n 1, 1) := by decide +kernel
theorem dX8_attach_25 : decode cX8_attach 25 = .ok (.iaload, 1) := by decide +kernel
theorem dX8_attach_26 : decode cX8_attach 26 = .ok (.iload_n 2, 1) := by decide +kernel
theorem dX8_attach_27 : decode cX8_attach 27 = .ok (.if_icmp .ne 7, 3) := by decide +kernel
theorem dX8_attach_30 : decode cX8_attach 30 = .ok (.iconst 2, 1) := by decide +kernel
theorem dX8_attach_31 : decode cX8_attach 31 = .ok (.goto 4, 3) := by decide +kernel
theorem dX8_attach_34 : decode cX8_attach 34 = .ok (.iconst 0, 1) := by decide +kernel
theorem dX8_attach_35 : decode cX8_attach 35 = .ok (.putfield 110, 3) := by decide +kernel
theorem dX8_attach_38 : decode cX8_attach 38 = .ok (.aload_n 0, 1) := by decide +kernel
theorem dX8_attach_39 : decode cX8_attach 39 = .ok (.getfield 110, 3) := by decide +kernel
theorem dX8_attach_42 : decode cX8_attach 42 = .ok (.ifCond .le 5, 3) := by decide +kernel
theorem dX8_attach_45 : decode cX8_attach 45 = .ok (.iconst 0, 1) := by decide +kernel
theorem dX8_attach_46 : decode cX8_attach 46 = .ok (.ireturn, 1) := by decide +kernel
theorem dX8_attach_47 : decode cX8_attach 47 = .ok (.aload_n 0, 1) := by decide +kernel
theorem dX8_attach_48 : decode cX8_attach 48 = .ok (.iload_n 1, 1) := by decide +kernel
theorem dX8_attach_49 : decode cX8_attach 49 = .ok (.iload_n 2, 1) := by decide +kernel
theorem dX8_attach_50 : decode cX8_attach 50 = .ok (.invokevirtual 151, 3) := by decide +kernel
theorem dX8_attach_53 : decode cX8_attach 53 = .ok (.istore_n 3, 1) := by decide +kernel
theorem dX8_attach_54 : decode cX8_attach 54 = .ok (.iload_n 3, 1) := by decide +kernel
theorem dX8_attach_55 : decode cX8_attach 55 = .ok (.ifCond .ne 24, 3) := by decide +kernel
theorem dX8_attach_58 : decode cX8_attach 58 = .ok (.aload_n 0, 1) := by decide +kernel
theorem dX8_attach_59 : decode cX8_attach 59 = .ok (.iload_n 1, 1) := by decide +kernel
theorem dX8_attach_60 : decode cX8_attach 60 = .ok (.iload_n 2, 1) := by decide +kernel
theorem dX8_attach_61 : decode cX8_attach 61 = .ok (.invokevirtual 154, 3) := by decide +kernel
theorem dX8_attach_64 : decode cX8_attach 64 = .ok (.ifCond .eq 15, 3) := by decide +kernel
theorem dX8_attach_67 : decode cX8_attach 67 = .ok (.aload_n 0, 1) := by decide +kernel
theorem dX8_attach_68 : decode cX8_attach 68 = .ok (.getfield 59, 3) := by decide +kernel
theorem dX8_attach_71 : decode cX8_attach 71 = .ok (.iload_n 1, 1) := by decide +kernel
theorem dX8_attach_72 : decode cX8_attach 72 = .ok (.dup2, 1) := by decide +kernel
theorem dX8_attach_73 : decode cX8_attach 73 = .ok (.iaload, 1) := by decide +kernel
theorem dX8_attach_74 : decode cX8_attach 74 = .ok (.iconst 1, 1) := by decide +kernel
theorem dX8_attach_75 : decode cX8_attach 75 = .ok (.iadd, 1) := by decide +kernel
theorem dX8_attach_76 : decode cX8_attach 76 = .ok (.iastore, 1) := by decide +kernel
theorem dX8_attach_77 : decode cX8_attach 77 = .ok (.iconst 5, 1) := by decide +kernel
theorem dX8_attach_78 : decode cX8_attach 78 = .ok (.istore_n 3, 1) := by decide +kernel
theorem dX8_attach_79 : decode cX8_attach 79 = .ok (.iload_n 3, 1) := by decide +kernel
theorem dX8_attach_80 : decode cX8_attach 80 = .ok (.ifCond .ne 22, 3) := by decide +kernel
theorem dX8_attach_83 : decode cX8_attach 83 = .ok (.aload_n 0, 1) := by decide +kernel
theorem dX8_attach_84 : decode cX8_attach 84 = .ok (.getfield 56, 3) := by decide +kernel
theorem dX8_attach_87 : decode cX8_attach 87 = .ok (.iload_n 1, 1) := by decide +kernel
theorem dX8_attach_88 : decode cX8_attach 88 = .ok (.iload_n 2, 1) := by decide +kernel
theorem dX8_attach_89 : decode cX8_attach 89 = .ok (.iastore, 1) := by decide +kernel
theorem dX8_attach_90 : decode cX8_attach 90 = .ok (.aload_n 0, 1) := by decide +kernel
theorem dX8_attach_91 : decode cX8_attach 91 = .ok (.getfield 59, 3) := by decide +kernel
theorem dX8_attach_94 : decode cX8_attach 94 = .ok (.iload_n 1, 1) := by decide +kernel
theorem dX8_attach_95 : decode cX8_attach 95 = .ok (.iconst 0, 1) := by decide +kernel
theorem dX8_attach_96 : decode cX8_attach 96 = .ok (.iastore, 1) := by decide +kernel
theorem dX8_attach_97 : decode cX8_attach 97 = .ok (.aload_n 0, 1) := by decide +kernel
theorem dX8_attach_98 : decode cX8_attach 98 = .ok (.iload_n 1, 1) := by decide +kernel
theorem dX8_attach_99 : decode cX8_attach 99 = .ok (.invokevirtual 157, 3) := by decide +kernel
theorem dX8_attach_102 : decode cX8_attach 102 = .ok (.iload_n 3, 1) := by decide +kernel
theorem dX8_attach_103 : decode cX8_attach 103 = .ok (.ireturn, 1) := by decide +kernel
theorem dX8_emergency_0 : decode cX8_emergency 0 = .ok (.aload_n 0, 1) := by decide +kernel
theorem dX8_emergency_1 : decode cX8_emergency 1 = .ok (.aload_n 0, 1) := by decide +kernel
theorem dX8_emergency_2 : decode cX8_emergency 2 = .ok (.iload_n 1, 1) := by decide +kernel
theorem dX8_emergency_3 : decode cX8_emergency 3 = .ok (.invokevirtual 144, 3) := by decide +kernel
theorem dX8_emergency_6 : decode cX8_emergency 6 = .ok (.ifCond .eq 7, 3) := by decide +kernel
theorem dX8_emergency_9 : decode cX8_emergency 9 = .ok (.iconst 0, 1) := by decide +kernel
theorem dX8_emergency_10 : decode cX8_emergency 10 = .ok (.goto 4, 3) := by decide +kernel
theorem dX8_emergency_13 : decode cX8_emergency 13 = .ok (.iconst 1, 1) := by decide +kernel
theorem dX8_emergency_14 : decode cX8_emergency 14 = .ok (.putfield 110, 3) := by decide +kernel
theorem dX8_emergency_17 : decode cX8_emergency 17 = .ok (.aload_n 0, 1) := by decide +kernel
theorem dX8_emergency_18 : decode cX8_emergency 18 = .ok (.getfield 110, 3) := by decide +kernel
theorem dX8_emergency_21 : decode cX8_emergency 21 = .ok (.ifCond .le 5, 3) := by decide +kernel
theorem dX8_emergency_24 : decode cX8_emergency 24 = .ok (.iconst 0, 1) := by decide +kernel
theorem dX8_emergency_25 : decode cX8_emergency 25 = .ok (.ireturn, 1) := by decide +kernel
theorem dX8_emergency_26 : decode cX8_emergency 26 = .ok (.aload_n 0, 1) := by decide +kernel
theorem dX8_emergency_27 : decode cX8_emergency 27 = .ok (.getfield 56, 3) := by decide +kernel
theorem dX8_emergency_30 : decode cX8_emergency 30 = .ok (.iload_n 1, 1) := by decide +kernel
theorem dX8_emergency_31 : decode cX8_emergency 31 = .ok (.iaload, 1) := by decide +kernel
theorem dX8_emergency_32 : decode cX8_emergency 32 = .ok (.istore_n 2, 1) := by decide +kernel
theorem dX8_emergency_33 : decode cX8_emergency 33 = .ok (.iconst 0, 1) := by decide +kernel
theorem dX8_emergency_34 : decode cX8_emergency 34 = .ok (.istore_n 3, 1) := by decide +kernel
theorem dX8_emergency_35 : decode cX8_emergency 35 = .ok (.iload_n 3, 1) := by decide +kernel
theorem dX8_emergency_36 : decode cX8_emergency 36 = .ok (.bipush 6, 2) := by decide +kernel
theorem dX8_emergency_38 : decode cX8_emergency 38 = .ok (.if_icmp .ge 47, 3) := by decide +kernel
theorem dX8_emergency_41 : decode cX8_emergency 41 = .ok (.iload_n 2, 1) := by decide +kernel
theorem dX8_emergency_42 : decode cX8_emergency 42 = .ok (.iconst (-1), 1) := by decide +kernel
theorem dX8_emergency_43 : decode cX8_emergency 43 = .ok (.if_icmp .ne 34, 3) := by decide +kernel
theorem dX8_emergency_46 : decode cX8_emergency 46 = .ok (.aload_n 0, 1) := by decide +kernel
theorem dX8_emergency_47 : decode cX8_emergency 47 = .ok (.getfield 7, 3) := by decide +kernel
theorem dX8_emergency_50 : decode cX8_emergency 50 = .ok (.aload_n 0, 1) := by decide +kernel
theorem dX8_emergency_51 : decode cX8_emergency 51 = .ok (.getfield 50, 3) := by decide +kernel
theorem dX8_emergency_54 : decode cX8_emergency 54 = .ok (.iload_n 1, 1) := by decide +kernel
theorem dX8_emergency_55 : decode cX8_emergency 55 = .ok (.iaload, 1) := by decide +kernel
theorem dX8_emergency_56 : decode cX8_emergency 56 = .ok (.iaload, 1) := by decide +kernel
theorem dX8_emergency_57 : decode cX8_emergency 57 = .ok (.iload_n 3, 1) := by decide +kernel
theorem dX8_emergency_58 : decode cX8_emergency 58 = .ok (.invokestatic 125, 3) := by decide +kernel
theorem dX8_emergency_61 : decode cX8_emergency 61 = .ok (.ifCond .eq 16, 3) := by decide +kernel
theorem dX8_emergency_64 : decode cX8_emergency 64 = .ok (.aload_n 0, 1) := by decide +kernel
theorem dX8_emergency_65 : decode cX8_emergency 65 = .ok (.getfield 13, 3) := by decide +kernel
theorem dX8_emergency_68 : decode cX8_emergency 68 = .ok (.iload_n 3, 1) := by decide +kernel
theorem dX8_emergency_69 : decode cX8_emergency 69 = .ok (.baload, 1) := by decide +kernel
theorem dX8_emergency_70 : decode cX8_emergency 70 = .ok (.ifCond .ne 7, 3) := by decide +kernel
theorem dX8_emergency_73 : decode cX8_emergency 73 = .ok (.iload_n 3, 1) := by decide +kernel
theorem dX8_emergency_74 : decode cX8_emergency 74 = .ok (.goto 4, 3) := by decide +kernel
theorem dX8_emergency_77 : decode cX8_emergency 77 = .ok (.iload_n 2, 1) := by decide +kernel
theorem dX8_emergency_78 : decode cX8_emergency 78 = .ok (.istore_n 2, 1) := by decide +kernel
theorem dX8_emergency_79 : decode cX8_emergency 79 = .ok (.iinc 3 1, 3) := by decide +kernel
theorem dX8_emergency_82 : decode cX8_emergency 82 = .ok (.goto (-47), 3) := by decide +kernel
theorem dX8_emergency_85 : decode cX8_emergency 85 = .ok (.iload_n 2, 1) := by decide +kernel
theorem dX8_emergency_86 : decode cX8_emergency 86 = .ok (.ireturn, 1) := by decide +kernel
theorem dX8_where_0 : decode cX8_where 0 = .ok (.aload_n 0, 1) := by decide +kernel
theorem dX8_where_1 : decode cX8_where 1 = .ok (.aload_n 0, 1) := by decide +kernel
theorem dX8_where_2 : decode cX8_where 2 = .ok (.iload_n 1, 1) := by decide +kernel
theorem dX8_where_3 : decode cX8_where 3 = .ok (.invokevirtual 144, 3) := by decide +kernel
theorem dX8_where_6 : decode cX8_where 6 = .ok (.ifCond .eq 7, 3) := by decide +kernel
theorem dX8_where_9 : decode cX8_where 9 = .ok (.iconst 0, 1) := by decide +kernel
theorem dX8_where_10 : decode cX8_where 10 = .ok (.goto 4, 3) := by decide +kernel
theorem dX8_where_13 : decode cX8_where 13 = .ok (.iconst 1, 1) := by decide +kernel
theorem dX8_where_14 : decode cX8_where 14 = .ok (.putfield 110, 3) := by decide +kernel
theorem dX8_where_17 : decode cX8_where 17 = .ok (.aload_n 0, 1) := by decide +kernel
theorem dX8_where_18 : decode cX8_where 18 = .ok (.getfield 110, 3) := by decide +kernel
theorem dX8_where_21 : decode cX8_where 21 = .ok (.ifCond .le 7, 3) := by decide +kernel
theorem dX8_where_24 : decode cX8_where 24 = .ok (.iconst 0, 1) := by decide +kernel
theorem dX8_where_25 : decode cX8_where 25 = .ok (.goto 9, 3) := by decide +kernel
theorem dX8_where_28 : decode cX8_where 28 = .ok (.aload_n 0, 1) := by decide +kernel
theorem dX8_where_29 : decode cX8_where 29 = .ok (.getfield 62, 3) := by decide +kernel
theorem dX8_where_32 : decode cX8_where 32 = .ok (.iload_n 1, 1) := by decide +kernel
theorem dX8_where_33 : decode cX8_where 33 = .ok (.iaload, 1) := by decide +kernel
theorem dX8_where_34 : decode cX8_where 34 = .ok (.ireturn, 1) := by decide +kernel
theorem dX8_contact_0 : decode cX8_contact 0 = .ok (.aload_n 0, 1) := by decide +kernel
theorem dX8_contact_1 : decode cX8_contact 1 = .ok (.iload_n 1, 1) := by decide +kernel
theorem dX8_contact_2 : decode cX8_contact 2 = .ok (.invokestatic 129, 3) := by decide +kernel
theorem dX8_contact_5 : decode cX8_contact 5 = .ok (.ifCond .eq 15, 3) := by decide +kernel
theorem dX8_contact_8 : decode cX8_contact 8 = .ok (.aload_n 0, 1) := by decide +kernel
theorem dX8_contact_9 : decode cX8_contact 9 = .ok (.iload_n 2, 1) := by decide +kernel
theorem dX8_contact_10 : decode cX8_contact 10 = .ok (.invokevirtual 144, 3) := by decide +kernel
theorem dX8_contact_13 : decode cX8_contact 13 = .ok (.ifCond .eq 7, 3) := by decide +kernel
theorem dX8_contact_16 : decode cX8_contact 16 = .ok (.iconst 0, 1) := by decide +kernel
theorem dX8_contact_17 : decode cX8_contact 17 = .ok (.goto 4, 3) := by decide +kernel
theorem dX8_contact_20 : decode cX8_contact 20 = .ok (.iconst 1, 1) := by decide +kernel
theorem dX8_contact_21 : decode cX8_contact 21 = .ok (.putfield 110, 3) := by decide +kernel
theorem dX8_contact_24 : decode cX8_contact 24 = .ok (.aload_n 0, 1) := by decide +kernel
theorem dX8_contact_25 : decode cX8_contact 25 = .ok (.getfield 110, 3) := by decide +kernel
theorem dX8_contact_28 : decode cX8_contact 28 = .ok (.ifCond .le 7, 3) := by decide +kernel
theorem dX8_contact_31 : decode cX8_contact 31 = .ok (.iconst 0, 1) := by decide +kernel
theorem dX8_contact_32 : decode cX8_contact 32 = .ok (.goto 14, 3) := by decide +kernel
theorem dX8_contact_35 : decode cX8_contact 35 = .ok (.aload_n 0, 1) := by decide +kernel
theorem dX8_contact_36 : decode cX8_contact 36 = .ok (.getfield 80, 3) := by decide +kernel
theorem dX8_contact_39 : decode cX8_contact 39 = .ok (.bipush 10, 2) := by decide +kernel
theorem dX8_contact_41 : decode cX8_contact 41 = .ok (.iload_n 1, 1) := by decide +kernel
theorem dX8_contact_42 : decode cX8_contact 42 = .ok (.imul, 1) := by decide +kernel
theorem dX8_contact_43 : decode cX8_contact 43 = .ok (.iload_n 2, 1) := by decide +kernel
theorem dX8_contact_44 : decode cX8_contact 44 = .ok (.iadd, 1) := by decide +kernel
theorem dX8_contact_45 : decode cX8_contact 45 = .ok (.iaload, 1) := by decide +kernel
theorem dX8_contact_46 : decode cX8_contact 46 = .ok (.ireturn, 1) := by decide +kernel
theorem dX8_agrees_0 : decode cX8_agrees 0 = .ok (.aload_n 0, 1) := by decide +kernel
theorem dX8_agrees_1 : decode cX8_agrees 1 = .ok (.aload_n 0, 1) := by decide +kernel
theorem dX8_agrees_2 : decode cX8_agrees 2 = .ok (.iload_n 1, 1) := by decide +kernel
theorem dX8_agrees_3 : decode cX8_agrees 3 = .ok (.invokevirtual 144, 3) := by decide +kernel
theorem dX8_agrees_6 : decode cX8_agrees 6 = .ok (.ifCond .eq 7, 3) := by decide +kernel
theorem dX8_agrees_9 : decode cX8_agrees 9 = .ok (.iconst 0, 1) := by decide +kernel
theorem dX8_agrees_10 : decode cX8_agrees 10 = .ok (.goto 4, 3) := by decide +kernel
theorem dX8_agrees_13 : decode cX8_agrees 13 = .ok (.iconst 1, 1) := by decide +kernel
theorem dX8_agrees_14 : decode cX8_agrees 14 = .ok (.putfield 110, 3) := by decide +kernel
theorem dX8_agrees_17 : decode cX8_agrees 17 = .ok (.aload_n 0, 1) := by decide +kernel
theorem dX8_agrees_18 : decode cX8_agrees 18 = .ok (.getfield 110, 3) := by decide +kernel
theorem dX8_agrees_21 : decode cX8_agrees 21 = .ok (.ifCond .le 5, 3) := by decide +kernel
theorem dX8_agrees_24 : decode cX8_agrees 24 = .ok (.iconst 0, 1) := by decide +kernel
theorem dX8_agrees_25 : decode cX8_agrees 25 = .ok (.ireturn, 1) := by decide +kernel
theorem dX8_agrees_26 : decode cX8_agrees 26 = .ok (.aload_n 0, 1) := by decide +kernel
theorem dX8_agrees_27 : decode cX8_agrees 27 = .ok (.getfield 56, 3) := by decide +kernel
theorem dX8_agrees_30 : decode cX8_agrees 30 = .ok (.iload_n 1, 1) := by decide +kernel
theorem dX8_agrees_31 : decode cX8_agrees 31 = .ok (.iaload, 1) := by decide +kernel
theorem dX8_agrees_32 : decode cX8_agrees 32 = .ok (.istore_n 2, 1) := by decide +kernel
theorem dX8_agrees_33 : decode cX8_agrees 33 = .ok (.iload_n 2, 1) := by decide +kernel
theorem dX8_agrees_34 : decode cX8_agrees 34 = .ok (.iconst (-1), 1) := by decide +kernel
theorem dX8_agrees_35 : decode cX8_agrees 35 = .ok (.if_icmp .eq 13, 3) := by decide +kernel
theorem dX8_agrees_38 : decode cX8_agrees 38 = .ok (.aload_n 0, 1) := by decide +kernel
theorem dX8_agrees_39 : decode cX8_agrees 39 = .ok (.getfield 62, 3) := by decide +kernel
theorem dX8_agrees_42 : decode cX8_agrees 42 = .ok (.iload_n 1, 1) := by decide +kernel
theorem dX8_agrees_43 : decode cX8_agrees 43 = .ok (.iaload, 1) := by decide +kernel
theorem dX8_agrees_44 : decode cX8_agrees 44 = .ok (.iload_n 2, 1) := by decide +kernel
theorem dX8_agrees_45 : decode cX8_agrees 45 = .ok (.if_icmp .ne 7, 3) := by decide +kernel
theorem dX8_agrees_48 : decode cX8_agrees 48 = .ok (.iconst 1, 1) := by decide +kernel
theorem dX8_agrees_49 : decode cX8_agrees 49 = .ok (.goto 4, 3) := by decide +kernel
theorem dX8_agrees_52 : decode cX8_agrees 52 = .ok (.iconst 0, 1) := by decide +kernel
theorem dX8_agrees_53 : decode cX8_agrees 53 = .ok (.istore_n 3, 1) := by decide +kernel
theorem dX8_agrees_54 : decode cX8_agrees 54 = .ok (.iconst 0, 1) := by decide +kernel
theorem dX8_agrees_55 : decode cX8_agrees 55 = .ok (.istore 4, 2) := by decide +kernel
theorem dX8_agrees_57 : decode cX8_agrees 57 = .ok (.iload 4, 2) := by decide +kernel
theorem dX8_agrees_59 : decode cX8_agrees 59 = .ok (.bipush 6, 2) := by decide +kernel
theorem dX8_agrees_61 : decode cX8_agrees 61 = .ok (.if_icmp .ge 54, 3) := by decide +kernel
theorem dX8_agrees_64 : decode cX8_agrees 64 = .ok (.iload_n 3, 1) := by decide +kernel
theorem dX8_agrees_65 : decode cX8_agrees 65 = .ok (.ifCond .eq 42, 3) := by decide +kernel
theorem dX8_agrees_68 : decode cX8_agrees 68 = .ok (.aload_n 0, 1) := by decide +kernel
theorem dX8_agrees_69 : decode cX8_agrees 69 = .ok (.getfield 80, 3) := by decide +kernel
theorem dX8_agrees_72 : decode cX8_agrees 72 = .ok (.bipush 10, 2) := by decide +kernel
theorem dX8_agrees_74 : decode cX8_agrees 74 = .ok (.iload 4, 2) := by decide +kernel
theorem dX8_agrees_76 : decode cX8_agrees 76 = .ok (.imul, 1) := by decide +kernel
theorem dX8_agrees_77 : decode cX8_agrees 77 = .ok (.iload_n 1, 1) := by decide +kernel
theorem dX8_agrees_78 : decode cX8_agrees 78 = .ok (.iadd, 1) := by decide +kernel
theorem dX8_agrees_79 : decode cX8_agrees 79 = .ok (.iaload, 1) := by decide +kernel
theorem dX8_agrees_80 : decode cX8_agrees 80 = .ok (.iconst (-1), 1) := by decide +kernel
theorem dX8_agrees_81 : decode cX8_agrees 81 = .ok (.if_icmp .eq 7, 3) := by decide +kernel
theorem dX8_agrees_84 : decode cX8_agrees 84 = .ok (.iconst 1, 1) := by decide +kernel
theorem dX8_agrees_85 : decode cX8_agrees 85 = .ok (.goto 4, 3) := by decide +kernel
theorem dX8_agrees_88 : decode cX8_agrees 88 = .ok (.iconst 0, 1) := by decide +kernel
theorem dX8_agrees_89 : decode cX8_agrees 89 = .ok (.iload 4, 2) := by decide +kernel
theorem dX8_agrees_91 : decode cX8_agrees 91 = .ok (.iload_n 2, 1) := by decide +kernel
theorem dX8_agrees_92 : decode cX8_agrees 92 = .ok (.if_icmp .ne 7, 3) := by decide +kernel
theorem dX8_agrees_95 : decode cX8_agrees 95 = .ok (.iconst 1, 1) := by decide +kernel
theorem dX8_agrees_96 : decode cX8_agrees 96 = .ok (.goto 4, 3) := by decide +kernel
theorem dX8_agrees_99 : decode cX8_agrees 99 = .ok (.iconst 0, 1) := by decide +kernel
theorem dX8_agrees_100 : decode cX8_agrees 100 = .ok (.if_icmp .ne 7, 3) := by decide +kernel
theorem dX8_agrees_103 : decode cX8_agrees 103 = .ok (.iconst 1, 1) := by decide +kernel
theorem dX8_agrees_104 : decode cX8_agrees 104 = .ok (.goto 4, 3) := by decide +kernel
theorem dX8_agrees_107 : decode cX8_agrees 107 = .ok (.iconst 0, 1) := by decide +kernel
theorem dX8_agrees_108 : decode cX8_agrees 108 = .ok (.istore_n 3, 1) := by decide +kernel
theorem dX8_agrees_109 : decode cX8_agrees 109 = .ok (.iinc 4 1, 3) := by decide +kernel
theorem dX8_agrees_112 : decode cX8_agrees 112 = .ok (.goto (-55), 3) := by decide +kernel
theorem dX8_agrees_115 : decode cX8_agrees 115 = .ok (.iload_n 3, 1) := by decide +kernel
theorem dX8_agrees_116 : decode cX8_agrees 116 = .ok (.ireturn, 1) := by decide +kernel
theorem dX8_abroadOf_0 : decode cX8_abroadOf 0 = .ok (.aload_n 0, 1) := by decide +kernel
theorem dX8_abroadOf_1 : decode cX8_abroadOf 1 = .ok (.getfield 74, 3) := by decide +kernel
theorem dX8_abroadOf_4 : decode cX8_abroadOf 4 = .ok (.iload_n 1, 1) := by decide +kernel
theorem dX8_abroadOf_5 : decode cX8_abroadOf 5 = .ok (.iaload, 1) := by decide +kernel
theorem dX8_abroadOf_6 : decode cX8_abroadOf 6 = .ok (.aload_n 0, 1) := by decide +kernel
theorem dX8_abroadOf_7 : decode cX8_abroadOf 7 = .ok (.getfield 141, 3) := by decide +kernel
theorem dX8_abroadOf_10 : decode cX8_abroadOf 10 = .ok (.ldc 160, 2) := by decide +kernel
theorem dX8_abroadOf_12 : decode cX8_abroadOf 12 = .ok (.idiv, 1) := by decide +kernel
theorem dX8_abroadOf_13 : decode cX8_abroadOf 13 = .ok (.if_icmp .ne 12, 3) := by decide +kernel
theorem dX8_abroadOf_16 : decode cX8_abroadOf 16 = .ok (.aload_n 0, 1) := by decide +kernel
theorem dX8_abroadOf_17 : decode cX8_abroadOf 17 = .ok (.getfield 77, 3) := by decide +kernel
theorem dX8_abroadOf_20 : decode cX8_abroadOf 20 = .ok (.iload_n 1, 1) := by decide +kernel
theorem dX8_abroadOf_21 : decode cX8_abroadOf 21 = .ok (.iaload, 1) := by decide +kernel
theorem dX8_abroadOf_22 : decode cX8_abroadOf 22 = .ok (.goto 4, 3) := by decide +kernel
theorem dX8_abroadOf_25 : decode cX8_abroadOf 25 = .ok (.iconst 0, 1) := by decide +kernel
theorem dX8_abroadOf_26 : decode cX8_abroadOf 26 = .ok (.ireturn, 1) := by decide +kernel
theorem dX8_subscriberIs_0 : decode cX8_subscriberIs 0 = .ok (.aload_n 0, 1) := by decide +kernel
theorem dX8_subscriberIs_1 : decode cX8_subscriberIs 1 = .ok (.aload_n 0, 1) := by decide +kernel
theorem dX8_subscriberIs_2 : decode cX8_subscriberIs 2 = .ok (.iload_n 1, 1) := by decide +kernel
theorem dX8_subscriberIs_3 : decode cX8_subscriberIs 3 = .ok (.invokevirtual 144, 3) := by decide +kernel
theorem dX8_subscriberIs_6 : decode cX8_subscriberIs 6 = .ok (.ifCond .ne 7, 3) := by decide +kernel
theorem dX8_subscriberIs_9 : decode cX8_subscriberIs 9 = .ok (.iconst 1, 1) := by decide +kernel
theorem dX8_subscriberIs_10 : decode cX8_subscriberIs 10 = .ok (.goto 18, 3) := by decide +kernel
theorem dX8_subscriberIs_13 : decode cX8_subscriberIs 13 = .ok (.iload_n 2, 1) := by decide +kernel
theorem dX8_subscriberIs_14 : decode cX8_subscriberIs 14 = .ok (.iconst 0, 1) := by decide +kernel
theorem dX8_subscriberIs_15 : decode cX8_subscriberIs 15 = .ok (.bipush 6, 2) := by decide +kernel
theorem dX8_subscriberIs_17 : decode cX8_subscriberIs 17 = .ok (.invokestatic 114, 3) := by decide +kernel
theorem dX8_subscriberIs_20 : decode cX8_subscriberIs 20 = .ok (.ifCond .eq 7, 3) := by decide +kernel
theorem dX8_subscriberIs_23 : decode cX8_subscriberIs 23 = .ok (.iconst 0, 1) := by decide +kernel
theorem dX8_subscriberIs_24 : decode cX8_subscriberIs 24 = .ok (.goto 4, 3) := by decide +kernel
theorem dX8_subscriberIs_27 : decode cX8_subscriberIs 27 = .ok (.iconst 2, 1) := by decide +kernel
theorem dX8_subscriberIs_28 : decode cX8_subscriberIs 28 = .ok (.putfield 110, 3) := by decide +kernel
theorem dX8_subscriberIs_31 : decode cX8_subscriberIs 31 = .ok (.aload_n 0, 1) := by decide +kernel
theorem dX8_subscriberIs_32 : decode cX8_subscriberIs 32 = .ok (.getfield 110, 3) := by decide +kernel
theorem dX8_subscriberIs_35 : decode cX8_subscriberIs 35 = .ok (.ifCond .le 5, 3) := by decide +kernel
theorem dX8_subscriberIs_38 : decode cX8_subscriberIs 38 = .ok (.iconst 0, 1) := by decide +kernel
theorem dX8_subscriberIs_39 : decode cX8_subscriberIs 39 = .ok (.ireturn, 1) := by decide +kernel
theorem dX8_subscriberIs_40 : decode cX8_subscriberIs 40 = .ok (.iload_n 2, 1) := by decide +kernel
theorem dX8_subscriberIs_41 : decode cX8_subscriberIs 41 = .ok (.tableswitch 99 0 5 #[39, 46, 53, 60, 67, 73], 39) := by decide +kernel
theorem dX8_subscriberIs_80 : decode cX8_subscriberIs 80 = .ok (.aload_n 0, 1) := by decide +kernel
theorem dX8_subscriberIs_81 : decode cX8_subscriberIs 81 = .ok (.getfield 56, 3) := by decide +kernel
theorem dX8_subscriberIs_84 : decode cX8_subscriberIs 84 = .ok (.iload_n 1, 1) := by decide +kernel
theorem dX8_subscriberIs_85 : decode cX8_subscriberIs 85 = .ok (.iaload, 1) := by decide +kernel
theorem dX8_subscriberIs_86 : decode cX8_subscriberIs 86 = .ok (.ireturn, 1) := by decide +kernel
theorem dX8_subscriberIs_87 : decode cX8_subscriberIs 87 = .ok (.aload_n 0, 1) := by decide +kernel
theorem dX8_subscriberIs_88 : decode cX8_subscriberIs 88 = .ok (.getfield 50, 3) := by decide +kernel
theorem dX8_subscriberIs_91 : decode cX8_subscriberIs 91 = .ok (.iload_n 1, 1) := by decide +kernel
theorem dX8_subscriberIs_92 : decode cX8_subscriberIs 92 = .ok (.iaload, 1) := by decide +kernel
theorem dX8_subscriberIs_93 : decode cX8_subscriberIs 93 = .ok (.ireturn, 1) := by decide +kernel
theorem dX8_subscriberIs_94 : decode cX8_subscriberIs 94 = .ok (.aload_n 0, 1) := by decide +kernel
theorem dX8_subscriberIs_95 : decode cX8_subscriberIs 95 = .ok (.getfield 59, 3) := by decide +kernel
theorem dX8_subscriberIs_98 : decode cX8_subscriberIs 98 = .ok (.iload_n 1, 1) := by decide +kernel
theorem dX8_subscriberIs_99 : decode cX8_subscriberIs 99 = .ok (.iaload, 1) := by decide +kernel
theorem dX8_subscriberIs_100 : decode cX8_subscriberIs 100 = .ok (.ireturn, 1) := by decide +kernel
theorem dX8_subscriberIs_101 : decode cX8_subscriberIs 101 = .ok (.aload_n 0, 1) := by decide +kernel
theorem dX8_subscriberIs_102 : decode cX8_subscriberIs 102 = .ok (.getfield 71, 3) := by decide +kernel
theorem dX8_subscriberIs_105 : decode cX8_subscriberIs 105 = .ok (.iload_n 1, 1) := by decide +kernel
theorem dX8_subscriberIs_106 : decode cX8_subscriberIs 106 = .ok (.iaload, 1) := by decide +kernel
theorem dX8_subscriberIs_107 : decode cX8_subscriberIs 107 = .ok (.ireturn, 1) := by decide +kernel
theorem dX8_subscriberIs_108 : decode cX8_subscriberIs 108 = .ok (.aload_n 0, 1) := by decide +kernel
theorem dX8_subscriberIs_109 : decode cX8_subscriberIs 109 = .ok (.iload_n 1, 1) := by decide +kernel
theorem dX8_subscriberIs_110 : decode cX8_subscriberIs 110 = .ok (.invokevirtual 161, 3) := by decide +kernel
theorem dX8_subscriberIs_113 : decode cX8_subscriberIs 113 = .ok (.ireturn, 1) := by decide +kernel
theorem dX8_subscriberIs_114 : decode cX8_subscriberIs 114 = .ok (.bipush 100, 2) := by decide +kernel
theorem dX8_subscriberIs_116 : decode cX8_subscriberIs 116 = .ok (.aload_n 0, 1) := by decide +kernel
theorem dX8_subscriberIs_117 : decode cX8_subscriberIs 117 = .ok (.iload_n 1, 1) := by decide +kernel
theorem dX8_subscriberIs_118 : decode cX8_subscriberIs 118 = .ok (.invokevirtual 161, 3) := by decide +kernel
theorem dX8_subscriberIs_121 : decode cX8_subscriberIs 121 = .ok (.imul, 1) := by decide +kernel
theorem dX8_subscriberIs_122 : decode cX8_subscriberIs 122 = .ok (.bipush 80, 2) := by decide +kernel
theorem dX8_subscriberIs_124 : decode cX8_subscriberIs 124 = .ok (.aload_n 0, 1) := by decide +kernel
theorem dX8_subscriberIs_125 : decode cX8_subscriberIs 125 = .ok (.getfield 65, 3) := by decide +kernel
theorem dX8_subscriberIs_128 : decode cX8_subscriberIs 128 = .ok (.iload_n 1, 1) := by decide +kernel
theorem dX8_subscriberIs_129 : decode cX8_subscriberIs 129 = .ok (.iaload, 1) := by decide +kernel
theorem dX8_subscriberIs_130 : decode cX8_subscriberIs 130 = .ok (.imul, 1) := by decide +kernel
theorem dX8_subscriberIs_131 : decode cX8_subscriberIs 131 = .ok (.if_icmp .lt 7, 3) := by decide +kernel
theorem dX8_subscriberIs_134 : decode cX8_subscriberIs 134 = .ok (.iconst 1, 1) := by decide +kernel
theorem dX8_subscriberIs_135 : decode cX8_subscriberIs 135 = .ok (.goto 4, 3) := by decide +kernel
theorem dX8_subscriberIs_138 : decode cX8_subscriberIs 138 = .ok (.iconst 0, 1) := by decide +kernel
theorem dX8_subscriberIs_139 : decode cX8_subscriberIs 139 = .ok (.ireturn, 1) := by decide +kernel
theorem dX8_subscriberIs_140 : decode cX8_subscriberIs 140 = .ok (.aload_n 0, 1) := by decide +kernel
theorem dX8_subscriberIs_141 : decode cX8_subscriberIs 141 = .ok (.getfield 65, 3) := by decide +kernel
theorem dX8_subscriberIs_144 : decode cX8_subscriberIs 144 = .ok (.iload_n 1, 1) := by decide +kernel
theorem dX8_subscriberIs_145 : decode cX8_subscriberIs 145 = .ok (.iaload, 1) := by decide +kernel
theorem dX8_subscriberIs_146 : decode cX8_subscriberIs 146 = .ok (.ireturn, 1) := by decide +kernel
theorem dX8_cap_0 : decode cX8_cap 0 = .ok (.aload_n 0, 1) := by decide +kernel
theorem dX8_cap_1 : decode cX8_cap 1 = .ok (.aload_n 0, 1) := by decide +kernel
theorem dX8_cap_2 : decode cX8_cap 2 = .ok (.iload_n 1, 1) := by decide +kernel
theorem dX8_cap_3 : decode cX8_cap 3 = .ok (.invokevirtual 144, 3) := by decide +kernel
theorem dX8_cap_6 : decode cX8_cap 6 = .ok (.ifCond .ne 7, 3) := by decide +kernel
theorem dX8_cap_9 : decode cX8_cap 9 = .ok (.iconst 1, 1) := by decide +kernel
theorem dX8_cap_10 : decode cX8_cap 10 = .ok (.goto 18, 3) := by decide +kernel
theorem dX8_cap_13 : decode cX8_cap 13 = .ok (.iload_n 2, 1) := by decide +kernel
theorem dX8_cap_14 : decode cX8_cap 14 = .ok (.iconst 0, 1) := by decide +kernel
theorem dX8_cap_15 : decode cX8_cap 15 = .ok (.ldc 165, 2) := by decide +kernel
theorem dX8_cap_17 : decode cX8_cap 17 = .ok (.invokestatic 114, 3) := by decide +kernel
theorem dX8_cap_20 : decode cX8_cap 20 = .ok (.ifCond .eq 7, 3) := by decide +kernel
theorem dX8_cap_23 : decode cX8_cap 23 = .ok (.iconst 0, 1) := by decide +kernel
theorem dX8_cap_24 : decode cX8_cap 24 = .ok (.goto 4, 3) := by decide +kernel
theorem dX8_cap_27 : decode cX8_cap 27 = .ok (.iconst 2, 1) := by decide +kernel
theorem dX8_cap_28 : decode cX8_cap 28 = .ok (.putfield 110, 3) := by decide +kernel
theorem dX8_cap_31 : decode cX8_cap 31 = .ok (.aload_n 0, 1) := by decide +kernel
theorem dX8_cap_32 : decode cX8_cap 32 = .ok (.getfield 110, 3) := by decide +kernel
theorem dX8_cap_35 : decode cX8_cap 35 = .ok (.ifCond .ne 17, 3) := by decide +kernel
theorem dX8_cap_38 : decode cX8_cap 38 = .ok (.aload_n 0, 1) := by decide +kernel
theorem dX8_cap_39 : decode cX8_cap 39 = .ok (.getfield 65, 3) := by decide +kernel
theorem dX8_cap_42 : decode cX8_cap 42 = .ok (.iload_n 1, 1) := by decide +kernel
theorem dX8_cap_43 : decode cX8_cap 43 = .ok (.iload_n 2, 1) := by decide +kernel
theorem dX8_cap_44 : decode cX8_cap 44 = .ok (.iastore, 1) := by decide +kernel
theorem dX8_cap_45 : decode cX8_cap 45 = .ok (.aload_n 0, 1) := by decide +kernel
theorem dX8_cap_46 : decode cX8_cap 46 = .ok (.getfield 68, 3) := by decide +kernel
theorem dX8_cap_49 : decode cX8_cap 49 = .ok (.iload_n 1, 1) := by decide +kernel
theorem dX8_cap_50 : decode cX8_cap 50 = .ok (.iload_n 3, 1) := by decide +kernel
theorem dX8_cap_51 : decode cX8_cap 51 = .ok (.bastore, 1) := by decide +kernel
theorem dX8_cap_52 : decode cX8_cap 52 = .ok (.return_, 1) := by decide +kernel
theorem dX8_isAbroad_0 : decode cX8_isAbroad 0 = .ok (.aload_n 0, 1) := by decide +kernel
theorem dX8_isAbroad_1 : decode cX8_isAbroad 1 = .ok (.getfield 56, 3) := by decide +kernel
theorem dX8_isAbroad_4 : decode cX8_isAbroad 4 = .ok (.iload_n 1, 1) := by decide +kernel
theorem dX8_isAbroad_5 : decode cX8_isAbroad 5 = .ok (.iaload, 1) := by decide +kernel
theorem dX8_isAbroad_6 : decode cX8_isAbroad 6 = .ok (.aload_n 0, 1) := by decide +kernel
theorem dX8_isAbroad_7 : decode cX8_isAbroad 7 = .ok (.getfield 47, 3) := by decide +kernel
theorem dX8_isAbroad_10 : decode cX8_isAbroad 10 = .ok (.iload_n 1, 1) := by decide +kernel
theorem dX8_isAbroad_11 : decode cX8_isAbroad 11 = .ok (.iaload, 1) := by decide +kernel
theorem dX8_isAbroad_12 : decode cX8_isAbroad 12 = .ok (.if_icmp .eq 7, 3) := by decide +kernel
theorem dX8_isAbroad_15 : decode cX8_isAbroad 15 = .ok (.iconst 1, 1) := by decide +kernel
theorem dX8_isAbroad_16 : decode cX8_isAbroad 16 = .ok (.goto 4, 3) := by decide +kernel
theorem dX8_isAbroad_19 : decode cX8_isAbroad 19 = .ok (.iconst 0, 1) := by decide +kernel
theorem dX8_isAbroad_20 : decode cX8_isAbroad 20 = .ok (.ireturn, 1) := by decide +kernel
theorem dX8_isAbove_0 : decode cX8_isAbove 0 = .ok (.aload_n 0, 1) := by decide +kernel
theorem dX8_isAbove_1 : decode cX8_isAbove 1 = .ok (.iload_n 1, 1) := by decide +kernel
theorem dX8_isAbove_2 : decode cX8_isAbove 2 = .ok (.invokevirtual 166, 3) := by decide +kernel
theorem dX8_isAbove_5 : decode cX8_isAbove 5 = .ok (.ifCond .eq 32, 3) := by decide +kernel
theorem dX8_isAbove_8 : decode cX8_isAbove 8 = .ok (.aload_n 0, 1) := by decide +kernel
theorem dX8_isAbove_9 : decode cX8_isAbove 9 = .ok (.getfield 68, 3) := by decide +kernel
theorem dX8_isAbove_12 : decode cX8_isAbove 12 = .ok (.iload_n 1, 1) := by decide +kernel
theorem dX8_isAbove_13 : decode cX8_isAbove 13 = .ok (.baload, 1) := by decide +kernel
theorem dX8_isAbove_14 : decode cX8_isAbove 14 = .ok (.ifCond .ne 23, 3) := by decide +kernel
theorem dX8_isAbove_17 : decode cX8_isAbove 17 = .ok (.aload_n 0, 1) := by decide +kernel
theorem dX8_isAbove_18 : decode cX8_isAbove 18 = .ok (.iload_n 1, 1) := by decide +kernel
theorem dX8_isAbove_19 : decode cX8_isAbove 19 = .ok (.invokevirtual 161, 3) := by decide +kernel
theorem dX8_isAbove_22 : decode cX8_isAbove 22 = .ok (.iload_n 2, 1) := by decide +kernel
theorem dX8_isAbove_23 : decode cX8_isAbove 23 = .ok (.iadd, 1) := by decide +kernel
theorem dX8_isAbove_24 : decode cX8_isAbove 24 = .ok (.aload_n 0, 1) := by decide +kernel
theorem dX8_isAbove_25 : decode cX8_isAbove 25 = .ok (.getfield 65, 3) := by decide +kernel
theorem dX8_isAbove_28 : decode cX8_isAbove 28 = .ok (.iload_n 1, 1) := by decide +kernel
theorem dX8_isAbove_29 : decode cX8_isAbove 29 = .ok (.iaload, 1) := by decide +kernel
theorem dX8_isAbove_30 : decode cX8_isAbove 30 = .ok (.if_icmp .le 7, 3) := by decide +kernel
theorem dX8_isAbove_33 : decode cX8_isAbove 33 = .ok (.iconst 1, 1) := by decide +kernel
theorem dX8_isAbove_34 : decode cX8_isAbove 34 = .ok (.goto 4, 3) := by decide +kernel
theorem dX8_isAbove_37 : decode cX8_isAbove 37 = .ok (.iconst 0, 1) := by decide +kernel
theorem dX8_isAbove_38 : decode cX8_isAbove 38 = .ok (.ireturn, 1) := by decide +kernel
theorem dX8_pays_0 : decode cX8_pays 0 = .ok (.aload_n 0, 1) := by decide +kernel
theorem dX8_pays_1 : decode cX8_pays 1 = .ok (.getfield 71, 3) := by decide +kernel
theorem dX8_pays_4 : decode cX8_pays 4 = .ok (.iload_n 1, 1) := by decide +kernel
theorem dX8_pays_5 : decode cX8_pays 5 = .ok (.dup2, 1) := by decide +kernel
theorem dX8_pays_6 : decode cX8_pays 6 = .ok (.iaload, 1) := by decide +kernel
theorem dX8_pays_7 : decode cX8_pays 7 = .ok (.iload_n 2, 1) := by decide +kernel
theorem dX8_pays_8 : decode cX8_pays 8 = .ok (.iadd, 1) := by decide +kernel
theorem dX8_pays_9 : decode cX8_pays 9 = .ok (.iastore, 1) := by decide +kernel
theorem dX8_pays_10 : decode cX8_pays 10 = .ok (.aload_n 0, 1) := by decide +kernel
theorem dX8_pays_11 : decode cX8_pays 11 = .ok (.iload_n 1, 1) := by decide +kernel
theorem dX8_pays_12 : decode cX8_pays 12 = .ok (.invokevirtual 166, 3) := by decide +kernel
theorem dX8_pays_15 : decode cX8_pays 15 = .ok (.ifCond .eq 29, 3) := by decide +kernel
theorem dX8_pays_18 : decode cX8_pays 18 = .ok (.aload_n 0, 1) := by decide +kernel
theorem dX8_pays_19 : decode cX8_pays 19 = .ok (.getfield 77, 3) := by decide +kernel
theorem dX8_pays_22 : decode cX8_pays 22 = .ok (.iload_n 1, 1) := by decide +kernel
theorem dX8_pays_23 : decode cX8_pays 23 = .ok (.aload_n 0, 1) := by decide +kernel
theorem dX8_pays_24 : decode cX8_pays 24 = .ok (.iload_n 1, 1) := by decide +kernel
theorem dX8_pays_25 : decode cX8_pays 25 = .ok (.invokevirtual 161, 3) := by decide +kernel
theorem dX8_pays_28 : decode cX8_pays 28 = .ok (.iload_n 2, 1) := by decide +kernel
theorem dX8_pays_29 : decode cX8_pays 29 = .ok (.iadd, 1) := by decide +kernel
theorem dX8_pays_30 : decode cX8_pays 30 = .ok (.iastore, 1) := by decide +kernel
theorem dX8_pays_31 : decode cX8_pays 31 = .ok (.aload_n 0, 1) := by decide +kernel
theorem dX8_pays_32 : decode cX8_pays 32 = .ok (.getfield 74, 3) := by decide +kernel
theorem dX8_pays_35 : decode cX8_pays 35 = .ok (.iload_n 1, 1) := by decide +kernel
theorem dX8_pays_36 : decode cX8_pays 36 = .ok (.aload_n 0, 1) := by decide +kernel
theorem dX8_pays_37 : decode cX8_pays 37 = .ok (.getfield 141, 3) := by decide +kernel
theorem dX8_pays_40 : decode cX8_pays 40 = .ok (.ldc 160, 2) := by decide +kernel
theorem dX8_pays_42 : decode cX8_pays 42 = .ok (.idiv, 1) := by decide +kernel
theorem dX8_pays_43 : decode cX8_pays 43 = .ok (.iastore, 1) := by decide +kernel
theorem dX8_pays_44 : decode cX8_pays 44 = .ok (.return_, 1) := by decide +kernel
theorem dX8_records_0 : decode cX8_records 0 = .ok (.aload_n 0, 1) := by decide +kernel
theorem dX8_records_1 : decode cX8_records 1 = .ok (.iload_n 1, 1) := by decide +kernel
theorem dX8_records_2 : decode cX8_records 2 = .ok (.invokevirtual 166, 3) := by decide +kernel
theorem dX8_records_5 : decode cX8_records 5 = .ok (.ifCond .ne 4, 3) := by decide +kernel
theorem dX8_records_8 : decode cX8_records 8 = .ok (.return_, 1) := by decide +kernel
theorem dX8_records_9 : decode cX8_records 9 = .ok (.aload_n 0, 1) := by decide +kernel
theorem dX8_records_10 : decode cX8_records 10 = .ok (.getfield 83, 3) := by decide +kernel
theorem dX8_records_13 : decode cX8_records 13 = .ok (.aload_n 0, 1) := by decide +kernel
theorem dX8_records_14 : decode cX8_records 14 = .ok (.getfield 169, 3) := by decide +kernel
theorem dX8_records_17 : decode cX8_records 17 = .ok (.aload_n 0, 1) := by decide +kernel
theorem dX8_records_18 : decode cX8_records 18 = .ok (.getfield 47, 3) := by decide +kernel
theorem dX8_records_21 : decode cX8_records 21 = .ok (.iload_n 1, 1) := by decide +kernel
theorem dX8_records_22 : decode cX8_records 22 = .ok (.iaload, 1) := by decide +kernel
theorem dX8_records_23 : decode cX8_records 23 = .ok (.iastore, 1) := by decide +kernel
theorem dX8_records_24 : decode cX8_records 24 = .ok (.aload_n 0, 1) := by decide +kernel
theorem dX8_records_25 : decode cX8_records 25 = .ok (.getfield 86, 3) := by decide +kernel
theorem dX8_records_28 : decode cX8_records 28 = .ok (.aload_n 0, 1) := by decide +kernel
theorem dX8_records_29 : decode cX8_records 29 = .ok (.getfield 169, 3) := by decide +kernel
theorem dX8_records_32 : decode cX8_records 32 = .ok (.aload_n 0, 1) := by decide +kernel
theorem dX8_records_33 : decode cX8_records 33 = .ok (.getfield 56, 3) := by decide +kernel
theorem dX8_records_36 : decode cX8_records 36 = .ok (.iload_n 1, 1) := by decide +kernel
theorem dX8_records_37 : decode cX8_records 37 = .ok (.iaload, 1) := by decide +kernel
theorem dX8_records_38 : decode cX8_records 38 = .ok (.iastore, 1) := by decide +kernel
theorem dX8_records_39 : decode cX8_records 39 = .ok (.aload_n 0, 1) := by decide +kernel
theorem dX8_records_40 : decode cX8_records 40 = .ok (.getfield 89, 3) := by decide +kernel
theorem dX8_records_43 : decode cX8_records 43 = .ok (.aload_n 0, 1) := by decide +kernel
theorem dX8_records_44 : decode cX8_records 44 = .ok (.getfield 169, 3) := by decide +kernel
theorem dX8_records_47 : decode cX8_records 47 = .ok (.iload_n 2, 1) := by decide +kernel
theorem dX8_records_48 : decode cX8_records 48 = .ok (.iastore, 1) := by decide +kernel
theorem dX8_records_49 : decode cX8_records 49 = .ok (.aload_n 0, 1) := by decide +kernel
theorem dX8_records_50 : decode cX8_records 50 = .ok (.getfield 92, 3) := by decide +kernel
theorem dX8_records_53 : decode cX8_records 53 = .ok (.aload_n 0, 1) := by decide +kernel
theorem dX8_records_54 : decode cX8_records 54 = .ok (.getfield 169, 3) := by decide +kernel
theorem dX8_records_57 : decode cX8_records 57 = .ok (.aload_n 0, 1) := by decide +kernel
theorem dX8_records_58 : decode cX8_records 58 = .ok (.getfield 141, 3) := by decide +kernel
theorem dX8_records_61 : decode cX8_records 61 = .ok (.iastore, 1) := by decide +kernel
theorem dX8_records_62 : decode cX8_records 62 = .ok (.aload_n 0, 1) := by decide +kernel
theorem dX8_records_63 : decode cX8_records 63 = .ok (.getfield 95, 3) := by decide +kernel
theorem dX8_records_66 : decode cX8_records 66 = .ok (.aload_n 0, 1) := by decide +kernel
theorem dX8_records_67 : decode cX8_records 67 = .ok (.getfield 169, 3) := by decide +kernel
theorem dX8_records_70 : decode cX8_records 70 = .ok (.aload_n 0, 1) := by decide +kernel
theorem dX8_records_71 : decode cX8_records 71 = .ok (.aload_n 0, 1) := by decide +kernel
theorem dX8_records_72 : decode cX8_records 72 = .ok (.getfield 47, 3) := by decide +kernel
theorem dX8_records_75 : decode cX8_records 75 = .ok (.iload_n 1, 1) := by decide +kernel
theorem dX8_records_76 : decode cX8_records 76 = .ok (.iaload, 1) := by decide +kernel
theorem dX8_records_77 : decode cX8_records 77 = .ok (.aload_n 0, 1) := by decide +kernel
theorem dX8_records_78 : decode cX8_records 78 = .ok (.getfield 56, 3) := by decide +kernel
theorem dX8_records_81 : decode cX8_records 81 = .ok (.iload_n 1, 1) := by decide +kernel
theorem dX8_records_82 : decode cX8_records 82 = .ok (.iaload, 1) := by decide +kernel
theorem dX8_records_83 : decode cX8_records 83 = .ok (.invokevirtual 147, 3) := by decide +kernel
theorem dX8_records_86 : decode cX8_records 86 = .ok (.iastore, 1) := by decide +kernel
theorem dX8_records_87 : decode cX8_records 87 = .ok (.aload_n 0, 1) := by decide +kernel
theorem dX8_records_88 : decode cX8_records 88 = .ok (.getfield 98, 3) := by decide +kernel
theorem dX8_records_91 : decode cX8_records 91 = .ok (.aload_n 0, 1) := by decide +kernel
theorem dX8_records_92 : decode cX8_records 92 = .ok (.getfield 169, 3) := by decide +kernel
theorem dX8_records_95 : decode cX8_records 95 = .ok (.iconst 0, 1) := by decide +kernel
theorem dX8_records_96 : decode cX8_records 96 = .ok (.iastore, 1) := by decide +kernel
theorem dX8_records_97 : decode cX8_records 97 = .ok (.aload_n 0, 1) := by decide +kernel
theorem dX8_records_98 : decode cX8_records 98 = .ok (.dup, 1) := by decide +kernel
theorem dX8_records_99 : decode cX8_records 99 = .ok (.getfield 169, 3) := by decide +kernel
theorem dX8_records_102 : decode cX8_records 102 = .ok (.iconst 1, 1) := by decide +kernel
theorem dX8_records_103 : decode cX8_records 103 = .ok (.iadd, 1) := by decide +kernel
theorem dX8_records_104 : decode cX8_records 104 = .ok (.putfield 169, 3) := by decide +kernel
theorem dX8_records_107 : decode cX8_records 107 = .ok (.return_, 1) := by decide +kernel
theorem dX8_nobody_0 : decode cX8_nobody 0 = .ok (.aload_n 0, 1) := by decide +kernel
theorem dX8_nobody_1 : decode cX8_nobody 1 = .ok (.getfield 56, 3) := by decide +kernel
theorem dX8_nobody_4 : decode cX8_nobody 4 = .ok (.iload_n 1, 1) := by decide +kernel
theorem dX8_nobody_5 : decode cX8_nobody 5 = .ok (.iaload, 1) := by decide +kernel
theorem dX8_nobody_6 : decode cX8_nobody 6 = .ok (.iconst (-1), 1) := by decide +kernel
theorem dX8_nobody_7 : decode cX8_nobody 7 = .ok (.if_icmp .ne 5, 3) := by decide +kernel
theorem dX8_nobody_10 : decode cX8_nobody 10 = .ok (.iconst 1, 1) := by decide +kernel
theorem dX8_nobody_11 : decode cX8_nobody 11 = .ok (.ireturn, 1) := by decide +kernel
theorem dX8_nobody_12 : decode cX8_nobody 12 = .ok (.aload_n 0, 1) := by decide +kernel
theorem dX8_nobody_13 : decode cX8_nobody 13 = .ok (.getfield 62, 3) := by decide +kernel
theorem dX8_nobody_16 : decode cX8_nobody 16 = .ok (.iload_n 2, 1) := by decide +kernel
theorem dX8_nobody_17 : decode cX8_nobody 17 = .ok (.iaload, 1) := by decide +kernel
theorem dX8_nobody_18 : decode cX8_nobody 18 = .ok (.iconst (-1), 1) := by decide +kernel
theorem dX8_nobody_19 : decode cX8_nobody 19 = .ok (.if_icmp .ne 5, 3) := by decide +kernel
theorem dX8_nobody_22 : decode cX8_nobody 22 = .ok (.iconst 2, 1) := by decide +kernel
theorem dX8_nobody_23 : decode cX8_nobody 23 = .ok (.ireturn, 1) := by decide +kernel
theorem dX8_nobody_24 : decode cX8_nobody 24 = .ok (.aload_n 0, 1) := by decide +kernel
theorem dX8_nobody_25 : decode cX8_nobody 25 = .ok (.getfield 80, 3) := by decide +kernel
theorem dX8_nobody_28 : decode cX8_nobody 28 = .ok (.bipush 10, 2) := by decide +kernel
theorem dX8_nobody_30 : decode cX8_nobody 30 = .ok (.aload_n 0, 1) := by decide +kernel
theorem dX8_nobody_31 : decode cX8_nobody 31 = .ok (.getfield 62, 3) := by decide +kernel
theorem dX8_nobody_34 : decode cX8_nobody 34 = .ok (.iload_n 2, 1) := by decide +kernel
theorem dX8_nobody_35 : decode cX8_nobody 35 = .ok (.iaload, 1) := by decide +kernel
theorem dX8_nobody_36 : decode cX8_nobody 36 = .ok (.imul, 1) := by decide +kernel
theorem dX8_nobody_37 : decode cX8_nobody 37 = .ok (.iload_n 2, 1) := by decide +kernel
theorem dX8_nobody_38 : decode cX8_nobody 38 = .ok (.iadd, 1) := by decide +kernel
theorem dX8_nobody_39 : decode cX8_nobody 39 = .ok (.iaload, 1) := by decide +kernel
theorem dX8_nobody_40 : decode cX8_nobody 40 = .ok (.iconst (-1), 1) := by decide +kernel
theorem dX8_nobody_41 : decode cX8_nobody 41 = .ok (.if_icmp .ne 7, 3) := by decide +kernel
theorem dX8_nobody_44 : decode cX8_nobody 44 = .ok (.iconst 3, 1) := by decide +kernel
theorem dX8_nobody_45 : decode cX8_nobody 45 = .ok (.goto 23, 3) := by decide +kernel
theorem dX8_nobody_48 : decode cX8_nobody 48 = .ok (.aload_n 0, 1) := by decide +kernel
theorem dX8_nobody_49 : decode cX8_nobody 49 = .ok (.getfield 56, 3) := by decide +kernel
theorem dX8_nobody_52 : decode cX8_nobody 52 = .ok (.iload_n 2, 1) := by decide +kernel
theorem dX8_nobody_53 : decode cX8_nobody 53 = .ok (.iaload, 1) := by decide +kernel
theorem dX8_nobody_54 : decode cX8_nobody 54 = .ok (.aload_n 0, 1) := by decide +kernel
theorem dX8_nobody_55 : decode cX8_nobody 55 = .ok (.getfield 62, 3) := by decide +kernel
theorem dX8_nobody_58 : decode cX8_nobody 58 = .ok (.iload_n 2, 1) := by decide +kernel
theorem dX8_nobody_59 : decode cX8_nobody 59 = .ok (.iaload, 1) := by decide +kernel
theorem dX8_nobody_60 : decode cX8_nobody 60 = .ok (.if_icmp .eq 7, 3) := by decide +kernel
theorem dX8_nobody_63 : decode cX8_nobody 63 = .ok (.iconst 4, 1) := by decide +kernel
theorem dX8_nobody_64 : decode cX8_nobody 64 = .ok (.goto 4, 3) := by decide +kernel
theorem dX8_nobody_67 : decode cX8_nobody 67 = .ok (.iconst 0, 1) := by decide +kernel
theorem dX8_nobody_68 : decode cX8_nobody 68 = .ok (.ireturn, 1) := by decide +kernel
theorem dX8_call_0 : decode cX8_call 0 = .ok (.aload_n 0, 1) := by decide +kernel
theorem dX8_call_1 : decode cX8_call 1 = .ok (.iload_n 1, 1) := by decide +kernel
theorem dX8_call_2 : decode cX8_call 2 = .ok (.invokevirtual 144, 3) := by decide +kernel
theorem dX8_call_5 : decode cX8_call 5 = .ok (.ifCond .eq 15, 3) := by decide +kernel
theorem dX8_call_8 : decode cX8_call 8 = .ok (.aload_n 0, 1) := by decide +kernel
theorem dX8_call_9 : decode cX8_call 9 = .ok (.iload_n 2, 1) := by decide +kernel
theorem dX8_call_10 : decode cX8_call 10 = .ok (.invokevirtual 144, 3) := by decide +kernel
theorem dX8_call_13 : decode cX8_call 13 = .ok (.ifCond .eq 7, 3) := by decide +kernel
theorem dX8_call_16 : decode cX8_call 16 = .ok (.iconst 1, 1) := by decide +kernel
theorem dX8_call_17 : decode cX8_call 17 = .ok (.goto 4, 3) := by decide +kernel
theorem dX8_call_20 : decode cX8_call 20 = .ok (.iconst 0, 1) := by decide +kernel
theorem dX8_call_21 : decode cX8_call 21 = .ok (.istore 4, 2) := by decide +kernel
theorem dX8_call_23 : decode cX8_call 23 = .ok (.aload_n 0, 1) := by decide +kernel
theorem dX8_call_24 : decode cX8_call 24 = .ok (.iload 4, 2) := by decide +kernel
theorem dX8_call_26 : decode cX8_call 26 = .ok (.ifCond .ne 7, 3) := by decide +kernel
theorem dX8_call_29 : decode cX8_call 29 = .ok (.iconst 1, 1) := by decide +kernel
theorem dX8_call_30 : decode cX8_call 30 = .ok (.goto 37, 3) := by decide +kernel
theorem dX8_call_33 : decode cX8_call 33 = .ok (.iload_n 1, 1) := by decide +kernel
theorem dX8_call_34 : decode cX8_call 34 = .ok (.iload_n 2, 1) := by decide +kernel
theorem dX8_call_35 : decode cX8_call 35 = .ok (.if_icmp .eq 13, 3) := by decide +kernel
theorem dX8_call_38 : decode cX8_call 38 = .ok (.iload_n 3, 1) := by decide +kernel
theorem dX8_call_39 : decode cX8_call 39 = .ok (.iconst 1, 1) := by decide +kernel
theorem dX8_call_40 : decode cX8_call 40 = .ok (.ldc 172, 2) := by decide +kernel
theorem dX8_call_42 : decode cX8_call 42 = .ok (.invokestatic 114, 3) := by decide +kernel
theorem dX8_call_45 : decode cX8_call 45 = .ok (.ifCond .ne 7, 3) := by decide +kernel
theorem dX8_call_48 : decode cX8_call 48 = .ok (.iconst 2, 1) := by decide +kernel
theorem dX8_call_49 : decode cX8_call 49 = .ok (.goto 18, 3) := by decide +kernel
theorem dX8_call_52 : decode cX8_call 52 = .ok (.aload_n 0, 1) := by decide +kernel
theorem dX8_call_53 : decode cX8_call 53 = .ok (.getfield 173, 3) := by decide +kernel
theorem dX8_call_56 : decode cX8_call 56 = .ok (.sipush 200, 3) := by decide +kernel
theorem dX8_call_59 : decode cX8_call 59 = .ok (.if_icmp .ne 7, 3) := by decide +kernel
theorem dX8_call_62 : decode cX8_call 62 = .ok (.iconst 3, 1) := by decide +kernel
theorem dX8_call_63 : decode cX8_call 63 = .ok (.goto 4, 3) := by decide +kernel
theorem dX8_call_66 : decode cX8_call 66 = .ok (.iconst 0, 1) := by decide +kernel
theorem dX8_call_67 : decode cX8_call 67 = .ok (.putfield 110, 3) := by decide +kernel
theorem dX8_call_70 : decode cX8_call 70 = .ok (.aload_n 0, 1) := by decide +kernel
theorem dX8_call_71 : decode cX8_call 71 = .ok (.getfield 110, 3) := by decide +kernel
theorem dX8_call_74 : decode cX8_call 74 = .ok (.ifCond .le 5, 3) := by decide +kernel
theorem dX8_call_77 : decode cX8_call 77 = .ok (.iconst 0, 1) := by decide +kernel
theorem dX8_call_78 : decode cX8_call 78 = .ok (.ireturn, 1) := by decide +kernel
theorem dX8_call_79 : decode cX8_call 79 = .ok (.aload_n 0, 1) := by decide +kernel
theorem dX8_call_80 : decode cX8_call 80 = .ok (.iload_n 1, 1) := by decide +kernel
theorem dX8_call_81 : decode cX8_call 81 = .ok (.iload_n 2, 1) := by decide +kernel
theorem dX8_call_82 : decode cX8_call 82 = .ok (.invokevirtual 176, 3) := by decide +kernel
theorem dX8_call_85 : decode cX8_call 85 = .ok (.istore 5, 2) := by decide +kernel
theorem dX8_call_87 : decode cX8_call 87 = .ok (.iload 5, 2) := by decide +kernel
theorem dX8_call_89 : decode cX8_call 89 = .ok (.ifCond .le 6, 3) := by decide +kernel
theorem dX8_call_92 : decode cX8_call 92 = .ok (.iload 5, 2) := by decide +kernel
theorem dX8_call_94 : decode cX8_call 94 = .ok (.ireturn, 1) := by decide +kernel
theorem dX8_call_95 : decode cX8_call 95 = .ok (.iload_n 3, 1) := by decide +kernel
theorem dX8_call_96 : decode cX8_call 96 = .ok (.bipush 59, 2) := by decide +kernel
theorem dX8_call_98 : decode cX8_call 98 = .ok (.iadd, 1) := by decide +kernel
theorem dX8_call_99 : decode cX8_call 99 = .ok (.bipush 60, 2) := by decide +kernel
theorem dX8_call_101 : decode cX8_call 101 = .ok (.idiv, 1) := by decide +kernel
theorem dX8_call_102 : decode cX8_call 102 = .ok (.istore 6, 2) := by decide +kernel
theorem dX8_call_104 : decode cX8_call 104 = .ok (.iload 6, 2) := by decide +kernel
theorem dX8_call_106 : decode cX8_call 106 = .ok (.aload_n 0, 1) := by decide +kernel
theorem dX8_call_107 : decode cX8_call 107 = .ok (.getfield 20, 3) := by decide +kernel
theorem dX8_call_110 : decode cX8_call 110 = .ok (.iconst 3, 1) := by decide +kernel
theorem dX8_call_111 : decode cX8_call 111 = .ok (.aload_n 0, 1) := by decide +kernel
theorem dX8_call_112 : decode cX8_call 112 = .ok (.getfield 47, 3) := by decide +kernel
theorem dX8_call_115 : decode cX8_call 115 = .ok (.iload_n 1, 1) := by decide +kernel
theorem dX8_call_116 : decode cX8_call 116 = .ok (.iaload, 1) := by decide +kernel
theorem dX8_call_117 : decode cX8_call 117 = .ok (.imul, 1) := by decide +kernel
theorem dX8_call_118 : decode cX8_call 118 = .ok (.aload_n 0, 1) := by decide +kernel
theorem dX8_call_119 : decode cX8_call 119 = .ok (.iload_n 1, 1) := by decide +kernel
theorem dX8_call_120 : decode cX8_call 120 = .ok (.invokevirtual 166, 3) := by decide +kernel
theorem dX8_call_123 : decode cX8_call 123 = .ok (.ifCond .eq 7, 3) := by decide +kernel
theorem dX8_call_126 : decode cX8_call 126 = .ok (.iconst 1, 1) := by decide +kernel
theorem dX8_call_127 : decode cX8_call 127 = .ok (.goto 4, 3) := by decide +kernel
theorem dX8_call_130 : decode cX8_call 130 = .ok (.iconst 0, 1) := by decide +kernel
theorem dX8_call_131 : decode cX8_call 131 = .ok (.iadd, 1) := by decide +kernel
theorem dX8_call_132 : decode cX8_call 132 = .ok (.iaload, 1) := by decide +kernel
theorem dX8_call_133 : decode cX8_call 133 = .ok (.imul, 1) := by decide +kernel
theorem dX8_call_134 : decode cX8_call 134 = .ok (.istore 7, 2) := by decide +kernel
theorem dX8_call_136 : decode cX8_call 136 = .ok (.aload_n 0, 1) := by decide +kernel
theorem dX8_call_137 : decode cX8_call 137 = .ok (.iload_n 2, 1) := by decide +kernel
theorem dX8_call_138 : decode cX8_call 138 = .ok (.invokevirtual 166, 3) := by decide +kernel
theorem dX8_call_141 : decode cX8_call 141 = .ok (.ifCond .eq 24, 3) := by decide +kernel
theorem dX8_call_144 : decode cX8_call 144 = .ok (.iload 6, 2) := by decide +kernel
theorem dX8_call_146 : decode cX8_call 146 = .ok (.aload_n 0, 1) := by decide +kernel
theorem dX8_call_147 : decode cX8_call 147 = .ok (.getfield 20, 3) := by decide +kernel
theorem dX8_call_150 : decode cX8_call 150 = .ok (.iconst 3, 1) := by decide +kernel
theorem dX8_call_151 : decode cX8_call 151 = .ok (.aload_n 0, 1) := by decide +kernel
theorem dX8_call_152 : decode cX8_call 152 = .ok (.getfield 47, 3) := by decide +kernel
theorem dX8_call_155 : decode cX8_call 155 = .ok (.iload_n 2, 1) := by decide +kernel
theorem dX8_call_156 : decode cX8_call 156 = .ok (.iaload, 1) := by decide +kernel
theorem dX8_call_157 : decode cX8_call 157 = .ok (.imul, 1) := by decide +kernel
theorem dX8_call_158 : decode cX8_call 158 = .ok (.iconst 2, 1) := by decide +kernel
theorem dX8_call_159 : decode cX8_call 159 = .ok (.iadd, 1) := by decide +kernel
theorem dX8_call_160 : decode cX8_call 160 = .ok (.iaload, 1) := by decide +kernel
theorem dX8_call_161 : decode cX8_call 161 = .ok (.imul, 1) := by decide +kernel
theorem dX8_call_162 : decode cX8_call 162 = .ok (.goto 4, 3) := by decide +kernel
theorem dX8_call_165 : decode cX8_call 165 = .ok (.iconst 0, 1) := by decide +kernel
theorem dX8_call_166 : decode cX8_call 166 = .ok (.istore 8, 2) := by decide +kernel
theorem dX8_call_168 : decode cX8_call 168 = .ok (.aload_n 0, 1) := by decide +kernel
theorem dX8_call_169 : decode cX8_call 169 = .ok (.iload_n 1, 1) := by decide +kernel
theorem dX8_call_170 : decode cX8_call 170 = .ok (.iload 7, 2) := by decide +kernel
theorem dX8_call_172 : decode cX8_call 172 = .ok (.invokevirtual 179, 3) := by decide +kernel
theorem dX8_call_175 : decode cX8_call 175 = .ok (.ifCond .eq 5, 3) := by decide +kernel
theorem dX8_call_178 : decode cX8_call 178 = .ok (.iconst 5, 1) := by decide +kernel
theorem dX8_call_179 : decode cX8_call 179 = .ok (.ireturn, 1) := by decide +kernel
theorem dX8_call_180 : decode cX8_call 180 = .ok (.aload_n 0, 1) := by decide +kernel
theorem dX8_call_181 : decode cX8_call 181 = .ok (.iload_n 2, 1) := by decide +kernel
theorem dX8_call_182 : decode cX8_call 182 = .ok (.iload 8, 2) := by decide +kernel
theorem dX8_call_184 : decode cX8_call 184 = .ok (.invokevirtual 179, 3) := by decide +kernel
theorem dX8_call_187 : decode cX8_call 187 = .ok (.ifCond .eq 6, 3) := by decide +kernel
theorem dX8_call_190 : decode cX8_call 190 = .ok (.bipush 6, 2) := by decide +kernel
theorem dX8_call_192 : decode cX8_call 192 = .ok (.ireturn, 1) := by decide +kernel
theorem dX8_call_193 : decode cX8_call 193 = .ok (.aload_n 0, 1) := by decide +kernel
theorem dX8_call_194 : decode cX8_call 194 = .ok (.iload_n 1, 1) := by decide +kernel
theorem dX8_call_195 : decode cX8_call 195 = .ok (.iload 7, 2) := by decide +kernel
theorem dX8_call_197 : decode cX8_call 197 = .ok (.invokevirtual 182, 3) := by decide +kernel
theorem dX8_call_200 : decode cX8_call 200 = .ok (.aload_n 0, 1) := by decide +kernel
theorem dX8_call_201 : decode cX8_call 201 = .ok (.iload_n 2, 1) := by decide +kernel
theorem dX8_call_202 : decode cX8_call 202 = .ok (.iload 8, 2) := by decide +kernel
theorem dX8_call_204 : decode cX8_call 204 = .ok (.invokevirtual 182, 3) := by decide +kernel
theorem dX8_call_207 : decode cX8_call 207 = .ok (.aload_n 0, 1) := by decide +kernel
theorem dX8_call_208 : decode cX8_call 208 = .ok (.iload_n 1, 1) := by decide +kernel
theorem dX8_call_209 : decode cX8_call 209 = .ok (.iload 6, 2) := by decide +kernel
theorem dX8_call_211 : decode cX8_call 211 = .ok (.invokevirtual 186, 3) := by decide +kernel
theorem dX8_call_214 : decode cX8_call 214 = .ok (.aload_n 0, 1) := by decide +kernel
theorem dX8_call_215 : decode cX8_call 215 = .ok (.iload_n 2, 1) := by decide +kernel
theorem dX8_call_216 : decode cX8_call 216 = .ok (.iload 6, 2) := by decide +kernel
theorem dX8_call_218 : decode cX8_call 218 = .ok (.invokevirtual 186, 3) := by decide +kernel
theorem dX8_call_221 : decode cX8_call 221 = .ok (.aload_n 0, 1) := by decide +kernel
theorem dX8_call_222 : decode cX8_call 222 = .ok (.dup, 1) := by decide +kernel
theorem dX8_call_223 : decode cX8_call 223 = .ok (.getfield 173, 3) := by decide +kernel
theorem dX8_call_226 : decode cX8_call 226 = .ok (.iconst 1, 1) := by decide +kernel
theorem dX8_call_227 : decode cX8_call 227 = .ok (.iadd, 1) := by decide +kernel
theorem dX8_call_228 : decode cX8_call 228 = .ok (.putfield 173, 3) := by decide +kernel
theorem dX8_call_231 : decode cX8_call 231 = .ok (.iconst 0, 1) := by decide +kernel
theorem dX8_call_232 : decode cX8_call 232 = .ok (.ireturn, 1) := by decide +kernel
theorem dX8_paidAnew_0 : decode cX8_paidAnew 0 = .ok (.aload_n 0, 1) := by decide +kernel
theorem dX8_paidAnew_1 : decode cX8_paidAnew 1 = .ok (.aload_n 0, 1) := by decide +kernel
theorem dX8_paidAnew_2 : decode cX8_paidAnew 2 = .ok (.iload_n 1, 1) := by decide +kernel
theorem dX8_paidAnew_3 : decode cX8_paidAnew 3 = .ok (.invokevirtual 144, 3) := by decide +kernel
theorem dX8_paidAnew_6 : decode cX8_paidAnew 6 = .ok (.ifCond .eq 7, 3) := by decide +kernel
theorem dX8_paidAnew_9 : decode cX8_paidAnew 9 = .ok (.iconst 0, 1) := by decide +kernel
theorem dX8_paidAnew_10 : decode cX8_paidAnew 10 = .ok (.goto 4, 3) := by decide +kernel
theorem dX8_paidAnew_13 : decode cX8_paidAnew 13 = .ok (.iconst 1, 1) := by decide +kernel
theorem dX8_paidAnew_14 : decode cX8_paidAnew 14 = .ok (.putfield 110, 3) := by decide +kernel
theorem dX8_paidAnew_17 : decode cX8_paidAnew 17 = .ok (.aload_n 0, 1) := by decide +kernel
theorem dX8_paidAnew_18 : decode cX8_paidAnew 18 = .ok (.getfield 110, 3) := by decide +kernel
theorem dX8_paidAnew_21 : decode cX8_paidAnew 21 = .ok (.ifCond .le 7, 3) := by decide +kernel
theorem dX8_paidAnew_24 : decode cX8_paidAnew 24 = .ok (.iconst 0, 1) := by decide +kernel
theorem dX8_paidAnew_25 : decode cX8_paidAnew 25 = .ok (.goto 9, 3) := by decide +kernel
theorem dX8_paidAnew_28 : decode cX8_paidAnew 28 = .ok (.aload_n 0, 1) := by decide +kernel
theorem dX8_paidAnew_29 : decode cX8_paidAnew 29 = .ok (.getfield 71, 3) := by decide +kernel
theorem dX8_paidAnew_32 : decode cX8_paidAnew 32 = .ok (.iload_n 1, 1) := by decide +kernel
theorem dX8_paidAnew_33 : decode cX8_paidAnew 33 = .ok (.iaload, 1) := by decide +kernel
theorem dX8_paidAnew_34 : decode cX8_paidAnew 34 = .ok (.ireturn, 1) := by decide +kernel
theorem dX8_isOf_0 : decode cX8_isOf 0 = .ok (.aload_n 0, 1) := by decide +kernel
theorem dX8_isOf_1 : decode cX8_isOf 1 = .ok (.getfield 86, 3) := by decide +kernel
theorem dX8_isOf_4 : decode cX8_isOf 4 = .ok (.iload_n 1, 1) := by decide +kernel
theorem dX8_isOf_5 : decode cX8_isOf 5 = .ok (.iaload, 1) := by decide +kernel
theorem dX8_isOf_6 : decode cX8_isOf 6 = .ok (.iload_n 2, 1) := by decide +kernel
theorem dX8_isOf_7 : decode cX8_isOf 7 = .ok (.if_icmp .ne 17, 3) := by decide +kernel
theorem dX8_isOf_10 : decode cX8_isOf 10 = .ok (.aload_n 0, 1) := by decide +kernel
theorem dX8_isOf_11 : decode cX8_isOf 11 = .ok (.getfield 83, 3) := by decide +kernel
theorem dX8_isOf_14 : decode cX8_isOf 14 = .ok (.iload_n 1, 1) := by decide +kernel
theorem dX8_isOf_15 : decode cX8_isOf 15 = .ok (.iaload, 1) := by decide +kernel
theorem dX8_isOf_16 : decode cX8_isOf 16 = .ok (.iload_n 3, 1) := by decide +kernel
theorem dX8_isOf_17 : decode cX8_isOf 17 = .ok (.if_icmp .ne 7, 3) := by decide +kernel
theorem dX8_isOf_20 : decode cX8_isOf 20 = .ok (.iconst 1, 1) := by decide +kernel
theorem dX8_isOf_21 : decode cX8_isOf 21 = .ok (.goto 4, 3) := by decide +kernel
theorem dX8_isOf_24 : decode cX8_isOf 24 = .ok (.iconst 0, 1) := by decide +kernel
theorem dX8_isOf_25 : decode cX8_isOf 25 = .ok (.ireturn, 1) := by decide +kernel
theorem dX8_minutesOf_0 : decode cX8_minutesOf 0 = .ok (.iconst 0, 1) := by decide +kernel
theorem dX8_minutesOf_1 : decode cX8_minutesOf 1 = .ok (.istore 4, 2) := by decide +kernel
theorem dX8_minutesOf_3 : decode cX8_minutesOf 3 = .ok (.iconst 0, 1) := by decide +kernel
theorem dX8_minutesOf_4 : decode cX8_minutesOf 4 = .ok (.istore 5, 2) := by decide +kernel
theorem dX8_minutesOf_6 : decode cX8_minutesOf 6 = .ok (.iload 5, 2) := by decide +kernel
theorem dX8_minutesOf_8 : decode cX8_minutesOf 8 = .ok (.aload_n 0, 1) := by decide +kernel
theorem dX8_minutesOf_9 : decode cX8_minutesOf 9 = .ok (.getfield 169, 3) := by decide +kernel
theorem dX8_minutesOf_12 : decode cX8_minutesOf 12 = .ok (.if_icmp .ge 47, 3) := by decide +kernel
theorem dX8_minutesOf_15 : decode cX8_minutesOf 15 = .ok (.iload 4, 2) := by decide +kernel
theorem dX8_minutesOf_17 : decode cX8_minutesOf 17 = .ok (.aload_n 0, 1) := by decide +kernel
theorem dX8_minutesOf_18 : decode cX8_minutesOf 18 = .ok (.iload 5, 2) := by decide +kernel
theorem dX8_minutesOf_20 : decode cX8_minutesOf 20 = .ok (.iload_n 1, 1) := by decide +kernel
theorem dX8_minutesOf_21 : decode cX8_minutesOf 21 = .ok (.iload_n 2, 1) := by decide +kernel
theorem dX8_minutesOf_22 : decode cX8_minutesOf 22 = .ok (.invokevirtual 188, 3) := by decide +kernel
theorem dX8_minutesOf_25 : decode cX8_minutesOf 25 = .ok (.ifCond .eq 24, 3) := by decide +kernel
theorem dX8_minutesOf_28 : decode cX8_minutesOf 28 = .ok (.aload_n 0, 1) := by decide +kernel
theorem dX8_minutesOf_29 : decode cX8_minutesOf 29 = .ok (.getfield 98, 3) := by decide +kernel
theorem dX8_minutesOf_32 : decode cX8_minutesOf 32 = .ok (.iload 5, 2) := by decide +kernel
theorem dX8_minutesOf_34 : decode cX8_minutesOf 34 = .ok (.iaload, 1) := by decide +kernel
theorem dX8_minutesOf_35 : decode cX8_minutesOf 35 = .ok (.iload_n 3, 1) := by decide +kernel
theorem dX8_minutesOf_36 : decode cX8_minutesOf 36 = .ok (.if_icmp .ne 13, 3) := by decide +kernel
theorem dX8_minutesOf_39 : decode cX8_minutesOf 39 = .ok (.aload_n 0, 1) := by decide +kernel
theorem dX8_minutesOf_40 : decode cX8_minutesOf 40 = .ok (.getfield 89, 3) := by decide +kernel
theorem dX8_minutesOf_43 : decode cX8_minutesOf 43 = .ok (.iload 5, 2) := by decide +kernel
theorem dX8_minutesOf_45 : decode cX8_minutesOf 45 = .ok (.iaload, 1) := by decide +kernel
theorem dX8_minutesOf_46 : decode cX8_minutesOf 46 = .ok (.goto 4, 3) := by decide +kernel
theorem dX8_minutesOf_49 : decode cX8_minutesOf 49 = .ok (.iconst 0, 1) := by decide +kernel
theorem dX8_minutesOf_50 : decode cX8_minutesOf 50 = .ok (.iadd, 1) := by decide +kernel
theorem dX8_minutesOf_51 : decode cX8_minutesOf 51 = .ok (.istore 4, 2) := by decide +kernel
theorem dX8_minutesOf_53 : decode cX8_minutesOf 53 = .ok (.iinc 5 1, 3) := by decide +kernel
theorem dX8_minutesOf_56 : decode cX8_minutesOf 56 = .ok (.goto (-50), 3) := by decide +kernel
theorem dX8_minutesOf_59 : decode cX8_minutesOf 59 = .ok (.iload 4, 2) := by decide +kernel
theorem dX8_minutesOf_61 : decode cX8_minutesOf 61 = .ok (.ireturn, 1) := by decide +kernel
theorem dX8_file_0 : decode cX8_file 0 = .ok (.aload_n 0, 1) := by decide +kernel
theorem dX8_file_1 : decode cX8_file 1 = .ok (.iload_n 1, 1) := by decide +kernel
theorem dX8_file_2 : decode cX8_file 2 = .ok (.invokestatic 129, 3) := by decide +kernel
theorem dX8_file_5 : decode cX8_file 5 = .ok (.ifCond .eq 14, 3) := by decide +kernel
theorem dX8_file_8 : decode cX8_file 8 = .ok (.iload_n 2, 1) := by decide +kernel
theorem dX8_file_9 : decode cX8_file 9 = .ok (.invokestatic 129, 3) := by decide +kernel
theorem dX8_file_12 : decode cX8_file 12 = .ok (.ifCond .eq 7, 3) := by decide +kernel
theorem dX8_file_15 : decode cX8_file 15 = .ok (.iconst 0, 1) := by decide +kernel
theorem dX8_file_16 : decode cX8_file 16 = .ok (.goto 4, 3) := by decide +kernel
theorem dX8_file_19 : decode cX8_file 19 = .ok (.iconst 1, 1) := by decide +kernel
theorem dX8_file_20 : decode cX8_file 20 = .ok (.putfield 110, 3) := by decide +kernel
theorem dX8_file_23 : decode cX8_file 23 = .ok (.aload_n 0, 1) := by decide +kernel
theorem dX8_file_24 : decode cX8_file 24 = .ok (.getfield 110, 3) := by decide +kernel
theorem dX8_file_27 : decode cX8_file 27 = .ok (.ifCond .ne 38, 3) := by decide +kernel
theorem dX8_file_30 : decode cX8_file 30 = .ok (.aload_n 0, 1) := by decide +kernel
theorem dX8_file_31 : decode cX8_file 31 = .ok (.aload_n 0, 1) := by decide +kernel
theorem dX8_file_32 : decode cX8_file 32 = .ok (.iload_n 1, 1) := by decide +kernel
theorem dX8_file_33 : decode cX8_file 33 = .ok (.iload_n 2, 1) := by decide +kernel
theorem dX8_file_34 : decode cX8_file 34 = .ok (.iconst 0, 1) := by decide +kernel
theorem dX8_file_35 : decode cX8_file 35 = .ok (.invokevirtual 191, 3) := by decide +kernel
theorem dX8_file_38 : decode cX8_file 38 = .ok (.ifCond .eq 19, 3) := by decide +kernel
theorem dX8_file_41 : decode cX8_file 41 = .ok (.aload_n 0, 1) := by decide +kernel
theorem dX8_file_42 : decode cX8_file 42 = .ok (.getfield 104, 3) := by decide +kernel
theorem dX8_file_45 : decode cX8_file 45 = .ok (.bipush 6, 2) := by decide +kernel
theorem dX8_file_47 : decode cX8_file 47 = .ok (.iload_n 1, 1) := by decide +kernel
theorem dX8_file_48 : decode cX8_file 48 = .ok (.imul, 1) := by decide +kernel
theorem dX8_file_49 : decode cX8_file 49 = .ok (.iload_n 2, 1) := by decide +kernel
theorem dX8_file_50 : decode cX8_file 50 = .ok (.iadd, 1) := by decide +kernel
theorem dX8_file_51 : decode cX8_file 51 = .ok (.iaload, 1) := by decide +kernel
theorem dX8_file_52 : decode cX8_file 52 = .ok (.bipush 20, 2) := by decide +kernel
theorem dX8_file_54 : decode cX8_file 54 = .ok (.if_icmp .ne 7, 3) := by decide +kernel
theorem dX8_file_57 : decode cX8_file 57 = .ok (.iconst 2, 1) := by decide +kernel
theorem dX8_file_58 : decode cX8_file 58 = .ok (.goto 4, 3) := by decide +kernel
theorem dX8_file_61 : decode cX8_file 61 = .ok (.iconst 0, 1) := by decide +kernel
theorem dX8_file_62 : decode cX8_file 62 = .ok (.putfield 110, 3) := by decide +kernel
theorem dX8_file_65 : decode cX8_file 65 = .ok (.aload_n 0, 1) := by decide +kernel
theorem dX8_file_66 : decode cX8_file 66 = .ok (.getfield 110, 3) := by decide +kernel
theorem dX8_file_69 : decode cX8_file 69 = .ok (.ifCond .le 5, 3) := by decide +kernel
theorem dX8_file_72 : decode cX8_file 72 = .ok (.iconst 0, 1) := by decide +kernel
theorem dX8_file_73 : decode cX8_file 73 = .ok (.ireturn, 1) := by decide +kernel
theorem dX8_file_74 : decode cX8_file 74 = .ok (.aload_n 0, 1) := by decide +kernel
theorem dX8_file_75 : decode cX8_file 75 = .ok (.getfield 104, 3) := by decide +kernel
theorem dX8_file_78 : decode cX8_file 78 = .ok (.bipush 6, 2) := by decide +kernel
theorem dX8_file_80 : decode cX8_file 80 = .ok (.iload_n 1, 1) := by decide +kernel
theorem dX8_file_81 : decode cX8_file 81 = .ok (.imul, 1) := by decide +kernel
theorem dX8_file_82 : decode cX8_file 82 = .ok (.iload_n 2, 1) := by decide +kernel
theorem dX8_file_83 : decode cX8_file 83 = .ok (.iadd, 1) := by decide +kernel
theorem dX8_file_84 : decode cX8_file 84 = .ok (.iaload, 1) := by decide +kernel
theorem dX8_file_85 : decode cX8_file 85 = .ok (.istore_n 3, 1) := by decide +kernel
theorem dX8_file_86 : decode cX8_file 86 = .ok (.iconst 0, 1) := by decide +kernel
theorem dX8_file_87 : decode cX8_file 87 = .ok (.istore 4, 2) := by decide +kernel
theorem dX8_file_89 : decode cX8_file 89 = .ok (.iload 4, 2) := by decide +kernel
theorem dX8_file_91 : decode cX8_file 91 = .ok (.aload_n 0, 1) := by decide +kernel
theorem dX8_file_92 : decode cX8_file 92 = .ok (.getfield 169, 3) := by decide +kernel
theorem dX8_file_95 : decode cX8_file 95 = .ok (.if_icmp .ge 46, 3) := by decide +kernel
theorem dX8_file_98 : decode cX8_file 98 = .ok (.aload_n 0, 1) := by decide +kernel
theorem dX8_file_99 : decode cX8_file 99 = .ok (.iload 4, 2) := by decide +kernel
theorem dX8_file_101 : decode cX8_file 101 = .ok (.iload_n 1, 1) := by decide +kernel
theorem dX8_file_102 : decode cX8_file 102 = .ok (.iload_n 2, 1) := by decide +kernel
theorem dX8_file_103 : decode cX8_file 103 = .ok (.invokevirtual 188, 3) := by decide +kernel
theorem dX8_file_106 : decode cX8_file 106 = .ok (.ifCond .eq 29, 3) := by decide +kernel
theorem dX8_file_109 : decode cX8_file 109 = .ok (.aload_n 0, 1) := by decide +kernel
theorem dX8_file_110 : decode cX8_file 110 = .ok (.getfield 98, 3) := by decide +kernel
theorem dX8_file_113 : decode cX8_file 113 = .ok (.iload 4, 2) := by decide +kernel
theorem dX8_file_115 : decode cX8_file 115 = .ok (.iaload, 1) := by decide +kernel
theorem dX8_file_116 : decode cX8_file 116 = .ok (.ifCond .ne 19, 3) := by decide +kernel
theorem dX8_file_119 : decode cX8_file 119 = .ok (.aload_n 0, 1) := by decide +kernel
theorem dX8_file_120 : decode cX8_file 120 = .ok (.getfield 98, 3) := by decide +kernel
theorem dX8_file_123 : decode cX8_file 123 = .ok (.iload 4, 2) := by decide +kernel
theorem dX8_file_125 : decode cX8_file 125 = .ok (.iconst 1, 1) := by decide +kernel
theorem dX8_file_126 : decode cX8_file 126 = .ok (.iastore, 1) := by decide +kernel
theorem dX8_file_127 : decode cX8_file 127 = .ok (.aload_n 0, 1) := by decide +kernel
theorem dX8_file_128 : decode cX8_file 128 = .ok (.getfield 101, 3) := by decide +kernel
theorem dX8_file_131 : decode cX8_file 131 = .ok (.iload 4, 2) := by decide +kernel
theorem dX8_file_133 : decode cX8_file 133 = .ok (.iload_n 3, 1) := by decide +kernel
theorem dX8_file_134 : decode cX8_file 134 = .ok (.iastore, 1) := by decide +kernel
theorem dX8_file_135 : decode cX8_file 135 = .ok (.iinc 4 1, 3) := by decide +kernel
theorem dX8_file_138 : decode cX8_file 138 = .ok (.goto (-49), 3) := by decide +kernel
theorem dX8_file_141 : decode cX8_file 141 = .ok (.aload_n 0, 1) := by decide +kernel
theorem dX8_file_142 : decode cX8_file 142 = .ok (.getfield 104, 3) := by decide +kernel
theorem dX8_file_145 : decode cX8_file 145 = .ok (.bipush 6, 2) := by decide +kernel
theorem dX8_file_147 : decode cX8_file 147 = .ok (.iload_n 1, 1) := by decide +kernel
theorem dX8_file_148 : decode cX8_file 148 = .ok (.imul, 1) := by decide +kernel
theorem dX8_file_149 : decode cX8_file 149 = .ok (.iload_n 2, 1) := by decide +kernel
theorem dX8_file_150 : decode cX8_file 150 = .ok (.iadd, 1) := by decide +kernel
theorem dX8_file_151 : decode cX8_file 151 = .ok (.dup2, 1) := by decide +kernel
theorem dX8_file_152 : decode cX8_file 152 = .ok (.iaload, 1) := by decide +kernel
theorem dX8_file_153 : decode cX8_file 153 = .ok (.iconst 1, 1) := by decide +kernel
theorem dX8_file_154 : decode cX8_file 154 = .ok (.iadd, 1) := by decide +kernel
theorem dX8_file_155 : decode cX8_file 155 = .ok (.iastore, 1) := by decide +kernel
theorem dX8_file_156 : decode cX8_file 156 = .ok (.iload_n 3, 1) := by decide +kernel
theorem dX8_file_157 : decode cX8_file 157 = .ok (.ireturn, 1) := by decide +kernel
theorem dX8_deliver_0 : decode cX8_deliver 0 = .ok (.iload_n 1, 1) := by decide +kernel
theorem dX8_deliver_1 : decode cX8_deliver 1 = .ok (.invokestatic 129, 3) := by decide +kernel
theorem dX8_deliver_4 : decode cX8_deliver 4 = .ok (.ifCond .eq 14, 3) := by decide +kernel
theorem dX8_deliver_7 : decode cX8_deliver 7 = .ok (.iload_n 2, 1) := by decide +kernel
theorem dX8_deliver_8 : decode cX8_deliver 8 = .ok (.invokestatic 129, 3) := by decide +kernel
theorem dX8_deliver_11 : decode cX8_deliver 11 = .ok (.ifCond .eq 7, 3) := by decide +kernel
theorem dX8_deliver_14 : decode cX8_deliver 14 = .ok (.iconst 1, 1) := by decide +kernel
theorem dX8_deliver_15 : decode cX8_deliver 15 = .ok (.goto 4, 3) := by decide +kernel
theorem dX8_deliver_18 : decode cX8_deliver 18 = .ok (.iconst 0, 1) := by decide +kernel
theorem dX8_deliver_19 : decode cX8_deliver 19 = .ok (.istore 4, 2) := by decide +kernel
theorem dX8_deliver_21 : decode cX8_deliver 21 = .ok (.aload_n 0, 1) := by decide +kernel
theorem dX8_deliver_22 : decode cX8_deliver 22 = .ok (.iload 4, 2) := by decide +kernel
theorem dX8_deliver_24 : decode cX8_deliver 24 = .ok (.ifCond .eq 28, 3) := by decide +kernel
theorem dX8_deliver_27 : decode cX8_deliver 27 = .ok (.iload_n 3, 1) := by decide +kernel
theorem dX8_deliver_28 : decode cX8_deliver 28 = .ok (.iconst 0, 1) := by decide +kernel
theorem dX8_deliver_29 : decode cX8_deliver 29 = .ok (.aload_n 0, 1) := by decide +kernel
theorem dX8_deliver_30 : decode cX8_deliver 30 = .ok (.getfield 104, 3) := by decide +kernel
theorem dX8_deliver_33 : decode cX8_deliver 33 = .ok (.bipush 6, 2) := by decide +kernel
theorem dX8_deliver_35 : decode cX8_deliver 35 = .ok (.iload_n 1, 1) := by decide +kernel
theorem dX8_deliver_36 : decode cX8_deliver 36 = .ok (.imul, 1) := by decide +kernel
theorem dX8_deliver_37 : decode cX8_deliver 37 = .ok (.iload_n 2, 1) := by decide +kernel
theorem dX8_deliver_38 : decode cX8_deliver 38 = .ok (.iadd, 1) := by decide +kernel
theorem dX8_deliver_39 : decode cX8_deliver 39 = .ok (.iaload, 1) := by decide +kernel
theorem dX8_deliver_40 : decode cX8_deliver 40 = .ok (.iconst 1, 1) := by decide +kernel
theorem dX8_deliver_41 : decode cX8_deliver 41 = .ok (.isub, 1) := by decide +kernel
theorem dX8_deliver_42 : decode cX8_deliver 42 = .ok (.invokestatic 114, 3) := by decide +kernel
theorem dX8_deliver_45 : decode cX8_deliver 45 = .ok (.ifCond .eq 7, 3) := by decide +kernel
theorem dX8_deliver_48 : decode cX8_deliver 48 = .ok (.iconst 0, 1) := by decide +kernel
theorem dX8_deliver_49 : decode cX8_deliver 49 = .ok (.goto 4, 3) := by decide +kernel
theorem dX8_deliver_52 : decode cX8_deliver 52 = .ok (.iconst 1, 1) := by decide +kernel
theorem dX8_deliver_53 : decode cX8_deliver 53 = .ok (.putfield 110, 3) := by decide +kernel
theorem dX8_deliver_56 : decode cX8_deliver 56 = .ok (.aload_n 0, 1) := by decide +kernel
theorem dX8_deliver_57 : decode cX8_deliver 57 = .ok (.getfield 110, 3) := by decide +kernel
theorem dX8_deliver_60 : decode cX8_deliver 60 = .ok (.ifCond .le 5, 3) := by decide +kernel
theorem dX8_deliver_63 : decode cX8_deliver 63 = .ok (.iconst 0, 1) := by decide +kernel
theorem dX8_deliver_64 : decode cX8_deliver 64 = .ok (.ireturn, 1) := by decide +kernel
theorem dX8_deliver_65 : decode cX8_deliver 65 = .ok (.aload_n 0, 1) := by decide +kernel
theorem dX8_deliver_66 : decode cX8_deliver 66 = .ok (.getfield 107, 3) := by decide +kernel
theorem dX8_deliver_69 : decode cX8_deliver 69 = .ok (.bipush 6, 2) := by decide +kernel
theorem dX8_deliver_71 : decode cX8_deliver 71 = .ok (.iload_n 1, 1) := by decide +kernel
theorem dX8_deliver_72 : decode cX8_deliver 72 = .ok (.imul, 1) := by decide +kernel
theorem dX8_deliver_73 : decode cX8_deliver 73 = .ok (.iload_n 2, 1) := by decide +kernel
theorem dX8_deliver_74 : decode cX8_deliver 74 = .ok (.iadd, 1) := by decide +kernel
theorem dX8_deliver_75 : decode cX8_deliver 75 = .ok (.iaload, 1) := by decide +kernel
theorem dX8_deliver_76 : decode cX8_deliver 76 = .ok (.istore 5, 2) := by decide +kernel
theorem dX8_deliver_78 : decode cX8_deliver 78 = .ok (.iload_n 3, 1) := by decide +kernel
theorem dX8_deliver_79 : decode cX8_deliver 79 = .ok (.iload 5, 2) := by decide +kernel
theorem dX8_deliver_81 : decode cX8_deliver 81 = .ok (.if_icmp .eq 16, 3) := by decide +kernel
theorem dX8_deliver_84 : decode cX8_deliver 84 = .ok (.iload_n 3, 1) := by decide +kernel
theorem dX8_deliver_85 : decode cX8_deliver 85 = .ok (.iload 5, 2) := by decide +kernel
theorem dX8_deliver_87 : decode cX8_deliver 87 = .ok (.if_icmp .ge 7, 3) := by decide +kernel
theorem dX8_deliver_90 : decode cX8_deliver 90 = .ok (.iconst (-1), 1) := by decide +kernel
theorem dX8_deliver_91 : decode cX8_deliver 91 = .ok (.goto 5, 3) := by decide +kernel
theorem dX8_deliver_94 : decode cX8_deliver 94 = .ok (.bipush (-2), 2) := by decide +kernel
theorem dX8_deliver_96 : decode cX8_deliver 96 = .ok (.ireturn, 1) := by decide +kernel
theorem dX8_deliver_97 : decode cX8_deliver 97 = .ok (.aload_n 0, 1) := by decide +kernel
theorem dX8_deliver_98 : decode cX8_deliver 98 = .ok (.getfield 107, 3) := by decide +kernel
theorem dX8_deliver_101 : decode cX8_deliver 101 = .ok (.bipush 6, 2) := by decide +kernel
theorem dX8_deliver_103 : decode cX8_deliver 103 = .ok (.iload_n 1, 1) := by decide +kernel
theorem dX8_deliver_104 : decode cX8_deliver 104 = .ok (.imul, 1) := by decide +kernel
theorem dX8_deliver_105 : decode cX8_deliver 105 = .ok (.iload_n 2, 1) := by decide +kernel
theorem dX8_deliver_106 : decode cX8_deliver 106 = .ok (.iadd, 1) := by decide +kernel
theorem dX8_deliver_107 : decode cX8_deliver 107 = .ok (.dup2, 1) := by decide +kernel
theorem dX8_deliver_108 : decode cX8_deliver 108 = .ok (.iaload, 1) := by decide +kernel
theorem dX8_deliver_109 : decode cX8_deliver 109 = .ok (.iconst 1, 1) := by decide +kernel
theorem dX8_deliver_110 : decode cX8_deliver 110 = .ok (.iadd, 1) := by decide +kernel
theorem dX8_deliver_111 : decode cX8_deliver 111 = .ok (.iastore, 1) := by decide +kernel
theorem dX8_deliver_112 : decode cX8_deliver 112 = .ok (.iconst 0, 1) := by decide +kernel
theorem dX8_deliver_113 : decode cX8_deliver 113 = .ok (.istore 6, 2) := by decide +kernel
theorem dX8_deliver_115 : decode cX8_deliver 115 = .ok (.iconst 0, 1) := by decide +kernel
theorem dX8_deliver_116 : decode cX8_deliver 116 = .ok (.istore 7, 2) := by decide +kernel
theorem dX8_deliver_118 : decode cX8_deliver 118 = .ok (.iload 7, 2) := by decide +kernel
theorem dX8_deliver_120 : decode cX8_deliver 120 = .ok (.aload_n 0, 1) := by decide +kernel
theorem dX8_deliver_121 : decode cX8_deliver 121 = .ok (.getfield 169, 3) := by decide +kernel
theorem dX8_deliver_124 : decode cX8_deliver 124 = .ok (.if_icmp .ge 98, 3) := by decide +kernel
theorem dX8_deliver_127 : decode cX8_deliver 127 = .ok (.aload_n 0, 1) := by decide +kernel
theorem dX8_deliver_128 : decode cX8_deliver 128 = .ok (.iload 7, 2) := by decide +kernel
theorem dX8_deliver_130 : decode cX8_deliver 130 = .ok (.iload_n 1, 1) := by decide +kernel
theorem dX8_deliver_131 : decode cX8_deliver 131 = .ok (.iload_n 2, 1) := by decide +kernel
theorem dX8_deliver_132 : decode cX8_deliver 132 = .ok (.invokevirtual 188, 3) := by decide +kernel
theorem dX8_deliver_135 : decode cX8_deliver 135 = .ok (.ifCond .eq 81, 3) := by decide +kernel
theorem dX8_deliver_138 : decode cX8_deliver 138 = .ok (.aload_n 0, 1) := by decide +kernel
theorem dX8_deliver_139 : decode cX8_deliver 139 = .ok (.getfield 98, 3) := by decide +kernel
theorem dX8_deliver_142 : decode cX8_deliver 142 = .ok (.iload 7, 2) := by decide +kernel
theorem dX8_deliver_144 : decode cX8_deliver 144 = .ok (.iaload, 1) := by decide +kernel
theorem dX8_deliver_145 : decode cX8_deliver 145 = .ok (.iconst 1, 1) := by decide +kernel
theorem dX8_deliver_146 : decode cX8_deliver 146 = .ok (.if_icmp .ne 70, 3) := by decide +kernel
theorem dX8_deliver_149 : decode cX8_deliver 149 = .ok (.aload_n 0, 1) := by decide +kernel
theorem dX8_deliver_150 : decode cX8_deliver 150 = .ok (.getfield 101, 3) := by decide +kernel
theorem dX8_deliver_153 : decode cX8_deliver 153 = .ok (.iload 7, 2) := by decide +kernel
theorem dX8_deliver_155 : decode cX8_deliver 155 = .ok (.iaload, 1) := by decide +kernel
theorem dX8_deliver_156 : decode cX8_deliver 156 = .ok (.iload_n 3, 1) := by decide +kernel
theorem dX8_deliver_157 : decode cX8_deliver 157 = .ok (.if_icmp .ne 59, 3) := by decide +kernel
theorem dX8_deliver_160 : decode cX8_deliver 160 = .ok (.aload_n 0, 1) := by decide +kernel
theorem dX8_deliver_161 : decode cX8_deliver 161 = .ok (.getfield 141, 3) := by decide +kernel
theorem dX8_deliver_164 : decode cX8_deliver 164 = .ok (.aload_n 0, 1) := by decide +kernel
theorem dX8_deliver_165 : decode cX8_deliver 165 = .ok (.getfield 92, 3) := by decide +kernel
theorem dX8_deliver_168 : decode cX8_deliver 168 = .ok (.iload 7, 2) := by decide +kernel
theorem dX8_deliver_170 : decode cX8_deliver 170 = .ok (.iaload, 1) := by decide +kernel
theorem dX8_deliver_171 : decode cX8_deliver 171 = .ok (.isub, 1) := by decide +kernel
theorem dX8_deliver_172 : decode cX8_deliver 172 = .ok (.ldc 160, 2) := by decide +kernel
theorem dX8_deliver_174 : decode cX8_deliver 174 = .ok (.if_icmp .lt 7, 3) := by decide +kernel
theorem dX8_deliver_177 : decode cX8_deliver 177 = .ok (.iconst 1, 1) := by decide +kernel
theorem dX8_deliver_178 : decode cX8_deliver 178 = .ok (.goto 4, 3) := by decide +kernel
theorem dX8_deliver_181 : decode cX8_deliver 181 = .ok (.iconst 0, 1) := by decide +kernel
theorem dX8_deliver_182 : decode cX8_deliver 182 = .ok (.istore 8, 2) := by decide +kernel
theorem dX8_deliver_184 : decode cX8_deliver 184 = .ok (.aload_n 0, 1) := by decide +kernel
theorem dX8_deliver_185 : decode cX8_deliver 185 = .ok (.getfield 98, 3) := by decide +kernel
theorem dX8_deliver_188 : decode cX8_deliver 188 = .ok (.iload 7, 2) := by decide +kernel
theorem dX8_deliver_190 : decode cX8_deliver 190 = .ok (.iload 8, 2) := by decide +kernel
theorem dX8_deliver_192 : decode cX8_deliver 192 = .ok (.ifCond .eq 7, 3) := by decide +kernel
theorem dX8_deliver_195 : decode cX8_deliver 195 = .ok (.iconst 3, 1) := by decide +kernel
theorem dX8_deliver_196 : decode cX8_deliver 196 = .ok (.goto 4, 3) := by decide +kernel
theorem dX8_deliver_199 : decode cX8_deliver 199 = .ok (.iconst 2, 1) := by decide +kernel
theorem dX8_deliver_200 : decode cX8_deliver 200 = .ok (.iastore, 1) := by decide +kernel
theorem dX8_deliver_201 : decode cX8_deliver 201 = .ok (.iload 6, 2) := by decide +kernel
theorem dX8_deliver_203 : decode cX8_deliver 203 = .ok (.iload 8, 2) := by decide +kernel
theorem dX8_deliver_205 : decode cX8_deliver 205 = .ok (.ifCond .eq 7, 3) := by decide +kernel
theorem dX8_deliver_208 : decode cX8_deliver 208 = .ok (.iconst 1, 1) := by decide +kernel
theorem dX8_deliver_209 : decode cX8_deliver 209 = .ok (.goto 4, 3) := by decide +kernel
theorem dX8_deliver_212 : decode cX8_deliver 212 = .ok (.iconst 0, 1) := by decide +kernel
theorem dX8_deliver_213 : decode cX8_deliver 213 = .ok (.iadd, 1) := by decide +kernel
theorem dX8_deliver_214 : decode cX8_deliver 214 = .ok (.istore 6, 2) := by decide +kernel
theorem dX8_deliver_216 : decode cX8_deliver 216 = .ok (.iinc 7 1, 3) := by decide +kernel
theorem dX8_deliver_219 : decode cX8_deliver 219 = .ok (.goto (-101), 3) := by decide +kernel
theorem dX8_deliver_222 : decode cX8_deliver 222 = .ok (.iload 6, 2) := by decide +kernel
theorem dX8_deliver_224 : decode cX8_deliver 224 = .ok (.ireturn, 1) := by decide +kernel
theorem dX8_priceOf_0 : decode cX8_priceOf 0 = .ok (.iload_n 1, 1) := by decide +kernel
theorem dX8_priceOf_1 : decode cX8_priceOf 1 = .ok (.iconst (-1), 1) := by decide +kernel
theorem dX8_priceOf_2 : decode cX8_priceOf 2 = .ok (.if_icmp .ne 5, 3) := by decide +kernel
theorem dX8_priceOf_5 : decode cX8_priceOf 5 = .ok (.iconst 0, 1) := by decide +kernel
theorem dX8_priceOf_6 : decode cX8_priceOf 6 = .ok (.ireturn, 1) := by decide +kernel
theorem dX8_priceOf_7 : decode cX8_priceOf 7 = .ok (.aload_n 0, 1) := by decide +kernel
theorem dX8_priceOf_8 : decode cX8_priceOf 8 = .ok (.getfield 41, 3) := by decide +kernel
theorem dX8_priceOf_11 : decode cX8_priceOf 11 = .ok (.iload_n 1, 1) := by decide +kernel
theorem dX8_priceOf_12 : decode cX8_priceOf 12 = .ok (.iaload, 1) := by decide +kernel
theorem dX8_priceOf_13 : decode cX8_priceOf 13 = .ok (.ifCond .le 22, 3) := by decide +kernel
theorem dX8_priceOf_16 : decode cX8_priceOf 16 = .ok (.iload_n 2, 1) := by decide +kernel
theorem dX8_priceOf_17 : decode cX8_priceOf 17 = .ok (.aload_n 0, 1) := by decide +kernel
theorem dX8_priceOf_18 : decode cX8_priceOf 18 = .ok (.getfield 41, 3) := by decide +kernel
theorem dX8_priceOf_21 : decode cX8_priceOf 21 = .ok (.iload_n 1, 1) := by decide +kernel
theorem dX8_priceOf_22 : decode cX8_priceOf 22 = .ok (.iaload, 1) := by decide +kernel
theorem dX8_priceOf_23 : decode cX8_priceOf 23 = .ok (.if_icmp .lt 12, 3) := by decide +kernel
theorem dX8_priceOf_26 : decode cX8_priceOf 26 = .ok (.aload_n 0, 1) := by decide +kernel
theorem dX8_priceOf_27 : decode cX8_priceOf 27 = .ok (.getfield 44, 3) := by decide +kernel
theorem dX8_priceOf_30 : decode cX8_priceOf 30 = .ok (.iload_n 1, 1) := by decide +kernel
theorem dX8_priceOf_31 : decode cX8_priceOf 31 = .ok (.iaload, 1) := by decide +kernel
theorem dX8_priceOf_32 : decode cX8_priceOf 32 = .ok (.goto 9, 3) := by decide +kernel
theorem dX8_priceOf_35 : decode cX8_priceOf 35 = .ok (.aload_n 0, 1) := by decide +kernel
theorem dX8_priceOf_36 : decode cX8_priceOf 36 = .ok (.getfield 38, 3) := by decide +kernel
theorem dX8_priceOf_39 : decode cX8_priceOf 39 = .ok (.iload_n 1, 1) := by decide +kernel
theorem dX8_priceOf_40 : decode cX8_priceOf 40 = .ok (.iaload, 1) := by decide +kernel
theorem dX8_priceOf_41 : decode cX8_priceOf 41 = .ok (.ireturn, 1) := by decide +kernel
theorem dX8_owes_0 : decode cX8_owes 0 = .ok (.aload_n 0, 1) := by decide +kernel
theorem dX8_owes_1 : decode cX8_owes 1 = .ok (.iload_n 1, 1) := by decide +kernel
theorem dX8_owes_2 : decode cX8_owes 2 = .ok (.invokestatic 129, 3) := by decide +kernel
theorem dX8_owes_5 : decode cX8_owes 5 = .ok (.ifCond .eq 14, 3) := by decide +kernel
theorem dX8_owes_8 : decode cX8_owes 8 = .ok (.iload_n 2, 1) := by decide +kernel
theorem dX8_owes_9 : decode cX8_owes 9 = .ok (.invokestatic 129, 3) := by decide +kernel
theorem dX8_owes_12 : decode cX8_owes 12 = .ok (.ifCond .eq 7, 3) := by decide +kernel
theorem dX8_owes_15 : decode cX8_owes 15 = .ok (.iconst 0, 1) := by decide +kernel
theorem dX8_owes_16 : decode cX8_owes 16 = .ok (.goto 4, 3) := by decide +kernel
theorem dX8_owes_19 : decode cX8_owes 19 = .ok (.iconst 1, 1) := by decide +kernel
theorem dX8_owes_20 : decode cX8_owes 20 = .ok (.putfield 110, 3) := by decide +kernel
theorem dX8_owes_23 : decode cX8_owes 23 = .ok (.iconst 0, 1) := by decide +kernel
theorem dX8_owes_24 : decode cX8_owes 24 = .ok (.istore_n 3, 1) := by decide +kernel
theorem dX8_owes_25 : decode cX8_owes 25 = .ok (.aload_n 0, 1) := by decide +kernel
theorem dX8_owes_26 : decode cX8_owes 26 = .ok (.getfield 110, 3) := by decide +kernel
theorem dX8_owes_29 : decode cX8_owes 29 = .ok (.ifCond .le 7, 3) := by decide +kernel
theorem dX8_owes_32 : decode cX8_owes 32 = .ok (.iconst 0, 1) := by decide +kernel
theorem dX8_owes_33 : decode cX8_owes 33 = .ok (.goto 10, 3) := by decide +kernel
theorem dX8_owes_36 : decode cX8_owes 36 = .ok (.aload_n 0, 1) := by decide +kernel
theorem dX8_owes_37 : decode cX8_owes 37 = .ok (.iload_n 2, 1) := by decide +kernel
theorem dX8_owes_38 : decode cX8_owes 38 = .ok (.iload_n 1, 1) := by decide +kernel
theorem dX8_owes_39 : decode cX8_owes 39 = .ok (.iconst 2, 1) := by decide +kernel
theorem dX8_owes_40 : decode cX8_owes 40 = .ok (.invokevirtual 191, 3) := by decide +kernel
theorem dX8_owes_43 : decode cX8_owes 43 = .ok (.istore 4, 2) := by decide +kernel
theorem dX8_owes_45 : decode cX8_owes 45 = .ok (.iconst 0, 1) := by decide +kernel
theorem dX8_owes_46 : decode cX8_owes 46 = .ok (.istore 5, 2) := by decide +kernel
theorem dX8_owes_48 : decode cX8_owes 48 = .ok (.iload 5, 2) := by decide +kernel
theorem dX8_owes_50 : decode cX8_owes 50 = .ok (.aload_n 0, 1) := by decide +kernel
theorem dX8_owes_51 : decode cX8_owes 51 = .ok (.getfield 169, 3) := by decide +kernel
theorem dX8_owes_54 : decode cX8_owes 54 = .ok (.if_icmp .ge 66, 3) := by decide +kernel
theorem dX8_owes_57 : decode cX8_owes 57 = .ok (.aload_n 0, 1) := by decide +kernel
theorem dX8_owes_58 : decode cX8_owes 58 = .ok (.getfield 110, 3) := by decide +kernel
theorem dX8_owes_61 : decode cX8_owes 61 = .ok (.ifCond .ne 59, 3) := by decide +kernel
theorem dX8_owes_64 : decode cX8_owes 64 = .ok (.iload_n 3, 1) := by decide +kernel
theorem dX8_owes_65 : decode cX8_owes 65 = .ok (.aload_n 0, 1) := by decide +kernel
theorem dX8_owes_66 : decode cX8_owes 66 = .ok (.iload 5, 2) := by decide +kernel
theorem dX8_owes_68 : decode cX8_owes 68 = .ok (.iload_n 2, 1) := by decide +kernel
theorem dX8_owes_69 : decode cX8_owes 69 = .ok (.iload_n 1, 1) := by decide +kernel
theorem dX8_owes_70 : decode cX8_owes 70 = .ok (.invokevirtual 188, 3) := by decide +kernel
theorem dX8_owes_73 : decode cX8_owes 73 = .ok (.ifCond .eq 38, 3) := by decide +kernel
theorem dX8_owes_76 : decode cX8_owes 76 = .ok (.aload_n 0, 1) := by decide +kernel
theorem dX8_owes_77 : decode cX8_owes 77 = .ok (.getfield 98, 3) := by decide +kernel
theorem dX8_owes_80 : decode cX8_owes 80 = .ok (.iload 5, 2) := by decide +kernel
theorem dX8_owes_82 : decode cX8_owes 82 = .ok (.iaload, 1) := by decide +kernel
theorem dX8_owes_83 : decode cX8_owes 83 = .ok (.iconst 2, 1) := by decide +kernel
theorem dX8_owes_84 : decode cX8_owes 84 = .ok (.if_icmp .ne 27, 3) := by decide +kernel
theorem dX8_owes_87 : decode cX8_owes 87 = .ok (.aload_n 0, 1) := by decide +kernel
theorem dX8_owes_88 : decode cX8_owes 88 = .ok (.getfield 89, 3) := by decide +kernel
theorem dX8_owes_91 : decode cX8_owes 91 = .ok (.iload 5, 2) := by decide +kernel
theorem dX8_owes_93 : decode cX8_owes 93 = .ok (.iaload, 1) := by decide +kernel
theorem dX8_owes_94 : decode cX8_owes 94 = .ok (.aload_n 0, 1) := by decide +kernel
theorem dX8_owes_95 : decode cX8_owes 95 = .ok (.aload_n 0, 1) := by decide +kernel
theorem dX8_owes_96 : decode cX8_owes 96 = .ok (.getfield 95, 3) := by decide +kernel
theorem dX8_owes_99 : decode cX8_owes 99 = .ok (.iload 5, 2) := by decide +kernel
theorem dX8_owes_101 : decode cX8_owes 101 = .ok (.iaload, 1) := by decide +kernel
theorem dX8_owes_102 : decode cX8_owes 102 = .ok (.iload 4, 2) := by decide +kernel
theorem dX8_owes_104 : decode cX8_owes 104 = .ok (.invokevirtual 195, 3) := by decide +kernel
theorem dX8_owes_107 : decode cX8_owes 107 = .ok (.imul, 1) := by decide +kernel
theorem dX8_owes_108 : decode cX8_owes 108 = .ok (.goto 4, 3) := by decide +kernel
theorem dX8_owes_111 : decode cX8_owes 111 = .ok (.iconst 0, 1) := by decide +kernel
theorem dX8_owes_112 : decode cX8_owes 112 = .ok (.iadd, 1) := by decide +kernel
theorem dX8_owes_113 : decode cX8_owes 113 = .ok (.istore_n 3, 1) := by decide +kernel
theorem dX8_owes_114 : decode cX8_owes 114 = .ok (.iinc 5 1, 3) := by decide +kernel
theorem dX8_owes_117 : decode cX8_owes 117 = .ok (.goto (-69), 3) := by decide +kernel
theorem dX8_owes_120 : decode cX8_owes 120 = .ok (.iload_n 3, 1) := by decide +kernel
theorem dX8_owes_121 : decode cX8_owes 121 = .ok (.ireturn, 1) := by decide +kernel
theorem dX8_owesAnew_0 : decode cX8_owesAnew 0 = .ok (.aload_n 0, 1) := by decide +kernel
theorem dX8_owesAnew_1 : decode cX8_owesAnew 1 = .ok (.iload_n 1, 1) := by decide +kernel
theorem dX8_owesAnew_2 : decode cX8_owesAnew 2 = .ok (.iload_n 2, 1) := by decide +kernel
theorem dX8_owesAnew_3 : decode cX8_owesAnew 3 = .ok (.invokevirtual 198, 3) := by decide +kernel
theorem dX8_owesAnew_6 : decode cX8_owesAnew 6 = .ok (.ireturn, 1) := by decide +kernel
theorem dX8_recorded_0 : decode cX8_recorded 0 = .ok (.aload_n 0, 1) := by decide +kernel
theorem dX8_recorded_1 : decode cX8_recorded 1 = .ok (.iload_n 1, 1) := by decide +kernel
theorem dX8_recorded_2 : decode cX8_recorded 2 = .ok (.invokestatic 129, 3) := by decide +kernel
theorem dX8_recorded_5 : decode cX8_recorded 5 = .ok (.ifCond .eq 10, 3) := by decide +kernel
theorem dX8_recorded_8 : decode cX8_recorded 8 = .ok (.iload_n 2, 1) := by decide +kernel
theorem dX8_recorded_9 : decode cX8_recorded 9 = .ok (.invokestatic 129, 3) := by decide +kernel
theorem dX8_recorded_12 : decode cX8_recorded 12 = .ok (.ifCond .ne 7, 3) := by decide +kernel
theorem dX8_recorded_15 : decode cX8_recorded 15 = .ok (.iconst 1, 1) := by decide +kernel
theorem dX8_recorded_16 : decode cX8_recorded 16 = .ok (.goto 17, 3) := by decide +kernel
theorem dX8_recorded_19 : decode cX8_recorded 19 = .ok (.iload_n 3, 1) := by decide +kernel
theorem dX8_recorded_20 : decode cX8_recorded 20 = .ok (.iconst 0, 1) := by decide +kernel
theorem dX8_recorded_21 : decode cX8_recorded 21 = .ok (.iconst 3, 1) := by decide +kernel
theorem dX8_recorded_22 : decode cX8_recorded 22 = .ok (.invokestatic 114, 3) := by decide +kernel
theorem dX8_recorded_25 : decode cX8_recorded 25 = .ok (.ifCond .eq 7, 3) := by decide +kernel
theorem dX8_recorded_28 : decode cX8_recorded 28 = .ok (.iconst 0, 1) := by decide +kernel
theorem dX8_recorded_29 : decode cX8_recorded 29 = .ok (.goto 4, 3) := by decide +kernel
theorem dX8_recorded_32 : decode cX8_recorded 32 = .ok (.iconst 2, 1) := by decide +kernel
theorem dX8_recorded_33 : decode cX8_recorded 33 = .ok (.putfield 110, 3) := by decide +kernel
theorem dX8_recorded_36 : decode cX8_recorded 36 = .ok (.aload_n 0, 1) := by decide +kernel
theorem dX8_recorded_37 : decode cX8_recorded 37 = .ok (.getfield 110, 3) := by decide +kernel
theorem dX8_recorded_40 : decode cX8_recorded 40 = .ok (.ifCond .le 7, 3) := by decide +kernel
theorem dX8_recorded_43 : decode cX8_recorded 43 = .ok (.iconst 0, 1) := by decide +kernel
theorem dX8_recorded_44 : decode cX8_recorded 44 = .ok (.goto 10, 3) := by decide +kernel
theorem dX8_recorded_47 : decode cX8_recorded 47 = .ok (.aload_n 0, 1) := by decide +kernel
theorem dX8_recorded_48 : decode cX8_recorded 48 = .ok (.iload_n 1, 1) := by decide +kernel
theorem dX8_recorded_49 : decode cX8_recorded 49 = .ok (.iload_n 2, 1) := by decide +kernel
theorem dX8_recorded_50 : decode cX8_recorded 50 = .ok (.iload_n 3, 1) := by decide +kernel
theorem dX8_recorded_51 : decode cX8_recorded 51 = .ok (.invokevirtual 191, 3) := by decide +kernel
theorem dX8_recorded_54 : decode cX8_recorded 54 = .ok (.ireturn, 1) := by decide +kernel
theorem dX8_begins_0 : decode cX8_begins 0 = .ok (.iconst 0, 1) := by decide +kernel
theorem dX8_begins_1 : decode cX8_begins 1 = .ok (.istore_n 1, 1) := by decide +kernel
theorem dX8_begins_2 : decode cX8_begins 2 = .ok (.iload_n 1, 1) := by decide +kernel
theorem dX8_begins_3 : decode cX8_begins 3 = .ok (.aload_n 0, 1) := by decide +kernel
theorem dX8_begins_4 : decode cX8_begins 4 = .ok (.getfield 118, 3) := by decide +kernel
theorem dX8_begins_7 : decode cX8_begins 7 = .ok (.if_icmp .ge 24, 3) := by decide +kernel
theorem dX8_begins_10 : decode cX8_begins 10 = .ok (.aload_n 0, 1) := by decide +kernel
theorem dX8_begins_11 : decode cX8_begins 11 = .ok (.getfield 56, 3) := by decide +kernel
theorem dX8_begins_14 : decode cX8_begins 14 = .ok (.iload_n 1, 1) := by decide +kernel
theorem dX8_begins_15 : decode cX8_begins 15 = .ok (.iaload, 1) := by decide +kernel
theorem dX8_begins_16 : decode cX8_begins 16 = .ok (.iconst (-1), 1) := by decide +kernel
theorem dX8_begins_17 : decode cX8_begins 17 = .ok (.if_icmp .eq 8, 3) := by decide +kernel
theorem dX8_begins_20 : decode cX8_begins 20 = .ok (.aload_n 0, 1) := by decide +kernel
theorem dX8_begins_21 : decode cX8_begins 21 = .ok (.iload_n 1, 1) := by decide +kernel
theorem dX8_begins_22 : decode cX8_begins 22 = .ok (.invokevirtual 157, 3) := by decide +kernel
theorem dX8_begins_25 : decode cX8_begins 25 = .ok (.iinc 1 1, 3) := by decide +kernel
theorem dX8_begins_28 : decode cX8_begins 28 = .ok (.goto (-26), 3) := by decide +kernel
theorem dX8_begins_31 : decode cX8_begins 31 = .ok (.iconst 0, 1) := by decide +kernel
theorem dX8_begins_32 : decode cX8_begins 32 = .ok (.istore_n 1, 1) := by decide +kernel
theorem dX8_begins_33 : decode cX8_begins 33 = .ok (.iload_n 1, 1) := by decide +kernel
theorem dX8_begins_34 : decode cX8_begins 34 = .ok (.bipush 60, 2) := by decide +kernel
theorem dX8_begins_36 : decode cX8_begins 36 = .ok (.if_icmp .ge 52, 3) := by decide +kernel
theorem dX8_begins_39 : decode cX8_begins 39 = .ok (.aload_n 0, 1) := by decide +kernel
theorem dX8_begins_40 : decode cX8_begins 40 = .ok (.getfield 80, 3) := by decide +kernel
theorem dX8_begins_43 : decode cX8_begins 43 = .ok (.iload_n 1, 1) := by decide +kernel
theorem dX8_begins_44 : decode cX8_begins 44 = .ok (.aload_n 0, 1) := by decide +kernel
theorem dX8_begins_45 : decode cX8_begins 45 = .ok (.getfield 80, 3) := by decide +kernel
theorem dX8_begins_48 : decode cX8_begins 48 = .ok (.iload_n 1, 1) := by decide +kernel
theorem dX8_begins_49 : decode cX8_begins 49 = .ok (.iaload, 1) := by decide +kernel
theorem dX8_begins_50 : decode cX8_begins 50 = .ok (.iconst (-1), 1) := by decide +kernel
theorem dX8_begins_51 : decode cX8_begins 51 = .ok (.if_icmp .eq 24, 3) := by decide +kernel
theorem dX8_begins_54 : decode cX8_begins 54 = .ok (.aload_n 0, 1) := by decide +kernel
theorem dX8_begins_55 : decode cX8_begins 55 = .ok (.getfield 141, 3) := by decide +kernel
theorem dX8_begins_58 : decode cX8_begins 58 = .ok (.aload_n 0, 1) := by decide +kernel
theorem dX8_begins_59 : decode cX8_begins 59 = .ok (.getfield 80, 3) := by decide +kernel
theorem dX8_begins_62 : decode cX8_begins 62 = .ok (.iload_n 1, 1) := by decide +kernel
theorem dX8_begins_63 : decode cX8_begins 63 = .ok (.iaload, 1) := by decide +kernel
theorem dX8_begins_64 : decode cX8_begins 64 = .ok (.isub, 1) := by decide +kernel
theorem dX8_begins_65 : decode cX8_begins 65 = .ok (.sipush 180, 3) := by decide +kernel
theorem dX8_begins_68 : decode cX8_begins 68 = .ok (.if_icmp .lt 7, 3) := by decide +kernel
theorem dX8_begins_71 : decode cX8_begins 71 = .ok (.iconst (-1), 1) := by decide +kernel
theorem dX8_begins_72 : decode cX8_begins 72 = .ok (.goto 9, 3) := by decide +kernel
theorem dX8_begins_75 : decode cX8_begins 75 = .ok (.aload_n 0, 1) := by decide +kernel
theorem dX8_begins_76 : decode cX8_begins 76 = .ok (.getfield 80, 3) := by decide +kernel
theorem dX8_begins_79 : decode cX8_begins 79 = .ok (.iload_n 1, 1) := by decide +kernel
theorem dX8_begins_80 : decode cX8_begins 80 = .ok (.iaload, 1) := by decide +kernel
theorem dX8_begins_81 : decode cX8_begins 81 = .ok (.iastore, 1) := by decide +kernel
theorem dX8_begins_82 : decode cX8_begins 82 = .ok (.iinc 1 1, 3) := by decide +kernel
theorem dX8_begins_85 : decode cX8_begins 85 = .ok (.goto (-52), 3) := by decide +kernel
theorem dX8_begins_88 : decode cX8_begins 88 = .ok (.return_, 1) := by decide +kernel
theorem dX8_pass_0 : decode cX8_pass 0 = .ok (.aload_n 0, 1) := by decide +kernel
theorem dX8_pass_1 : decode cX8_pass 1 = .ok (.iload_n 1, 1) := by decide +kernel
theorem dX8_pass_2 : decode cX8_pass 2 = .ok (.iconst 1, 1) := by decide +kernel
theorem dX8_pass_3 : decode cX8_pass 3 = .ok (.ldc 201, 2) := by decide +kernel
theorem dX8_pass_5 : decode cX8_pass 5 = .ok (.invokestatic 114, 3) := by decide +kernel
theorem dX8_pass_8 : decode cX8_pass 8 = .ok (.ifCond .ne 7, 3) := by decide +kernel
theorem dX8_pass_11 : decode cX8_pass 11 = .ok (.iconst 1, 1) := by decide +kernel
theorem dX8_pass_12 : decode cX8_pass 12 = .ok (.goto 19, 3) := by decide +kernel
theorem dX8_pass_15 : decode cX8_pass 15 = .ok (.aload_n 0, 1) := by decide +kernel
theorem dX8_pass_16 : decode cX8_pass 16 = .ok (.getfield 141, 3) := by decide +kernel
theorem dX8_pass_19 : decode cX8_pass 19 = .ok (.iload_n 1, 1) := by decide +kernel
theorem dX8_pass_20 : decode cX8_pass 20 = .ok (.iadd, 1) := by decide +kernel
theorem dX8_pass_21 : decode cX8_pass 21 = .ok (.ldc 136, 2) := by decide +kernel
theorem dX8_pass_23 : decode cX8_pass 23 = .ok (.if_icmp .le 7, 3) := by decide +kernel
theorem dX8_pass_26 : decode cX8_pass 26 = .ok (.iconst 2, 1) := by decide +kernel
theorem dX8_pass_27 : decode cX8_pass 27 = .ok (.goto 4, 3) := by decide +kernel
theorem dX8_pass_30 : decode cX8_pass 30 = .ok (.iconst 0, 1) := by decide +kernel
theorem dX8_pass_31 : decode cX8_pass 31 = .ok (.putfield 110, 3) := by decide +kernel
theorem dX8_pass_34 : decode cX8_pass 34 = .ok (.iconst 0, 1) := by decide +kernel
theorem dX8_pass_35 : decode cX8_pass 35 = .ok (.istore_n 2, 1) := by decide +kernel
theorem dX8_pass_36 : decode cX8_pass 36 = .ok (.iload_n 2, 1) := by decide +kernel
theorem dX8_pass_37 : decode cX8_pass 37 = .ok (.iload_n 1, 1) := by decide +kernel
theorem dX8_pass_38 : decode cX8_pass 38 = .ok (.if_icmp .ge 40, 3) := by decide +kernel
theorem dX8_pass_41 : decode cX8_pass 41 = .ok (.aload_n 0, 1) := by decide +kernel
theorem dX8_pass_42 : decode cX8_pass 42 = .ok (.getfield 110, 3) := by decide +kernel
theorem dX8_pass_45 : decode cX8_pass 45 = .ok (.ifCond .ne 33, 3) := by decide +kernel
theorem dX8_pass_48 : decode cX8_pass 48 = .ok (.aload_n 0, 1) := by decide +kernel
theorem dX8_pass_49 : decode cX8_pass 49 = .ok (.dup, 1) := by decide +kernel
theorem dX8_pass_50 : decode cX8_pass 50 = .ok (.getfield 141, 3) := by decide +kernel
theorem dX8_pass_53 : decode cX8_pass 53 = .ok (.iconst 1, 1) := by decide +kernel
theorem dX8_pass_54 : decode cX8_pass 54 = .ok (.iadd, 1) := by decide +kernel
theorem dX8_pass_55 : decode cX8_pass 55 = .ok (.putfield 141, 3) := by decide +kernel
theorem dX8_pass_58 : decode cX8_pass 58 = .ok (.aload_n 0, 1) := by decide +kernel
theorem dX8_pass_59 : decode cX8_pass 59 = .ok (.getfield 141, 3) := by decide +kernel
theorem dX8_pass_62 : decode cX8_pass 62 = .ok (.bipush 60, 2) := by decide +kernel
theorem dX8_pass_64 : decode cX8_pass 64 = .ok (.irem, 1) := by decide +kernel
theorem dX8_pass_65 : decode cX8_pass 65 = .ok (.ifCond .ne 7, 3) := by decide +kernel
theorem dX8_pass_68 : decode cX8_pass 68 = .ok (.aload_n 0, 1) := by decide +kernel
theorem dX8_pass_69 : decode cX8_pass 69 = .ok (.invokevirtual 202, 3) := by decide +kernel
theorem dX8_pass_72 : decode cX8_pass 72 = .ok (.iinc 2 1, 3) := by decide +kernel
theorem dX8_pass_75 : decode cX8_pass 75 = .ok (.goto (-39), 3) := by decide +kernel
theorem dX8_pass_78 : decode cX8_pass 78 = .ok (.aload_n 0, 1) := by decide +kernel
theorem dX8_pass_79 : decode cX8_pass 79 = .ok (.getfield 110, 3) := by decide +kernel
theorem dX8_pass_82 : decode cX8_pass 82 = .ok (.ifCond .le 7, 3) := by decide +kernel
theorem dX8_pass_85 : decode cX8_pass 85 = .ok (.iconst 0, 1) := by decide +kernel
theorem dX8_pass_86 : decode cX8_pass 86 = .ok (.goto 7, 3) := by decide +kernel
theorem dX8_pass_89 : decode cX8_pass 89 = .ok (.aload_n 0, 1) := by decide +kernel
theorem dX8_pass_90 : decode cX8_pass 90 = .ok (.getfield 141, 3) := by decide +kernel
theorem dX8_pass_93 : decode cX8_pass 93 = .ok (.ireturn, 1) := by decide +kernel
