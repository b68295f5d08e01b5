theorem dX8_makeStep_93 : decode cX8_makeStep 93 = .ok (.iconst (-1), 1) := by decide +kernel
theorem dX8_makeStep_94 : decode cX8_makeStep 94 = .ok (.if_icmp .eq 21, 3) := by decide +kernel
theorem dX8_makeStep_97 : decode cX8_makeStep 97 = .ok (.aload_n 0, 1) := by decide +kernel
theorem dX8_makeStep_98 : decode cX8_makeStep 98 = .ok (.getfield 46, 3) := by decide +kernel
theorem dX8_makeStep_101 : decode cX8_makeStep 101 = .ok (.iload 7, 2) := by decide +kernel
theorem dX8_makeStep_103 : decode cX8_makeStep 103 = .ok (.iaload, 1) := by decide +kernel
theorem dX8_makeStep_104 : decode cX8_makeStep 104 = .ok (.bipush 100, 2) := by decide +kernel
theorem dX8_makeStep_106 : decode cX8_makeStep 106 = .ok (.if_icmp .lt 9, 3) := by decide +kernel
theorem dX8_makeStep_109 : decode cX8_makeStep 109 = .ok (.aload_n 0, 1) := by decide +kernel
theorem dX8_makeStep_110 : decode cX8_makeStep 110 = .ok (.iload 7, 2) := by decide +kernel
theorem dX8_makeStep_112 : decode cX8_makeStep 112 = .ok (.invokevirtual 137, 3) := by decide +kernel
theorem dX8_makeStep_115 : decode cX8_makeStep 115 = .ok (.iinc 6 1, 3) := by decide +kernel
theorem dX8_makeStep_118 : decode cX8_makeStep 118 = .ok (.goto (-42), 3) := by decide +kernel
theorem dX8_makeStep_121 : decode cX8_makeStep 121 = .ok (.iload_n 2, 1) := by decide +kernel
theorem dX8_makeStep_122 : decode cX8_makeStep 122 = .ok (.tableswitch 183 0 9 #[54, 70, 90, 90, 90, 115, 136, 136, 157, 168], 54) := by decide +kernel
theorem dX8_makeStep_176 : decode cX8_makeStep 176 = .ok (.aload_n 0, 1) := by decide +kernel
theorem dX8_makeStep_177 : decode cX8_makeStep 177 = .ok (.iload_n 2, 1) := by decide +kernel
theorem dX8_makeStep_178 : decode cX8_makeStep 178 = .ok (.aload_n 0, 1) := by decide +kernel
theorem dX8_makeStep_179 : decode cX8_makeStep 179 = .ok (.iload_n 3, 1) := by decide +kernel
theorem dX8_makeStep_180 : decode cX8_makeStep 180 = .ok (.invokevirtual 141, 3) := by decide +kernel
theorem dX8_makeStep_183 : decode cX8_makeStep 183 = .ok (.iload 4, 2) := by decide +kernel
theorem dX8_makeStep_185 : decode cX8_makeStep 185 = .ok (.iconst 0, 1) := by decide +kernel
theorem dX8_makeStep_186 : decode cX8_makeStep 186 = .ok (.invokevirtual 133, 3) := by decide +kernel
theorem dX8_makeStep_189 : decode cX8_makeStep 189 = .ok (.goto 124, 3) := by decide +kernel
theorem dX8_makeStep_192 : decode cX8_makeStep 192 = .ok (.aload_n 0, 1) := by decide +kernel
theorem dX8_makeStep_193 : decode cX8_makeStep 193 = .ok (.iload_n 2, 1) := by decide +kernel
theorem dX8_makeStep_194 : decode cX8_makeStep 194 = .ok (.aload_n 0, 1) := by decide +kernel
theorem dX8_makeStep_195 : decode cX8_makeStep 195 = .ok (.iload_n 3, 1) := by decide +kernel
theorem dX8_makeStep_196 : decode cX8_makeStep 196 = .ok (.invokevirtual 141, 3) := by decide +kernel
theorem dX8_makeStep_199 : decode cX8_makeStep 199 = .ok (.aload_n 0, 1) := by decide +kernel
theorem dX8_makeStep_200 : decode cX8_makeStep 200 = .ok (.iload 4, 2) := by decide +kernel
theorem dX8_makeStep_202 : decode cX8_makeStep 202 = .ok (.invokevirtual 144, 3) := by decide +kernel
theorem dX8_makeStep_205 : decode cX8_makeStep 205 = .ok (.iconst 0, 1) := by decide +kernel
theorem dX8_makeStep_206 : decode cX8_makeStep 206 = .ok (.invokevirtual 133, 3) := by decide +kernel
theorem dX8_makeStep_209 : decode cX8_makeStep 209 = .ok (.goto 104, 3) := by decide +kernel
theorem dX8_makeStep_212 : decode cX8_makeStep 212 = .ok (.aload_n 0, 1) := by decide +kernel
theorem dX8_makeStep_213 : decode cX8_makeStep 213 = .ok (.iload_n 2, 1) := by decide +kernel
theorem dX8_makeStep_214 : decode cX8_makeStep 214 = .ok (.aload_n 0, 1) := by decide +kernel
theorem dX8_makeStep_215 : decode cX8_makeStep 215 = .ok (.iload_n 3, 1) := by decide +kernel
theorem dX8_makeStep_216 : decode cX8_makeStep 216 = .ok (.invokevirtual 141, 3) := by decide +kernel
theorem dX8_makeStep_219 : decode cX8_makeStep 219 = .ok (.aload_n 0, 1) := by decide +kernel
theorem dX8_makeStep_220 : decode cX8_makeStep 220 = .ok (.iload 4, 2) := by decide +kernel
theorem dX8_makeStep_222 : decode cX8_makeStep 222 = .ok (.invokevirtual 144, 3) := by decide +kernel
theorem dX8_makeStep_225 : decode cX8_makeStep 225 = .ok (.aload_n 0, 1) := by decide +kernel
theorem dX8_makeStep_226 : decode cX8_makeStep 226 = .ok (.iload 5, 2) := by decide +kernel
theorem dX8_makeStep_228 : decode cX8_makeStep 228 = .ok (.invokevirtual 144, 3) := by decide +kernel
theorem dX8_makeStep_231 : decode cX8_makeStep 231 = .ok (.invokevirtual 133, 3) := by decide +kernel
theorem dX8_makeStep_234 : decode cX8_makeStep 234 = .ok (.goto 79, 3) := by decide +kernel
theorem dX8_makeStep_237 : decode cX8_makeStep 237 = .ok (.aload_n 0, 1) := by decide +kernel
theorem dX8_makeStep_238 : decode cX8_makeStep 238 = .ok (.iload_n 2, 1) := by decide +kernel
theorem dX8_makeStep_239 : decode cX8_makeStep 239 = .ok (.aload_n 0, 1) := by decide +kernel
theorem dX8_makeStep_240 : decode cX8_makeStep 240 = .ok (.iload_n 3, 1) := by decide +kernel
theorem dX8_makeStep_241 : decode cX8_makeStep 241 = .ok (.invokevirtual 141, 3) := by decide +kernel
theorem dX8_makeStep_244 : decode cX8_makeStep 244 = .ok (.aload_n 0, 1) := by decide +kernel
theorem dX8_makeStep_245 : decode cX8_makeStep 245 = .ok (.iload 4, 2) := by decide +kernel
theorem dX8_makeStep_247 : decode cX8_makeStep 247 = .ok (.invokevirtual 144, 3) := by decide +kernel
theorem dX8_makeStep_250 : decode cX8_makeStep 250 = .ok (.iload 5, 2) := by decide +kernel
theorem dX8_makeStep_252 : decode cX8_makeStep 252 = .ok (.invokevirtual 133, 3) := by decide +kernel
theorem dX8_makeStep_255 : decode cX8_makeStep 255 = .ok (.goto 58, 3) := by decide +kernel
theorem dX8_makeStep_258 : decode cX8_makeStep 258 = .ok (.aload_n 0, 1) := by decide +kernel
theorem dX8_makeStep_259 : decode cX8_makeStep 259 = .ok (.iload_n 2, 1) := by decide +kernel
theorem dX8_makeStep_260 : decode cX8_makeStep 260 = .ok (.aload_n 0, 1) := by decide +kernel
theorem dX8_makeStep_261 : decode cX8_makeStep 261 = .ok (.iload_n 3, 1) := by decide +kernel
theorem dX8_makeStep_262 : decode cX8_makeStep 262 = .ok (.invokevirtual 144, 3) := by decide +kernel
theorem dX8_makeStep_265 : decode cX8_makeStep 265 = .ok (.aload_n 0, 1) := by decide +kernel
theorem dX8_makeStep_266 : decode cX8_makeStep 266 = .ok (.iload 4, 2) := by decide +kernel
theorem dX8_makeStep_268 : decode cX8_makeStep 268 = .ok (.invokevirtual 144, 3) := by decide +kernel
theorem dX8_makeStep_271 : decode cX8_makeStep 271 = .ok (.iload 5, 2) := by decide +kernel
theorem dX8_makeStep_273 : decode cX8_makeStep 273 = .ok (.invokevirtual 133, 3) := by decide +kernel
theorem dX8_makeStep_276 : decode cX8_makeStep 276 = .ok (.goto 37, 3) := by decide +kernel
theorem dX8_makeStep_279 : decode cX8_makeStep 279 = .ok (.aload_n 0, 1) := by decide +kernel
theorem dX8_makeStep_280 : decode cX8_makeStep 280 = .ok (.iload_n 2, 1) := by decide +kernel
theorem dX8_makeStep_281 : decode cX8_makeStep 281 = .ok (.iload_n 3, 1) := by decide +kernel
theorem dX8_makeStep_282 : decode cX8_makeStep 282 = .ok (.iconst 0, 1) := by decide +kernel
theorem dX8_makeStep_283 : decode cX8_makeStep 283 = .ok (.iconst 0, 1) := by decide +kernel
theorem dX8_makeStep_284 : decode cX8_makeStep 284 = .ok (.invokevirtual 133, 3) := by decide +kernel
theorem dX8_makeStep_287 : decode cX8_makeStep 287 = .ok (.goto 26, 3) := by decide +kernel
theorem dX8_makeStep_290 : decode cX8_makeStep 290 = .ok (.aload_n 0, 1) := by decide +kernel
theorem dX8_makeStep_291 : decode cX8_makeStep 291 = .ok (.iload_n 2, 1) := by decide +kernel
theorem dX8_makeStep_292 : decode cX8_makeStep 292 = .ok (.aload_n 0, 1) := by decide +kernel
theorem dX8_makeStep_293 : decode cX8_makeStep 293 = .ok (.iload_n 3, 1) := by decide +kernel
theorem dX8_makeStep_294 : decode cX8_makeStep 294 = .ok (.invokevirtual 144, 3) := by decide +kernel
theorem dX8_makeStep_297 : decode cX8_makeStep 297 = .ok (.iconst 0, 1) := by decide +kernel
theorem dX8_makeStep_298 : decode cX8_makeStep 298 = .ok (.iconst 0, 1) := by decide +kernel
theorem dX8_makeStep_299 : decode cX8_makeStep 299 = .ok (.invokevirtual 133, 3) := by decide +kernel
theorem dX8_makeStep_302 : decode cX8_makeStep 302 = .ok (.goto 11, 3) := by decide +kernel
theorem dX8_makeStep_305 : decode cX8_makeStep 305 = .ok (.aload_n 0, 1) := by decide +kernel
theorem dX8_makeStep_306 : decode cX8_makeStep 306 = .ok (.iload_n 2, 1) := by decide +kernel
theorem dX8_makeStep_307 : decode cX8_makeStep 307 = .ok (.iconst 0, 1) := by decide +kernel
theorem dX8_makeStep_308 : decode cX8_makeStep 308 = .ok (.iconst 0, 1) := by decide +kernel
theorem dX8_makeStep_309 : decode cX8_makeStep 309 = .ok (.iconst 0, 1) := by decide +kernel
theorem dX8_makeStep_310 : decode cX8_makeStep 310 = .ok (.invokevirtual 133, 3) := by decide +kernel
theorem dX8_makeStep_313 : decode cX8_makeStep 313 = .ok (.aload_n 0, 1) := by decide +kernel
theorem dX8_makeStep_314 : decode cX8_makeStep 314 = .ok (.iload_n 1, 1) := by decide +kernel
theorem dX8_makeStep_315 : decode cX8_makeStep 315 = .ok (.invokevirtual 106, 3) := by decide +kernel
theorem dX8_makeStep_318 : decode cX8_makeStep 318 = .ok (.istore 6, 2) := by decide +kernel
theorem dX8_makeStep_320 : decode cX8_makeStep 320 = .ok (.iload 6, 2) := by decide +kernel
theorem dX8_makeStep_322 : decode cX8_makeStep 322 = .ok (.iconst (-1), 1) := by decide +kernel
theorem dX8_makeStep_323 : decode cX8_makeStep 323 = .ok (.if_icmp .eq 38, 3) := by decide +kernel
theorem dX8_makeStep_326 : decode cX8_makeStep 326 = .ok (.aload_n 0, 1) := by decide +kernel
theorem dX8_makeStep_327 : decode cX8_makeStep 327 = .ok (.getfield 46, 3) := by decide +kernel
theorem dX8_makeStep_330 : decode cX8_makeStep 330 = .ok (.iload 6, 2) := by decide +kernel
theorem dX8_makeStep_332 : decode cX8_makeStep 332 = .ok (.iaload, 1) := by decide +kernel
theorem dX8_makeStep_333 : decode cX8_makeStep 333 = .ok (.bipush 100, 2) := by decide +kernel
theorem dX8_makeStep_335 : decode cX8_makeStep 335 = .ok (.if_icmp .lt 26, 3) := by decide +kernel
theorem dX8_makeStep_338 : decode cX8_makeStep 338 = .ok (.aload_n 0, 1) := by decide +kernel
theorem dX8_makeStep_339 : decode cX8_makeStep 339 = .ok (.bipush 12, 2) := by decide +kernel
theorem dX8_makeStep_341 : decode cX8_makeStep 341 = .ok (.aload_n 0, 1) := by decide +kernel
theorem dX8_makeStep_342 : decode cX8_makeStep 342 = .ok (.iload 6, 2) := by decide +kernel
theorem dX8_makeStep_344 : decode cX8_makeStep 344 = .ok (.invokevirtual 141, 3) := by decide +kernel
theorem dX8_makeStep_347 : decode cX8_makeStep 347 = .ok (.aload_n 0, 1) := by decide +kernel
theorem dX8_makeStep_348 : decode cX8_makeStep 348 = .ok (.getfield 46, 3) := by decide +kernel
theorem dX8_makeStep_351 : decode cX8_makeStep 351 = .ok (.iload 6, 2) := by decide +kernel
theorem dX8_makeStep_353 : decode cX8_makeStep 353 = .ok (.iaload, 1) := by decide +kernel
theorem dX8_makeStep_354 : decode cX8_makeStep 354 = .ok (.bipush 100, 2) := by decide +kernel
theorem dX8_makeStep_356 : decode cX8_makeStep 356 = .ok (.isub, 1) := by decide +kernel
theorem dX8_makeStep_357 : decode cX8_makeStep 357 = .ok (.iconst 0, 1) := by decide +kernel
theorem dX8_makeStep_358 : decode cX8_makeStep 358 = .ok (.invokevirtual 133, 3) := by decide +kernel
theorem dX8_makeStep_361 : decode cX8_makeStep 361 = .ok (.return_, 1) := by decide +kernel
theorem dX8_makeCode_0 : decode cX8_makeCode 0 = .ok (.aload_n 0, 1) := by decide +kernel
theorem dX8_makeCode_1 : decode cX8_makeCode 1 = .ok (.invokevirtual 147, 3) := by decide +kernel
theorem dX8_makeCode_4 : decode cX8_makeCode 4 = .ok (.aload_n 0, 1) := by decide +kernel
theorem dX8_makeCode_5 : decode cX8_makeCode 5 = .ok (.getfield 52, 3) := by decide +kernel
theorem dX8_makeCode_8 : decode cX8_makeCode 8 = .ok (.iconst 0, 1) := by decide +kernel
theorem dX8_makeCode_9 : decode cX8_makeCode 9 = .ok (.iconst 0, 1) := by decide +kernel
theorem dX8_makeCode_10 : decode cX8_makeCode 10 = .ok (.iastore, 1) := by decide +kernel
theorem dX8_makeCode_11 : decode cX8_makeCode 11 = .ok (.iconst 0, 1) := by decide +kernel
theorem dX8_makeCode_12 : decode cX8_makeCode 12 = .ok (.istore_n 1, 1) := by decide +kernel
theorem dX8_makeCode_13 : decode cX8_makeCode 13 = .ok (.iload_n 1, 1) := by decide +kernel
theorem dX8_makeCode_14 : decode cX8_makeCode 14 = .ok (.aload_n 0, 1) := by decide +kernel
theorem dX8_makeCode_15 : decode cX8_makeCode 15 = .ok (.getfield 95, 3) := by decide +kernel
theorem dX8_makeCode_18 : decode cX8_makeCode 18 = .ok (.if_icmp .ge 26, 3) := by decide +kernel
theorem dX8_makeCode_21 : decode cX8_makeCode 21 = .ok (.aload_n 0, 1) := by decide +kernel
theorem dX8_makeCode_22 : decode cX8_makeCode 22 = .ok (.getfield 55, 3) := by decide +kernel
theorem dX8_makeCode_25 : decode cX8_makeCode 25 = .ok (.iload_n 1, 1) := by decide +kernel
theorem dX8_makeCode_26 : decode cX8_makeCode 26 = .ok (.aload_n 0, 1) := by decide +kernel
theorem dX8_makeCode_27 : decode cX8_makeCode 27 = .ok (.getfield 52, 3) := by decide +kernel
theorem dX8_makeCode_30 : decode cX8_makeCode 30 = .ok (.iconst 0, 1) := by decide +kernel
theorem dX8_makeCode_31 : decode cX8_makeCode 31 = .ok (.iaload, 1) := by decide +kernel
theorem dX8_makeCode_32 : decode cX8_makeCode 32 = .ok (.iastore, 1) := by decide +kernel
theorem dX8_makeCode_33 : decode cX8_makeCode 33 = .ok (.aload_n 0, 1) := by decide +kernel
theorem dX8_makeCode_34 : decode cX8_makeCode 34 = .ok (.iload_n 1, 1) := by decide +kernel
theorem dX8_makeCode_35 : decode cX8_makeCode 35 = .ok (.invokevirtual 150, 3) := by decide +kernel
theorem dX8_makeCode_38 : decode cX8_makeCode 38 = .ok (.iinc 1 1, 3) := by decide +kernel
theorem dX8_makeCode_41 : decode cX8_makeCode 41 = .ok (.goto (-28), 3) := by decide +kernel
theorem dX8_makeCode_44 : decode cX8_makeCode 44 = .ok (.iconst 0, 1) := by decide +kernel
theorem dX8_makeCode_45 : decode cX8_makeCode 45 = .ok (.istore_n 1, 1) := by decide +kernel
theorem dX8_makeCode_46 : decode cX8_makeCode 46 = .ok (.iload_n 1, 1) := by decide +kernel
theorem dX8_makeCode_47 : decode cX8_makeCode 47 = .ok (.aload_n 0, 1) := by decide +kernel
theorem dX8_makeCode_48 : decode cX8_makeCode 48 = .ok (.getfield 52, 3) := by decide +kernel
theorem dX8_makeCode_51 : decode cX8_makeCode 51 = .ok (.iconst 0, 1) := by decide +kernel
theorem dX8_makeCode_52 : decode cX8_makeCode 52 = .ok (.iaload, 1) := by decide +kernel
theorem dX8_makeCode_53 : decode cX8_makeCode 53 = .ok (.if_icmp .ge 97, 3) := by decide +kernel
theorem dX8_makeCode_56 : decode cX8_makeCode 56 = .ok (.iconst 4, 1) := by decide +kernel
theorem dX8_makeCode_57 : decode cX8_makeCode 57 = .ok (.iload_n 1, 1) := by decide +kernel
theorem dX8_makeCode_58 : decode cX8_makeCode 58 = .ok (.imul, 1) := by decide +kernel
theorem dX8_makeCode_59 : decode cX8_makeCode 59 = .ok (.aload_n 0, 1) := by decide +kernel
theorem dX8_makeCode_60 : decode cX8_makeCode 60 = .ok (.getfield 49, 3) := by decide +kernel
theorem dX8_makeCode_63 : decode cX8_makeCode 63 = .ok (.iconst 4, 1) := by decide +kernel
theorem dX8_makeCode_64 : decode cX8_makeCode 64 = .ok (.iload_n 1, 1) := by decide +kernel
theorem dX8_makeCode_65 : decode cX8_makeCode 65 = .ok (.imul, 1) := by decide +kernel
theorem dX8_makeCode_66 : decode cX8_makeCode 66 = .ok (.iaload, 1) := by decide +kernel
theorem dX8_makeCode_67 : decode cX8_makeCode 67 = .ok (.bipush 7, 2) := by decide +kernel
theorem dX8_makeCode_69 : decode cX8_makeCode 69 = .ok (.if_icmp .ne 7, 3) := by decide +kernel
theorem dX8_makeCode_72 : decode cX8_makeCode 72 = .ok (.iconst 3, 1) := by decide +kernel
theorem dX8_makeCode_73 : decode cX8_makeCode 73 = .ok (.goto 4, 3) := by decide +kernel
theorem dX8_makeCode_76 : decode cX8_makeCode 76 = .ok (.iconst 1, 1) := by decide +kernel
theorem dX8_makeCode_77 : decode cX8_makeCode 77 = .ok (.iadd, 1) := by decide +kernel
theorem dX8_makeCode_78 : decode cX8_makeCode 78 = .ok (.istore_n 2, 1) := by decide +kernel
theorem dX8_makeCode_79 : decode cX8_makeCode 79 = .ok (.aload_n 0, 1) := by decide +kernel
theorem dX8_makeCode_80 : decode cX8_makeCode 80 = .ok (.getfield 49, 3) := by decide +kernel
theorem dX8_makeCode_83 : decode cX8_makeCode 83 = .ok (.iconst 4, 1) := by decide +kernel
theorem dX8_makeCode_84 : decode cX8_makeCode 84 = .ok (.iload_n 1, 1) := by decide +kernel
theorem dX8_makeCode_85 : decode cX8_makeCode 85 = .ok (.imul, 1) := by decide +kernel
theorem dX8_makeCode_86 : decode cX8_makeCode 86 = .ok (.iaload, 1) := by decide +kernel
theorem dX8_makeCode_87 : decode cX8_makeCode 87 = .ok (.bipush 7, 2) := by decide +kernel
theorem dX8_makeCode_89 : decode cX8_makeCode 89 = .ok (.if_icmp .eq 16, 3) := by decide +kernel
theorem dX8_makeCode_92 : decode cX8_makeCode 92 = .ok (.aload_n 0, 1) := by decide +kernel
theorem dX8_makeCode_93 : decode cX8_makeCode 93 = .ok (.getfield 49, 3) := by decide +kernel
theorem dX8_makeCode_96 : decode cX8_makeCode 96 = .ok (.iconst 4, 1) := by decide +kernel
theorem dX8_makeCode_97 : decode cX8_makeCode 97 = .ok (.iload_n 1, 1) := by decide +kernel
theorem dX8_makeCode_98 : decode cX8_makeCode 98 = .ok (.imul, 1) := by decide +kernel
theorem dX8_makeCode_99 : decode cX8_makeCode 99 = .ok (.iaload, 1) := by decide +kernel
theorem dX8_makeCode_100 : decode cX8_makeCode 100 = .ok (.bipush 8, 2) := by decide +kernel
theorem dX8_makeCode_102 : decode cX8_makeCode 102 = .ok (.if_icmp .ne 42, 3) := by decide +kernel
theorem dX8_makeCode_105 : decode cX8_makeCode 105 = .ok (.aload_n 0, 1) := by decide +kernel
theorem dX8_makeCode_106 : decode cX8_makeCode 106 = .ok (.getfield 49, 3) := by decide +kernel
theorem dX8_makeCode_109 : decode cX8_makeCode 109 = .ok (.iload_n 2, 1) := by decide +kernel
theorem dX8_makeCode_110 : decode cX8_makeCode 110 = .ok (.aload_n 0, 1) := by decide +kernel
theorem dX8_makeCode_111 : decode cX8_makeCode 111 = .ok (.getfield 49, 3) := by decide +kernel
theorem dX8_makeCode_114 : decode cX8_makeCode 114 = .ok (.iload_n 2, 1) := by decide +kernel
theorem dX8_makeCode_115 : decode cX8_makeCode 115 = .ok (.iaload, 1) := by decide +kernel
theorem dX8_makeCode_116 : decode cX8_makeCode 116 = .ok (.aload_n 0, 1) := by decide +kernel
theorem dX8_makeCode_117 : decode cX8_makeCode 117 = .ok (.getfield 95, 3) := by decide +kernel
theorem dX8_makeCode_120 : decode cX8_makeCode 120 = .ok (.if_icmp .ge 17, 3) := by decide +kernel
theorem dX8_makeCode_123 : decode cX8_makeCode 123 = .ok (.aload_n 0, 1) := by decide +kernel
theorem dX8_makeCode_124 : decode cX8_makeCode 124 = .ok (.getfield 55, 3) := by decide +kernel
theorem dX8_makeCode_127 : decode cX8_makeCode 127 = .ok (.aload_n 0, 1) := by decide +kernel
theorem dX8_makeCode_128 : decode cX8_makeCode 128 = .ok (.getfield 49, 3) := by decide +kernel
theorem dX8_makeCode_131 : decode cX8_makeCode 131 = .ok (.iload_n 2, 1) := by decide +kernel
theorem dX8_makeCode_132 : decode cX8_makeCode 132 = .ok (.iaload, 1) := by decide +kernel
theorem dX8_makeCode_133 : decode cX8_makeCode 133 = .ok (.iaload, 1) := by decide +kernel
theorem dX8_makeCode_134 : decode cX8_makeCode 134 = .ok (.goto 9, 3) := by decide +kernel
theorem dX8_makeCode_137 : decode cX8_makeCode 137 = .ok (.aload_n 0, 1) := by decide +kernel
theorem dX8_makeCode_138 : decode cX8_makeCode 138 = .ok (.getfield 52, 3) := by decide +kernel
theorem dX8_makeCode_141 : decode cX8_makeCode 141 = .ok (.iconst 0, 1) := by decide +kernel
theorem dX8_makeCode_142 : decode cX8_makeCode 142 = .ok (.iaload, 1) := by decide +kernel
theorem dX8_makeCode_143 : decode cX8_makeCode 143 = .ok (.iastore, 1) := by decide +kernel
theorem dX8_makeCode_144 : decode cX8_makeCode 144 = .ok (.iinc 1 1, 3) := by decide +kernel
theorem dX8_makeCode_147 : decode cX8_makeCode 147 = .ok (.goto (-101), 3) := by decide +kernel
theorem dX8_makeCode_150 : decode cX8_makeCode 150 = .ok (.aload_n 0, 1) := by decide +kernel
theorem dX8_makeCode_151 : decode cX8_makeCode 151 = .ok (.getfield 52, 3) := by decide +kernel
theorem dX8_makeCode_154 : decode cX8_makeCode 154 = .ok (.iconst 1, 1) := by decide +kernel
theorem dX8_makeCode_155 : decode cX8_makeCode 155 = .ok (.aload_n 0, 1) := by decide +kernel
theorem dX8_makeCode_156 : decode cX8_makeCode 156 = .ok (.getfield 52, 3) := by decide +kernel
theorem dX8_makeCode_159 : decode cX8_makeCode 159 = .ok (.iconst 0, 1) := by decide +kernel
theorem dX8_makeCode_160 : decode cX8_makeCode 160 = .ok (.iaload, 1) := by decide +kernel
theorem dX8_makeCode_161 : decode cX8_makeCode 161 = .ok (.iastore, 1) := by decide +kernel
theorem dX8_makeCode_162 : decode cX8_makeCode 162 = .ok (.iconst 0, 1) := by decide +kernel
theorem dX8_makeCode_163 : decode cX8_makeCode 163 = .ok (.istore_n 1, 1) := by decide +kernel
theorem dX8_makeCode_164 : decode cX8_makeCode 164 = .ok (.iload_n 1, 1) := by decide +kernel
theorem dX8_makeCode_165 : decode cX8_makeCode 165 = .ok (.iconst 4, 1) := by decide +kernel
theorem dX8_makeCode_166 : decode cX8_makeCode 166 = .ok (.aload_n 0, 1) := by decide +kernel
theorem dX8_makeCode_167 : decode cX8_makeCode 167 = .ok (.getfield 52, 3) := by decide +kernel
theorem dX8_makeCode_170 : decode cX8_makeCode 170 = .ok (.iconst 0, 1) := by decide +kernel
theorem dX8_makeCode_171 : decode cX8_makeCode 171 = .ok (.iaload, 1) := by decide +kernel
theorem dX8_makeCode_172 : decode cX8_makeCode 172 = .ok (.imul, 1) := by decide +kernel
theorem dX8_makeCode_173 : decode cX8_makeCode 173 = .ok (.if_icmp .ge 25, 3) := by decide +kernel
theorem dX8_makeCode_176 : decode cX8_makeCode 176 = .ok (.aload_n 0, 1) := by decide +kernel
theorem dX8_makeCode_177 : decode cX8_makeCode 177 = .ok (.getfield 49, 3) := by decide +kernel
theorem dX8_makeCode_180 : decode cX8_makeCode 180 = .ok (.sipush 1600, 3) := by decide +kernel
theorem dX8_makeCode_183 : decode cX8_makeCode 183 = .ok (.iload_n 1, 1) := by decide +kernel
theorem dX8_makeCode_184 : decode cX8_makeCode 184 = .ok (.iadd, 1) := by decide +kernel
theorem dX8_makeCode_185 : decode cX8_makeCode 185 = .ok (.aload_n 0, 1) := by decide +kernel
theorem dX8_makeCode_186 : decode cX8_makeCode 186 = .ok (.getfield 49, 3) := by decide +kernel
theorem dX8_makeCode_189 : decode cX8_makeCode 189 = .ok (.iload_n 1, 1) := by decide +kernel
theorem dX8_makeCode_190 : decode cX8_makeCode 190 = .ok (.iaload, 1) := by decide +kernel
theorem dX8_makeCode_191 : decode cX8_makeCode 191 = .ok (.iastore, 1) := by decide +kernel
theorem dX8_makeCode_192 : decode cX8_makeCode 192 = .ok (.iinc 1 1, 3) := by decide +kernel
theorem dX8_makeCode_195 : decode cX8_makeCode 195 = .ok (.goto (-31), 3) := by decide +kernel
theorem dX8_makeCode_198 : decode cX8_makeCode 198 = .ok (.aload_n 0, 1) := by decide +kernel
theorem dX8_makeCode_199 : decode cX8_makeCode 199 = .ok (.invokevirtual 153, 3) := by decide +kernel
theorem dX8_makeCode_202 : decode cX8_makeCode 202 = .ok (.istore_n 1, 1) := by decide +kernel
theorem dX8_makeCode_203 : decode cX8_makeCode 203 = .ok (.iload_n 1, 1) := by decide +kernel
theorem dX8_makeCode_204 : decode cX8_makeCode 204 = .ok (.iconst (-1), 1) := by decide +kernel
theorem dX8_makeCode_205 : decode cX8_makeCode 205 = .ok (.if_icmp .eq 16, 3) := by decide +kernel
theorem dX8_makeCode_208 : decode cX8_makeCode 208 = .ok (.aload_n 0, 1) := by decide +kernel
theorem dX8_makeCode_209 : decode cX8_makeCode 209 = .ok (.iload_n 1, 1) := by decide +kernel
theorem dX8_makeCode_210 : decode cX8_makeCode 210 = .ok (.invokevirtual 157, 3) := by decide +kernel
theorem dX8_makeCode_213 : decode cX8_makeCode 213 = .ok (.aload_n 0, 1) := by decide +kernel
theorem dX8_makeCode_214 : decode cX8_makeCode 214 = .ok (.invokevirtual 153, 3) := by decide +kernel
theorem dX8_makeCode_217 : decode cX8_makeCode 217 = .ok (.istore_n 1, 1) := by decide +kernel
theorem dX8_makeCode_218 : decode cX8_makeCode 218 = .ok (.goto (-15), 3) := by decide +kernel
theorem dX8_makeCode_221 : decode cX8_makeCode 221 = .ok (.return_, 1) := by decide +kernel
theorem dX8_leads_0 : decode cX8_leads 0 = .ok (.aload_n 0, 1) := by decide +kernel
theorem dX8_leads_1 : decode cX8_leads 1 = .ok (.getfield 49, 3) := by decide +kernel
theorem dX8_leads_4 : decode cX8_leads 4 = .ok (.sipush 1600, 3) := by decide +kernel
theorem dX8_leads_7 : decode cX8_leads 7 = .ok (.iconst 4, 1) := by decide +kernel
theorem dX8_leads_8 : decode cX8_leads 8 = .ok (.iload_n 1, 1) := by decide +kernel
theorem dX8_leads_9 : decode cX8_leads 9 = .ok (.imul, 1) := by decide +kernel
theorem dX8_leads_10 : decode cX8_leads 10 = .ok (.iadd, 1) := by decide +kernel
theorem dX8_leads_11 : decode cX8_leads 11 = .ok (.iaload, 1) := by decide +kernel
theorem dX8_leads_12 : decode cX8_leads 12 = .ok (.istore_n 2, 1) := by decide +kernel
theorem dX8_leads_13 : decode cX8_leads 13 = .ok (.iload_n 2, 1) := by decide +kernel
theorem dX8_leads_14 : decode cX8_leads 14 = .ok (.bipush 7, 2) := by decide +kernel
theorem dX8_leads_16 : decode cX8_leads 16 = .ok (.if_icmp .ne 20, 3) := by decide +kernel
theorem dX8_leads_19 : decode cX8_leads 19 = .ok (.aload_n 0, 1) := by decide +kernel
theorem dX8_leads_20 : decode cX8_leads 20 = .ok (.getfield 49, 3) := by decide +kernel
theorem dX8_leads_23 : decode cX8_leads 23 = .ok (.sipush 1600, 3) := by decide +kernel
theorem dX8_leads_26 : decode cX8_leads 26 = .ok (.iconst 4, 1) := by decide +kernel
theorem dX8_leads_27 : decode cX8_leads 27 = .ok (.iload_n 1, 1) := by decide +kernel
theorem dX8_leads_28 : decode cX8_leads 28 = .ok (.imul, 1) := by decide +kernel
theorem dX8_leads_29 : decode cX8_leads 29 = .ok (.iadd, 1) := by decide +kernel
theorem dX8_leads_30 : decode cX8_leads 30 = .ok (.iconst 3, 1) := by decide +kernel
theorem dX8_leads_31 : decode cX8_leads 31 = .ok (.iadd, 1) := by decide +kernel
theorem dX8_leads_32 : decode cX8_leads 32 = .ok (.iaload, 1) := by decide +kernel
theorem dX8_leads_33 : decode cX8_leads 33 = .ok (.goto 27, 3) := by decide +kernel
theorem dX8_leads_36 : decode cX8_leads 36 = .ok (.iload_n 2, 1) := by decide +kernel
theorem dX8_leads_37 : decode cX8_leads 37 = .ok (.bipush 8, 2) := by decide +kernel
theorem dX8_leads_39 : decode cX8_leads 39 = .ok (.if_icmp .ne 20, 3) := by decide +kernel
theorem dX8_leads_42 : decode cX8_leads 42 = .ok (.aload_n 0, 1) := by decide +kernel
theorem dX8_leads_43 : decode cX8_leads 43 = .ok (.getfield 49, 3) := by decide +kernel
theorem dX8_leads_46 : decode cX8_leads 46 = .ok (.sipush 1600, 3) := by decide +kernel
theorem dX8_leads_49 : decode cX8_leads 49 = .ok (.iconst 4, 1) := by decide +kernel
theorem dX8_leads_50 : decode cX8_leads 50 = .ok (.iload_n 1, 1) := by decide +kernel
theorem dX8_leads_51 : decode cX8_leads 51 = .ok (.imul, 1) := by decide +kernel
theorem dX8_leads_52 : decode cX8_leads 52 = .ok (.iadd, 1) := by decide +kernel
theorem dX8_leads_53 : decode cX8_leads 53 = .ok (.iconst 1, 1) := by decide +kernel
theorem dX8_leads_54 : decode cX8_leads 54 = .ok (.iadd, 1) := by decide +kernel
theorem dX8_leads_55 : decode cX8_leads 55 = .ok (.iaload, 1) := by decide +kernel
theorem dX8_leads_56 : decode cX8_leads 56 = .ok (.goto 4, 3) := by decide +kernel
theorem dX8_leads_59 : decode cX8_leads 59 = .ok (.iconst (-1), 1) := by decide +kernel
theorem dX8_leads_60 : decode cX8_leads 60 = .ok (.ireturn, 1) := by decide +kernel
theorem dX8_isLedTo_0 : decode cX8_isLedTo 0 = .ok (.iconst 0, 1) := by decide +kernel
theorem dX8_isLedTo_1 : decode cX8_isLedTo 1 = .ok (.istore_n 2, 1) := by decide +kernel
theorem dX8_isLedTo_2 : decode cX8_isLedTo 2 = .ok (.iconst 0, 1) := by decide +kernel
theorem dX8_isLedTo_3 : decode cX8_isLedTo 3 = .ok (.istore_n 3, 1) := by decide +kernel
theorem dX8_isLedTo_4 : decode cX8_isLedTo 4 = .ok (.iload_n 3, 1) := by decide +kernel
theorem dX8_isLedTo_5 : decode cX8_isLedTo 5 = .ok (.aload_n 0, 1) := by decide +kernel
theorem dX8_isLedTo_6 : decode cX8_isLedTo 6 = .ok (.getfield 52, 3) := by decide +kernel
theorem dX8_isLedTo_9 : decode cX8_isLedTo 9 = .ok (.iconst 1, 1) := by decide +kernel
theorem dX8_isLedTo_10 : decode cX8_isLedTo 10 = .ok (.iaload, 1) := by decide +kernel
theorem dX8_isLedTo_11 : decode cX8_isLedTo 11 = .ok (.if_icmp .ge 28, 3) := by decide +kernel
theorem dX8_isLedTo_14 : decode cX8_isLedTo 14 = .ok (.iload_n 2, 1) := by decide +kernel
theorem dX8_isLedTo_15 : decode cX8_isLedTo 15 = .ok (.ifCond .ne 12, 3) := by decide +kernel
theorem dX8_isLedTo_18 : decode cX8_isLedTo 18 = .ok (.aload_n 0, 1) := by decide +kernel
theorem dX8_isLedTo_19 : decode cX8_isLedTo 19 = .ok (.iload_n 3, 1) := by decide +kernel
theorem dX8_isLedTo_20 : decode cX8_isLedTo 20 = .ok (.invokevirtual 160, 3) := by decide +kernel
theorem dX8_isLedTo_23 : decode cX8_isLedTo 23 = .ok (.iload_n 1, 1) := by decide +kernel
theorem dX8_isLedTo_24 : decode cX8_isLedTo 24 = .ok (.if_icmp .ne 7, 3) := by decide +kernel
theorem dX8_isLedTo_27 : decode cX8_isLedTo 27 = .ok (.iconst 1, 1) := by decide +kernel
theorem dX8_isLedTo_28 : decode cX8_isLedTo 28 = .ok (.goto 4, 3) := by decide +kernel
theorem dX8_isLedTo_31 : decode cX8_isLedTo 31 = .ok (.iconst 0, 1) := by decide +kernel
theorem dX8_isLedTo_32 : decode cX8_isLedTo 32 = .ok (.istore_n 2, 1) := by decide +kernel
theorem dX8_isLedTo_33 : decode cX8_isLedTo 33 = .ok (.iinc 3 1, 3) := by decide +kernel
theorem dX8_isLedTo_36 : decode cX8_isLedTo 36 = .ok (.goto (-32), 3) := by decide +kernel
theorem dX8_isLedTo_39 : decode cX8_isLedTo 39 = .ok (.iload_n 2, 1) := by decide +kernel
theorem dX8_isLedTo_40 : decode cX8_isLedTo 40 = .ok (.ireturn, 1) := by decide +kernel
theorem dX8_needless_0 : decode cX8_needless 0 = .ok (.iconst 0, 1) := by decide +kernel
theorem dX8_needless_1 : decode cX8_needless 1 = .ok (.istore_n 1, 1) := by decide +kernel
theorem dX8_needless_2 : decode cX8_needless 2 = .ok (.iload_n 1, 1) := by decide +kernel
theorem dX8_needless_3 : decode cX8_needless 3 = .ok (.aload_n 0, 1) := by decide +kernel
theorem dX8_needless_4 : decode cX8_needless 4 = .ok (.getfield 52, 3) := by decide +kernel
theorem dX8_needless_7 : decode cX8_needless 7 = .ok (.iconst 1, 1) := by decide +kernel
theorem dX8_needless_8 : decode cX8_needless 8 = .ok (.iaload, 1) := by decide +kernel
theorem dX8_needless_9 : decode cX8_needless 9 = .ok (.if_icmp .ge 165, 3) := by decide +kernel
theorem dX8_needless_12 : decode cX8_needless 12 = .ok (.sipush 1600, 3) := by decide +kernel
theorem dX8_needless_15 : decode cX8_needless 15 = .ok (.iconst 4, 1) := by decide +kernel
theorem dX8_needless_16 : decode cX8_needless 16 = .ok (.iload_n 1, 1) := by decide +kernel
theorem dX8_needless_17 : decode cX8_needless 17 = .ok (.imul, 1) := by decide +kernel
theorem dX8_needless_18 : decode cX8_needless 18 = .ok (.iadd, 1) := by decide +kernel
theorem dX8_needless_19 : decode cX8_needless 19 = .ok (.istore_n 2, 1) := by decide +kernel
theorem dX8_needless_20 : decode cX8_needless 20 = .ok (.aload_n 0, 1) := by decide +kernel
theorem dX8_needless_21 : decode cX8_needless 21 = .ok (.getfield 49, 3) := by decide +kernel
theorem dX8_needless_24 : decode cX8_needless 24 = .ok (.iload_n 2, 1) := by decide +kernel
theorem dX8_needless_25 : decode cX8_needless 25 = .ok (.iaload, 1) := by decide +kernel
theorem dX8_needless_26 : decode cX8_needless 26 = .ok (.bipush 8, 2) := by decide +kernel
theorem dX8_needless_28 : decode cX8_needless 28 = .ok (.if_icmp .ne 18, 3) := by decide +kernel
theorem dX8_needless_31 : decode cX8_needless 31 = .ok (.aload_n 0, 1) := by decide +kernel
theorem dX8_needless_32 : decode cX8_needless 32 = .ok (.iload_n 1, 1) := by decide +kernel
theorem dX8_needless_33 : decode cX8_needless 33 = .ok (.invokevirtual 160, 3) := by decide +kernel
theorem dX8_needless_36 : decode cX8_needless 36 = .ok (.iload_n 1, 1) := by decide +kernel
theorem dX8_needless_37 : decode cX8_needless 37 = .ok (.iconst 1, 1) := by decide +kernel
theorem dX8_needless_38 : decode cX8_needless 38 = .ok (.iadd, 1) := by decide +kernel
theorem dX8_needless_39 : decode cX8_needless 39 = .ok (.if_icmp .ne 7, 3) := by decide +kernel
theorem dX8_needless_42 : decode cX8_needless 42 = .ok (.iconst 1, 1) := by decide +kernel
theorem dX8_needless_43 : decode cX8_needless 43 = .ok (.goto 4, 3) := by decide +kernel
theorem dX8_needless_46 : decode cX8_needless 46 = .ok (.iconst 0, 1) := by decide +kernel
theorem dX8_needless_47 : decode cX8_needless 47 = .ok (.istore_n 3, 1) := by decide +kernel
theorem dX8_needless_48 : decode cX8_needless 48 = .ok (.iload_n 1, 1) := by decide +kernel
theorem dX8_needless_49 : decode cX8_needless 49 = .ok (.ifCond .le 113, 3) := by decide +kernel
theorem dX8_needless_52 : decode cX8_needless 52 = .ok (.iload_n 3, 1) := by decide +kernel
theorem dX8_needless_53 : decode cX8_needless 53 = .ok (.ifCond .ne 109, 3) := by decide +kernel
theorem dX8_needless_56 : decode cX8_needless 56 = .ok (.aload_n 0, 1) := by decide +kernel
theorem dX8_needless_57 : decode cX8_needless 57 = .ok (.getfield 49, 3) := by decide +kernel
theorem dX8_needless_60 : decode cX8_needless 60 = .ok (.iload_n 2, 1) := by decide +kernel
theorem dX8_needless_61 : decode cX8_needless 61 = .ok (.iconst 4, 1) := by decide +kernel
theorem dX8_needless_62 : decode cX8_needless 62 = .ok (.isub, 1) := by decide +kernel
theorem dX8_needless_63 : decode cX8_needless 63 = .ok (.iaload, 1) := by decide +kernel
theorem dX8_needless_64 : decode cX8_needless 64 = .ok (.istore 4, 2) := by decide +kernel
theorem dX8_needless_66 : decode cX8_needless 66 = .ok (.aload_n 0, 1) := by decide +kernel
theorem dX8_needless_67 : decode cX8_needless 67 = .ok (.getfield 49, 3) := by decide +kernel
theorem dX8_needless_70 : decode cX8_needless 70 = .ok (.iload_n 2, 1) := by decide +kernel
theorem dX8_needless_71 : decode cX8_needless 71 = .ok (.iaload, 1) := by decide +kernel
theorem dX8_needless_72 : decode cX8_needless 72 = .ok (.bipush 11, 2) := by decide +kernel
theorem dX8_needless_74 : decode cX8_needless 74 = .ok (.if_icmp .ne 52, 3) := by decide +kernel
theorem dX8_needless_77 : decode cX8_needless 77 = .ok (.iload 4, 2) := by decide +kernel
theorem dX8_needless_79 : decode cX8_needless 79 = .ok (.bipush 12, 2) := by decide +kernel
theorem dX8_needless_81 : decode cX8_needless 81 = .ok (.if_icmp .ne 45, 3) := by decide +kernel
theorem dX8_needless_84 : decode cX8_needless 84 = .ok (.aload_n 0, 1) := by decide +kernel
theorem dX8_needless_85 : decode cX8_needless 85 = .ok (.getfield 49, 3) := by decide +kernel
theorem dX8_needless_88 : decode cX8_needless 88 = .ok (.iload_n 2, 1) := by decide +kernel
theorem dX8_needless_89 : decode cX8_needless 89 = .ok (.iconst 1, 1) := by decide +kernel
theorem dX8_needless_90 : decode cX8_needless 90 = .ok (.iadd, 1) := by decide +kernel
theorem dX8_needless_91 : decode cX8_needless 91 = .ok (.iaload, 1) := by decide +kernel
theorem dX8_needless_92 : decode cX8_needless 92 = .ok (.aload_n 0, 1) := by decide +kernel
theorem dX8_needless_93 : decode cX8_needless 93 = .ok (.getfield 49, 3) := by decide +kernel
theorem dX8_needless_96 : decode cX8_needless 96 = .ok (.iload_n 2, 1) := by decide +kernel
theorem dX8_needless_97 : decode cX8_needless 97 = .ok (.iconst 3, 1) := by decide +kernel
theorem dX8_needless_98 : decode cX8_needless 98 = .ok (.isub, 1) := by decide +kernel
theorem dX8_needless_99 : decode cX8_needless 99 = .ok (.iaload, 1) := by decide +kernel
theorem dX8_needless_100 : decode cX8_needless 100 = .ok (.if_icmp .ne 26, 3) := by decide +kernel
theorem dX8_needless_103 : decode cX8_needless 103 = .ok (.aload_n 0, 1) := by decide +kernel
theorem dX8_needless_104 : decode cX8_needless 104 = .ok (.getfield 49, 3) := by decide +kernel
theorem dX8_needless_107 : decode cX8_needless 107 = .ok (.iload_n 2, 1) := by decide +kernel
theorem dX8_needless_108 : decode cX8_needless 108 = .ok (.iconst 2, 1) := by decide +kernel
theorem dX8_needless_109 : decode cX8_needless 109 = .ok (.iadd, 1) := by decide +kernel
theorem dX8_needless_110 : decode cX8_needless 110 = .ok (.iaload, 1) := by decide +kernel
theorem dX8_needless_111 : decode cX8_needless 111 = .ok (.aload_n 0, 1) := by decide +kernel
theorem dX8_needless_112 : decode cX8_needless 112 = .ok (.getfield 49, 3) := by decide +kernel
theorem dX8_needless_115 : decode cX8_needless 115 = .ok (.iload_n 2, 1) := by decide +kernel
theorem dX8_needless_116 : decode cX8_needless 116 = .ok (.iconst 2, 1) := by decide +kernel
theorem dX8_needless_117 : decode cX8_needless 117 = .ok (.isub, 1) := by decide +kernel
theorem dX8_needless_118 : decode cX8_needless 118 = .ok (.iaload, 1) := by decide +kernel
theorem dX8_needless_119 : decode cX8_needless 119 = .ok (.if_icmp .ne 7, 3) := by decide +kernel
theorem dX8_needless_122 : decode cX8_needless 122 = .ok (.iconst 1, 1) := by decide +kernel
theorem dX8_needless_123 : decode cX8_needless 123 = .ok (.goto 4, 3) := by decide +kernel
theorem dX8_needless_126 : decode cX8_needless 126 = .ok (.iconst 0, 1) := by decide +kernel
theorem dX8_needless_127 : decode cX8_needless 127 = .ok (.istore 5, 2) := by decide +kernel
theorem dX8_needless_129 : decode cX8_needless 129 = .ok (.iload 5, 2) := by decide +kernel
theorem dX8_needless_131 : decode cX8_needless 131 = .ok (.ifCond .ne 17, 3) := by decide +kernel
theorem dX8_needless_134 : decode cX8_needless 134 = .ok (.iload 4, 2) := by decide +kernel
theorem dX8_needless_136 : decode cX8_needless 136 = .ok (.bipush 8, 2) := by decide +kernel
theorem dX8_needless_138 : decode cX8_needless 138 = .ok (.if_icmp .eq 10, 3) := by decide +kernel
theorem dX8_needless_141 : decode cX8_needless 141 = .ok (.iload 4, 2) := by decide +kernel
theorem dX8_needless_143 : decode cX8_needless 143 = .ok (.bipush 10, 2) := by decide +kernel
theorem dX8_needless_145 : decode cX8_needless 145 = .ok (.if_icmp .ne 15, 3) := by decide +kernel
theorem dX8_needless_148 : decode cX8_needless 148 = .ok (.aload_n 0, 1) := by decide +kernel
theorem dX8_needless_149 : decode cX8_needless 149 = .ok (.iload_n 1, 1) := by decide +kernel
theorem dX8_needless_150 : decode cX8_needless 150 = .ok (.invokevirtual 163, 3) := by decide +kernel
theorem dX8_needless_153 : decode cX8_needless 153 = .ok (.ifCond .ne 7, 3) := by decide +kernel
theorem dX8_needless_156 : decode cX8_needless 156 = .ok (.iconst 1, 1) := by decide +kernel
theorem dX8_needless_157 : decode cX8_needless 157 = .ok (.goto 4, 3) := by decide +kernel
theorem dX8_needless_160 : decode cX8_needless 160 = .ok (.iconst 0, 1) := by decide +kernel
theorem dX8_needless_161 : decode cX8_needless 161 = .ok (.istore_n 3, 1) := by decide +kernel
theorem dX8_needless_162 : decode cX8_needless 162 = .ok (.iload_n 3, 1) := by decide +kernel
theorem dX8_needless_163 : decode cX8_needless 163 = .ok (.ifCond .eq 5, 3) := by decide +kernel
theorem dX8_needless_166 : decode cX8_needless 166 = .ok (.iload_n 1, 1) := by decide +kernel
theorem dX8_needless_167 : decode cX8_needless 167 = .ok (.ireturn, 1) := by decide +kernel
theorem dX8_needless_168 : decode cX8_needless 168 = .ok (.iinc 1 1, 3) := by decide +kernel
theorem dX8_needless_171 : decode cX8_needless 171 = .ok (.goto (-169), 3) := by decide +kernel
theorem dX8_needless_174 : decode cX8_needless 174 = .ok (.iconst (-1), 1) := by decide +kernel
theorem dX8_needless_175 : decode cX8_needless 175 = .ok (.ireturn, 1) := by decide +kernel
theorem dX8_take_0 : decode cX8_take 0 = .ok (.aload_n 0, 1) := by decide +kernel
theorem dX8_take_1 : decode cX8_take 1 = .ok (.getfield 52, 3) := by decide +kernel
theorem dX8_take_4 : decode cX8_take 4 = .ok (.iconst 1, 1) := by decide +kernel
theorem dX8_take_5 : decode cX8_take 5 = .ok (.dup2, 1) := by decide +kernel
theorem dX8_take_6 : decode cX8_take 6 = .ok (.iaload, 1) := by decide +kernel
theorem dX8_take_7 : decode cX8_take 7 = .ok (.iconst 1, 1) := by decide +kernel
theorem dX8_take_8 : decode cX8_take 8 = .ok (.isub, 1) := by decide +kernel
theorem dX8_take_9 : decode cX8_take 9 = .ok (.iastore, 1) := by decide +kernel
theorem dX8_take_10 : decode cX8_take 10 = .ok (.sipush 1600, 3) := by decide +kernel
theorem dX8_take_13 : decode cX8_take 13 = .ok (.iconst 4, 1) := by decide +kernel
theorem dX8_take_14 : decode cX8_take 14 = .ok (.iload_n 1, 1) := by decide +kernel
theorem dX8_take_15 : decode cX8_take 15 = .ok (.imul, 1) := by decide +kernel
theorem dX8_take_16 : decode cX8_take 16 = .ok (.iadd, 1) := by decide +kernel
theorem dX8_take_17 : decode cX8_take 17 = .ok (.istore_n 2, 1) := by decide +kernel
theorem dX8_take_18 : decode cX8_take 18 = .ok (.iload_n 2, 1) := by decide +kernel
theorem dX8_take_19 : decode cX8_take 19 = .ok (.sipush 1600, 3) := by decide +kernel
theorem dX8_take_22 : decode cX8_take 22 = .ok (.iconst 4, 1) := by decide +kernel
theorem dX8_take_23 : decode cX8_take 23 = .ok (.aload_n 0, 1) := by decide +kernel
theorem dX8_take_24 : decode cX8_take 24 = .ok (.getfield 52, 3) := by decide +kernel
theorem dX8_take_27 : decode cX8_take 27 = .ok (.iconst 1, 1) := by decide +kernel
theorem dX8_take_28 : decode cX8_take 28 = .ok (.iaload, 1) := by decide +kernel
theorem dX8_take_29 : decode cX8_take 29 = .ok (.imul, 1) := by decide +kernel
theorem dX8_take_30 : decode cX8_take 30 = .ok (.iadd, 1) := by decide +kernel
theorem dX8_take_31 : decode cX8_take 31 = .ok (.if_icmp .ge 23, 3) := by decide +kernel
theorem dX8_take_34 : decode cX8_take 34 = .ok (.aload_n 0, 1) := by decide +kernel
theorem dX8_take_35 : decode cX8_take 35 = .ok (.getfield 49, 3) := by decide +kernel
theorem dX8_take_38 : decode cX8_take 38 = .ok (.iload_n 2, 1) := by decide +kernel
theorem dX8_take_39 : decode cX8_take 39 = .ok (.aload_n 0, 1) := by decide +kernel
theorem dX8_take_40 : decode cX8_take 40 = .ok (.getfield 49, 3) := by decide +kernel
theorem dX8_take_43 : decode cX8_take 43 = .ok (.iload_n 2, 1) := by decide +kernel
theorem dX8_take_44 : decode cX8_take 44 = .ok (.iconst 4, 1) := by decide +kernel
theorem dX8_take_45 : decode cX8_take 45 = .ok (.iadd, 1) := by decide +kernel
theorem dX8_take_46 : decode cX8_take 46 = .ok (.iaload, 1) := by decide +kernel
theorem dX8_take_47 : decode cX8_take 47 = .ok (.iastore, 1) := by decide +kernel
theorem dX8_take_48 : decode cX8_take 48 = .ok (.iinc 2 1, 3) := by decide +kernel
theorem dX8_take_51 : decode cX8_take 51 = .ok (.goto (-33), 3) := by decide +kernel
theorem dX8_take_54 : decode cX8_take 54 = .ok (.iconst 0, 1) := by decide +kernel
theorem dX8_take_55 : decode cX8_take 55 = .ok (.istore_n 2, 1) := by decide +kernel
theorem dX8_take_56 : decode cX8_take 56 = .ok (.iload_n 2, 1) := by decide +kernel
theorem dX8_take_57 : decode cX8_take 57 = .ok (.aload_n 0, 1) := by decide +kernel
theorem dX8_take_58 : decode cX8_take 58 = .ok (.getfield 52, 3) := by decide +kernel
theorem dX8_take_61 : decode cX8_take 61 = .ok (.iconst 1, 1) := by decide +kernel
theorem dX8_take_62 : decode cX8_take 62 = .ok (.iaload, 1) := by decide +kernel
theorem dX8_take_63 : decode cX8_take 63 = .ok (.if_icmp .ge 53, 3) := by decide +kernel
theorem dX8_take_66 : decode cX8_take 66 = .ok (.sipush 1600, 3) := by decide +kernel
theorem dX8_take_69 : decode cX8_take 69 = .ok (.iconst 4, 1) := by decide +kernel
theorem dX8_take_70 : decode cX8_take 70 = .ok (.iload_n 2, 1) := by decide +kernel
theorem dX8_take_71 : decode cX8_take 71 = .ok (.imul, 1) := by decide +kernel
theorem dX8_take_72 : decode cX8_take 72 = .ok (.iadd, 1) := by decide +kernel
theorem dX8_take_73 : decode cX8_take 73 = .ok (.istore_n 3, 1) := by decide +kernel
theorem dX8_take_74 : decode cX8_take 74 = .ok (.aload_n 0, 1) := by decide +kernel
theorem dX8_take_75 : decode cX8_take 75 = .ok (.iload_n 2, 1) := by decide +kernel
theorem dX8_take_76 : decode cX8_take 76 = .ok (.invokevirtual 160, 3) := by decide +kernel
theorem dX8_take_79 : decode cX8_take 79 = .ok (.iload_n 1, 1) := by decide +kernel
theorem dX8_take_80 : decode cX8_take 80 = .ok (.if_icmp .le 30, 3) := by decide +kernel
theorem dX8_take_83 : decode cX8_take 83 = .ok (.aload_n 0, 1) := by decide +kernel
theorem dX8_take_84 : decode cX8_take 84 = .ok (.getfield 49, 3) := by decide +kernel
theorem dX8_take_87 : decode cX8_take 87 = .ok (.iload_n 3, 1) := by decide +kernel
theorem dX8_take_88 : decode cX8_take 88 = .ok (.aload_n 0, 1) := by decide +kernel
theorem dX8_take_89 : decode cX8_take 89 = .ok (.getfield 49, 3) := by decide +kernel
theorem dX8_take_92 : decode cX8_take 92 = .ok (.iload_n 3, 1) := by decide +kernel
theorem dX8_take_93 : decode cX8_take 93 = .ok (.iaload, 1) := by decide +kernel
theorem dX8_take_94 : decode cX8_take 94 = .ok (.bipush 7, 2) := by decide +kernel
theorem dX8_take_96 : decode cX8_take 96 = .ok (.if_icmp .ne 7, 3) := by decide +kernel
theorem dX8_take_99 : decode cX8_take 99 = .ok (.iconst 3, 1) := by decide +kernel
theorem dX8_take_100 : decode cX8_take 100 = .ok (.goto 4, 3) := by decide +kernel
theorem dX8_take_103 : decode cX8_take 103 = .ok (.iconst 1, 1) := by decide +kernel
theorem dX8_take_104 : decode cX8_take 104 = .ok (.iadd, 1) := by decide +kernel
theorem dX8_take_105 : decode cX8_take 105 = .ok (.dup2, 1) := by decide +kernel
theorem dX8_take_106 : decode cX8_take 106 = .ok (.iaload, 1) := by decide +kernel
theorem dX8_take_107 : decode cX8_take 107 = .ok (.iconst 1, 1) := by decide +kernel
theorem dX8_take_108 : decode cX8_take 108 = .ok (.isub, 1) := by decide +kernel
theorem dX8_take_109 : decode cX8_take 109 = .ok (.iastore, 1) := by decide +kernel
theorem dX8_take_110 : decode cX8_take 110 = .ok (.iinc 2 1, 3) := by decide +kernel
theorem dX8_take_113 : decode cX8_take 113 = .ok (.goto (-57), 3) := by decide +kernel
theorem dX8_take_116 : decode cX8_take 116 = .ok (.return_, 1) := by decide +kernel
theorem dX8_live_0 : decode cX8_live 0 = .ok (.iload_n 1, 1) := by decide +kernel
theorem dX8_live_1 : decode cX8_live 1 = .ok (.ifCond .lt 11, 3) := by decide +kernel
theorem dX8_live_4 : decode cX8_live 4 = .ok (.iload_n 1, 1) := by decide +kernel
theorem dX8_live_5 : decode cX8_live 5 = .ok (.aload_n 0, 1) := by decide +kernel
theorem dX8_live_6 : decode cX8_live 6 = .ok (.getfield 95, 3) := by decide +kernel
theorem dX8_live_9 : decode cX8_live 9 = .ok (.if_icmp .lt 5, 3) := by decide +kernel
theorem dX8_live_12 : decode cX8_live 12 = .ok (.iconst (-1), 1) := by decide +kernel
theorem dX8_live_13 : decode cX8_live 13 = .ok (.ireturn, 1) := by decide +kernel
theorem dX8_live_14 : decode cX8_live 14 = .ok (.aload_n 0, 1) := by decide +kernel
theorem dX8_live_15 : decode cX8_live 15 = .ok (.invokevirtual 118, 3) := by decide +kernel
theorem dX8_live_18 : decode cX8_live 18 = .ok (.aload_n 0, 1) := by decide +kernel
theorem dX8_live_19 : decode cX8_live 19 = .ok (.getfield 31, 3) := by decide +kernel
theorem dX8_live_22 : decode cX8_live 22 = .ok (.iload_n 1, 1) := by decide +kernel
theorem dX8_live_23 : decode cX8_live 23 = .ok (.iaload, 1) := by decide +kernel
theorem dX8_live_24 : decode cX8_live 24 = .ok (.ireturn, 1) := by decide +kernel
theorem dX8_inWay_0 : decode cX8_inWay 0 = .ok (.aload_n 0, 1) := by decide +kernel
theorem dX8_inWay_1 : decode cX8_inWay 1 = .ok (.iload_n 1, 1) := by decide +kernel
theorem dX8_inWay_2 : decode cX8_inWay 2 = .ok (.invokevirtual 83, 3) := by decide +kernel
theorem dX8_inWay_5 : decode cX8_inWay 5 = .ok (.ifCond .ne 5, 3) := by decide +kernel
theorem dX8_inWay_8 : decode cX8_inWay 8 = .ok (.iconst (-1), 1) := by decide +kernel
theorem dX8_inWay_9 : decode cX8_inWay 9 = .ok (.ireturn, 1) := by decide +kernel
theorem dX8_inWay_10 : decode cX8_inWay 10 = .ok (.aload_n 0, 1) := by decide +kernel
theorem dX8_inWay_11 : decode cX8_inWay 11 = .ok (.invokevirtual 118, 3) := by decide +kernel
theorem dX8_inWay_14 : decode cX8_inWay 14 = .ok (.aload_n 0, 1) := by decide +kernel
theorem dX8_inWay_15 : decode cX8_inWay 15 = .ok (.invokevirtual 121, 3) := by decide +kernel
theorem dX8_inWay_18 : decode cX8_inWay 18 = .ok (.aload_n 0, 1) := by decide +kernel
theorem dX8_inWay_19 : decode cX8_inWay 19 = .ok (.getfield 37, 3) := by decide +kernel
theorem dX8_inWay_22 : decode cX8_inWay 22 = .ok (.iload_n 1, 1) := by decide +kernel
theorem dX8_inWay_23 : decode cX8_inWay 23 = .ok (.iaload, 1) := by decide +kernel
theorem dX8_inWay_24 : decode cX8_inWay 24 = .ok (.ireturn, 1) := by decide +kernel
theorem dX8_weight_0 : decode cX8_weight 0 = .ok (.aload_n 0, 1) := by decide +kernel
theorem dX8_weight_1 : decode cX8_weight 1 = .ok (.iload_n 1, 1) := by decide +kernel
theorem dX8_weight_2 : decode cX8_weight 2 = .ok (.invokevirtual 83, 3) := by decide +kernel
theorem dX8_weight_5 : decode cX8_weight 5 = .ok (.ifCond .ne 5, 3) := by decide +kernel
theorem dX8_weight_8 : decode cX8_weight 8 = .ok (.iconst (-1), 1) := by decide +kernel
theorem dX8_weight_9 : decode cX8_weight 9 = .ok (.ireturn, 1) := by decide +kernel
theorem dX8_weight_10 : decode cX8_weight 10 = .ok (.aload_n 0, 1) := by decide +kernel
theorem dX8_weight_11 : decode cX8_weight 11 = .ok (.invokevirtual 118, 3) := by decide +kernel
theorem dX8_weight_14 : decode cX8_weight 14 = .ok (.aload_n 0, 1) := by decide +kernel
theorem dX8_weight_15 : decode cX8_weight 15 = .ok (.invokevirtual 121, 3) := by decide +kernel
theorem dX8_weight_18 : decode cX8_weight 18 = .ok (.aload_n 0, 1) := by decide +kernel
theorem dX8_weight_19 : decode cX8_weight 19 = .ok (.getfield 40, 3) := by decide +kernel
theorem dX8_weight_22 : decode cX8_weight 22 = .ok (.iload_n 1, 1) := by decide +kernel
theorem dX8_weight_23 : decode cX8_weight 23 = .ok (.iaload, 1) := by decide +kernel
theorem dX8_weight_24 : decode cX8_weight 24 = .ok (.ireturn, 1) := by decide +kernel
theorem dX8_home_0 : decode cX8_home 0 = .ok (.aload_n 0, 1) := by decide +kernel
theorem dX8_home_1 : decode cX8_home 1 = .ok (.iload_n 1, 1) := by decide +kernel
theorem dX8_home_2 : decode cX8_home 2 = .ok (.invokevirtual 83, 3) := by decide +kernel
theorem dX8_home_5 : decode cX8_home 5 = .ok (.ifCond .ne 5, 3) := by decide +kernel
theorem dX8_home_8 : decode cX8_home 8 = .ok (.iconst (-1), 1) := by decide +kernel
theorem dX8_home_9 : decode cX8_home 9 = .ok (.ireturn, 1) := by decide +kernel
theorem dX8_home_10 : decode cX8_home 10 = .ok (.aload_n 0, 1) := by decide +kernel
theorem dX8_home_11 : decode cX8_home 11 = .ok (.invokevirtual 147, 3) := by decide +kernel
theorem dX8_home_14 : decode cX8_home 14 = .ok (.aload_n 0, 1) := by decide +kernel
theorem dX8_home_15 : decode cX8_home 15 = .ok (.getfield 46, 3) := by decide +kernel
theorem dX8_home_18 : decode cX8_home 18 = .ok (.iload_n 1, 1) := by decide +kernel
theorem dX8_home_19 : decode cX8_home 19 = .ok (.iaload, 1) := by decide +kernel
theorem dX8_home_20 : decode cX8_home 20 = .ok (.ireturn, 1) := by decide +kernel
theorem dX8_order_0 : decode cX8_order 0 = .ok (.iload_n 1, 1) := by decide +kernel
theorem dX8_order_1 : decode cX8_order 1 = .ok (.ifCond .lt 11, 3) := by decide +kernel
theorem dX8_order_4 : decode cX8_order 4 = .ok (.iload_n 1, 1) := by decide +kernel
theorem dX8_order_5 : decode cX8_order 5 = .ok (.aload_n 0, 1) := by decide +kernel
theorem dX8_order_6 : decode cX8_order 6 = .ok (.getfield 79, 3) := by decide +kernel
theorem dX8_order_9 : decode cX8_order 9 = .ok (.if_icmp .lt 5, 3) := by decide +kernel
theorem dX8_order_12 : decode cX8_order 12 = .ok (.iconst (-1), 1) := by decide +kernel
theorem dX8_order_13 : decode cX8_order 13 = .ok (.ireturn, 1) := by decide +kernel
theorem dX8_order_14 : decode cX8_order 14 = .ok (.aload_n 0, 1) := by decide +kernel
theorem dX8_order_15 : decode cX8_order 15 = .ok (.invokevirtual 147, 3) := by decide +kernel
theorem dX8_order_18 : decode cX8_order 18 = .ok (.aload_n 0, 1) := by decide +kernel
theorem dX8_order_19 : decode cX8_order 19 = .ok (.getfield 43, 3) := by decide +kernel
theorem dX8_order_22 : decode cX8_order 22 = .ok (.iload_n 1, 1) := by decide +kernel
theorem dX8_order_23 : decode cX8_order 23 = .ok (.iaload, 1) := by decide +kernel
theorem dX8_order_24 : decode cX8_order 24 = .ok (.ireturn, 1) := by decide +kernel
theorem dX8_slotsOf_0 : decode cX8_slotsOf 0 = .ok (.aload_n 0, 1) := by decide +kernel
theorem dX8_slotsOf_1 : decode cX8_slotsOf 1 = .ok (.invokevirtual 147, 3) := by decide +kernel
theorem dX8_slotsOf_4 : decode cX8_slotsOf 4 = .ok (.iconst 0, 1) := by decide +kernel
theorem dX8_slotsOf_5 : decode cX8_slotsOf 5 = .ok (.istore_n 2, 1) := by decide +kernel
theorem dX8_slotsOf_6 : decode cX8_slotsOf 6 = .ok (.bipush 100, 2) := by decide +kernel
theorem dX8_slotsOf_8 : decode cX8_slotsOf 8 = .ok (.istore_n 3, 1) := by decide +kernel
theorem dX8_slotsOf_9 : decode cX8_slotsOf 9 = .ok (.iload_n 3, 1) := by decide +kernel
theorem dX8_slotsOf_10 : decode cX8_slotsOf 10 = .ok (.bipush 124, 2) := by decide +kernel
theorem dX8_slotsOf_12 : decode cX8_slotsOf 12 = .ok (.if_icmp .ge 77, 3) := by decide +kernel
theorem dX8_slotsOf_15 : decode cX8_slotsOf 15 = .ok (.iconst 0, 1) := by decide +kernel
theorem dX8_slotsOf_16 : decode cX8_slotsOf 16 = .ok (.istore 4, 2) := by decide +kernel
theorem dX8_slotsOf_18 : decode cX8_slotsOf 18 = .ok (.iconst 0, 1) := by decide +kernel
theorem dX8_slotsOf_19 : decode cX8_slotsOf 19 = .ok (.istore 5, 2) := by decide +kernel
theorem dX8_slotsOf_21 : decode cX8_slotsOf 21 = .ok (.iload 5, 2) := by decide +kernel
theorem dX8_slotsOf_23 : decode cX8_slotsOf 23 = .ok (.aload_n 0, 1) := by decide +kernel
theorem dX8_slotsOf_24 : decode cX8_slotsOf 24 = .ok (.getfield 79, 3) := by decide +kernel
theorem dX8_slotsOf_27 : decode cX8_slotsOf 27 = .ok (.if_icmp .ge 43, 3) := by decide +kernel
theorem dX8_slotsOf_30 : decode cX8_slotsOf 30 = .ok (.iload 4, 2) := by decide +kernel
theorem dX8_slotsOf_32 : decode cX8_slotsOf 32 = .ok (.ifCond .ne 25, 3) := by decide +kernel
theorem dX8_slotsOf_35 : decode cX8_slotsOf 35 = .ok (.aload_n 0, 1) := by decide +kernel
theorem dX8_slotsOf_36 : decode cX8_slotsOf 36 = .ok (.getfield 7, 3) := by decide +kernel
theorem dX8_slotsOf_39 : decode cX8_slotsOf 39 = .ok (.iload 5, 2) := by decide +kernel
theorem dX8_slotsOf_41 : decode cX8_slotsOf 41 = .ok (.iaload, 1) := by decide +kernel
theorem dX8_slotsOf_42 : decode cX8_slotsOf 42 = .ok (.iload_n 1, 1) := by decide +kernel
theorem dX8_slotsOf_43 : decode cX8_slotsOf 43 = .ok (.if_icmp .ne 18, 3) := by decide +kernel
theorem dX8_slotsOf_46 : decode cX8_slotsOf 46 = .ok (.aload_n 0, 1) := by decide +kernel
theorem dX8_slotsOf_47 : decode cX8_slotsOf 47 = .ok (.getfield 46, 3) := by decide +kernel
theorem dX8_slotsOf_50 : decode cX8_slotsOf 50 = .ok (.iload 5, 2) := by decide +kernel
