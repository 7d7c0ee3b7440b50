theorem dX11_init_0 : decode cX11_init 0 = .ok (.aload_n 0, 1) := by decide +kernel
theorem dX11_init_1 : decode cX11_init 1 = .ok (.invokespecial 1, 3) := by decide +kernel
theorem dX11_init_4 : decode cX11_init 4 = .ok (.aload_n 0, 1) := by decide +kernel
theorem dX11_init_5 : decode cX11_init 5 = .ok (.sipush 1620, 3) := by decide +kernel
theorem dX11_init_8 : decode cX11_init 8 = .ok (.newarray .byte, 2) := by decide +kernel
theorem dX11_init_10 : decode cX11_init 10 = .ok (.putfield 7, 3) := by decide +kernel
theorem dX11_init_13 : decode cX11_init 13 = .ok (.aload_n 0, 1) := by decide +kernel
theorem dX11_init_14 : decode cX11_init 14 = .ok (.sipush 1600, 3) := by decide +kernel
theorem dX11_init_17 : decode cX11_init 17 = .ok (.newarray .byte, 2) := by decide +kernel
theorem dX11_init_19 : decode cX11_init 19 = .ok (.putfield 13, 3) := by decide +kernel
theorem dX11_init_22 : decode cX11_init 22 = .ok (.aload_n 0, 1) := by decide +kernel
theorem dX11_init_23 : decode cX11_init 23 = .ok (.iconst (-1), 1) := by decide +kernel
theorem dX11_init_24 : decode cX11_init 24 = .ok (.putfield 16, 3) := by decide +kernel
theorem dX11_init_27 : decode cX11_init 27 = .ok (.aload_n 0, 1) := by decide +kernel
theorem dX11_init_28 : decode cX11_init 28 = .ok (.iconst 2, 1) := by decide +kernel
theorem dX11_init_29 : decode cX11_init 29 = .ok (.newarray .int, 2) := by decide +kernel
theorem dX11_init_31 : decode cX11_init 31 = .ok (.putfield 20, 3) := by decide +kernel
theorem dX11_init_34 : decode cX11_init 34 = .ok (.aload_n 0, 1) := by decide +kernel
theorem dX11_init_35 : decode cX11_init 35 = .ok (.iconst 2, 1) := by decide +kernel
theorem dX11_init_36 : decode cX11_init 36 = .ok (.newarray .int, 2) := by decide +kernel
theorem dX11_init_38 : decode cX11_init 38 = .ok (.putfield 24, 3) := by decide +kernel
theorem dX11_init_41 : decode cX11_init 41 = .ok (.aload_n 0, 1) := by decide +kernel
theorem dX11_init_42 : decode cX11_init 42 = .ok (.iconst 2, 1) := by decide +kernel
theorem dX11_init_43 : decode cX11_init 43 = .ok (.newarray .int, 2) := by decide +kernel
theorem dX11_init_45 : decode cX11_init 45 = .ok (.putfield 27, 3) := by decide +kernel
theorem dX11_init_48 : decode cX11_init 48 = .ok (.aload_n 0, 1) := by decide +kernel
theorem dX11_init_49 : decode cX11_init 49 = .ok (.iconst 2, 1) := by decide +kernel
theorem dX11_init_50 : decode cX11_init 50 = .ok (.newarray .int, 2) := by decide +kernel
theorem dX11_init_52 : decode cX11_init 52 = .ok (.putfield 30, 3) := by decide +kernel
theorem dX11_init_55 : decode cX11_init 55 = .ok (.aload_n 0, 1) := by decide +kernel
theorem dX11_init_56 : decode cX11_init 56 = .ok (.iconst 2, 1) := by decide +kernel
theorem dX11_init_57 : decode cX11_init 57 = .ok (.newarray .int, 2) := by decide +kernel
theorem dX11_init_59 : decode cX11_init 59 = .ok (.putfield 33, 3) := by decide +kernel
theorem dX11_init_62 : decode cX11_init 62 = .ok (.aload_n 0, 1) := by decide +kernel
theorem dX11_init_63 : decode cX11_init 63 = .ok (.iconst 2, 1) := by decide +kernel
theorem dX11_init_64 : decode cX11_init 64 = .ok (.newarray .int, 2) := by decide +kernel
theorem dX11_init_66 : decode cX11_init 66 = .ok (.putfield 36, 3) := by decide +kernel
theorem dX11_init_69 : decode cX11_init 69 = .ok (.aload_n 0, 1) := by decide +kernel
theorem dX11_init_70 : decode cX11_init 70 = .ok (.iconst 2, 1) := by decide +kernel
theorem dX11_init_71 : decode cX11_init 71 = .ok (.newarray .int, 2) := by decide +kernel
theorem dX11_init_73 : decode cX11_init 73 = .ok (.putfield 39, 3) := by decide +kernel
theorem dX11_init_76 : decode cX11_init 76 = .ok (.aload_n 0, 1) := by decide +kernel
theorem dX11_init_77 : decode cX11_init 77 = .ok (.bipush 16, 2) := by decide +kernel
theorem dX11_init_79 : decode cX11_init 79 = .ok (.newarray .int, 2) := by decide +kernel
theorem dX11_init_81 : decode cX11_init 81 = .ok (.putfield 42, 3) := by decide +kernel
theorem dX11_init_84 : decode cX11_init 84 = .ok (.aload_n 0, 1) := by decide +kernel
theorem dX11_init_85 : decode cX11_init 85 = .ok (.bipush 16, 2) := by decide +kernel
theorem dX11_init_87 : decode cX11_init 87 = .ok (.newarray .int, 2) := by decide +kernel
theorem dX11_init_89 : decode cX11_init 89 = .ok (.putfield 45, 3) := by decide +kernel
theorem dX11_init_92 : decode cX11_init 92 = .ok (.aload_n 0, 1) := by decide +kernel
theorem dX11_init_93 : decode cX11_init 93 = .ok (.iconst 2, 1) := by decide +kernel
theorem dX11_init_94 : decode cX11_init 94 = .ok (.newarray .boolean, 2) := by decide +kernel
theorem dX11_init_96 : decode cX11_init 96 = .ok (.putfield 48, 3) := by decide +kernel
theorem dX11_init_99 : decode cX11_init 99 = .ok (.aload_n 0, 1) := by decide +kernel
theorem dX11_init_100 : decode cX11_init 100 = .ok (.iconst 2, 1) := by decide +kernel
theorem dX11_init_101 : decode cX11_init 101 = .ok (.newarray .boolean, 2) := by decide +kernel
theorem dX11_init_103 : decode cX11_init 103 = .ok (.putfield 52, 3) := by decide +kernel
theorem dX11_init_106 : decode cX11_init 106 = .ok (.aload_n 0, 1) := by decide +kernel
theorem dX11_init_107 : decode cX11_init 107 = .ok (.iconst 2, 1) := by decide +kernel
theorem dX11_init_108 : decode cX11_init 108 = .ok (.newarray .boolean, 2) := by decide +kernel
theorem dX11_init_110 : decode cX11_init 110 = .ok (.putfield 55, 3) := by decide +kernel
theorem dX11_init_113 : decode cX11_init 113 = .ok (.aload_n 0, 1) := by decide +kernel
theorem dX11_init_114 : decode cX11_init 114 = .ok (.bipush 8, 2) := by decide +kernel
theorem dX11_init_116 : decode cX11_init 116 = .ok (.newarray .long, 2) := by decide +kernel
theorem dX11_init_118 : decode cX11_init 118 = .ok (.putfield 58, 3) := by decide +kernel
theorem dX11_init_121 : decode cX11_init 121 = .ok (.aload_n 0, 1) := by decide +kernel
theorem dX11_init_122 : decode cX11_init 122 = .ok (.sipush 1120, 3) := by decide +kernel
theorem dX11_init_125 : decode cX11_init 125 = .ok (.newarray .int, 2) := by decide +kernel
theorem dX11_init_127 : decode cX11_init 127 = .ok (.putfield 62, 3) := by decide +kernel
theorem dX11_init_130 : decode cX11_init 130 = .ok (.aload_n 0, 1) := by decide +kernel
theorem dX11_init_131 : decode cX11_init 131 = .ok (.sipush 1120, 3) := by decide +kernel
theorem dX11_init_134 : decode cX11_init 134 = .ok (.newarray .int, 2) := by decide +kernel
theorem dX11_init_136 : decode cX11_init 136 = .ok (.putfield 65, 3) := by decide +kernel
theorem dX11_init_139 : decode cX11_init 139 = .ok (.aload_n 0, 1) := by decide +kernel
theorem dX11_init_140 : decode cX11_init 140 = .ok (.bipush 90, 2) := by decide +kernel
theorem dX11_init_142 : decode cX11_init 142 = .ok (.newarray .int, 2) := by decide +kernel
theorem dX11_init_144 : decode cX11_init 144 = .ok (.putfield 68, 3) := by decide +kernel
theorem dX11_init_147 : decode cX11_init 147 = .ok (.aload_n 0, 1) := by decide +kernel
theorem dX11_init_148 : decode cX11_init 148 = .ok (.bipush 90, 2) := by decide +kernel
theorem dX11_init_150 : decode cX11_init 150 = .ok (.newarray .int, 2) := by decide +kernel
theorem dX11_init_152 : decode cX11_init 152 = .ok (.putfield 71, 3) := by decide +kernel
theorem dX11_init_155 : decode cX11_init 155 = .ok (.aload_n 0, 1) := by decide +kernel
theorem dX11_init_156 : decode cX11_init 156 = .ok (.bipush 60, 2) := by decide +kernel
theorem dX11_init_158 : decode cX11_init 158 = .ok (.newarray .int, 2) := by decide +kernel
theorem dX11_init_160 : decode cX11_init 160 = .ok (.putfield 74, 3) := by decide +kernel
theorem dX11_init_163 : decode cX11_init 163 = .ok (.aload_n 0, 1) := by decide +kernel
theorem dX11_init_164 : decode cX11_init 164 = .ok (.sipush 221, 3) := by decide +kernel
theorem dX11_init_167 : decode cX11_init 167 = .ok (.newarray .int, 2) := by decide +kernel
theorem dX11_init_169 : decode cX11_init 169 = .ok (.putfield 77, 3) := by decide +kernel
theorem dX11_init_172 : decode cX11_init 172 = .ok (.aload_n 0, 1) := by decide +kernel
theorem dX11_init_173 : decode cX11_init 173 = .ok (.sipush 9061, 3) := by decide +kernel
theorem dX11_init_176 : decode cX11_init 176 = .ok (.newarray .int, 2) := by decide +kernel
theorem dX11_init_178 : decode cX11_init 178 = .ok (.putfield 80, 3) := by decide +kernel
theorem dX11_init_181 : decode cX11_init 181 = .ok (.aload_n 0, 1) := by decide +kernel
theorem dX11_init_182 : decode cX11_init 182 = .ok (.bipush 100, 2) := by decide +kernel
theorem dX11_init_184 : decode cX11_init 184 = .ok (.newarray .int, 2) := by decide +kernel
theorem dX11_init_186 : decode cX11_init 186 = .ok (.putfield 83, 3) := by decide +kernel
theorem dX11_init_189 : decode cX11_init 189 = .ok (.aload_n 0, 1) := by decide +kernel
theorem dX11_init_190 : decode cX11_init 190 = .ok (.iconst 4, 1) := by decide +kernel
theorem dX11_init_191 : decode cX11_init 191 = .ok (.newarray .int, 2) := by decide +kernel
theorem dX11_init_193 : decode cX11_init 193 = .ok (.putfield 86, 3) := by decide +kernel
theorem dX11_init_196 : decode cX11_init 196 = .ok (.aload_n 0, 1) := by decide +kernel
theorem dX11_init_197 : decode cX11_init 197 = .ok (.iconst 4, 1) := by decide +kernel
theorem dX11_init_198 : decode cX11_init 198 = .ok (.newarray .int, 2) := by decide +kernel
theorem dX11_init_200 : decode cX11_init 200 = .ok (.putfield 89, 3) := by decide +kernel
theorem dX11_init_203 : decode cX11_init 203 = .ok (.aload_n 0, 1) := by decide +kernel
theorem dX11_init_204 : decode cX11_init 204 = .ok (.bipush 12, 2) := by decide +kernel
theorem dX11_init_206 : decode cX11_init 206 = .ok (.newarray .int, 2) := by decide +kernel
theorem dX11_init_208 : decode cX11_init 208 = .ok (.putfield 92, 3) := by decide +kernel
theorem dX11_init_211 : decode cX11_init 211 = .ok (.aload_n 0, 1) := by decide +kernel
theorem dX11_init_212 : decode cX11_init 212 = .ok (.sipush 4096, 3) := by decide +kernel
theorem dX11_init_215 : decode cX11_init 215 = .ok (.newarray .int, 2) := by decide +kernel
theorem dX11_init_217 : decode cX11_init 217 = .ok (.putfield 95, 3) := by decide +kernel
theorem dX11_init_220 : decode cX11_init 220 = .ok (.aload_n 0, 1) := by decide +kernel
theorem dX11_init_221 : decode cX11_init 221 = .ok (.sipush 20480, 3) := by decide +kernel
theorem dX11_init_224 : decode cX11_init 224 = .ok (.newarray .int, 2) := by decide +kernel
theorem dX11_init_226 : decode cX11_init 226 = .ok (.putfield 98, 3) := by decide +kernel
theorem dX11_init_229 : decode cX11_init 229 = .ok (.aload_n 0, 1) := by decide +kernel
theorem dX11_init_230 : decode cX11_init 230 = .ok (.ldc 101, 2) := by decide +kernel
theorem dX11_init_232 : decode cX11_init 232 = .ok (.newarray .int, 2) := by decide +kernel
theorem dX11_init_234 : decode cX11_init 234 = .ok (.putfield 102, 3) := by decide +kernel
theorem dX11_init_237 : decode cX11_init 237 = .ok (.aload_n 0, 1) := by decide +kernel
theorem dX11_init_238 : decode cX11_init 238 = .ok (.bipush 40, 2) := by decide +kernel
theorem dX11_init_240 : decode cX11_init 240 = .ok (.newarray .int, 2) := by decide +kernel
theorem dX11_init_242 : decode cX11_init 242 = .ok (.putfield 105, 3) := by decide +kernel
theorem dX11_init_245 : decode cX11_init 245 = .ok (.aload_n 0, 1) := by decide +kernel
theorem dX11_init_246 : decode cX11_init 246 = .ok (.bipush 40, 2) := by decide +kernel
theorem dX11_init_248 : decode cX11_init 248 = .ok (.newarray .int, 2) := by decide +kernel
theorem dX11_init_250 : decode cX11_init 250 = .ok (.putfield 108, 3) := by decide +kernel
theorem dX11_init_253 : decode cX11_init 253 = .ok (.aload_n 0, 1) := by decide +kernel
theorem dX11_init_254 : decode cX11_init 254 = .ok (.bipush 40, 2) := by decide +kernel
theorem dX11_init_256 : decode cX11_init 256 = .ok (.newarray .int, 2) := by decide +kernel
theorem dX11_init_258 : decode cX11_init 258 = .ok (.putfield 111, 3) := by decide +kernel
theorem dX11_init_261 : decode cX11_init 261 = .ok (.aload_n 0, 1) := by decide +kernel
theorem dX11_init_262 : decode cX11_init 262 = .ok (.bipush 40, 2) := by decide +kernel
theorem dX11_init_264 : decode cX11_init 264 = .ok (.newarray .int, 2) := by decide +kernel
theorem dX11_init_266 : decode cX11_init 266 = .ok (.putfield 114, 3) := by decide +kernel
theorem dX11_init_269 : decode cX11_init 269 = .ok (.aload_n 0, 1) := by decide +kernel
theorem dX11_init_270 : decode cX11_init 270 = .ok (.bipush 40, 2) := by decide +kernel
theorem dX11_init_272 : decode cX11_init 272 = .ok (.newarray .int, 2) := by decide +kernel
theorem dX11_init_274 : decode cX11_init 274 = .ok (.putfield 117, 3) := by decide +kernel
theorem dX11_init_277 : decode cX11_init 277 = .ok (.aload_n 0, 1) := by decide +kernel
theorem dX11_init_278 : decode cX11_init 278 = .ok (.bipush 40, 2) := by decide +kernel
theorem dX11_init_280 : decode cX11_init 280 = .ok (.newarray .int, 2) := by decide +kernel
theorem dX11_init_282 : decode cX11_init 282 = .ok (.putfield 120, 3) := by decide +kernel
theorem dX11_init_285 : decode cX11_init 285 = .ok (.aload_n 0, 1) := by decide +kernel
theorem dX11_init_286 : decode cX11_init 286 = .ok (.bipush 7, 2) := by decide +kernel
theorem dX11_init_288 : decode cX11_init 288 = .ok (.newarray .int, 2) := by decide +kernel
theorem dX11_init_290 : decode cX11_init 290 = .ok (.putfield 123, 3) := by decide +kernel
theorem dX11_init_293 : decode cX11_init 293 = .ok (.aload_n 0, 1) := by decide +kernel
theorem dX11_init_294 : decode cX11_init 294 = .ok (.bipush 7, 2) := by decide +kernel
theorem dX11_init_296 : decode cX11_init 296 = .ok (.newarray .int, 2) := by decide +kernel
theorem dX11_init_298 : decode cX11_init 298 = .ok (.putfield 126, 3) := by decide +kernel
theorem dX11_init_301 : decode cX11_init 301 = .ok (.aload_n 0, 1) := by decide +kernel
theorem dX11_init_302 : decode cX11_init 302 = .ok (.bipush 49, 2) := by decide +kernel
theorem dX11_init_304 : decode cX11_init 304 = .ok (.newarray .int, 2) := by decide +kernel
theorem dX11_init_306 : decode cX11_init 306 = .ok (.putfield 129, 3) := by decide +kernel
theorem dX11_init_309 : decode cX11_init 309 = .ok (.aload_n 0, 1) := by decide +kernel
theorem dX11_init_310 : decode cX11_init 310 = .ok (.bipush 7, 2) := by decide +kernel
theorem dX11_init_312 : decode cX11_init 312 = .ok (.newarray .int, 2) := by decide +kernel
theorem dX11_init_314 : decode cX11_init 314 = .ok (.putfield 132, 3) := by decide +kernel
theorem dX11_init_317 : decode cX11_init 317 = .ok (.aload_n 0, 1) := by decide +kernel
theorem dX11_init_318 : decode cX11_init 318 = .ok (.bipush 8, 2) := by decide +kernel
theorem dX11_init_320 : decode cX11_init 320 = .ok (.newarray .int, 2) := by decide +kernel
theorem dX11_init_322 : decode cX11_init 322 = .ok (.putfield 135, 3) := by decide +kernel
theorem dX11_init_325 : decode cX11_init 325 = .ok (.aload_n 0, 1) := by decide +kernel
theorem dX11_init_326 : decode cX11_init 326 = .ok (.bipush 8, 2) := by decide +kernel
theorem dX11_init_328 : decode cX11_init 328 = .ok (.newarray .int, 2) := by decide +kernel
theorem dX11_init_330 : decode cX11_init 330 = .ok (.putfield 138, 3) := by decide +kernel
theorem dX11_init_333 : decode cX11_init 333 = .ok (.aload_n 0, 1) := by decide +kernel
theorem dX11_init_334 : decode cX11_init 334 = .ok (.sipush 663, 3) := by decide +kernel
theorem dX11_init_337 : decode cX11_init 337 = .ok (.newarray .int, 2) := by decide +kernel
theorem dX11_init_339 : decode cX11_init 339 = .ok (.putfield 141, 3) := by decide +kernel
theorem dX11_init_342 : decode cX11_init 342 = .ok (.aload_n 0, 1) := by decide +kernel
theorem dX11_init_343 : decode cX11_init 343 = .ok (.iconst 3, 1) := by decide +kernel
theorem dX11_init_344 : decode cX11_init 344 = .ok (.newarray .boolean, 2) := by decide +kernel
theorem dX11_init_346 : decode cX11_init 346 = .ok (.putfield 144, 3) := by decide +kernel
theorem dX11_init_349 : decode cX11_init 349 = .ok (.aload_n 0, 1) := by decide +kernel
theorem dX11_init_350 : decode cX11_init 350 = .ok (.invokevirtual 147, 3) := by decide +kernel
theorem dX11_init_353 : decode cX11_init 353 = .ok (.aload_n 0, 1) := by decide +kernel
theorem dX11_init_354 : decode cX11_init 354 = .ok (.invokevirtual 150, 3) := by decide +kernel
theorem dX11_init_357 : decode cX11_init 357 = .ok (.return_, 1) := by decide +kernel
theorem dX11_sign_0 : decode cX11_sign 0 = .ok (.iload_n 1, 1) := by decide +kernel
theorem dX11_sign_1 : decode cX11_sign 1 = .ok (.aload_n 0, 1) := by decide +kernel
theorem dX11_sign_2 : decode cX11_sign 2 = .ok (.getfield 153, 3) := by decide +kernel
theorem dX11_sign_5 : decode cX11_sign 5 = .ok (.if_icmp .ge 16, 3) := by decide +kernel
theorem dX11_sign_8 : decode cX11_sign 8 = .ok (.aload_n 0, 1) := by decide +kernel
theorem dX11_sign_9 : decode cX11_sign 9 = .ok (.getfield 13, 3) := by decide +kernel
theorem dX11_sign_12 : decode cX11_sign 12 = .ok (.iload_n 1, 1) := by decide +kernel
theorem dX11_sign_13 : decode cX11_sign 13 = .ok (.baload, 1) := by decide +kernel
theorem dX11_sign_14 : decode cX11_sign 14 = .ok (.sipush 255, 3) := by decide +kernel
theorem dX11_sign_17 : decode cX11_sign 17 = .ok (.iand, 1) := by decide +kernel
theorem dX11_sign_18 : decode cX11_sign 18 = .ok (.goto 4, 3) := by decide +kernel
theorem dX11_sign_21 : decode cX11_sign 21 = .ok (.iconst 0, 1) := by decide +kernel
theorem dX11_sign_22 : decode cX11_sign 22 = .ok (.ireturn, 1) := by decide +kernel
theorem dX11_isLetter_0 : decode cX11_isLetter 0 = .ok (.iload_n 0, 1) := by decide +kernel
theorem dX11_isLetter_1 : decode cX11_isLetter 1 = .ok (.bipush 97, 2) := by decide +kernel
theorem dX11_isLetter_3 : decode cX11_isLetter 3 = .ok (.if_icmp .lt 13, 3) := by decide +kernel
theorem dX11_isLetter_6 : decode cX11_isLetter 6 = .ok (.iload_n 0, 1) := by decide +kernel
theorem dX11_isLetter_7 : decode cX11_isLetter 7 = .ok (.bipush 122, 2) := by decide +kernel
theorem dX11_isLetter_9 : decode cX11_isLetter 9 = .ok (.if_icmp .gt 7, 3) := by decide +kernel
theorem dX11_isLetter_12 : decode cX11_isLetter 12 = .ok (.iconst 1, 1) := by decide +kernel
theorem dX11_isLetter_13 : decode cX11_isLetter 13 = .ok (.goto 4, 3) := by decide +kernel
theorem dX11_isLetter_16 : decode cX11_isLetter 16 = .ok (.iconst 0, 1) := by decide +kernel
theorem dX11_isLetter_17 : decode cX11_isLetter 17 = .ok (.ireturn, 1) := by decide +kernel
theorem dX11_isDigit_0 : decode cX11_isDigit 0 = .ok (.iload_n 0, 1) := by decide +kernel
theorem dX11_isDigit_1 : decode cX11_isDigit 1 = .ok (.bipush 48, 2) := by decide +kernel
theorem dX11_isDigit_3 : decode cX11_isDigit 3 = .ok (.if_icmp .lt 13, 3) := by decide +kernel
theorem dX11_isDigit_6 : decode cX11_isDigit 6 = .ok (.iload_n 0, 1) := by decide +kernel
theorem dX11_isDigit_7 : decode cX11_isDigit 7 = .ok (.bipush 57, 2) := by decide +kernel
theorem dX11_isDigit_9 : decode cX11_isDigit 9 = .ok (.if_icmp .gt 7, 3) := by decide +kernel
theorem dX11_isDigit_12 : decode cX11_isDigit 12 = .ok (.iconst 1, 1) := by decide +kernel
theorem dX11_isDigit_13 : decode cX11_isDigit 13 = .ok (.goto 4, 3) := by decide +kernel
theorem dX11_isDigit_16 : decode cX11_isDigit 16 = .ok (.iconst 0, 1) := by decide +kernel
theorem dX11_isDigit_17 : decode cX11_isDigit 17 = .ok (.ireturn, 1) := by decide +kernel
theorem dX11_fails_0 : decode cX11_fails 0 = .ok (.aload_n 0, 1) := by decide +kernel
theorem dX11_fails_1 : decode cX11_fails 1 = .ok (.getfield 156, 3) := by decide +kernel
theorem dX11_fails_4 : decode cX11_fails 4 = .ok (.ifCond .le 4, 3) := by decide +kernel
theorem dX11_fails_7 : decode cX11_fails 7 = .ok (.return_, 1) := by decide +kernel
theorem dX11_fails_8 : decode cX11_fails 8 = .ok (.aload_n 0, 1) := by decide +kernel
theorem dX11_fails_9 : decode cX11_fails 9 = .ok (.iload_n 1, 1) := by decide +kernel
theorem dX11_fails_10 : decode cX11_fails 10 = .ok (.putfield 156, 3) := by decide +kernel
theorem dX11_fails_13 : decode cX11_fails 13 = .ok (.aload_n 0, 1) := by decide +kernel
theorem dX11_fails_14 : decode cX11_fails 14 = .ok (.iload_n 2, 1) := by decide +kernel
theorem dX11_fails_15 : decode cX11_fails 15 = .ok (.putfield 16, 3) := by decide +kernel
theorem dX11_fails_18 : decode cX11_fails 18 = .ok (.return_, 1) := by decide +kernel
theorem dX11_isGood_0 : decode cX11_isGood 0 = .ok (.aload_n 0, 1) := by decide +kernel
theorem dX11_isGood_1 : decode cX11_isGood 1 = .ok (.getfield 156, 3) := by decide +kernel
theorem dX11_isGood_4 : decode cX11_isGood 4 = .ok (.ifCond .ne 7, 3) := by decide +kernel
theorem dX11_isGood_7 : decode cX11_isGood 7 = .ok (.iconst 1, 1) := by decide +kernel
theorem dX11_isGood_8 : decode cX11_isGood 8 = .ok (.goto 4, 3) := by decide +kernel
theorem dX11_isGood_11 : decode cX11_isGood 11 = .ok (.iconst 0, 1) := by decide +kernel
theorem dX11_isGood_12 : decode cX11_isGood 12 = .ok (.ireturn, 1) := by decide +kernel
theorem dX11_isKept_0 : decode cX11_isKept 0 = .ok (.lload_n 0, 1) := by decide +kernel
theorem dX11_isKept_1 : decode cX11_isKept 1 = .ok (.ldc2_w 159, 3) := by decide +kernel
theorem dX11_isKept_4 : decode cX11_isKept 4 = .ok (.lcmp, 1) := by decide +kernel
theorem dX11_isKept_5 : decode cX11_isKept 5 = .ok (.ifCond .eq 67, 3) := by decide +kernel
theorem dX11_isKept_8 : decode cX11_isKept 8 = .ok (.lload_n 0, 1) := by decide +kernel
theorem dX11_isKept_9 : decode cX11_isKept 9 = .ok (.ldc2_w 161, 3) := by decide +kernel
theorem dX11_isKept_12 : decode cX11_isKept 12 = .ok (.lcmp, 1) := by decide +kernel
theorem dX11_isKept_13 : decode cX11_isKept 13 = .ok (.ifCond .eq 59, 3) := by decide +kernel
theorem dX11_isKept_16 : decode cX11_isKept 16 = .ok (.lload_n 0, 1) := by decide +kernel
theorem dX11_isKept_17 : decode cX11_isKept 17 = .ok (.ldc2_w 163, 3) := by decide +kernel
theorem dX11_isKept_20 : decode cX11_isKept 20 = .ok (.lcmp, 1) := by decide +kernel
theorem dX11_isKept_21 : decode cX11_isKept 21 = .ok (.ifCond .eq 51, 3) := by decide +kernel
theorem dX11_isKept_24 : decode cX11_isKept 24 = .ok (.lload_n 0, 1) := by decide +kernel
theorem dX11_isKept_25 : decode cX11_isKept 25 = .ok (.ldc2_w 165, 3) := by decide +kernel
theorem dX11_isKept_28 : decode cX11_isKept 28 = .ok (.lcmp, 1) := by decide +kernel
theorem dX11_isKept_29 : decode cX11_isKept 29 = .ok (.ifCond .eq 43, 3) := by decide +kernel
theorem dX11_isKept_32 : decode cX11_isKept 32 = .ok (.lload_n 0, 1) := by decide +kernel
theorem dX11_isKept_33 : decode cX11_isKept 33 = .ok (.ldc2_w 167, 3) := by decide +kernel
theorem dX11_isKept_36 : decode cX11_isKept 36 = .ok (.lcmp, 1) := by decide +kernel
theorem dX11_isKept_37 : decode cX11_isKept 37 = .ok (.ifCond .eq 35, 3) := by decide +kernel
theorem dX11_isKept_40 : decode cX11_isKept 40 = .ok (.lload_n 0, 1) := by decide +kernel
theorem dX11_isKept_41 : decode cX11_isKept 41 = .ok (.ldc2_w 169, 3) := by decide +kernel
theorem dX11_isKept_44 : decode cX11_isKept 44 = .ok (.lcmp, 1) := by decide +kernel
theorem dX11_isKept_45 : decode cX11_isKept 45 = .ok (.ifCond .eq 27, 3) := by decide +kernel
theorem dX11_isKept_48 : decode cX11_isKept 48 = .ok (.lload_n 0, 1) := by decide +kernel
theorem dX11_isKept_49 : decode cX11_isKept 49 = .ok (.ldc2_w 171, 3) := by decide +kernel
theorem dX11_isKept_52 : decode cX11_isKept 52 = .ok (.lcmp, 1) := by decide +kernel
theorem dX11_isKept_53 : decode cX11_isKept 53 = .ok (.ifCond .eq 19, 3) := by decide +kernel
theorem dX11_isKept_56 : decode cX11_isKept 56 = .ok (.lload_n 0, 1) := by decide +kernel
theorem dX11_isKept_57 : decode cX11_isKept 57 = .ok (.ldc2_w 173, 3) := by decide +kernel
theorem dX11_isKept_60 : decode cX11_isKept 60 = .ok (.lcmp, 1) := by decide +kernel
theorem dX11_isKept_61 : decode cX11_isKept 61 = .ok (.ifCond .eq 11, 3) := by decide +kernel
theorem dX11_isKept_64 : decode cX11_isKept 64 = .ok (.lload_n 0, 1) := by decide +kernel
theorem dX11_isKept_65 : decode cX11_isKept 65 = .ok (.ldc2_w 175, 3) := by decide +kernel
theorem dX11_isKept_68 : decode cX11_isKept 68 = .ok (.lcmp, 1) := by decide +kernel
theorem dX11_isKept_69 : decode cX11_isKept 69 = .ok (.ifCond .ne 7, 3) := by decide +kernel
theorem dX11_isKept_72 : decode cX11_isKept 72 = .ok (.iconst 1, 1) := by decide +kernel
theorem dX11_isKept_73 : decode cX11_isKept 73 = .ok (.goto 4, 3) := by decide +kernel
theorem dX11_isKept_76 : decode cX11_isKept 76 = .ok (.iconst 0, 1) := by decide +kernel
theorem dX11_isKept_77 : decode cX11_isKept 77 = .ok (.istore_n 2, 1) := by decide +kernel
theorem dX11_isKept_78 : decode cX11_isKept 78 = .ok (.iload_n 2, 1) := by decide +kernel
theorem dX11_isKept_79 : decode cX11_isKept 79 = .ok (.ifCond .ne 67, 3) := by decide +kernel
theorem dX11_isKept_82 : decode cX11_isKept 82 = .ok (.lload_n 0, 1) := by decide +kernel
theorem dX11_isKept_83 : decode cX11_isKept 83 = .ok (.ldc2_w 177, 3) := by decide +kernel
theorem dX11_isKept_86 : decode cX11_isKept 86 = .ok (.lcmp, 1) := by decide +kernel
theorem dX11_isKept_87 : decode cX11_isKept 87 = .ok (.ifCond .eq 59, 3) := by decide +kernel
theorem dX11_isKept_90 : decode cX11_isKept 90 = .ok (.lload_n 0, 1) := by decide +kernel
theorem dX11_isKept_91 : decode cX11_isKept 91 = .ok (.ldc2_w 179, 3) := by decide +kernel
theorem dX11_isKept_94 : decode cX11_isKept 94 = .ok (.lcmp, 1) := by decide +kernel
theorem dX11_isKept_95 : decode cX11_isKept 95 = .ok (.ifCond .eq 51, 3) := by decide +kernel
theorem dX11_isKept_98 : decode cX11_isKept 98 = .ok (.lload_n 0, 1) := by decide +kernel
theorem dX11_isKept_99 : decode cX11_isKept 99 = .ok (.ldc2_w 181, 3) := by decide +kernel
theorem dX11_isKept_102 : decode cX11_isKept 102 = .ok (.lcmp, 1) := by decide +kernel
theorem dX11_isKept_103 : decode cX11_isKept 103 = .ok (.ifCond .eq 43, 3) := by decide +kernel
theorem dX11_isKept_106 : decode cX11_isKept 106 = .ok (.lload_n 0, 1) := by decide +kernel
theorem dX11_isKept_107 : decode cX11_isKept 107 = .ok (.ldc2_w 183, 3) := by decide +kernel
theorem dX11_isKept_110 : decode cX11_isKept 110 = .ok (.lcmp, 1) := by decide +kernel
theorem dX11_isKept_111 : decode cX11_isKept 111 = .ok (.ifCond .eq 35, 3) := by decide +kernel
theorem dX11_isKept_114 : decode cX11_isKept 114 = .ok (.lload_n 0, 1) := by decide +kernel
theorem dX11_isKept_115 : decode cX11_isKept 115 = .ok (.ldc2_w 185, 3) := by decide +kernel
theorem dX11_isKept_118 : decode cX11_isKept 118 = .ok (.lcmp, 1) := by decide +kernel
theorem dX11_isKept_119 : decode cX11_isKept 119 = .ok (.ifCond .eq 27, 3) := by decide +kernel
theorem dX11_isKept_122 : decode cX11_isKept 122 = .ok (.lload_n 0, 1) := by decide +kernel
theorem dX11_isKept_123 : decode cX11_isKept 123 = .ok (.ldc2_w 187, 3) := by decide +kernel
theorem dX11_isKept_126 : decode cX11_isKept 126 = .ok (.lcmp, 1) := by decide +kernel
theorem dX11_isKept_127 : decode cX11_isKept 127 = .ok (.ifCond .eq 19, 3) := by decide +kernel
theorem dX11_isKept_130 : decode cX11_isKept 130 = .ok (.lload_n 0, 1) := by decide +kernel
theorem dX11_isKept_131 : decode cX11_isKept 131 = .ok (.ldc2_w 189, 3) := by decide +kernel
theorem dX11_isKept_134 : decode cX11_isKept 134 = .ok (.lcmp, 1) := by decide +kernel
theorem dX11_isKept_135 : decode cX11_isKept 135 = .ok (.ifCond .eq 11, 3) := by decide +kernel
theorem dX11_isKept_138 : decode cX11_isKept 138 = .ok (.lload_n 0, 1) := by decide +kernel
theorem dX11_isKept_139 : decode cX11_isKept 139 = .ok (.ldc2_w 191, 3) := by decide +kernel
theorem dX11_isKept_142 : decode cX11_isKept 142 = .ok (.lcmp, 1) := by decide +kernel
theorem dX11_isKept_143 : decode cX11_isKept 143 = .ok (.ifCond .ne 7, 3) := by decide +kernel
theorem dX11_isKept_146 : decode cX11_isKept 146 = .ok (.iconst 1, 1) := by decide +kernel
theorem dX11_isKept_147 : decode cX11_isKept 147 = .ok (.goto 4, 3) := by decide +kernel
theorem dX11_isKept_150 : decode cX11_isKept 150 = .ok (.iconst 0, 1) := by decide +kernel
theorem dX11_isKept_151 : decode cX11_isKept 151 = .ok (.ireturn, 1) := by decide +kernel
theorem dX11_isSign_0 : decode cX11_isSign 0 = .ok (.iload_n 0, 1) := by decide +kernel
theorem dX11_isSign_1 : decode cX11_isSign 1 = .ok (.bipush 59, 2) := by decide +kernel
theorem dX11_isSign_3 : decode cX11_isSign 3 = .ok (.if_icmp .eq 63, 3) := by decide +kernel
theorem dX11_isSign_6 : decode cX11_isSign 6 = .ok (.iload_n 0, 1) := by decide +kernel
theorem dX11_isSign_7 : decode cX11_isSign 7 = .ok (.bipush 40, 2) := by decide +kernel
theorem dX11_isSign_9 : decode cX11_isSign 9 = .ok (.if_icmp .eq 57, 3) := by decide +kernel
theorem dX11_isSign_12 : decode cX11_isSign 12 = .ok (.iload_n 0, 1) := by decide +kernel
theorem dX11_isSign_13 : decode cX11_isSign 13 = .ok (.bipush 41, 2) := by decide +kernel
theorem dX11_isSign_15 : decode cX11_isSign 15 = .ok (.if_icmp .eq 51, 3) := by decide +kernel
theorem dX11_isSign_18 : decode cX11_isSign 18 = .ok (.iload_n 0, 1) := by decide +kernel
theorem dX11_isSign_19 : decode cX11_isSign 19 = .ok (.bipush 60, 2) := by decide +kernel
theorem dX11_isSign_21 : decode cX11_isSign 21 = .ok (.if_icmp .eq 45, 3) := by decide +kernel
theorem dX11_isSign_24 : decode cX11_isSign 24 = .ok (.iload_n 0, 1) := by decide +kernel
theorem dX11_isSign_25 : decode cX11_isSign 25 = .ok (.bipush 62, 2) := by decide +kernel
theorem dX11_isSign_27 : decode cX11_isSign 27 = .ok (.if_icmp .eq 39, 3) := by decide +kernel
theorem dX11_isSign_30 : decode cX11_isSign 30 = .ok (.iload_n 0, 1) := by decide +kernel
theorem dX11_isSign_31 : decode cX11_isSign 31 = .ok (.bipush 61, 2) := by decide +kernel
theorem dX11_isSign_33 : decode cX11_isSign 33 = .ok (.if_icmp .eq 33, 3) := by decide +kernel
theorem dX11_isSign_36 : decode cX11_isSign 36 = .ok (.iload_n 0, 1) := by decide +kernel
theorem dX11_isSign_37 : decode cX11_isSign 37 = .ok (.bipush 43, 2) := by decide +kernel
theorem dX11_isSign_39 : decode cX11_isSign 39 = .ok (.if_icmp .eq 27, 3) := by decide +kernel
theorem dX11_isSign_42 : decode cX11_isSign 42 = .ok (.iload_n 0, 1) := by decide +kernel
theorem dX11_isSign_43 : decode cX11_isSign 43 = .ok (.bipush 45, 2) := by decide +kernel
theorem dX11_isSign_45 : decode cX11_isSign 45 = .ok (.if_icmp .eq 21, 3) := by decide +kernel
theorem dX11_isSign_48 : decode cX11_isSign 48 = .ok (.iload_n 0, 1) := by decide +kernel
theorem dX11_isSign_49 : decode cX11_isSign 49 = .ok (.bipush 42, 2) := by decide +kernel
theorem dX11_isSign_51 : decode cX11_isSign 51 = .ok (.if_icmp .eq 15, 3) := by decide +kernel
theorem dX11_isSign_54 : decode cX11_isSign 54 = .ok (.iload_n 0, 1) := by decide +kernel
theorem dX11_isSign_55 : decode cX11_isSign 55 = .ok (.bipush 47, 2) := by decide +kernel
theorem dX11_isSign_57 : decode cX11_isSign 57 = .ok (.if_icmp .eq 9, 3) := by decide +kernel
theorem dX11_isSign_60 : decode cX11_isSign 60 = .ok (.iload_n 0, 1) := by decide +kernel
theorem dX11_isSign_61 : decode cX11_isSign 61 = .ok (.bipush 37, 2) := by decide +kernel
theorem dX11_isSign_63 : decode cX11_isSign 63 = .ok (.if_icmp .ne 7, 3) := by decide +kernel
theorem dX11_isSign_66 : decode cX11_isSign 66 = .ok (.iconst 1, 1) := by decide +kernel
theorem dX11_isSign_67 : decode cX11_isSign 67 = .ok (.goto 4, 3) := by decide +kernel
theorem dX11_isSign_70 : decode cX11_isSign 70 = .ok (.iconst 0, 1) := by decide +kernel
theorem dX11_isSign_71 : decode cX11_isSign 71 = .ok (.ireturn, 1) := by decide +kernel
theorem dX11_goOn_0 : decode cX11_goOn 0 = .ok (.aload_n 0, 1) := by decide +kernel
theorem dX11_goOn_1 : decode cX11_goOn 1 = .ok (.aload_n 0, 1) := by decide +kernel
theorem dX11_goOn_2 : decode cX11_goOn 2 = .ok (.getfield 193, 3) := by decide +kernel
theorem dX11_goOn_5 : decode cX11_goOn 5 = .ok (.putfield 196, 3) := by decide +kernel
theorem dX11_goOn_8 : decode cX11_goOn 8 = .ok (.aload_n 0, 1) := by decide +kernel
theorem dX11_goOn_9 : decode cX11_goOn 9 = .ok (.getfield 196, 3) := by decide +kernel
theorem dX11_goOn_12 : decode cX11_goOn 12 = .ok (.aload_n 0, 1) := by decide +kernel
theorem dX11_goOn_13 : decode cX11_goOn 13 = .ok (.getfield 153, 3) := by decide +kernel
theorem dX11_goOn_16 : decode cX11_goOn 16 = .ok (.if_icmp .ge 42, 3) := by decide +kernel
theorem dX11_goOn_19 : decode cX11_goOn 19 = .ok (.aload_n 0, 1) := by decide +kernel
theorem dX11_goOn_20 : decode cX11_goOn 20 = .ok (.aload_n 0, 1) := by decide +kernel
theorem dX11_goOn_21 : decode cX11_goOn 21 = .ok (.getfield 196, 3) := by decide +kernel
theorem dX11_goOn_24 : decode cX11_goOn 24 = .ok (.invokevirtual 199, 3) := by decide +kernel
theorem dX11_goOn_27 : decode cX11_goOn 27 = .ok (.bipush 32, 2) := by decide +kernel
theorem dX11_goOn_29 : decode cX11_goOn 29 = .ok (.if_icmp .eq 16, 3) := by decide +kernel
theorem dX11_goOn_32 : decode cX11_goOn 32 = .ok (.aload_n 0, 1) := by decide +kernel
theorem dX11_goOn_33 : decode cX11_goOn 33 = .ok (.aload_n 0, 1) := by decide +kernel
theorem dX11_goOn_34 : decode cX11_goOn 34 = .ok (.getfield 196, 3) := by decide +kernel
theorem dX11_goOn_37 : decode cX11_goOn 37 = .ok (.invokevirtual 199, 3) := by decide +kernel
theorem dX11_goOn_40 : decode cX11_goOn 40 = .ok (.bipush 10, 2) := by decide +kernel
theorem dX11_goOn_42 : decode cX11_goOn 42 = .ok (.if_icmp .ne 16, 3) := by decide +kernel
theorem dX11_goOn_45 : decode cX11_goOn 45 = .ok (.aload_n 0, 1) := by decide +kernel
theorem dX11_goOn_46 : decode cX11_goOn 46 = .ok (.dup, 1) := by decide +kernel
theorem dX11_goOn_47 : decode cX11_goOn 47 = .ok (.getfield 196, 3) := by decide +kernel
theorem dX11_goOn_50 : decode cX11_goOn 50 = .ok (.iconst 1, 1) := by decide +kernel
theorem dX11_goOn_51 : decode cX11_goOn 51 = .ok (.iadd, 1) := by decide +kernel
theorem dX11_goOn_52 : decode cX11_goOn 52 = .ok (.putfield 196, 3) := by decide +kernel
theorem dX11_goOn_55 : decode cX11_goOn 55 = .ok (.goto (-47), 3) := by decide +kernel
theorem dX11_goOn_58 : decode cX11_goOn 58 = .ok (.aload_n 0, 1) := by decide +kernel
theorem dX11_goOn_59 : decode cX11_goOn 59 = .ok (.aload_n 0, 1) := by decide +kernel
theorem dX11_goOn_60 : decode cX11_goOn 60 = .ok (.getfield 196, 3) := by decide +kernel
theorem dX11_goOn_63 : decode cX11_goOn 63 = .ok (.invokevirtual 199, 3) := by decide +kernel
theorem dX11_goOn_66 : decode cX11_goOn 66 = .ok (.istore_n 1, 1) := by decide +kernel
theorem dX11_goOn_67 : decode cX11_goOn 67 = .ok (.aload_n 0, 1) := by decide +kernel
theorem dX11_goOn_68 : decode cX11_goOn 68 = .ok (.aload_n 0, 1) := by decide +kernel
theorem dX11_goOn_69 : decode cX11_goOn 69 = .ok (.getfield 196, 3) := by decide +kernel
theorem dX11_goOn_72 : decode cX11_goOn 72 = .ok (.iconst 1, 1) := by decide +kernel
theorem dX11_goOn_73 : decode cX11_goOn 73 = .ok (.iadd, 1) := by decide +kernel
theorem dX11_goOn_74 : decode cX11_goOn 74 = .ok (.putfield 193, 3) := by decide +kernel
theorem dX11_goOn_77 : decode cX11_goOn 77 = .ok (.aload_n 0, 1) := by decide +kernel
theorem dX11_goOn_78 : decode cX11_goOn 78 = .ok (.getfield 196, 3) := by decide +kernel
theorem dX11_goOn_81 : decode cX11_goOn 81 = .ok (.aload_n 0, 1) := by decide +kernel
theorem dX11_goOn_82 : decode cX11_goOn 82 = .ok (.getfield 153, 3) := by decide +kernel
theorem dX11_goOn_85 : decode cX11_goOn 85 = .ok (.if_icmp .lt 27, 3) := by decide +kernel
theorem dX11_goOn_88 : decode cX11_goOn 88 = .ok (.aload_n 0, 1) := by decide +kernel
theorem dX11_goOn_89 : decode cX11_goOn 89 = .ok (.iconst 0, 1) := by decide +kernel
theorem dX11_goOn_90 : decode cX11_goOn 90 = .ok (.putfield 203, 3) := by decide +kernel
theorem dX11_goOn_93 : decode cX11_goOn 93 = .ok (.aload_n 0, 1) := by decide +kernel
theorem dX11_goOn_94 : decode cX11_goOn 94 = .ok (.aload_n 0, 1) := by decide +kernel
theorem dX11_goOn_95 : decode cX11_goOn 95 = .ok (.getfield 153, 3) := by decide +kernel
theorem dX11_goOn_98 : decode cX11_goOn 98 = .ok (.putfield 196, 3) := by decide +kernel
theorem dX11_goOn_101 : decode cX11_goOn 101 = .ok (.aload_n 0, 1) := by decide +kernel
theorem dX11_goOn_102 : decode cX11_goOn 102 = .ok (.aload_n 0, 1) := by decide +kernel
theorem dX11_goOn_103 : decode cX11_goOn 103 = .ok (.getfield 153, 3) := by decide +kernel
theorem dX11_goOn_106 : decode cX11_goOn 106 = .ok (.putfield 193, 3) := by decide +kernel
theorem dX11_goOn_109 : decode cX11_goOn 109 = .ok (.goto 268, 3) := by decide +kernel
theorem dX11_goOn_112 : decode cX11_goOn 112 = .ok (.iload_n 1, 1) := by decide +kernel
theorem dX11_goOn_113 : decode cX11_goOn 113 = .ok (.invokestatic 206, 3) := by decide +kernel
theorem dX11_goOn_116 : decode cX11_goOn 116 = .ok (.ifCond .eq 123, 3) := by decide +kernel
theorem dX11_goOn_119 : decode cX11_goOn 119 = .ok (.aload_n 0, 1) := by decide +kernel
theorem dX11_goOn_120 : decode cX11_goOn 120 = .ok (.aload_n 0, 1) := by decide +kernel
theorem dX11_goOn_121 : decode cX11_goOn 121 = .ok (.getfield 193, 3) := by decide +kernel
theorem dX11_goOn_124 : decode cX11_goOn 124 = .ok (.invokevirtual 199, 3) := by decide +kernel
theorem dX11_goOn_127 : decode cX11_goOn 127 = .ok (.invokestatic 206, 3) := by decide +kernel
theorem dX11_goOn_130 : decode cX11_goOn 130 = .ok (.ifCond .eq 16, 3) := by decide +kernel
theorem dX11_goOn_133 : decode cX11_goOn 133 = .ok (.aload_n 0, 1) := by decide +kernel
theorem dX11_goOn_134 : decode cX11_goOn 134 = .ok (.dup, 1) := by decide +kernel
theorem dX11_goOn_135 : decode cX11_goOn 135 = .ok (.getfield 193, 3) := by decide +kernel
theorem dX11_goOn_138 : decode cX11_goOn 138 = .ok (.iconst 1, 1) := by decide +kernel
theorem dX11_goOn_139 : decode cX11_goOn 139 = .ok (.iadd, 1) := by decide +kernel
theorem dX11_goOn_140 : decode cX11_goOn 140 = .ok (.putfield 193, 3) := by decide +kernel
theorem dX11_goOn_143 : decode cX11_goOn 143 = .ok (.goto (-24), 3) := by decide +kernel
theorem dX11_goOn_146 : decode cX11_goOn 146 = .ok (.aload_n 0, 1) := by decide +kernel
theorem dX11_goOn_147 : decode cX11_goOn 147 = .ok (.lconst 0, 1) := by decide +kernel
theorem dX11_goOn_148 : decode cX11_goOn 148 = .ok (.putfield 210, 3) := by decide +kernel
theorem dX11_goOn_151 : decode cX11_goOn 151 = .ok (.aload_n 0, 1) := by decide +kernel
theorem dX11_goOn_152 : decode cX11_goOn 152 = .ok (.getfield 196, 3) := by decide +kernel
theorem dX11_goOn_155 : decode cX11_goOn 155 = .ok (.istore_n 2, 1) := by decide +kernel
theorem dX11_goOn_156 : decode cX11_goOn 156 = .ok (.iload_n 2, 1) := by decide +kernel
theorem dX11_goOn_157 : decode cX11_goOn 157 = .ok (.aload_n 0, 1) := by decide +kernel
theorem dX11_goOn_158 : decode cX11_goOn 158 = .ok (.getfield 193, 3) := by decide +kernel
theorem dX11_goOn_161 : decode cX11_goOn 161 = .ok (.if_icmp .ge 38, 3) := by decide +kernel
theorem dX11_goOn_164 : decode cX11_goOn 164 = .ok (.iload_n 2, 1) := by decide +kernel
theorem dX11_goOn_165 : decode cX11_goOn 165 = .ok (.aload_n 0, 1) := by decide +kernel
theorem dX11_goOn_166 : decode cX11_goOn 166 = .ok (.getfield 196, 3) := by decide +kernel
theorem dX11_goOn_169 : decode cX11_goOn 169 = .ok (.bipush 8, 2) := by decide +kernel
theorem dX11_goOn_171 : decode cX11_goOn 171 = .ok (.iadd, 1) := by decide +kernel
theorem dX11_goOn_172 : decode cX11_goOn 172 = .ok (.if_icmp .ge 27, 3) := by decide +kernel
theorem dX11_goOn_175 : decode cX11_goOn 175 = .ok (.aload_n 0, 1) := by decide +kernel
theorem dX11_goOn_176 : decode cX11_goOn 176 = .ok (.aload_n 0, 1) := by decide +kernel
theorem dX11_goOn_177 : decode cX11_goOn 177 = .ok (.getfield 210, 3) := by decide +kernel
theorem dX11_goOn_180 : decode cX11_goOn 180 = .ok (.bipush 8, 2) := by decide +kernel
theorem dX11_goOn_182 : decode cX11_goOn 182 = .ok (.lshl, 1) := by decide +kernel
theorem dX11_goOn_183 : decode cX11_goOn 183 = .ok (.aload_n 0, 1) := by decide +kernel
theorem dX11_goOn_184 : decode cX11_goOn 184 = .ok (.iload_n 2, 1) := by decide +kernel
theorem dX11_goOn_185 : decode cX11_goOn 185 = .ok (.invokevirtual 199, 3) := by decide +kernel
theorem dX11_goOn_188 : decode cX11_goOn 188 = .ok (.i2l, 1) := by decide +kernel
theorem dX11_goOn_189 : decode cX11_goOn 189 = .ok (.lor, 1) := by decide +kernel
theorem dX11_goOn_190 : decode cX11_goOn 190 = .ok (.putfield 210, 3) := by decide +kernel
theorem dX11_goOn_193 : decode cX11_goOn 193 = .ok (.iinc 2 1, 3) := by decide +kernel
theorem dX11_goOn_196 : decode cX11_goOn 196 = .ok (.goto (-40), 3) := by decide +kernel
theorem dX11_goOn_199 : decode cX11_goOn 199 = .ok (.aload_n 0, 1) := by decide +kernel
theorem dX11_goOn_200 : decode cX11_goOn 200 = .ok (.aload_n 0, 1) := by decide +kernel
theorem dX11_goOn_201 : decode cX11_goOn 201 = .ok (.getfield 193, 3) := by decide +kernel
theorem dX11_goOn_204 : decode cX11_goOn 204 = .ok (.aload_n 0, 1) := by decide +kernel
theorem dX11_goOn_205 : decode cX11_goOn 205 = .ok (.getfield 196, 3) := by decide +kernel
theorem dX11_goOn_208 : decode cX11_goOn 208 = .ok (.isub, 1) := by decide +kernel
theorem dX11_goOn_209 : decode cX11_goOn 209 = .ok (.bipush 8, 2) := by decide +kernel
theorem dX11_goOn_211 : decode cX11_goOn 211 = .ok (.if_icmp .le 7, 3) := by decide +kernel
theorem dX11_goOn_214 : decode cX11_goOn 214 = .ok (.iconst 1, 1) := by decide +kernel
theorem dX11_goOn_215 : decode cX11_goOn 215 = .ok (.goto 18, 3) := by decide +kernel
theorem dX11_goOn_218 : decode cX11_goOn 218 = .ok (.aload_n 0, 1) := by decide +kernel
theorem dX11_goOn_219 : decode cX11_goOn 219 = .ok (.getfield 210, 3) := by decide +kernel
theorem dX11_goOn_222 : decode cX11_goOn 222 = .ok (.invokestatic 214, 3) := by decide +kernel
theorem dX11_goOn_225 : decode cX11_goOn 225 = .ok (.ifCond .eq 7, 3) := by decide +kernel
theorem dX11_goOn_228 : decode cX11_goOn 228 = .ok (.iconst 3, 1) := by decide +kernel
theorem dX11_goOn_229 : decode cX11_goOn 229 = .ok (.goto 4, 3) := by decide +kernel
theorem dX11_goOn_232 : decode cX11_goOn 232 = .ok (.iconst 2, 1) := by decide +kernel
theorem dX11_goOn_233 : decode cX11_goOn 233 = .ok (.putfield 203, 3) := by decide +kernel
theorem dX11_goOn_236 : decode cX11_goOn 236 = .ok (.goto 141, 3) := by decide +kernel
theorem dX11_goOn_239 : decode cX11_goOn 239 = .ok (.iload_n 1, 1) := by decide +kernel
theorem dX11_goOn_240 : decode cX11_goOn 240 = .ok (.invokestatic 218, 3) := by decide +kernel
theorem dX11_goOn_243 : decode cX11_goOn 243 = .ok (.ifCond .eq 118, 3) := by decide +kernel
theorem dX11_goOn_246 : decode cX11_goOn 246 = .ok (.aload_n 0, 1) := by decide +kernel
theorem dX11_goOn_247 : decode cX11_goOn 247 = .ok (.iconst 0, 1) := by decide +kernel
theorem dX11_goOn_248 : decode cX11_goOn 248 = .ok (.putfield 221, 3) := by decide +kernel
theorem dX11_goOn_251 : decode cX11_goOn 251 = .ok (.aload_n 0, 1) := by decide +kernel
theorem dX11_goOn_252 : decode cX11_goOn 252 = .ok (.aload_n 0, 1) := by decide +kernel
theorem dX11_goOn_253 : decode cX11_goOn 253 = .ok (.getfield 196, 3) := by decide +kernel
theorem dX11_goOn_256 : decode cX11_goOn 256 = .ok (.putfield 193, 3) := by decide +kernel
theorem dX11_goOn_259 : decode cX11_goOn 259 = .ok (.aload_n 0, 1) := by decide +kernel
theorem dX11_goOn_260 : decode cX11_goOn 260 = .ok (.aload_n 0, 1) := by decide +kernel
theorem dX11_goOn_261 : decode cX11_goOn 261 = .ok (.getfield 193, 3) := by decide +kernel
theorem dX11_goOn_264 : decode cX11_goOn 264 = .ok (.invokevirtual 199, 3) := by decide +kernel
theorem dX11_goOn_267 : decode cX11_goOn 267 = .ok (.invokestatic 218, 3) := by decide +kernel
theorem dX11_goOn_270 : decode cX11_goOn 270 = .ok (.ifCond .eq 52, 3) := by decide +kernel
theorem dX11_goOn_273 : decode cX11_goOn 273 = .ok (.aload_n 0, 1) := by decide +kernel
theorem dX11_goOn_274 : decode cX11_goOn 274 = .ok (.getfield 193, 3) := by decide +kernel
theorem dX11_goOn_277 : decode cX11_goOn 277 = .ok (.aload_n 0, 1) := by decide +kernel
theorem dX11_goOn_278 : decode cX11_goOn 278 = .ok (.getfield 196, 3) := by decide +kernel
theorem dX11_goOn_281 : decode cX11_goOn 281 = .ok (.isub, 1) := by decide +kernel
theorem dX11_goOn_282 : decode cX11_goOn 282 = .ok (.iconst 4, 1) := by decide +kernel
theorem dX11_goOn_283 : decode cX11_goOn 283 = .ok (.if_icmp .ge 26, 3) := by decide +kernel
theorem dX11_goOn_286 : decode cX11_goOn 286 = .ok (.aload_n 0, 1) := by decide +kernel
theorem dX11_goOn_287 : decode cX11_goOn 287 = .ok (.bipush 10, 2) := by decide +kernel
theorem dX11_goOn_289 : decode cX11_goOn 289 = .ok (.aload_n 0, 1) := by decide +kernel
theorem dX11_goOn_290 : decode cX11_goOn 290 = .ok (.getfield 221, 3) := by decide +kernel
theorem dX11_goOn_293 : decode cX11_goOn 293 = .ok (.imul, 1) := by decide +kernel
theorem dX11_goOn_294 : decode cX11_goOn 294 = .ok (.aload_n 0, 1) := by decide +kernel
theorem dX11_goOn_295 : decode cX11_goOn 295 = .ok (.aload_n 0, 1) := by decide +kernel
theorem dX11_goOn_296 : decode cX11_goOn 296 = .ok (.getfield 193, 3) := by decide +kernel
theorem dX11_goOn_299 : decode cX11_goOn 299 = .ok (.invokevirtual 199, 3) := by decide +kernel
theorem dX11_goOn_302 : decode cX11_goOn 302 = .ok (.iadd, 1) := by decide +kernel
theorem dX11_goOn_303 : decode cX11_goOn 303 = .ok (.bipush 48, 2) := by decide +kernel
theorem dX11_goOn_305 : decode cX11_goOn 305 = .ok (.isub, 1) := by decide +kernel
theorem dX11_goOn_306 : decode cX11_goOn 306 = .ok (.putfield 221, 3) := by decide +kernel
theorem dX11_goOn_309 : decode cX11_goOn 309 = .ok (.aload_n 0, 1) := by decide +kernel
theorem dX11_goOn_310 : decode cX11_goOn 310 = .ok (.dup, 1) := by decide +kernel
theorem dX11_goOn_311 : decode cX11_goOn 311 = .ok (.getfield 193, 3) := by decide +kernel
theorem dX11_goOn_314 : decode cX11_goOn 314 = .ok (.iconst 1, 1) := by decide +kernel
theorem dX11_goOn_315 : decode cX11_goOn 315 = .ok (.iadd, 1) := by decide +kernel
theorem dX11_goOn_316 : decode cX11_goOn 316 = .ok (.putfield 193, 3) := by decide +kernel
theorem dX11_goOn_319 : decode cX11_goOn 319 = .ok (.goto (-60), 3) := by decide +kernel
theorem dX11_goOn_322 : decode cX11_goOn 322 = .ok (.aload_n 0, 1) := by decide +kernel
theorem dX11_goOn_323 : decode cX11_goOn 323 = .ok (.aload_n 0, 1) := by decide +kernel
theorem dX11_goOn_324 : decode cX11_goOn 324 = .ok (.getfield 193, 3) := by decide +kernel
theorem dX11_goOn_327 : decode cX11_goOn 327 = .ok (.aload_n 0, 1) := by decide +kernel
theorem dX11_goOn_328 : decode cX11_goOn 328 = .ok (.getfield 196, 3) := by decide +kernel
theorem dX11_goOn_331 : decode cX11_goOn 331 = .ok (.isub, 1) := by decide +kernel
theorem dX11_goOn_332 : decode cX11_goOn 332 = .ok (.iconst 4, 1) := by decide +kernel
theorem dX11_goOn_333 : decode cX11_goOn 333 = .ok (.if_icmp .gt 17, 3) := by decide +kernel
theorem dX11_goOn_336 : decode cX11_goOn 336 = .ok (.aload_n 0, 1) := by decide +kernel
theorem dX11_goOn_337 : decode cX11_goOn 337 = .ok (.aload_n 0, 1) := by decide +kernel
theorem dX11_goOn_338 : decode cX11_goOn 338 = .ok (.getfield 193, 3) := by decide +kernel
theorem dX11_goOn_341 : decode cX11_goOn 341 = .ok (.invokevirtual 199, 3) := by decide +kernel
theorem dX11_goOn_344 : decode cX11_goOn 344 = .ok (.invokestatic 206, 3) := by decide +kernel
theorem dX11_goOn_347 : decode cX11_goOn 347 = .ok (.ifCond .eq 7, 3) := by decide +kernel
theorem dX11_goOn_350 : decode cX11_goOn 350 = .ok (.iconst 1, 1) := by decide +kernel
theorem dX11_goOn_351 : decode cX11_goOn 351 = .ok (.goto 4, 3) := by decide +kernel
theorem dX11_goOn_354 : decode cX11_goOn 354 = .ok (.iconst 4, 1) := by decide +kernel
theorem dX11_goOn_355 : decode cX11_goOn 355 = .ok (.putfield 203, 3) := by decide +kernel
theorem dX11_goOn_358 : decode cX11_goOn 358 = .ok (.goto 19, 3) := by decide +kernel
theorem dX11_goOn_361 : decode cX11_goOn 361 = .ok (.aload_n 0, 1) := by decide +kernel
theorem dX11_goOn_362 : decode cX11_goOn 362 = .ok (.iload_n 1, 1) := by decide +kernel
theorem dX11_goOn_363 : decode cX11_goOn 363 = .ok (.invokestatic 224, 3) := by decide +kernel
theorem dX11_goOn_366 : decode cX11_goOn 366 = .ok (.ifCond .eq 7, 3) := by decide +kernel
theorem dX11_goOn_369 : decode cX11_goOn 369 = .ok (.iconst 5, 1) := by decide +kernel
theorem dX11_goOn_370 : decode cX11_goOn 370 = .ok (.goto 4, 3) := by decide +kernel
theorem dX11_goOn_373 : decode cX11_goOn 373 = .ok (.iconst 1, 1) := by decide +kernel
theorem dX11_goOn_374 : decode cX11_goOn 374 = .ok (.putfield 203, 3) := by decide +kernel
theorem dX11_goOn_377 : decode cX11_goOn 377 = .ok (.return_, 1) := by decide +kernel
theorem dX11_isSignHere_0 : decode cX11_isSignHere 0 = .ok (.aload_n 0, 1) := by decide +kernel
theorem dX11_isSignHere_1 : decode cX11_isSignHere 1 = .ok (.getfield 203, 3) := by decide +kernel
theorem dX11_isSignHere_4 : decode cX11_isSignHere 4 = .ok (.iconst 5, 1) := by decide +kernel
theorem dX11_isSignHere_5 : decode cX11_isSignHere 5 = .ok (.if_icmp .ne 19, 3) := by decide +kernel
theorem dX11_isSignHere_8 : decode cX11_isSignHere 8 = .ok (.aload_n 0, 1) := by decide +kernel
theorem dX11_isSignHere_9 : decode cX11_isSignHere 9 = .ok (.aload_n 0, 1) := by decide +kernel
theorem dX11_isSignHere_10 : decode cX11_isSignHere 10 = .ok (.getfield 196, 3) := by decide +kernel
theorem dX11_isSignHere_13 : decode cX11_isSignHere 13 = .ok (.invokevirtual 199, 3) := by decide +kernel
theorem dX11_isSignHere_16 : decode cX11_isSignHere 16 = .ok (.iload_n 1, 1) := by decide +kernel
theorem dX11_isSignHere_17 : decode cX11_isSignHere 17 = .ok (.if_icmp .ne 7, 3) := by decide +kernel
theorem dX11_isSignHere_20 : decode cX11_isSignHere 20 = .ok (.iconst 1, 1) := by decide +kernel
theorem dX11_isSignHere_21 : decode cX11_isSignHere 21 = .ok (.goto 4, 3) := by decide +kernel
theorem dX11_isSignHere_24 : decode cX11_isSignHere 24 = .ok (.iconst 0, 1) := by decide +kernel
theorem dX11_isSignHere_25 : decode cX11_isSignHere 25 = .ok (.ireturn, 1) := by decide +kernel
theorem dX11_isWord_0 : decode cX11_isWord 0 = .ok (.aload_n 0, 1) := by decide +kernel
theorem dX11_isWord_1 : decode cX11_isWord 1 = .ok (.getfield 203, 3) := by decide +kernel
theorem dX11_isWord_4 : decode cX11_isWord 4 = .ok (.iconst 3, 1) := by decide +kernel
theorem dX11_isWord_5 : decode cX11_isWord 5 = .ok (.if_icmp .ne 16, 3) := by decide +kernel
theorem dX11_isWord_8 : decode cX11_isWord 8 = .ok (.aload_n 0, 1) := by decide +kernel
theorem dX11_isWord_9 : decode cX11_isWord 9 = .ok (.getfield 210, 3) := by decide +kernel
theorem dX11_isWord_12 : decode cX11_isWord 12 = .ok (.lload_n 1, 1) := by decide +kernel
theorem dX11_isWord_13 : decode cX11_isWord 13 = .ok (.lcmp, 1) := by decide +kernel
theorem dX11_isWord_14 : decode cX11_isWord 14 = .ok (.ifCond .ne 7, 3) := by decide +kernel
theorem dX11_isWord_17 : decode cX11_isWord 17 = .ok (.iconst 1, 1) := by decide +kernel
theorem dX11_isWord_18 : decode cX11_isWord 18 = .ok (.goto 4, 3) := by decide +kernel
theorem dX11_isWord_21 : decode cX11_isWord 21 = .ok (.iconst 0, 1) := by decide +kernel
theorem dX11_isWord_22 : decode cX11_isWord 22 = .ok (.ireturn, 1) := by decide +kernel
theorem dX11_misplaced_0 : decode cX11_misplaced 0 = .ok (.aload_n 0, 1) := by decide +kernel
theorem dX11_misplaced_1 : decode cX11_misplaced 1 = .ok (.aload_n 0, 1) := by decide +kernel
theorem dX11_misplaced_2 : decode cX11_misplaced 2 = .ok (.getfield 203, 3) := by decide +kernel
theorem dX11_misplaced_5 : decode cX11_misplaced 5 = .ok (.iconst 1, 1) := by decide +kernel
theorem dX11_misplaced_6 : decode cX11_misplaced 6 = .ok (.if_icmp .ne 7, 3) := by decide +kernel
theorem dX11_misplaced_9 : decode cX11_misplaced 9 = .ok (.iconst 1, 1) := by decide +kernel
theorem dX11_misplaced_10 : decode cX11_misplaced 10 = .ok (.goto 4, 3) := by decide +kernel
theorem dX11_misplaced_13 : decode cX11_misplaced 13 = .ok (.iconst 2, 1) := by decide +kernel
theorem dX11_misplaced_14 : decode cX11_misplaced 14 = .ok (.aload_n 0, 1) := by decide +kernel
theorem dX11_misplaced_15 : decode cX11_misplaced 15 = .ok (.getfield 196, 3) := by decide +kernel
theorem dX11_misplaced_18 : decode cX11_misplaced 18 = .ok (.invokevirtual 227, 3) := by decide +kernel
theorem dX11_misplaced_21 : decode cX11_misplaced 21 = .ok (.return_, 1) := by decide +kernel
theorem dX11_must_0 : decode cX11_must 0 = .ok (.aload_n 0, 1) := by decide +kernel
theorem dX11_must_1 : decode cX11_must 1 = .ok (.invokevirtual 231, 3) := by decide +kernel
theorem dX11_must_4 : decode cX11_must 4 = .ok (.ifCond .ne 4, 3) := by decide +kernel
theorem dX11_must_7 : decode cX11_must 7 = .ok (.return_, 1) := by decide +kernel
theorem dX11_must_8 : decode cX11_must 8 = .ok (.iload_n 1, 1) := by decide +kernel
theorem dX11_must_9 : decode cX11_must 9 = .ok (.ifCond .eq 10, 3) := by decide +kernel
theorem dX11_must_12 : decode cX11_must 12 = .ok (.aload_n 0, 1) := by decide +kernel
theorem dX11_must_13 : decode cX11_must 13 = .ok (.invokevirtual 235, 3) := by decide +kernel
theorem dX11_must_16 : decode cX11_must 16 = .ok (.goto 7, 3) := by decide +kernel
theorem dX11_must_19 : decode cX11_must 19 = .ok (.aload_n 0, 1) := by decide +kernel
theorem dX11_must_20 : decode cX11_must 20 = .ok (.invokevirtual 238, 3) := by decide +kernel
theorem dX11_must_23 : decode cX11_must 23 = .ok (.return_, 1) := by decide +kernel
theorem dX11_numeral_0 : decode cX11_numeral 0 = .ok (.aload_n 0, 1) := by decide +kernel
theorem dX11_numeral_1 : decode cX11_numeral 1 = .ok (.invokevirtual 231, 3) := by decide +kernel
theorem dX11_numeral_4 : decode cX11_numeral 4 = .ok (.ifCond .ne 5, 3) := by decide +kernel
theorem dX11_numeral_7 : decode cX11_numeral 7 = .ok (.iload_n 1, 1) := by decide +kernel
theorem dX11_numeral_8 : decode cX11_numeral 8 = .ok (.ireturn, 1) := by decide +kernel
theorem dX11_numeral_9 : decode cX11_numeral 9 = .ok (.aload_n 0, 1) := by decide +kernel
theorem dX11_numeral_10 : decode cX11_numeral 10 = .ok (.getfield 203, 3) := by decide +kernel
theorem dX11_numeral_13 : decode cX11_numeral 13 = .ok (.iconst 4, 1) := by decide +kernel
theorem dX11_numeral_14 : decode cX11_numeral 14 = .ok (.if_icmp .eq 7, 3) := by decide +kernel
theorem dX11_numeral_17 : decode cX11_numeral 17 = .ok (.aload_n 0, 1) := by decide +kernel
theorem dX11_numeral_18 : decode cX11_numeral 18 = .ok (.invokevirtual 238, 3) := by decide +kernel
theorem dX11_numeral_21 : decode cX11_numeral 21 = .ok (.aload_n 0, 1) := by decide +kernel
theorem dX11_numeral_22 : decode cX11_numeral 22 = .ok (.invokevirtual 231, 3) := by decide +kernel
theorem dX11_numeral_25 : decode cX11_numeral 25 = .ok (.ifCond .eq 28, 3) := by decide +kernel
theorem dX11_numeral_28 : decode cX11_numeral 28 = .ok (.aload_n 0, 1) := by decide +kernel
theorem dX11_numeral_29 : decode cX11_numeral 29 = .ok (.getfield 221, 3) := by decide +kernel
theorem dX11_numeral_32 : decode cX11_numeral 32 = .ok (.iload_n 1, 1) := by decide +kernel
theorem dX11_numeral_33 : decode cX11_numeral 33 = .ok (.if_icmp .lt 11, 3) := by decide +kernel
theorem dX11_numeral_36 : decode cX11_numeral 36 = .ok (.aload_n 0, 1) := by decide +kernel
theorem dX11_numeral_37 : decode cX11_numeral 37 = .ok (.getfield 221, 3) := by decide +kernel
theorem dX11_numeral_40 : decode cX11_numeral 40 = .ok (.iload_n 2, 1) := by decide +kernel
theorem dX11_numeral_41 : decode cX11_numeral 41 = .ok (.if_icmp .le 12, 3) := by decide +kernel
theorem dX11_numeral_44 : decode cX11_numeral 44 = .ok (.aload_n 0, 1) := by decide +kernel
theorem dX11_numeral_45 : decode cX11_numeral 45 = .ok (.iconst 4, 1) := by decide +kernel
theorem dX11_numeral_46 : decode cX11_numeral 46 = .ok (.aload_n 0, 1) := by decide +kernel
theorem dX11_numeral_47 : decode cX11_numeral 47 = .ok (.getfield 196, 3) := by decide +kernel
theorem dX11_numeral_50 : decode cX11_numeral 50 = .ok (.invokevirtual 227, 3) := by decide +kernel
theorem dX11_numeral_53 : decode cX11_numeral 53 = .ok (.aload_n 0, 1) := by decide +kernel
theorem dX11_numeral_54 : decode cX11_numeral 54 = .ok (.getfield 221, 3) := by decide +kernel
theorem dX11_numeral_57 : decode cX11_numeral 57 = .ok (.istore_n 3, 1) := by decide +kernel
theorem dX11_numeral_58 : decode cX11_numeral 58 = .ok (.aload_n 0, 1) := by decide +kernel
theorem dX11_numeral_59 : decode cX11_numeral 59 = .ok (.invokevirtual 231, 3) := by decide +kernel
theorem dX11_numeral_62 : decode cX11_numeral 62 = .ok (.ifCond .eq 7, 3) := by decide +kernel
theorem dX11_numeral_65 : decode cX11_numeral 65 = .ok (.aload_n 0, 1) := by decide +kernel
theorem dX11_numeral_66 : decode cX11_numeral 66 = .ok (.invokevirtual 235, 3) := by decide +kernel
theorem dX11_numeral_69 : decode cX11_numeral 69 = .ok (.aload_n 0, 1) := by decide +kernel
theorem dX11_numeral_70 : decode cX11_numeral 70 = .ok (.invokevirtual 231, 3) := by decide +kernel
theorem dX11_numeral_73 : decode cX11_numeral 73 = .ok (.ifCond .eq 7, 3) := by decide +kernel
theorem dX11_numeral_76 : decode cX11_numeral 76 = .ok (.iload_n 3, 1) := by decide +kernel
theorem dX11_numeral_77 : decode cX11_numeral 77 = .ok (.goto 4, 3) := by decide +kernel
theorem dX11_numeral_80 : decode cX11_numeral 80 = .ok (.iload_n 1, 1) := by decide +kernel
theorem dX11_numeral_81 : decode cX11_numeral 81 = .ok (.ireturn, 1) := by decide +kernel
theorem dX11_clearBank_0 : decode cX11_clearBank 0 = .ok (.aload_n 0, 1) := by decide +kernel
theorem dX11_clearBank_1 : decode cX11_clearBank 1 = .ok (.getfield 20, 3) := by decide +kernel
theorem dX11_clearBank_4 : decode cX11_clearBank 4 = .ok (.aload_n 0, 1) := by decide +kernel
theorem dX11_clearBank_5 : decode cX11_clearBank 5 = .ok (.getfield 241, 3) := by decide +kernel
theorem dX11_clearBank_8 : decode cX11_clearBank 8 = .ok (.bipush 8, 2) := by decide +kernel
theorem dX11_clearBank_10 : decode cX11_clearBank 10 = .ok (.iastore, 1) := by decide +kernel
theorem dX11_clearBank_11 : decode cX11_clearBank 11 = .ok (.aload_n 0, 1) := by decide +kernel
theorem dX11_clearBank_12 : decode cX11_clearBank 12 = .ok (.getfield 24, 3) := by decide +kernel
theorem dX11_clearBank_15 : decode cX11_clearBank 15 = .ok (.aload_n 0, 1) := by decide +kernel
theorem dX11_clearBank_16 : decode cX11_clearBank 16 = .ok (.getfield 241, 3) := by decide +kernel
theorem dX11_clearBank_19 : decode cX11_clearBank 19 = .ok (.iconst 0, 1) := by decide +kernel
theorem dX11_clearBank_20 : decode cX11_clearBank 20 = .ok (.iastore, 1) := by decide +kernel
theorem dX11_clearBank_21 : decode cX11_clearBank 21 = .ok (.aload_n 0, 1) := by decide +kernel
theorem dX11_clearBank_22 : decode cX11_clearBank 22 = .ok (.getfield 27, 3) := by decide +kernel
theorem dX11_clearBank_25 : decode cX11_clearBank 25 = .ok (.aload_n 0, 1) := by decide +kernel
theorem dX11_clearBank_26 : decode cX11_clearBank 26 = .ok (.getfield 241, 3) := by decide +kernel
theorem dX11_clearBank_29 : decode cX11_clearBank 29 = .ok (.iconst 0, 1) := by decide +kernel
theorem dX11_clearBank_30 : decode cX11_clearBank 30 = .ok (.iastore, 1) := by decide +kernel
theorem dX11_clearBank_31 : decode cX11_clearBank 31 = .ok (.aload_n 0, 1) := by decide +kernel
theorem dX11_clearBank_32 : decode cX11_clearBank 32 = .ok (.getfield 30, 3) := by decide +kernel
theorem dX11_clearBank_35 : decode cX11_clearBank 35 = .ok (.aload_n 0, 1) := by decide +kernel
theorem dX11_clearBank_36 : decode cX11_clearBank 36 = .ok (.getfield 241, 3) := by decide +kernel
theorem dX11_clearBank_39 : decode cX11_clearBank 39 = .ok (.iconst 0, 1) := by decide +kernel
theorem dX11_clearBank_40 : decode cX11_clearBank 40 = .ok (.iastore, 1) := by decide +kernel
theorem dX11_clearBank_41 : decode cX11_clearBank 41 = .ok (.aload_n 0, 1) := by decide +kernel
theorem dX11_clearBank_42 : decode cX11_clearBank 42 = .ok (.getfield 33, 3) := by decide +kernel
theorem dX11_clearBank_45 : decode cX11_clearBank 45 = .ok (.aload_n 0, 1) := by decide +kernel
theorem dX11_clearBank_46 : decode cX11_clearBank 46 = .ok (.getfield 241, 3) := by decide +kernel
theorem dX11_clearBank_49 : decode cX11_clearBank 49 = .ok (.bipush 100, 2) := by decide +kernel
theorem dX11_clearBank_51 : decode cX11_clearBank 51 = .ok (.iastore, 1) := by decide +kernel
theorem dX11_clearBank_52 : decode cX11_clearBank 52 = .ok (.aload_n 0, 1) := by decide +kernel
theorem dX11_clearBank_53 : decode cX11_clearBank 53 = .ok (.getfield 36, 3) := by decide +kernel
theorem dX11_clearBank_56 : decode cX11_clearBank 56 = .ok (.aload_n 0, 1) := by decide +kernel
theorem dX11_clearBank_57 : decode cX11_clearBank 57 = .ok (.getfield 241, 3) := by decide +kernel
theorem dX11_clearBank_60 : decode cX11_clearBank 60 = .ok (.iconst 0, 1) := by decide +kernel
theorem dX11_clearBank_61 : decode cX11_clearBank 61 = .ok (.iastore, 1) := by decide +kernel
theorem dX11_clearBank_62 : decode cX11_clearBank 62 = .ok (.aload_n 0, 1) := by decide +kernel
theorem dX11_clearBank_63 : decode cX11_clearBank 63 = .ok (.getfield 39, 3) := by decide +kernel
theorem dX11_clearBank_66 : decode cX11_clearBank 66 = .ok (.aload_n 0, 1) := by decide +kernel
theorem dX11_clearBank_67 : decode cX11_clearBank 67 = .ok (.getfield 241, 3) := by decide +kernel
theorem dX11_clearBank_70 : decode cX11_clearBank 70 = .ok (.iconst 0, 1) := by decide +kernel
theorem dX11_clearBank_71 : decode cX11_clearBank 71 = .ok (.iastore, 1) := by decide +kernel
theorem dX11_clearBank_72 : decode cX11_clearBank 72 = .ok (.aload_n 0, 1) := by decide +kernel
theorem dX11_clearBank_73 : decode cX11_clearBank 73 = .ok (.getfield 48, 3) := by decide +kernel
theorem dX11_clearBank_76 : decode cX11_clearBank 76 = .ok (.aload_n 0, 1) := by decide +kernel
theorem dX11_clearBank_77 : decode cX11_clearBank 77 = .ok (.getfield 241, 3) := by decide +kernel
theorem dX11_clearBank_80 : decode cX11_clearBank 80 = .ok (.iconst 0, 1) := by decide +kernel
theorem dX11_clearBank_81 : decode cX11_clearBank 81 = .ok (.bastore, 1) := by decide +kernel
theorem dX11_clearBank_82 : decode cX11_clearBank 82 = .ok (.aload_n 0, 1) := by decide +kernel
theorem dX11_clearBank_83 : decode cX11_clearBank 83 = .ok (.getfield 52, 3) := by decide +kernel
theorem dX11_clearBank_86 : decode cX11_clearBank 86 = .ok (.aload_n 0, 1) := by decide +kernel
theorem dX11_clearBank_87 : decode cX11_clearBank 87 = .ok (.getfield 241, 3) := by decide +kernel
theorem dX11_clearBank_90 : decode cX11_clearBank 90 = .ok (.iconst 0, 1) := by decide +kernel
theorem dX11_clearBank_91 : decode cX11_clearBank 91 = .ok (.bastore, 1) := by decide +kernel
theorem dX11_clearBank_92 : decode cX11_clearBank 92 = .ok (.aload_n 0, 1) := by decide +kernel
theorem dX11_clearBank_93 : decode cX11_clearBank 93 = .ok (.getfield 55, 3) := by decide +kernel
theorem dX11_clearBank_96 : decode cX11_clearBank 96 = .ok (.aload_n 0, 1) := by decide +kernel
theorem dX11_clearBank_97 : decode cX11_clearBank 97 = .ok (.getfield 241, 3) := by decide +kernel
theorem dX11_clearBank_100 : decode cX11_clearBank 100 = .ok (.iconst 0, 1) := by decide +kernel
theorem dX11_clearBank_101 : decode cX11_clearBank 101 = .ok (.bastore, 1) := by decide +kernel
theorem dX11_clearBank_102 : decode cX11_clearBank 102 = .ok (.aload_n 0, 1) := by decide +kernel
theorem dX11_clearBank_103 : decode cX11_clearBank 103 = .ok (.sipush 560, 3) := by decide +kernel
theorem dX11_clearBank_106 : decode cX11_clearBank 106 = .ok (.aload_n 0, 1) := by decide +kernel
theorem dX11_clearBank_107 : decode cX11_clearBank 107 = .ok (.getfield 241, 3) := by decide +kernel
theorem dX11_clearBank_110 : decode cX11_clearBank 110 = .ok (.imul, 1) := by decide +kernel
theorem dX11_clearBank_111 : decode cX11_clearBank 111 = .ok (.putfield 244, 3) := by decide +kernel
theorem dX11_clearBank_114 : decode cX11_clearBank 114 = .ok (.return_, 1) := by decide +kernel
theorem dX11_chancery_0 : decode cX11_chancery 0 = .ok (.aload_n 0, 1) := by decide +kernel
theorem dX11_chancery_1 : decode cX11_chancery 1 = .ok (.iconst 0, 1) := by decide +kernel
theorem dX11_chancery_2 : decode cX11_chancery 2 = .ok (.putfield 156, 3) := by decide +kernel
theorem dX11_chancery_5 : decode cX11_chancery 5 = .ok (.aload_n 0, 1) := by decide +kernel
theorem dX11_chancery_6 : decode cX11_chancery 6 = .ok (.iconst (-1), 1) := by decide +kernel
theorem dX11_chancery_7 : decode cX11_chancery 7 = .ok (.putfield 16, 3) := by decide +kernel
theorem dX11_chancery_10 : decode cX11_chancery 10 = .ok (.aload_n 0, 1) := by decide +kernel
theorem dX11_chancery_11 : decode cX11_chancery 11 = .ok (.aload_n 0, 1) := by decide +kernel
theorem dX11_chancery_12 : decode cX11_chancery 12 = .ok (.getfield 247, 3) := by decide +kernel
theorem dX11_chancery_15 : decode cX11_chancery 15 = .ok (.putfield 153, 3) := by decide +kernel
theorem dX11_chancery_18 : decode cX11_chancery 18 = .ok (.iconst 0, 1) := by decide +kernel
theorem dX11_chancery_19 : decode cX11_chancery 19 = .ok (.istore_n 1, 1) := by decide +kernel
theorem dX11_chancery_20 : decode cX11_chancery 20 = .ok (.iload_n 1, 1) := by decide +kernel
theorem dX11_chancery_21 : decode cX11_chancery 21 = .ok (.aload_n 0, 1) := by decide +kernel
theorem dX11_chancery_22 : decode cX11_chancery 22 = .ok (.getfield 153, 3) := by decide +kernel
theorem dX11_chancery_25 : decode cX11_chancery 25 = .ok (.if_icmp .ge 21, 3) := by decide +kernel
theorem dX11_chancery_28 : decode cX11_chancery 28 = .ok (.aload_n 0, 1) := by decide +kernel
theorem dX11_chancery_29 : decode cX11_chancery 29 = .ok (.getfield 13, 3) := by decide +kernel
theorem dX11_chancery_32 : decode cX11_chancery 32 = .ok (.iload_n 1, 1) := by decide +kernel
theorem dX11_chancery_33 : decode cX11_chancery 33 = .ok (.aload_n 0, 1) := by decide +kernel
theorem dX11_chancery_34 : decode cX11_chancery 34 = .ok (.getfield 7, 3) := by decide +kernel
theorem dX11_chancery_37 : decode cX11_chancery 37 = .ok (.iload_n 1, 1) := by decide +kernel
theorem dX11_chancery_38 : decode cX11_chancery 38 = .ok (.baload, 1) := by decide +kernel
theorem dX11_chancery_39 : decode cX11_chancery 39 = .ok (.bastore, 1) := by decide +kernel
theorem dX11_chancery_40 : decode cX11_chancery 40 = .ok (.iinc 1 1, 3) := by decide +kernel
theorem dX11_chancery_43 : decode cX11_chancery 43 = .ok (.goto (-23), 3) := by decide +kernel
theorem dX11_chancery_46 : decode cX11_chancery 46 = .ok (.aload_n 0, 1) := by decide +kernel
theorem dX11_chancery_47 : decode cX11_chancery 47 = .ok (.iconst 0, 1) := by decide +kernel
theorem dX11_chancery_48 : decode cX11_chancery 48 = .ok (.putfield 247, 3) := by decide +kernel
theorem dX11_chancery_51 : decode cX11_chancery 51 = .ok (.aload_n 0, 1) := by decide +kernel
theorem dX11_chancery_52 : decode cX11_chancery 52 = .ok (.iconst 0, 1) := by decide +kernel
theorem dX11_chancery_53 : decode cX11_chancery 53 = .ok (.putfield 193, 3) := by decide +kernel
theorem dX11_chancery_56 : decode cX11_chancery 56 = .ok (.aload_n 0, 1) := by decide +kernel
theorem dX11_chancery_57 : decode cX11_chancery 57 = .ok (.iconst 1, 1) := by decide +kernel
theorem dX11_chancery_58 : decode cX11_chancery 58 = .ok (.aload_n 0, 1) := by decide +kernel
theorem dX11_chancery_59 : decode cX11_chancery 59 = .ok (.getfield 250, 3) := by decide +kernel
theorem dX11_chancery_62 : decode cX11_chancery 62 = .ok (.isub, 1) := by decide +kernel
theorem dX11_chancery_63 : decode cX11_chancery 63 = .ok (.putfield 241, 3) := by decide +kernel
theorem dX11_chancery_66 : decode cX11_chancery 66 = .ok (.aload_n 0, 1) := by decide +kernel
theorem dX11_chancery_67 : decode cX11_chancery 67 = .ok (.invokevirtual 147, 3) := by decide +kernel
theorem dX11_chancery_70 : decode cX11_chancery 70 = .ok (.aload_n 0, 1) := by decide +kernel
theorem dX11_chancery_71 : decode cX11_chancery 71 = .ok (.invokevirtual 235, 3) := by decide +kernel
theorem dX11_chancery_74 : decode cX11_chancery 74 = .ok (.aload_n 0, 1) := by decide +kernel
theorem dX11_chancery_75 : decode cX11_chancery 75 = .ok (.invokevirtual 231, 3) := by decide +kernel
theorem dX11_chancery_78 : decode cX11_chancery 78 = .ok (.ifCond .eq 17, 3) := by decide +kernel
theorem dX11_chancery_81 : decode cX11_chancery 81 = .ok (.aload_n 0, 1) := by decide +kernel
theorem dX11_chancery_82 : decode cX11_chancery 82 = .ok (.getfield 203, 3) := by decide +kernel
theorem dX11_chancery_85 : decode cX11_chancery 85 = .ok (.ifCond .eq 10, 3) := by decide +kernel
theorem dX11_chancery_88 : decode cX11_chancery 88 = .ok (.aload_n 0, 1) := by decide +kernel
theorem dX11_chancery_89 : decode cX11_chancery 89 = .ok (.invokevirtual 253, 3) := by decide +kernel
theorem dX11_chancery_92 : decode cX11_chancery 92 = .ok (.goto (-18), 3) := by decide +kernel
theorem dX11_chancery_95 : decode cX11_chancery 95 = .ok (.aload_n 0, 1) := by decide +kernel
theorem dX11_chancery_96 : decode cX11_chancery 96 = .ok (.invokevirtual 231, 3) := by decide +kernel
theorem dX11_chancery_99 : decode cX11_chancery 99 = .ok (.ifCond .ne 5, 3) := by decide +kernel
theorem dX11_chancery_102 : decode cX11_chancery 102 = .ok (.iconst (-1), 1) := by decide +kernel
theorem dX11_chancery_103 : decode cX11_chancery 103 = .ok (.ireturn, 1) := by decide +kernel
theorem dX11_chancery_104 : decode cX11_chancery 104 = .ok (.aload_n 0, 1) := by decide +kernel
theorem dX11_chancery_105 : decode cX11_chancery 105 = .ok (.aload_n 0, 1) := by decide +kernel
theorem dX11_chancery_106 : decode cX11_chancery 106 = .ok (.getfield 241, 3) := by decide +kernel
theorem dX11_chancery_109 : decode cX11_chancery 109 = .ok (.putfield 250, 3) := by decide +kernel
theorem dX11_chancery_112 : decode cX11_chancery 112 = .ok (.aload_n 0, 1) := by decide +kernel
theorem dX11_chancery_113 : decode cX11_chancery 113 = .ok (.invokevirtual 150, 3) := by decide +kernel
theorem dX11_chancery_116 : decode cX11_chancery 116 = .ok (.aload_n 0, 1) := by decide +kernel
theorem dX11_chancery_117 : decode cX11_chancery 117 = .ok (.getfield 27, 3) := by decide +kernel
theorem dX11_chancery_120 : decode cX11_chancery 120 = .ok (.aload_n 0, 1) := by decide +kernel
theorem dX11_chancery_121 : decode cX11_chancery 121 = .ok (.getfield 250, 3) := by decide +kernel
theorem dX11_chancery_124 : decode cX11_chancery 124 = .ok (.iaload, 1) := by decide +kernel
theorem dX11_chancery_125 : decode cX11_chancery 125 = .ok (.ireturn, 1) := by decide +kernel
theorem dX11_isFull_0 : decode cX11_isFull 0 = .ok (.aload_n 0, 1) := by decide +kernel
theorem dX11_isFull_1 : decode cX11_isFull 1 = .ok (.ldc2_w 159, 3) := by decide +kernel
theorem dX11_isFull_4 : decode cX11_isFull 4 = .ok (.invokevirtual 256, 3) := by decide +kernel
theorem dX11_isFull_7 : decode cX11_isFull 7 = .ok (.ifCond .eq 21, 3) := by decide +kernel
theorem dX11_isFull_10 : decode cX11_isFull 10 = .ok (.aload_n 0, 1) := by decide +kernel
theorem dX11_isFull_11 : decode cX11_isFull 11 = .ok (.getfield 39, 3) := by decide +kernel
theorem dX11_isFull_14 : decode cX11_isFull 14 = .ok (.aload_n 0, 1) := by decide +kernel
theorem dX11_isFull_15 : decode cX11_isFull 15 = .ok (.getfield 241, 3) := by decide +kernel
theorem dX11_isFull_18 : decode cX11_isFull 18 = .ok (.iaload, 1) := by decide +kernel
theorem dX11_isFull_19 : decode cX11_isFull 19 = .ok (.ifCond .le 7, 3) := by decide +kernel
theorem dX11_isFull_22 : decode cX11_isFull 22 = .ok (.iconst 1, 1) := by decide +kernel
theorem dX11_isFull_23 : decode cX11_isFull 23 = .ok (.goto 4, 3) := by decide +kernel
theorem dX11_isFull_26 : decode cX11_isFull 26 = .ok (.iconst 0, 1) := by decide +kernel
theorem dX11_isFull_27 : decode cX11_isFull 27 = .ok (.ireturn, 1) := by decide +kernel
theorem dX11_isFull_28 : decode cX11_isFull 28 = .ok (.aload_n 0, 1) := by decide +kernel
theorem dX11_isFull_29 : decode cX11_isFull 29 = .ok (.ldc2_w 161, 3) := by decide +kernel
theorem dX11_isFull_32 : decode cX11_isFull 32 = .ok (.invokevirtual 256, 3) := by decide +kernel
theorem dX11_isFull_35 : decode cX11_isFull 35 = .ok (.ifCond .eq 13, 3) := by decide +kernel
theorem dX11_isFull_38 : decode cX11_isFull 38 = .ok (.aload_n 0, 1) := by decide +kernel
theorem dX11_isFull_39 : decode cX11_isFull 39 = .ok (.getfield 48, 3) := by decide +kernel
theorem dX11_isFull_42 : decode cX11_isFull 42 = .ok (.aload_n 0, 1) := by decide +kernel
theorem dX11_isFull_43 : decode cX11_isFull 43 = .ok (.getfield 241, 3) := by decide +kernel
theorem dX11_isFull_46 : decode cX11_isFull 46 = .ok (.baload, 1) := by decide +kernel
theorem dX11_isFull_47 : decode cX11_isFull 47 = .ok (.ireturn, 1) := by decide +kernel
theorem dX11_isFull_48 : decode cX11_isFull 48 = .ok (.aload_n 0, 1) := by decide +kernel
theorem dX11_isFull_49 : decode cX11_isFull 49 = .ok (.ldc2_w 163, 3) := by decide +kernel
theorem dX11_isFull_52 : decode cX11_isFull 52 = .ok (.invokevirtual 256, 3) := by decide +kernel
theorem dX11_isFull_55 : decode cX11_isFull 55 = .ok (.ifCond .eq 22, 3) := by decide +kernel
theorem dX11_isFull_58 : decode cX11_isFull 58 = .ok (.aload_n 0, 1) := by decide +kernel
theorem dX11_isFull_59 : decode cX11_isFull 59 = .ok (.getfield 27, 3) := by decide +kernel
theorem dX11_isFull_62 : decode cX11_isFull 62 = .ok (.aload_n 0, 1) := by decide +kernel
theorem dX11_isFull_63 : decode cX11_isFull 63 = .ok (.getfield 241, 3) := by decide +kernel
theorem dX11_isFull_66 : decode cX11_isFull 66 = .ok (.iaload, 1) := by decide +kernel
theorem dX11_isFull_67 : decode cX11_isFull 67 = .ok (.iconst 4, 1) := by decide +kernel
theorem dX11_isFull_68 : decode cX11_isFull 68 = .ok (.if_icmp .ne 7, 3) := by decide +kernel
theorem dX11_isFull_71 : decode cX11_isFull 71 = .ok (.iconst 1, 1) := by decide +kernel
theorem dX11_isFull_72 : decode cX11_isFull 72 = .ok (.goto 4, 3) := by decide +kernel
theorem dX11_isFull_75 : decode cX11_isFull 75 = .ok (.iconst 0, 1) := by decide +kernel
theorem dX11_isFull_76 : decode cX11_isFull 76 = .ok (.ireturn, 1) := by decide +kernel
theorem dX11_isFull_77 : decode cX11_isFull 77 = .ok (.aload_n 0, 1) := by decide +kernel
theorem dX11_isFull_78 : decode cX11_isFull 78 = .ok (.ldc2_w 169, 3) := by decide +kernel
theorem dX11_isFull_81 : decode cX11_isFull 81 = .ok (.invokevirtual 256, 3) := by decide +kernel
theorem dX11_isFull_84 : decode cX11_isFull 84 = .ok (.ifCond .eq 13, 3) := by decide +kernel
theorem dX11_isFull_87 : decode cX11_isFull 87 = .ok (.aload_n 0, 1) := by decide +kernel
theorem dX11_isFull_88 : decode cX11_isFull 88 = .ok (.getfield 52, 3) := by decide +kernel
theorem dX11_isFull_91 : decode cX11_isFull 91 = .ok (.aload_n 0, 1) := by decide +kernel
theorem dX11_isFull_92 : decode cX11_isFull 92 = .ok (.getfield 241, 3) := by decide +kernel
theorem dX11_isFull_95 : decode cX11_isFull 95 = .ok (.baload, 1) := by decide +kernel
theorem dX11_isFull_96 : decode cX11_isFull 96 = .ok (.ireturn, 1) := by decide +kernel
theorem dX11_isFull_97 : decode cX11_isFull 97 = .ok (.aload_n 0, 1) := by decide +kernel
theorem dX11_isFull_98 : decode cX11_isFull 98 = .ok (.ldc2_w 171, 3) := by decide +kernel
theorem dX11_isFull_101 : decode cX11_isFull 101 = .ok (.invokevirtual 256, 3) := by decide +kernel
theorem dX11_isFull_104 : decode cX11_isFull 104 = .ok (.ifCond .eq 15, 3) := by decide +kernel
theorem dX11_isFull_107 : decode cX11_isFull 107 = .ok (.aload_n 0, 1) := by decide +kernel
theorem dX11_isFull_108 : decode cX11_isFull 108 = .ok (.getfield 55, 3) := by decide +kernel
theorem dX11_isFull_111 : decode cX11_isFull 111 = .ok (.aload_n 0, 1) := by decide +kernel
theorem dX11_isFull_112 : decode cX11_isFull 112 = .ok (.getfield 241, 3) := by decide +kernel
theorem dX11_isFull_115 : decode cX11_isFull 115 = .ok (.baload, 1) := by decide +kernel
theorem dX11_isFull_116 : decode cX11_isFull 116 = .ok (.ifCond .eq 7, 3) := by decide +kernel
theorem dX11_isFull_119 : decode cX11_isFull 119 = .ok (.iconst 1, 1) := by decide +kernel
theorem dX11_isFull_120 : decode cX11_isFull 120 = .ok (.goto 4, 3) := by decide +kernel
theorem dX11_isFull_123 : decode cX11_isFull 123 = .ok (.iconst 0, 1) := by decide +kernel
theorem dX11_isFull_124 : decode cX11_isFull 124 = .ok (.ireturn, 1) := by decide +kernel
theorem dX11_readLine_0 : decode cX11_readLine 0 = .ok (.aload_n 0, 1) := by decide +kernel
theorem dX11_readLine_1 : decode cX11_readLine 1 = .ok (.getfield 210, 3) := by decide +kernel
theorem dX11_readLine_4 : decode cX11_readLine 4 = .ok (.lstore_n 1, 1) := by decide +kernel
theorem dX11_readLine_5 : decode cX11_readLine 5 = .ok (.aload_n 0, 1) := by decide +kernel
theorem dX11_readLine_6 : decode cX11_readLine 6 = .ok (.getfield 203, 3) := by decide +kernel
theorem dX11_readLine_9 : decode cX11_readLine 9 = .ok (.iconst 3, 1) := by decide +kernel
theorem dX11_readLine_10 : decode cX11_readLine 10 = .ok (.if_icmp .ne 10, 3) := by decide +kernel
theorem dX11_readLine_13 : decode cX11_readLine 13 = .ok (.aload_n 0, 1) := by decide +kernel
theorem dX11_readLine_14 : decode cX11_readLine 14 = .ok (.invokevirtual 259, 3) := by decide +kernel
theorem dX11_readLine_17 : decode cX11_readLine 17 = .ok (.ifCond .eq 7, 3) := by decide +kernel
theorem dX11_readLine_20 : decode cX11_readLine 20 = .ok (.aload_n 0, 1) := by decide +kernel
theorem dX11_readLine_21 : decode cX11_readLine 21 = .ok (.invokevirtual 238, 3) := by decide +kernel
theorem dX11_readLine_24 : decode cX11_readLine 24 = .ok (.aload_n 0, 1) := by decide +kernel
theorem dX11_readLine_25 : decode cX11_readLine 25 = .ok (.invokevirtual 231, 3) := by decide +kernel
theorem dX11_readLine_28 : decode cX11_readLine 28 = .ok (.ifCond .ne 4, 3) := by decide +kernel
theorem dX11_readLine_31 : decode cX11_readLine 31 = .ok (.return_, 1) := by decide +kernel
theorem dX11_readLine_32 : decode cX11_readLine 32 = .ok (.aload_n 0, 1) := by decide +kernel
theorem dX11_readLine_33 : decode cX11_readLine 33 = .ok (.invokevirtual 235, 3) := by decide +kernel
theorem dX11_readLine_36 : decode cX11_readLine 36 = .ok (.aload_n 0, 1) := by decide +kernel
theorem dX11_readLine_37 : decode cX11_readLine 37 = .ok (.getfield 39, 3) := by decide +kernel
theorem dX11_readLine_40 : decode cX11_readLine 40 = .ok (.aload_n 0, 1) := by decide +kernel
theorem dX11_readLine_41 : decode cX11_readLine 41 = .ok (.getfield 241, 3) := by decide +kernel
theorem dX11_readLine_44 : decode cX11_readLine 44 = .ok (.dup2, 1) := by decide +kernel
theorem dX11_readLine_45 : decode cX11_readLine 45 = .ok (.iaload, 1) := by decide +kernel
theorem dX11_readLine_46 : decode cX11_readLine 46 = .ok (.iconst 1, 1) := by decide +kernel
theorem dX11_readLine_47 : decode cX11_readLine 47 = .ok (.iadd, 1) := by decide +kernel
theorem dX11_readLine_48 : decode cX11_readLine 48 = .ok (.iastore, 1) := by decide +kernel
theorem dX11_readLine_49 : decode cX11_readLine 49 = .ok (.lload_n 1, 1) := by decide +kernel
theorem dX11_readLine_50 : decode cX11_readLine 50 = .ok (.ldc2_w 159, 3) := by decide +kernel
theorem dX11_readLine_53 : decode cX11_readLine 53 = .ok (.lcmp, 1) := by decide +kernel
theorem dX11_readLine_54 : decode cX11_readLine 54 = .ok (.ifCond .ne 19, 3) := by decide +kernel
theorem dX11_readLine_57 : decode cX11_readLine 57 = .ok (.aload_n 0, 1) := by decide +kernel
theorem dX11_readLine_58 : decode cX11_readLine 58 = .ok (.getfield 20, 3) := by decide +kernel
theorem dX11_readLine_61 : decode cX11_readLine 61 = .ok (.aload_n 0, 1) := by decide +kernel
theorem dX11_readLine_62 : decode cX11_readLine 62 = .ok (.getfield 241, 3) := by decide +kernel
theorem dX11_readLine_65 : decode cX11_readLine 65 = .ok (.aload_n 0, 1) := by decide +kernel
theorem dX11_readLine_66 : decode cX11_readLine 66 = .ok (.iconst 1, 1) := by decide +kernel
theorem dX11_readLine_67 : decode cX11_readLine 67 = .ok (.bipush 12, 2) := by decide +kernel
theorem dX11_readLine_69 : decode cX11_readLine 69 = .ok (.invokevirtual 262, 3) := by decide +kernel
theorem dX11_readLine_72 : decode cX11_readLine 72 = .ok (.iastore, 1) := by decide +kernel
theorem dX11_readLine_73 : decode cX11_readLine 73 = .ok (.lload_n 1, 1) := by decide +kernel
theorem dX11_readLine_74 : decode cX11_readLine 74 = .ok (.ldc2_w 161, 3) := by decide +kernel
theorem dX11_readLine_77 : decode cX11_readLine 77 = .ok (.lcmp, 1) := by decide +kernel
theorem dX11_readLine_78 : decode cX11_readLine 78 = .ok (.ifCond .ne 7, 3) := by decide +kernel
theorem dX11_readLine_81 : decode cX11_readLine 81 = .ok (.aload_n 0, 1) := by decide +kernel
theorem dX11_readLine_82 : decode cX11_readLine 82 = .ok (.invokevirtual 266, 3) := by decide +kernel
theorem dX11_readLine_85 : decode cX11_readLine 85 = .ok (.lload_n 1, 1) := by decide +kernel
theorem dX11_readLine_86 : decode cX11_readLine 86 = .ok (.ldc2_w 163, 3) := by decide +kernel
theorem dX11_readLine_89 : decode cX11_readLine 89 = .ok (.lcmp, 1) := by decide +kernel
theorem dX11_readLine_90 : decode cX11_readLine 90 = .ok (.ifCond .ne 7, 3) := by decide +kernel
theorem dX11_readLine_93 : decode cX11_readLine 93 = .ok (.aload_n 0, 1) := by decide +kernel
theorem dX11_readLine_94 : decode cX11_readLine 94 = .ok (.invokevirtual 269, 3) := by decide +kernel
theorem dX11_readLine_97 : decode cX11_readLine 97 = .ok (.lload_n 1, 1) := by decide +kernel
theorem dX11_readLine_98 : decode cX11_readLine 98 = .ok (.ldc2_w 169, 3) := by decide +kernel
theorem dX11_readLine_101 : decode cX11_readLine 101 = .ok (.lcmp, 1) := by decide +kernel
theorem dX11_readLine_102 : decode cX11_readLine 102 = .ok (.ifCond .ne 30, 3) := by decide +kernel
theorem dX11_readLine_105 : decode cX11_readLine 105 = .ok (.aload_n 0, 1) := by decide +kernel
theorem dX11_readLine_106 : decode cX11_readLine 106 = .ok (.getfield 52, 3) := by decide +kernel
theorem dX11_readLine_109 : decode cX11_readLine 109 = .ok (.aload_n 0, 1) := by decide +kernel
theorem dX11_readLine_110 : decode cX11_readLine 110 = .ok (.getfield 241, 3) := by decide +kernel
theorem dX11_readLine_113 : decode cX11_readLine 113 = .ok (.iconst 1, 1) := by decide +kernel
theorem dX11_readLine_114 : decode cX11_readLine 114 = .ok (.bastore, 1) := by decide +kernel
theorem dX11_readLine_115 : decode cX11_readLine 115 = .ok (.aload_n 0, 1) := by decide +kernel
theorem dX11_readLine_116 : decode cX11_readLine 116 = .ok (.getfield 33, 3) := by decide +kernel
theorem dX11_readLine_119 : decode cX11_readLine 119 = .ok (.aload_n 0, 1) := by decide +kernel
theorem dX11_readLine_120 : decode cX11_readLine 120 = .ok (.getfield 241, 3) := by decide +kernel
theorem dX11_readLine_123 : decode cX11_readLine 123 = .ok (.aload_n 0, 1) := by decide +kernel
theorem dX11_readLine_124 : decode cX11_readLine 124 = .ok (.iconst 0, 1) := by decide +kernel
theorem dX11_readLine_125 : decode cX11_readLine 125 = .ok (.sipush 999, 3) := by decide +kernel
theorem dX11_readLine_128 : decode cX11_readLine 128 = .ok (.invokevirtual 262, 3) := by decide +kernel
theorem dX11_readLine_131 : decode cX11_readLine 131 = .ok (.iastore, 1) := by decide +kernel
theorem dX11_readLine_132 : decode cX11_readLine 132 = .ok (.lload_n 1, 1) := by decide +kernel
theorem dX11_readLine_133 : decode cX11_readLine 133 = .ok (.ldc2_w 171, 3) := by decide +kernel
theorem dX11_readLine_136 : decode cX11_readLine 136 = .ok (.lcmp, 1) := by decide +kernel
theorem dX11_readLine_137 : decode cX11_readLine 137 = .ok (.ifCond .ne 30, 3) := by decide +kernel
theorem dX11_readLine_140 : decode cX11_readLine 140 = .ok (.aload_n 0, 1) := by decide +kernel
theorem dX11_readLine_141 : decode cX11_readLine 141 = .ok (.getfield 55, 3) := by decide +kernel
theorem dX11_readLine_144 : decode cX11_readLine 144 = .ok (.aload_n 0, 1) := by decide +kernel
theorem dX11_readLine_145 : decode cX11_readLine 145 = .ok (.getfield 241, 3) := by decide +kernel
theorem dX11_readLine_148 : decode cX11_readLine 148 = .ok (.iconst 1, 1) := by decide +kernel
theorem dX11_readLine_149 : decode cX11_readLine 149 = .ok (.bastore, 1) := by decide +kernel
theorem dX11_readLine_150 : decode cX11_readLine 150 = .ok (.aload_n 0, 1) := by decide +kernel
theorem dX11_readLine_151 : decode cX11_readLine 151 = .ok (.getfield 36, 3) := by decide +kernel
theorem dX11_readLine_154 : decode cX11_readLine 154 = .ok (.aload_n 0, 1) := by decide +kernel
theorem dX11_readLine_155 : decode cX11_readLine 155 = .ok (.getfield 241, 3) := by decide +kernel
theorem dX11_readLine_158 : decode cX11_readLine 158 = .ok (.aload_n 0, 1) := by decide +kernel
theorem dX11_readLine_159 : decode cX11_readLine 159 = .ok (.iconst 0, 1) := by decide +kernel
theorem dX11_readLine_160 : decode cX11_readLine 160 = .ok (.sipush 999, 3) := by decide +kernel
theorem dX11_readLine_163 : decode cX11_readLine 163 = .ok (.invokevirtual 262, 3) := by decide +kernel
theorem dX11_readLine_166 : decode cX11_readLine 166 = .ok (.iastore, 1) := by decide +kernel
theorem dX11_readLine_167 : decode cX11_readLine 167 = .ok (.aload_n 0, 1) := by decide +kernel
theorem dX11_readLine_168 : decode cX11_readLine 168 = .ok (.aload_n 0, 1) := by decide +kernel
theorem dX11_readLine_169 : decode cX11_readLine 169 = .ok (.bipush 59, 2) := by decide +kernel
theorem dX11_readLine_171 : decode cX11_readLine 171 = .ok (.invokevirtual 272, 3) := by decide +kernel
theorem dX11_readLine_174 : decode cX11_readLine 174 = .ok (.invokevirtual 275, 3) := by decide +kernel
theorem dX11_readLine_177 : decode cX11_readLine 177 = .ok (.return_, 1) := by decide +kernel
theorem dX11_readFirst_0 : decode cX11_readFirst 0 = .ok (.aload_n 0, 1) := by decide +kernel
theorem dX11_readFirst_1 : decode cX11_readFirst 1 = .ok (.getfield 48, 3) := by decide +kernel
theorem dX11_readFirst_4 : decode cX11_readFirst 4 = .ok (.aload_n 0, 1) := by decide +kernel
theorem dX11_readFirst_5 : decode cX11_readFirst 5 = .ok (.getfield 241, 3) := by decide +kernel
theorem dX11_readFirst_8 : decode cX11_readFirst 8 = .ok (.iconst 1, 1) := by decide +kernel
theorem dX11_readFirst_9 : decode cX11_readFirst 9 = .ok (.bastore, 1) := by decide +kernel
theorem dX11_readFirst_10 : decode cX11_readFirst 10 = .ok (.iconst 1, 1) := by decide +kernel
theorem dX11_readFirst_11 : decode cX11_readFirst 11 = .ok (.istore_n 1, 1) := by decide +kernel
theorem dX11_readFirst_12 : decode cX11_readFirst 12 = .ok (.aload_n 0, 1) := by decide +kernel
theorem dX11_readFirst_13 : decode cX11_readFirst 13 = .ok (.invokevirtual 231, 3) := by decide +kernel
theorem dX11_readFirst_16 : decode cX11_readFirst 16 = .ok (.ifCond .eq 92, 3) := by decide +kernel
theorem dX11_readFirst_19 : decode cX11_readFirst 19 = .ok (.iload_n 1, 1) := by decide +kernel
theorem dX11_readFirst_20 : decode cX11_readFirst 20 = .ok (.ifCond .eq 88, 3) := by decide +kernel
theorem dX11_readFirst_23 : decode cX11_readFirst 23 = .ok (.aload_n 0, 1) := by decide +kernel
theorem dX11_readFirst_24 : decode cX11_readFirst 24 = .ok (.getfield 196, 3) := by decide +kernel
theorem dX11_readFirst_27 : decode cX11_readFirst 27 = .ok (.istore_n 2, 1) := by decide +kernel
theorem dX11_readFirst_28 : decode cX11_readFirst 28 = .ok (.aload_n 0, 1) := by decide +kernel
theorem dX11_readFirst_29 : decode cX11_readFirst 29 = .ok (.iconst 0, 1) := by decide +kernel
theorem dX11_readFirst_30 : decode cX11_readFirst 30 = .ok (.aload_n 0, 1) := by decide +kernel
theorem dX11_readFirst_31 : decode cX11_readFirst 31 = .ok (.getfield 20, 3) := by decide +kernel
theorem dX11_readFirst_34 : decode cX11_readFirst 34 = .ok (.aload_n 0, 1) := by decide +kernel
theorem dX11_readFirst_35 : decode cX11_readFirst 35 = .ok (.getfield 241, 3) := by decide +kernel
theorem dX11_readFirst_38 : decode cX11_readFirst 38 = .ok (.iaload, 1) := by decide +kernel
theorem dX11_readFirst_39 : decode cX11_readFirst 39 = .ok (.iconst 1, 1) := by decide +kernel
theorem dX11_readFirst_40 : decode cX11_readFirst 40 = .ok (.isub, 1) := by decide +kernel
theorem dX11_readFirst_41 : decode cX11_readFirst 41 = .ok (.invokevirtual 262, 3) := by decide +kernel
theorem dX11_readFirst_44 : decode cX11_readFirst 44 = .ok (.istore_n 3, 1) := by decide +kernel
theorem dX11_readFirst_45 : decode cX11_readFirst 45 = .ok (.aload_n 0, 1) := by decide +kernel
theorem dX11_readFirst_46 : decode cX11_readFirst 46 = .ok (.invokevirtual 231, 3) := by decide +kernel
theorem dX11_readFirst_49 : decode cX11_readFirst 49 = .ok (.ifCond .ne 4, 3) := by decide +kernel
theorem dX11_readFirst_52 : decode cX11_readFirst 52 = .ok (.return_, 1) := by decide +kernel
theorem dX11_readFirst_53 : decode cX11_readFirst 53 = .ok (.aload_n 0, 1) := by decide +kernel
theorem dX11_readFirst_54 : decode cX11_readFirst 54 = .ok (.getfield 24, 3) := by decide +kernel
theorem dX11_readFirst_57 : decode cX11_readFirst 57 = .ok (.aload_n 0, 1) := by decide +kernel
theorem dX11_readFirst_58 : decode cX11_readFirst 58 = .ok (.getfield 241, 3) := by decide +kernel
theorem dX11_readFirst_61 : decode cX11_readFirst 61 = .ok (.iaload, 1) := by decide +kernel
theorem dX11_readFirst_62 : decode cX11_readFirst 62 = .ok (.iload_n 3, 1) := by decide +kernel
theorem dX11_readFirst_63 : decode cX11_readFirst 63 = .ok (.ishr, 1) := by decide +kernel
theorem dX11_readFirst_64 : decode cX11_readFirst 64 = .ok (.iconst 1, 1) := by decide +kernel
theorem dX11_readFirst_65 : decode cX11_readFirst 65 = .ok (.iand, 1) := by decide +kernel
theorem dX11_readFirst_66 : decode cX11_readFirst 66 = .ok (.iconst 1, 1) := by decide +kernel
theorem dX11_readFirst_67 : decode cX11_readFirst 67 = .ok (.if_icmp .ne 9, 3) := by decide +kernel
theorem dX11_readFirst_70 : decode cX11_readFirst 70 = .ok (.aload_n 0, 1) := by decide +kernel
theorem dX11_readFirst_71 : decode cX11_readFirst 71 = .ok (.iconst 3, 1) := by decide +kernel
theorem dX11_readFirst_72 : decode cX11_readFirst 72 = .ok (.iload_n 2, 1) := by decide +kernel
theorem dX11_readFirst_73 : decode cX11_readFirst 73 = .ok (.invokevirtual 227, 3) := by decide +kernel
theorem dX11_readFirst_76 : decode cX11_readFirst 76 = .ok (.aload_n 0, 1) := by decide +kernel
theorem dX11_readFirst_77 : decode cX11_readFirst 77 = .ok (.getfield 24, 3) := by decide +kernel
theorem dX11_readFirst_80 : decode cX11_readFirst 80 = .ok (.aload_n 0, 1) := by decide +kernel
theorem dX11_readFirst_81 : decode cX11_readFirst 81 = .ok (.getfield 241, 3) := by decide +kernel
theorem dX11_readFirst_84 : decode cX11_readFirst 84 = .ok (.dup2, 1) := by decide +kernel
theorem dX11_readFirst_85 : decode cX11_readFirst 85 = .ok (.iaload, 1) := by decide +kernel
theorem dX11_readFirst_86 : decode cX11_readFirst 86 = .ok (.iconst 1, 1) := by decide +kernel
theorem dX11_readFirst_87 : decode cX11_readFirst 87 = .ok (.iload_n 3, 1) := by decide +kernel
theorem dX11_readFirst_88 : decode cX11_readFirst 88 = .ok (.ishl, 1) := by decide +kernel
theorem dX11_readFirst_89 : decode cX11_readFirst 89 = .ok (.ior, 1) := by decide +kernel
theorem dX11_readFirst_90 : decode cX11_readFirst 90 = .ok (.iastore, 1) := by decide +kernel
theorem dX11_readFirst_91 : decode cX11_readFirst 91 = .ok (.aload_n 0, 1) := by decide +kernel
theorem dX11_readFirst_92 : decode cX11_readFirst 92 = .ok (.getfield 203, 3) := by decide +kernel
theorem dX11_readFirst_95 : decode cX11_readFirst 95 = .ok (.iconst 4, 1) := by decide +kernel
theorem dX11_readFirst_96 : decode cX11_readFirst 96 = .ok (.if_icmp .ne 7, 3) := by decide +kernel
theorem dX11_readFirst_99 : decode cX11_readFirst 99 = .ok (.iconst 1, 1) := by decide +kernel
theorem dX11_readFirst_100 : decode cX11_readFirst 100 = .ok (.goto 4, 3) := by decide +kernel
theorem dX11_readFirst_103 : decode cX11_readFirst 103 = .ok (.iconst 0, 1) := by decide +kernel
theorem dX11_readFirst_104 : decode cX11_readFirst 104 = .ok (.istore_n 1, 1) := by decide +kernel
theorem dX11_readFirst_105 : decode cX11_readFirst 105 = .ok (.goto (-93), 3) := by decide +kernel
theorem dX11_readFirst_108 : decode cX11_readFirst 108 = .ok (.return_, 1) := by decide +kernel
theorem dX11_handHere_0 : decode cX11_handHere 0 = .ok (.iconst 0, 1) := by decide +kernel
theorem dX11_handHere_1 : decode cX11_handHere 1 = .ok (.istore_n 1, 1) := by decide +kernel
theorem dX11_handHere_2 : decode cX11_handHere 2 = .ok (.iload_n 1, 1) := by decide +kernel
theorem dX11_handHere_3 : decode cX11_handHere 3 = .ok (.aload_n 0, 1) := by decide +kernel
theorem dX11_handHere_4 : decode cX11_handHere 4 = .ok (.getfield 27, 3) := by decide +kernel
theorem dX11_handHere_7 : decode cX11_handHere 7 = .ok (.aload_n 0, 1) := by decide +kernel
theorem dX11_handHere_8 : decode cX11_handHere 8 = .ok (.getfield 241, 3) := by decide +kernel
theorem dX11_handHere_11 : decode cX11_handHere 11 = .ok (.iaload, 1) := by decide +kernel
theorem dX11_handHere_12 : decode cX11_handHere 12 = .ok (.if_icmp .ge 40, 3) := by decide +kernel
theorem dX11_handHere_15 : decode cX11_handHere 15 = .ok (.aload_n 0, 1) := by decide +kernel
theorem dX11_handHere_16 : decode cX11_handHere 16 = .ok (.getfield 203, 3) := by decide +kernel
theorem dX11_handHere_19 : decode cX11_handHere 19 = .ok (.iconst 2, 1) := by decide +kernel
theorem dX11_handHere_20 : decode cX11_handHere 20 = .ok (.if_icmp .ne 26, 3) := by decide +kernel
theorem dX11_handHere_23 : decode cX11_handHere 23 = .ok (.aload_n 0, 1) := by decide +kernel
theorem dX11_handHere_24 : decode cX11_handHere 24 = .ok (.getfield 58, 3) := by decide +kernel
theorem dX11_handHere_27 : decode cX11_handHere 27 = .ok (.iconst 4, 1) := by decide +kernel
theorem dX11_handHere_28 : decode cX11_handHere 28 = .ok (.aload_n 0, 1) := by decide +kernel
theorem dX11_handHere_29 : decode cX11_handHere 29 = .ok (.getfield 241, 3) := by decide +kernel
theorem dX11_handHere_32 : decode cX11_handHere 32 = .ok (.imul, 1) := by decide +kernel
theorem dX11_handHere_33 : decode cX11_handHere 33 = .ok (.iload_n 1, 1) := by decide +kernel
theorem dX11_handHere_34 : decode cX11_handHere 34 = .ok (.iadd, 1) := by decide +kernel
theorem dX11_handHere_35 : decode cX11_handHere 35 = .ok (.laload, 1) := by decide +kernel
theorem dX11_handHere_36 : decode cX11_handHere 36 = .ok (.aload_n 0, 1) := by decide +kernel
theorem dX11_handHere_37 : decode cX11_handHere 37 = .ok (.getfield 210, 3) := by decide +kernel
theorem dX11_handHere_40 : decode cX11_handHere 40 = .ok (.lcmp, 1) := by decide +kernel
theorem dX11_handHere_41 : decode cX11_handHere 41 = .ok (.ifCond .ne 5, 3) := by decide +kernel
theorem dX11_handHere_44 : decode cX11_handHere 44 = .ok (.iload_n 1, 1) := by decide +kernel
theorem dX11_handHere_45 : decode cX11_handHere 45 = .ok (.ireturn, 1) := by decide +kernel
theorem dX11_handHere_46 : decode cX11_handHere 46 = .ok (.iinc 1 1, 3) := by decide +kernel
theorem dX11_handHere_49 : decode cX11_handHere 49 = .ok (.goto (-47), 3) := by decide +kernel
theorem dX11_handHere_52 : decode cX11_handHere 52 = .ok (.iconst (-1), 1) := by decide +kernel
theorem dX11_handHere_53 : decode cX11_handHere 53 = .ok (.ireturn, 1) := by decide +kernel
theorem dX11_readHand_0 : decode cX11_readHand 0 = .ok (.iconst 4, 1) := by decide +kernel
theorem dX11_readHand_1 : decode cX11_readHand 1 = .ok (.aload_n 0, 1) := by decide +kernel
theorem dX11_readHand_2 : decode cX11_readHand 2 = .ok (.getfield 241, 3) := by decide +kernel
theorem dX11_readHand_5 : decode cX11_readHand 5 = .ok (.imul, 1) := by decide +kernel
theorem dX11_readHand_6 : decode cX11_readHand 6 = .ok (.aload_n 0, 1) := by decide +kernel
theorem dX11_readHand_7 : decode cX11_readHand 7 = .ok (.getfield 27, 3) := by decide +kernel
theorem dX11_readHand_10 : decode cX11_readHand 10 = .ok (.aload_n 0, 1) := by decide +kernel
theorem dX11_readHand_11 : decode cX11_readHand 11 = .ok (.getfield 241, 3) := by decide +kernel
theorem dX11_readHand_14 : decode cX11_readHand 14 = .ok (.iaload, 1) := by decide +kernel
theorem dX11_readHand_15 : decode cX11_readHand 15 = .ok (.iadd, 1) := by decide +kernel
theorem dX11_readHand_16 : decode cX11_readHand 16 = .ok (.istore_n 1, 1) := by decide +kernel
theorem dX11_readHand_17 : decode cX11_readHand 17 = .ok (.aload_n 0, 1) := by decide +kernel
theorem dX11_readHand_18 : decode cX11_readHand 18 = .ok (.getfield 203, 3) := by decide +kernel
theorem dX11_readHand_21 : decode cX11_readHand 21 = .ok (.iconst 2, 1) := by decide +kernel
theorem dX11_readHand_22 : decode cX11_readHand 22 = .ok (.if_icmp .eq 10, 3) := by decide +kernel
theorem dX11_readHand_25 : decode cX11_readHand 25 = .ok (.aload_n 0, 1) := by decide +kernel
theorem dX11_readHand_26 : decode cX11_readHand 26 = .ok (.invokevirtual 238, 3) := by decide +kernel
theorem dX11_readHand_29 : decode cX11_readHand 29 = .ok (.goto 19, 3) := by decide +kernel
theorem dX11_readHand_32 : decode cX11_readHand 32 = .ok (.aload_n 0, 1) := by decide +kernel
theorem dX11_readHand_33 : decode cX11_readHand 33 = .ok (.invokevirtual 279, 3) := by decide +kernel
theorem dX11_readHand_36 : decode cX11_readHand 36 = .ok (.ifCond .lt 12, 3) := by decide +kernel
theorem dX11_readHand_39 : decode cX11_readHand 39 = .ok (.aload_n 0, 1) := by decide +kernel
theorem dX11_readHand_40 : decode cX11_readHand 40 = .ok (.iconst 3, 1) := by decide +kernel
theorem dX11_readHand_41 : decode cX11_readHand 41 = .ok (.aload_n 0, 1) := by decide +kernel
theorem dX11_readHand_42 : decode cX11_readHand 42 = .ok (.getfield 196, 3) := by decide +kernel
theorem dX11_readHand_45 : decode cX11_readHand 45 = .ok (.invokevirtual 227, 3) := by decide +kernel
theorem dX11_readHand_48 : decode cX11_readHand 48 = .ok (.aload_n 0, 1) := by decide +kernel
theorem dX11_readHand_49 : decode cX11_readHand 49 = .ok (.invokevirtual 231, 3) := by decide +kernel
theorem dX11_readHand_52 : decode cX11_readHand 52 = .ok (.ifCond .ne 4, 3) := by decide +kernel
theorem dX11_readHand_55 : decode cX11_readHand 55 = .ok (.return_, 1) := by decide +kernel
theorem dX11_readHand_56 : decode cX11_readHand 56 = .ok (.aload_n 0, 1) := by decide +kernel
theorem dX11_readHand_57 : decode cX11_readHand 57 = .ok (.getfield 58, 3) := by decide +kernel
theorem dX11_readHand_60 : decode cX11_readHand 60 = .ok (.iload_n 1, 1) := by decide +kernel
theorem dX11_readHand_61 : decode cX11_readHand 61 = .ok (.aload_n 0, 1) := by decide +kernel
theorem dX11_readHand_62 : decode cX11_readHand 62 = .ok (.getfield 210, 3) := by decide +kernel
theorem dX11_readHand_65 : decode cX11_readHand 65 = .ok (.lastore, 1) := by decide +kernel
theorem dX11_readHand_66 : decode cX11_readHand 66 = .ok (.aload_n 0, 1) := by decide +kernel
theorem dX11_readHand_67 : decode cX11_readHand 67 = .ok (.invokevirtual 235, 3) := by decide +kernel
theorem dX11_readHand_70 : decode cX11_readHand 70 = .ok (.aload_n 0, 1) := by decide +kernel
theorem dX11_readHand_71 : decode cX11_readHand 71 = .ok (.aload_n 0, 1) := by decide +kernel
theorem dX11_readHand_72 : decode cX11_readHand 72 = .ok (.ldc2_w 165, 3) := by decide +kernel
theorem dX11_readHand_75 : decode cX11_readHand 75 = .ok (.invokevirtual 256, 3) := by decide +kernel
theorem dX11_readHand_78 : decode cX11_readHand 78 = .ok (.invokevirtual 275, 3) := by decide +kernel
theorem dX11_readHand_81 : decode cX11_readHand 81 = .ok (.aload_n 0, 1) := by decide +kernel
theorem dX11_readHand_82 : decode cX11_readHand 82 = .ok (.invokevirtual 231, 3) := by decide +kernel
theorem dX11_readHand_85 : decode cX11_readHand 85 = .ok (.ifCond .eq 18, 3) := by decide +kernel
theorem dX11_readHand_88 : decode cX11_readHand 88 = .ok (.aload_n 0, 1) := by decide +kernel
theorem dX11_readHand_89 : decode cX11_readHand 89 = .ok (.iconst 2, 1) := by decide +kernel
theorem dX11_readHand_90 : decode cX11_readHand 90 = .ok (.aload_n 0, 1) := by decide +kernel
theorem dX11_readHand_91 : decode cX11_readHand 91 = .ok (.getfield 27, 3) := by decide +kernel
theorem dX11_readHand_94 : decode cX11_readHand 94 = .ok (.aload_n 0, 1) := by decide +kernel
theorem dX11_readHand_95 : decode cX11_readHand 95 = .ok (.getfield 241, 3) := by decide +kernel
theorem dX11_readHand_98 : decode cX11_readHand 98 = .ok (.iaload, 1) := by decide +kernel
theorem dX11_readHand_99 : decode cX11_readHand 99 = .ok (.imul, 1) := by decide +kernel
theorem dX11_readHand_100 : decode cX11_readHand 100 = .ok (.invokevirtual 283, 3) := by decide +kernel
theorem dX11_readHand_103 : decode cX11_readHand 103 = .ok (.aload_n 0, 1) := by decide +kernel
theorem dX11_readHand_104 : decode cX11_readHand 104 = .ok (.aload_n 0, 1) := by decide +kernel
theorem dX11_readHand_105 : decode cX11_readHand 105 = .ok (.ldc2_w 167, 3) := by decide +kernel
theorem dX11_readHand_108 : decode cX11_readHand 108 = .ok (.invokevirtual 256, 3) := by decide +kernel
theorem dX11_readHand_111 : decode cX11_readHand 111 = .ok (.invokevirtual 275, 3) := by decide +kernel
theorem dX11_readHand_114 : decode cX11_readHand 114 = .ok (.aload_n 0, 1) := by decide +kernel
theorem dX11_readHand_115 : decode cX11_readHand 115 = .ok (.invokevirtual 231, 3) := by decide +kernel
theorem dX11_readHand_118 : decode cX11_readHand 118 = .ok (.ifCond .eq 20, 3) := by decide +kernel
theorem dX11_readHand_121 : decode cX11_readHand 121 = .ok (.aload_n 0, 1) := by decide +kernel
theorem dX11_readHand_122 : decode cX11_readHand 122 = .ok (.iconst 2, 1) := by decide +kernel
theorem dX11_readHand_123 : decode cX11_readHand 123 = .ok (.aload_n 0, 1) := by decide +kernel
theorem dX11_readHand_124 : decode cX11_readHand 124 = .ok (.getfield 27, 3) := by decide +kernel
theorem dX11_readHand_127 : decode cX11_readHand 127 = .ok (.aload_n 0, 1) := by decide +kernel
theorem dX11_readHand_128 : decode cX11_readHand 128 = .ok (.getfield 241, 3) := by decide +kernel
theorem dX11_readHand_131 : decode cX11_readHand 131 = .ok (.iaload, 1) := by decide +kernel
theorem dX11_readHand_132 : decode cX11_readHand 132 = .ok (.imul, 1) := by decide +kernel
theorem dX11_readHand_133 : decode cX11_readHand 133 = .ok (.iconst 1, 1) := by decide +kernel
theorem dX11_readHand_134 : decode cX11_readHand 134 = .ok (.iadd, 1) := by decide +kernel
theorem dX11_readHand_135 : decode cX11_readHand 135 = .ok (.invokevirtual 283, 3) := by decide +kernel
theorem dX11_readHand_138 : decode cX11_readHand 138 = .ok (.aload_n 0, 1) := by decide +kernel
theorem dX11_readHand_139 : decode cX11_readHand 139 = .ok (.getfield 27, 3) := by decide +kernel
theorem dX11_readHand_142 : decode cX11_readHand 142 = .ok (.aload_n 0, 1) := by decide +kernel
theorem dX11_readHand_143 : decode cX11_readHand 143 = .ok (.getfield 241, 3) := by decide +kernel
theorem dX11_readHand_146 : decode cX11_readHand 146 = .ok (.dup2, 1) := by decide +kernel
theorem dX11_readHand_147 : decode cX11_readHand 147 = .ok (.iaload, 1) := by decide +kernel
theorem dX11_readHand_148 : decode cX11_readHand 148 = .ok (.iconst 1, 1) := by decide +kernel
theorem dX11_readHand_149 : decode cX11_readHand 149 = .ok (.iadd, 1) := by decide +kernel
theorem dX11_readHand_150 : decode cX11_readHand 150 = .ok (.iastore, 1) := by decide +kernel
theorem dX11_readHand_151 : decode cX11_readHand 151 = .ok (.return_, 1) := by decide +kernel
theorem dX11_readRule_0 : decode cX11_readRule 0 = .ok (.aload_n 0, 1) := by decide +kernel
theorem dX11_readRule_1 : decode cX11_readRule 1 = .ok (.iconst 0, 1) := by decide +kernel
theorem dX11_readRule_2 : decode cX11_readRule 2 = .ok (.putfield 287, 3) := by decide +kernel
theorem dX11_readRule_5 : decode cX11_readRule 5 = .ok (.aload_n 0, 1) := by decide +kernel
theorem dX11_readRule_6 : decode cX11_readRule 6 = .ok (.getfield 42, 3) := by decide +kernel
theorem dX11_readRule_9 : decode cX11_readRule 9 = .ok (.bipush 8, 2) := by decide +kernel
theorem dX11_readRule_11 : decode cX11_readRule 11 = .ok (.aload_n 0, 1) := by decide +kernel
theorem dX11_readRule_12 : decode cX11_readRule 12 = .ok (.getfield 241, 3) := by decide +kernel
theorem dX11_readRule_15 : decode cX11_readRule 15 = .ok (.imul, 1) := by decide +kernel
theorem dX11_readRule_16 : decode cX11_readRule 16 = .ok (.iload_n 1, 1) := by decide +kernel
theorem dX11_readRule_17 : decode cX11_readRule 17 = .ok (.iadd, 1) := by decide +kernel
theorem dX11_readRule_18 : decode cX11_readRule 18 = .ok (.aload_n 0, 1) := by decide +kernel
theorem dX11_readRule_19 : decode cX11_readRule 19 = .ok (.getfield 244, 3) := by decide +kernel
theorem dX11_readRule_22 : decode cX11_readRule 22 = .ok (.iastore, 1) := by decide +kernel
theorem dX11_readRule_23 : decode cX11_readRule 23 = .ok (.aload_n 0, 1) := by decide +kernel
theorem dX11_readRule_24 : decode cX11_readRule 24 = .ok (.invokevirtual 290, 3) := by decide +kernel
theorem dX11_readRule_27 : decode cX11_readRule 27 = .ok (.aload_n 0, 1) := by decide +kernel
theorem dX11_readRule_28 : decode cX11_readRule 28 = .ok (.getfield 45, 3) := by decide +kernel
theorem dX11_readRule_31 : decode cX11_readRule 31 = .ok (.bipush 8, 2) := by decide +kernel
theorem dX11_readRule_33 : decode cX11_readRule 33 = .ok (.aload_n 0, 1) := by decide +kernel
theorem dX11_readRule_34 : decode cX11_readRule 34 = .ok (.getfield 241, 3) := by decide +kernel
theorem dX11_readRule_37 : decode cX11_readRule 37 = .ok (.imul, 1) := by decide +kernel
theorem dX11_readRule_38 : decode cX11_readRule 38 = .ok (.iload_n 1, 1) := by decide +kernel
theorem dX11_readRule_39 : decode cX11_readRule 39 = .ok (.iadd, 1) := by decide +kernel
theorem dX11_readRule_40 : decode cX11_readRule 40 = .ok (.aload_n 0, 1) := by decide +kernel
theorem dX11_readRule_41 : decode cX11_readRule 41 = .ok (.getfield 244, 3) := by decide +kernel
theorem dX11_readRule_44 : decode cX11_readRule 44 = .ok (.iastore, 1) := by decide +kernel
theorem dX11_readRule_45 : decode cX11_readRule 45 = .ok (.return_, 1) := by decide +kernel
theorem dX11_emit_0 : decode cX11_emit 0 = .ok (.aload_n 0, 1) := by decide +kernel
theorem dX11_emit_1 : decode cX11_emit 1 = .ok (.getfield 62, 3) := by decide +kernel
theorem dX11_emit_4 : decode cX11_emit 4 = .ok (.aload_n 0, 1) := by decide +kernel
theorem dX11_emit_5 : decode cX11_emit 5 = .ok (.getfield 244, 3) := by decide +kernel
theorem dX11_emit_8 : decode cX11_emit 8 = .ok (.iload_n 1, 1) := by decide +kernel
theorem dX11_emit_9 : decode cX11_emit 9 = .ok (.iastore, 1) := by decide +kernel
theorem dX11_emit_10 : decode cX11_emit 10 = .ok (.aload_n 0, 1) := by decide +kernel
theorem dX11_emit_11 : decode cX11_emit 11 = .ok (.getfield 65, 3) := by decide +kernel
theorem dX11_emit_14 : decode cX11_emit 14 = .ok (.aload_n 0, 1) := by decide +kernel
theorem dX11_emit_15 : decode cX11_emit 15 = .ok (.getfield 244, 3) := by decide +kernel
theorem dX11_emit_18 : decode cX11_emit 18 = .ok (.iload_n 2, 1) := by decide +kernel
theorem dX11_emit_19 : decode cX11_emit 19 = .ok (.iastore, 1) := by decide +kernel
theorem dX11_emit_20 : decode cX11_emit 20 = .ok (.aload_n 0, 1) := by decide +kernel
theorem dX11_emit_21 : decode cX11_emit 21 = .ok (.dup, 1) := by decide +kernel
theorem dX11_emit_22 : decode cX11_emit 22 = .ok (.getfield 244, 3) := by decide +kernel
theorem dX11_emit_25 : decode cX11_emit 25 = .ok (.iconst 1, 1) := by decide +kernel
theorem dX11_emit_26 : decode cX11_emit 26 = .ok (.iadd, 1) := by decide +kernel
theorem dX11_emit_27 : decode cX11_emit 27 = .ok (.putfield 244, 3) := by decide +kernel
theorem dX11_emit_30 : decode cX11_emit 30 = .ok (.return_, 1) := by decide +kernel
theorem dX11_pushE_0 : decode cX11_pushE 0 = .ok (.aload_n 0, 1) := by decide +kernel
theorem dX11_pushE_1 : decode cX11_pushE 1 = .ok (.getfield 68, 3) := by decide +kernel
theorem dX11_pushE_4 : decode cX11_pushE 4 = .ok (.aload_n 0, 1) := by decide +kernel
theorem dX11_pushE_5 : decode cX11_pushE 5 = .ok (.getfield 293, 3) := by decide +kernel
theorem dX11_pushE_8 : decode cX11_pushE 8 = .ok (.iload_n 1, 1) := by decide +kernel
theorem dX11_pushE_9 : decode cX11_pushE 9 = .ok (.iastore, 1) := by decide +kernel
theorem dX11_pushE_10 : decode cX11_pushE 10 = .ok (.aload_n 0, 1) := by decide +kernel
theorem dX11_pushE_11 : decode cX11_pushE 11 = .ok (.getfield 71, 3) := by decide +kernel
theorem dX11_pushE_14 : decode cX11_pushE 14 = .ok (.aload_n 0, 1) := by decide +kernel
theorem dX11_pushE_15 : decode cX11_pushE 15 = .ok (.getfield 293, 3) := by decide +kernel
theorem dX11_pushE_18 : decode cX11_pushE 18 = .ok (.iload_n 2, 1) := by decide +kernel
theorem dX11_pushE_19 : decode cX11_pushE 19 = .ok (.iastore, 1) := by decide +kernel
theorem dX11_pushE_20 : decode cX11_pushE 20 = .ok (.aload_n 0, 1) := by decide +kernel
theorem dX11_pushE_21 : decode cX11_pushE 21 = .ok (.dup, 1) := by decide +kernel
theorem dX11_pushE_22 : decode cX11_pushE 22 = .ok (.getfield 293, 3) := by decide +kernel
theorem dX11_pushE_25 : decode cX11_pushE 25 = .ok (.iconst 1, 1) := by decide +kernel
theorem dX11_pushE_26 : decode cX11_pushE 26 = .ok (.iadd, 1) := by decide +kernel
theorem dX11_pushE_27 : decode cX11_pushE 27 = .ok (.putfield 293, 3) := by decide +kernel
theorem dX11_pushE_30 : decode cX11_pushE 30 = .ok (.return_, 1) := by decide +kernel
theorem dX11_e_0 : decode cX11_e 0 = .ok (.aload_n 0, 1) := by decide +kernel
theorem dX11_e_1 : decode cX11_e 1 = .ok (.iconst 0, 1) := by decide +kernel
theorem dX11_e_2 : decode cX11_e 2 = .ok (.putfield 293, 3) := by decide +kernel
theorem dX11_e_5 : decode cX11_e 5 = .ok (.aload_n 0, 1) := by decide +kernel
theorem dX11_e_6 : decode cX11_e 6 = .ok (.iconst 0, 1) := by decide +kernel
theorem dX11_e_7 : decode cX11_e 7 = .ok (.putfield 296, 3) := by decide +kernel
theorem dX11_e_10 : decode cX11_e 10 = .ok (.aload_n 0, 1) := by decide +kernel
theorem dX11_e_11 : decode cX11_e 11 = .ok (.bipush 8, 2) := by decide +kernel
theorem dX11_e_13 : decode cX11_e 13 = .ok (.iconst 0, 1) := by decide +kernel
theorem dX11_e_14 : decode cX11_e 14 = .ok (.invokevirtual 299, 3) := by decide +kernel
theorem dX11_e_17 : decode cX11_e 17 = .ok (.iconst 1, 1) := by decide +kernel
theorem dX11_e_18 : decode cX11_e 18 = .ok (.istore_n 1, 1) := by decide +kernel
theorem dX11_e_19 : decode cX11_e 19 = .ok (.aload_n 0, 1) := by decide +kernel
theorem dX11_e_20 : decode cX11_e 20 = .ok (.invokevirtual 231, 3) := by decide +kernel
theorem dX11_e_23 : decode cX11_e 23 = .ok (.ifCond .eq 29, 3) := by decide +kernel
theorem dX11_e_26 : decode cX11_e 26 = .ok (.aload_n 0, 1) := by decide +kernel
theorem dX11_e_27 : decode cX11_e 27 = .ok (.getfield 293, 3) := by decide +kernel
theorem dX11_e_30 : decode cX11_e 30 = .ok (.ifCond .le 22, 3) := by decide +kernel
theorem dX11_e_33 : decode cX11_e 33 = .ok (.iload_n 1, 1) := by decide +kernel
theorem dX11_e_34 : decode cX11_e 34 = .ok (.ifCond .eq 10, 3) := by decide +kernel
theorem dX11_e_37 : decode cX11_e 37 = .ok (.aload_n 0, 1) := by decide +kernel
theorem dX11_e_38 : decode cX11_e 38 = .ok (.invokevirtual 302, 3) := by decide +kernel
theorem dX11_e_41 : decode cX11_e 41 = .ok (.goto 7, 3) := by decide +kernel
theorem dX11_e_44 : decode cX11_e 44 = .ok (.aload_n 0, 1) := by decide +kernel
theorem dX11_e_45 : decode cX11_e 45 = .ok (.invokevirtual 305, 3) := by decide +kernel
theorem dX11_e_48 : decode cX11_e 48 = .ok (.istore_n 1, 1) := by decide +kernel
theorem dX11_e_49 : decode cX11_e 49 = .ok (.goto (-30), 3) := by decide +kernel
theorem dX11_e_52 : decode cX11_e 52 = .ok (.return_, 1) := by decide +kernel
theorem dX11_wordHere_0 : decode cX11_wordHere 0 = .ok (.aload_n 0, 1) := by decide +kernel
theorem dX11_wordHere_1 : decode cX11_wordHere 1 = .ok (.ldc2_w 173, 3) := by decide +kernel
theorem dX11_wordHere_4 : decode cX11_wordHere 4 = .ok (.invokevirtual 256, 3) := by decide +kernel
theorem dX11_wordHere_7 : decode cX11_wordHere 7 = .ok (.ifCond .eq 6, 3) := by decide +kernel
theorem dX11_wordHere_10 : decode cX11_wordHere 10 = .ok (.bipush 109, 2) := by decide +kernel
theorem dX11_wordHere_12 : decode cX11_wordHere 12 = .ok (.ireturn, 1) := by decide +kernel
theorem dX11_wordHere_13 : decode cX11_wordHere 13 = .ok (.aload_n 0, 1) := by decide +kernel
theorem dX11_wordHere_14 : decode cX11_wordHere 14 = .ok (.ldc2_w 175, 3) := by decide +kernel
theorem dX11_wordHere_17 : decode cX11_wordHere 17 = .ok (.invokevirtual 256, 3) := by decide +kernel
theorem dX11_wordHere_20 : decode cX11_wordHere 20 = .ok (.ifCond .eq 6, 3) := by decide +kernel
theorem dX11_wordHere_23 : decode cX11_wordHere 23 = .ok (.bipush 104, 2) := by decide +kernel
theorem dX11_wordHere_25 : decode cX11_wordHere 25 = .ok (.ireturn, 1) := by decide +kernel
theorem dX11_wordHere_26 : decode cX11_wordHere 26 = .ok (.aload_n 0, 1) := by decide +kernel
theorem dX11_wordHere_27 : decode cX11_wordHere 27 = .ok (.ldc2_w 177, 3) := by decide +kernel
theorem dX11_wordHere_30 : decode cX11_wordHere 30 = .ok (.invokevirtual 256, 3) := by decide +kernel
theorem dX11_wordHere_33 : decode cX11_wordHere 33 = .ok (.ifCond .eq 6, 3) := by decide +kernel
theorem dX11_wordHere_36 : decode cX11_wordHere 36 = .ok (.bipush 108, 2) := by decide +kernel
theorem dX11_wordHere_38 : decode cX11_wordHere 38 = .ok (.ireturn, 1) := by decide +kernel
theorem dX11_wordHere_39 : decode cX11_wordHere 39 = .ok (.aload_n 0, 1) := by decide +kernel
theorem dX11_wordHere_40 : decode cX11_wordHere 40 = .ok (.ldc2_w 179, 3) := by decide +kernel
theorem dX11_wordHere_43 : decode cX11_wordHere 43 = .ok (.invokevirtual 256, 3) := by decide +kernel
theorem dX11_wordHere_46 : decode cX11_wordHere 46 = .ok (.ifCond .eq 6, 3) := by decide +kernel
theorem dX11_wordHere_49 : decode cX11_wordHere 49 = .ok (.bipush 114, 2) := by decide +kernel
theorem dX11_wordHere_51 : decode cX11_wordHere 51 = .ok (.ireturn, 1) := by decide +kernel
theorem dX11_wordHere_52 : decode cX11_wordHere 52 = .ok (.aload_n 0, 1) := by decide +kernel
theorem dX11_wordHere_53 : decode cX11_wordHere 53 = .ok (.ldc2_w 181, 3) := by decide +kernel
theorem dX11_wordHere_56 : decode cX11_wordHere 56 = .ok (.invokevirtual 256, 3) := by decide +kernel
theorem dX11_wordHere_59 : decode cX11_wordHere 59 = .ok (.ifCond .eq 6, 3) := by decide +kernel
theorem dX11_wordHere_62 : decode cX11_wordHere 62 = .ok (.bipush 121, 2) := by decide +kernel
theorem dX11_wordHere_64 : decode cX11_wordHere 64 = .ok (.ireturn, 1) := by decide +kernel
theorem dX11_wordHere_65 : decode cX11_wordHere 65 = .ok (.aload_n 0, 1) := by decide +kernel
theorem dX11_wordHere_66 : decode cX11_wordHere 66 = .ok (.ldc2_w 183, 3) := by decide +kernel
theorem dX11_wordHere_69 : decode cX11_wordHere 69 = .ok (.invokevirtual 256, 3) := by decide +kernel
theorem dX11_wordHere_72 : decode cX11_wordHere 72 = .ok (.ifCond .eq 6, 3) := by decide +kernel
theorem dX11_wordHere_75 : decode cX11_wordHere 75 = .ok (.bipush 106, 2) := by decide +kernel
theorem dX11_wordHere_77 : decode cX11_wordHere 77 = .ok (.ireturn, 1) := by decide +kernel
theorem dX11_wordHere_78 : decode cX11_wordHere 78 = .ok (.aload_n 0, 1) := by decide +kernel
theorem dX11_wordHere_79 : decode cX11_wordHere 79 = .ok (.ldc2_w 185, 3) := by decide +kernel
theorem dX11_wordHere_82 : decode cX11_wordHere 82 = .ok (.invokevirtual 256, 3) := by decide +kernel
theorem dX11_wordHere_85 : decode cX11_wordHere 85 = .ok (.ifCond .eq 6, 3) := by decide +kernel
theorem dX11_wordHere_88 : decode cX11_wordHere 88 = .ok (.bipush 116, 2) := by decide +kernel
theorem dX11_wordHere_90 : decode cX11_wordHere 90 = .ok (.ireturn, 1) := by decide +kernel
theorem dX11_wordHere_91 : decode cX11_wordHere 91 = .ok (.aload_n 0, 1) := by decide +kernel
theorem dX11_wordHere_92 : decode cX11_wordHere 92 = .ok (.ldc2_w 171, 3) := by decide +kernel
theorem dX11_wordHere_95 : decode cX11_wordHere 95 = .ok (.invokevirtual 256, 3) := by decide +kernel
theorem dX11_wordHere_98 : decode cX11_wordHere 98 = .ok (.ifCond .eq 8, 3) := by decide +kernel
theorem dX11_wordHere_101 : decode cX11_wordHere 101 = .ok (.bipush 100, 2) := by decide +kernel
theorem dX11_wordHere_103 : decode cX11_wordHere 103 = .ok (.goto 4, 3) := by decide +kernel
theorem dX11_wordHere_106 : decode cX11_wordHere 106 = .ok (.iconst 0, 1) := by decide +kernel
theorem dX11_wordHere_107 : decode cX11_wordHere 107 = .ok (.ireturn, 1) := by decide +kernel
theorem dX11_unit_0 : decode cX11_unit 0 = .ok (.aload_n 0, 1) := by decide +kernel
theorem dX11_unit_1 : decode cX11_unit 1 = .ok (.getfield 68, 3) := by decide +kernel
theorem dX11_unit_4 : decode cX11_unit 4 = .ok (.aload_n 0, 1) := by decide +kernel
theorem dX11_unit_5 : decode cX11_unit 5 = .ok (.getfield 293, 3) := by decide +kernel
theorem dX11_unit_8 : decode cX11_unit 8 = .ok (.iconst 1, 1) := by decide +kernel
theorem dX11_unit_9 : decode cX11_unit 9 = .ok (.isub, 1) := by decide +kernel
theorem dX11_unit_10 : decode cX11_unit 10 = .ok (.iaload, 1) := by decide +kernel
theorem dX11_unit_11 : decode cX11_unit 11 = .ok (.iconst 3, 1) := by decide +kernel
theorem dX11_unit_12 : decode cX11_unit 12 = .ok (.if_icmp .le 19, 3) := by decide +kernel
theorem dX11_unit_15 : decode cX11_unit 15 = .ok (.aload_n 0, 1) := by decide +kernel
theorem dX11_unit_16 : decode cX11_unit 16 = .ok (.getfield 68, 3) := by decide +kernel
theorem dX11_unit_19 : decode cX11_unit 19 = .ok (.aload_n 0, 1) := by decide +kernel
theorem dX11_unit_20 : decode cX11_unit 20 = .ok (.getfield 293, 3) := by decide +kernel
theorem dX11_unit_23 : decode cX11_unit 23 = .ok (.iconst 1, 1) := by decide +kernel
theorem dX11_unit_24 : decode cX11_unit 24 = .ok (.isub, 1) := by decide +kernel
theorem dX11_unit_25 : decode cX11_unit 25 = .ok (.iaload, 1) := by decide +kernel
theorem dX11_unit_26 : decode cX11_unit 26 = .ok (.bipush 7, 2) := by decide +kernel
theorem dX11_unit_28 : decode cX11_unit 28 = .ok (.if_icmp .lt 7, 3) := by decide +kernel
theorem dX11_unit_31 : decode cX11_unit 31 = .ok (.iconst 1, 1) := by decide +kernel
theorem dX11_unit_32 : decode cX11_unit 32 = .ok (.goto 4, 3) := by decide +kernel
theorem dX11_unit_35 : decode cX11_unit 35 = .ok (.iconst 0, 1) := by decide +kernel
theorem dX11_unit_36 : decode cX11_unit 36 = .ok (.istore_n 1, 1) := by decide +kernel
theorem dX11_unit_37 : decode cX11_unit 37 = .ok (.iload_n 1, 1) := by decide +kernel
theorem dX11_unit_38 : decode cX11_unit 38 = .ok (.ifCond .eq 17, 3) := by decide +kernel
theorem dX11_unit_41 : decode cX11_unit 41 = .ok (.aload_n 0, 1) := by decide +kernel
theorem dX11_unit_42 : decode cX11_unit 42 = .ok (.ldc2_w 191, 3) := by decide +kernel
theorem dX11_unit_45 : decode cX11_unit 45 = .ok (.invokevirtual 256, 3) := by decide +kernel
theorem dX11_unit_48 : decode cX11_unit 48 = .ok (.ifCond .eq 7, 3) := by decide +kernel
theorem dX11_unit_51 : decode cX11_unit 51 = .ok (.iconst 1, 1) := by decide +kernel
theorem dX11_unit_52 : decode cX11_unit 52 = .ok (.goto 4, 3) := by decide +kernel
theorem dX11_unit_55 : decode cX11_unit 55 = .ok (.iconst 0, 1) := by decide +kernel
theorem dX11_unit_56 : decode cX11_unit 56 = .ok (.istore_n 2, 1) := by decide +kernel
theorem dX11_unit_57 : decode cX11_unit 57 = .ok (.aload_n 0, 1) := by decide +kernel
theorem dX11_unit_58 : decode cX11_unit 58 = .ok (.bipush 40, 2) := by decide +kernel
theorem dX11_unit_60 : decode cX11_unit 60 = .ok (.invokevirtual 272, 3) := by decide +kernel
theorem dX11_unit_63 : decode cX11_unit 63 = .ok (.istore_n 3, 1) := by decide +kernel
theorem dX11_unit_64 : decode cX11_unit 64 = .ok (.aload_n 0, 1) := by decide +kernel
theorem dX11_unit_65 : decode cX11_unit 65 = .ok (.invokevirtual 308, 3) := by decide +kernel
theorem dX11_unit_68 : decode cX11_unit 68 = .ok (.istore 4, 2) := by decide +kernel
theorem dX11_unit_70 : decode cX11_unit 70 = .ok (.aload_n 0, 1) := by decide +kernel
theorem dX11_unit_71 : decode cX11_unit 71 = .ok (.getfield 30, 3) := by decide +kernel
theorem dX11_unit_74 : decode cX11_unit 74 = .ok (.aload_n 0, 1) := by decide +kernel
theorem dX11_unit_75 : decode cX11_unit 75 = .ok (.getfield 241, 3) := by decide +kernel
theorem dX11_unit_78 : decode cX11_unit 78 = .ok (.iaload, 1) := by decide +kernel
theorem dX11_unit_79 : decode cX11_unit 79 = .ok (.bipush 90, 2) := by decide +kernel
theorem dX11_unit_81 : decode cX11_unit 81 = .ok (.if_icmp .eq 12, 3) := by decide +kernel
theorem dX11_unit_84 : decode cX11_unit 84 = .ok (.aload_n 0, 1) := by decide +kernel
theorem dX11_unit_85 : decode cX11_unit 85 = .ok (.getfield 287, 3) := by decide +kernel
theorem dX11_unit_88 : decode cX11_unit 88 = .ok (.bipush 30, 2) := by decide +kernel
theorem dX11_unit_90 : decode cX11_unit 90 = .ok (.if_icmp .ne 7, 3) := by decide +kernel
theorem dX11_unit_93 : decode cX11_unit 93 = .ok (.iconst 1, 1) := by decide +kernel
theorem dX11_unit_94 : decode cX11_unit 94 = .ok (.goto 4, 3) := by decide +kernel
theorem dX11_unit_97 : decode cX11_unit 97 = .ok (.iconst 0, 1) := by decide +kernel
theorem dX11_unit_98 : decode cX11_unit 98 = .ok (.istore 5, 2) := by decide +kernel
theorem dX11_unit_100 : decode cX11_unit 100 = .ok (.iload_n 2, 1) := by decide +kernel
theorem dX11_unit_101 : decode cX11_unit 101 = .ok (.ifCond .ne 25, 3) := by decide +kernel
theorem dX11_unit_104 : decode cX11_unit 104 = .ok (.iload 4, 2) := by decide +kernel
theorem dX11_unit_106 : decode cX11_unit 106 = .ok (.ifCond .ne 15, 3) := by decide +kernel
theorem dX11_unit_109 : decode cX11_unit 109 = .ok (.aload_n 0, 1) := by decide +kernel
theorem dX11_unit_110 : decode cX11_unit 110 = .ok (.getfield 203, 3) := by decide +kernel
theorem dX11_unit_113 : decode cX11_unit 113 = .ok (.iconst 4, 1) := by decide +kernel
theorem dX11_unit_114 : decode cX11_unit 114 = .ok (.if_icmp .eq 7, 3) := by decide +kernel
theorem dX11_unit_117 : decode cX11_unit 117 = .ok (.iload_n 3, 1) := by decide +kernel
theorem dX11_unit_118 : decode cX11_unit 118 = .ok (.ifCond .eq 25, 3) := by decide +kernel
theorem dX11_unit_121 : decode cX11_unit 121 = .ok (.iload 5, 2) := by decide +kernel
theorem dX11_unit_123 : decode cX11_unit 123 = .ok (.ifCond .ne 20, 3) := by decide +kernel
theorem dX11_unit_126 : decode cX11_unit 126 = .ok (.iload_n 2, 1) := by decide +kernel
theorem dX11_unit_127 : decode cX11_unit 127 = .ok (.ifCond .ne 7, 3) := by decide +kernel
theorem dX11_unit_130 : decode cX11_unit 130 = .ok (.iload_n 3, 1) := by decide +kernel
theorem dX11_unit_131 : decode cX11_unit 131 = .ok (.ifCond .eq 16, 3) := by decide +kernel
theorem dX11_unit_134 : decode cX11_unit 134 = .ok (.aload_n 0, 1) := by decide +kernel
theorem dX11_unit_135 : decode cX11_unit 135 = .ok (.getfield 296, 3) := by decide +kernel
theorem dX11_unit_138 : decode cX11_unit 138 = .ok (.bipush 7, 2) := by decide +kernel
theorem dX11_unit_140 : decode cX11_unit 140 = .ok (.if_icmp .ne 7, 3) := by decide +kernel
theorem dX11_unit_143 : decode cX11_unit 143 = .ok (.aload_n 0, 1) := by decide +kernel
theorem dX11_unit_144 : decode cX11_unit 144 = .ok (.invokevirtual 238, 3) := by decide +kernel
theorem dX11_unit_147 : decode cX11_unit 147 = .ok (.aload_n 0, 1) := by decide +kernel
theorem dX11_unit_148 : decode cX11_unit 148 = .ok (.invokevirtual 231, 3) := by decide +kernel
theorem dX11_unit_151 : decode cX11_unit 151 = .ok (.ifCond .ne 5, 3) := by decide +kernel
theorem dX11_unit_154 : decode cX11_unit 154 = .ok (.iconst 1, 1) := by decide +kernel
theorem dX11_unit_155 : decode cX11_unit 155 = .ok (.ireturn, 1) := by decide +kernel
theorem dX11_unit_156 : decode cX11_unit 156 = .ok (.aload_n 0, 1) := by decide +kernel
theorem dX11_unit_157 : decode cX11_unit 157 = .ok (.getfield 30, 3) := by decide +kernel
theorem dX11_unit_160 : decode cX11_unit 160 = .ok (.aload_n 0, 1) := by decide +kernel
theorem dX11_unit_161 : decode cX11_unit 161 = .ok (.getfield 241, 3) := by decide +kernel
theorem dX11_unit_164 : decode cX11_unit 164 = .ok (.dup2, 1) := by decide +kernel
theorem dX11_unit_165 : decode cX11_unit 165 = .ok (.iaload, 1) := by decide +kernel
theorem dX11_unit_166 : decode cX11_unit 166 = .ok (.iload_n 2, 1) := by decide +kernel
theorem dX11_unit_167 : decode cX11_unit 167 = .ok (.ifCond .eq 7, 3) := by decide +kernel
theorem dX11_unit_170 : decode cX11_unit 170 = .ok (.iconst 0, 1) := by decide +kernel
theorem dX11_unit_171 : decode cX11_unit 171 = .ok (.goto 4, 3) := by decide +kernel
theorem dX11_unit_174 : decode cX11_unit 174 = .ok (.iconst 1, 1) := by decide +kernel
theorem dX11_unit_175 : decode cX11_unit 175 = .ok (.iadd, 1) := by decide +kernel
theorem dX11_unit_176 : decode cX11_unit 176 = .ok (.iastore, 1) := by decide +kernel
theorem dX11_unit_177 : decode cX11_unit 177 = .ok (.aload_n 0, 1) := by decide +kernel
theorem dX11_unit_178 : decode cX11_unit 178 = .ok (.dup, 1) := by decide +kernel
theorem dX11_unit_179 : decode cX11_unit 179 = .ok (.getfield 287, 3) := by decide +kernel
theorem dX11_unit_182 : decode cX11_unit 182 = .ok (.iload_n 2, 1) := by decide +kernel
theorem dX11_unit_183 : decode cX11_unit 183 = .ok (.ifCond .eq 7, 3) := by decide +kernel
theorem dX11_unit_186 : decode cX11_unit 186 = .ok (.iconst 0, 1) := by decide +kernel
theorem dX11_unit_187 : decode cX11_unit 187 = .ok (.goto 4, 3) := by decide +kernel
theorem dX11_unit_190 : decode cX11_unit 190 = .ok (.iconst 1, 1) := by decide +kernel
theorem dX11_unit_191 : decode cX11_unit 191 = .ok (.iadd, 1) := by decide +kernel
theorem dX11_unit_192 : decode cX11_unit 192 = .ok (.putfield 287, 3) := by decide +kernel
theorem dX11_unit_195 : decode cX11_unit 195 = .ok (.iload 4, 2) := by decide +kernel
theorem dX11_unit_197 : decode cX11_unit 197 = .ok (.ifCond .ne 10, 3) := by decide +kernel
theorem dX11_unit_200 : decode cX11_unit 200 = .ok (.aload_n 0, 1) := by decide +kernel
theorem dX11_unit_201 : decode cX11_unit 201 = .ok (.getfield 221, 3) := by decide +kernel
theorem dX11_unit_204 : decode cX11_unit 204 = .ok (.goto 4, 3) := by decide +kernel
theorem dX11_unit_207 : decode cX11_unit 207 = .ok (.iconst 0, 1) := by decide +kernel
theorem dX11_unit_208 : decode cX11_unit 208 = .ok (.istore 6, 2) := by decide +kernel
theorem dX11_unit_210 : decode cX11_unit 210 = .ok (.aload_n 0, 1) := by decide +kernel
theorem dX11_unit_211 : decode cX11_unit 211 = .ok (.invokevirtual 235, 3) := by decide +kernel
theorem dX11_unit_214 : decode cX11_unit 214 = .ok (.iload_n 2, 1) := by decide +kernel
theorem dX11_unit_215 : decode cX11_unit 215 = .ok (.ifCond .ne 7, 3) := by decide +kernel
theorem dX11_unit_218 : decode cX11_unit 218 = .ok (.iload_n 3, 1) := by decide +kernel
theorem dX11_unit_219 : decode cX11_unit 219 = .ok (.ifCond .eq 31, 3) := by decide +kernel
theorem dX11_unit_222 : decode cX11_unit 222 = .ok (.aload_n 0, 1) := by decide +kernel
theorem dX11_unit_223 : decode cX11_unit 223 = .ok (.iload_n 2, 1) := by decide +kernel
theorem dX11_unit_224 : decode cX11_unit 224 = .ok (.ifCond .eq 7, 3) := by decide +kernel
theorem dX11_unit_227 : decode cX11_unit 227 = .ok (.iconst 3, 1) := by decide +kernel
theorem dX11_unit_228 : decode cX11_unit 228 = .ok (.goto 5, 3) := by decide +kernel
theorem dX11_unit_231 : decode cX11_unit 231 = .ok (.bipush 7, 2) := by decide +kernel
theorem dX11_unit_233 : decode cX11_unit 233 = .ok (.bipush 126, 2) := by decide +kernel
theorem dX11_unit_235 : decode cX11_unit 235 = .ok (.invokevirtual 299, 3) := by decide +kernel
theorem dX11_unit_238 : decode cX11_unit 238 = .ok (.aload_n 0, 1) := by decide +kernel
theorem dX11_unit_239 : decode cX11_unit 239 = .ok (.dup, 1) := by decide +kernel
theorem dX11_unit_240 : decode cX11_unit 240 = .ok (.getfield 296, 3) := by decide +kernel
theorem dX11_unit_243 : decode cX11_unit 243 = .ok (.iconst 1, 1) := by decide +kernel
theorem dX11_unit_244 : decode cX11_unit 244 = .ok (.iadd, 1) := by decide +kernel
theorem dX11_unit_245 : decode cX11_unit 245 = .ok (.putfield 296, 3) := by decide +kernel
theorem dX11_unit_248 : decode cX11_unit 248 = .ok (.iconst 1, 1) := by decide +kernel
theorem dX11_unit_249 : decode cX11_unit 249 = .ok (.ireturn, 1) := by decide +kernel
theorem dX11_unit_250 : decode cX11_unit 250 = .ok (.aload_n 0, 1) := by decide +kernel
theorem dX11_unit_251 : decode cX11_unit 251 = .ok (.iload 4, 2) := by decide +kernel
theorem dX11_unit_253 : decode cX11_unit 253 = .ok (.ifCond .ne 8, 3) := by decide +kernel
theorem dX11_unit_256 : decode cX11_unit 256 = .ok (.bipush 110, 2) := by decide +kernel
theorem dX11_unit_258 : decode cX11_unit 258 = .ok (.goto 5, 3) := by decide +kernel
theorem dX11_unit_261 : decode cX11_unit 261 = .ok (.iload 4, 2) := by decide +kernel
theorem dX11_unit_263 : decode cX11_unit 263 = .ok (.iload 6, 2) := by decide +kernel
theorem dX11_unit_265 : decode cX11_unit 265 = .ok (.invokevirtual 311, 3) := by decide +kernel
theorem dX11_unit_268 : decode cX11_unit 268 = .ok (.iconst 0, 1) := by decide +kernel
theorem dX11_unit_269 : decode cX11_unit 269 = .ok (.ireturn, 1) := by decide +kernel
theorem dX11_rankHere_0 : decode cX11_rankHere 0 = .ok (.aload_n 0, 1) := by decide +kernel
theorem dX11_rankHere_1 : decode cX11_rankHere 1 = .ok (.ldc2_w 189, 3) := by decide +kernel
theorem dX11_rankHere_4 : decode cX11_rankHere 4 = .ok (.invokevirtual 256, 3) := by decide +kernel
theorem dX11_rankHere_7 : decode cX11_rankHere 7 = .ok (.ifCond .eq 5, 3) := by decide +kernel
theorem dX11_rankHere_10 : decode cX11_rankHere 10 = .ok (.iconst 2, 1) := by decide +kernel
theorem dX11_rankHere_11 : decode cX11_rankHere 11 = .ok (.ireturn, 1) := by decide +kernel
theorem dX11_rankHere_12 : decode cX11_rankHere 12 = .ok (.aload_n 0, 1) := by decide +kernel
theorem dX11_rankHere_13 : decode cX11_rankHere 13 = .ok (.ldc2_w 187, 3) := by decide +kernel
theorem dX11_rankHere_16 : decode cX11_rankHere 16 = .ok (.invokevirtual 256, 3) := by decide +kernel
theorem dX11_rankHere_19 : decode cX11_rankHere 19 = .ok (.ifCond .eq 5, 3) := by decide +kernel
theorem dX11_rankHere_22 : decode cX11_rankHere 22 = .ok (.iconst 1, 1) := by decide +kernel
theorem dX11_rankHere_23 : decode cX11_rankHere 23 = .ok (.ireturn, 1) := by decide +kernel
theorem dX11_rankHere_24 : decode cX11_rankHere 24 = .ok (.aload_n 0, 1) := by decide +kernel
theorem dX11_rankHere_25 : decode cX11_rankHere 25 = .ok (.bipush 60, 2) := by decide +kernel
theorem dX11_rankHere_27 : decode cX11_rankHere 27 = .ok (.invokevirtual 272, 3) := by decide +kernel
theorem dX11_rankHere_30 : decode cX11_rankHere 30 = .ok (.ifCond .ne 21, 3) := by decide +kernel
theorem dX11_rankHere_33 : decode cX11_rankHere 33 = .ok (.aload_n 0, 1) := by decide +kernel
theorem dX11_rankHere_34 : decode cX11_rankHere 34 = .ok (.bipush 62, 2) := by decide +kernel
theorem dX11_rankHere_36 : decode cX11_rankHere 36 = .ok (.invokevirtual 272, 3) := by decide +kernel
theorem dX11_rankHere_39 : decode cX11_rankHere 39 = .ok (.ifCond .ne 12, 3) := by decide +kernel
theorem dX11_rankHere_42 : decode cX11_rankHere 42 = .ok (.aload_n 0, 1) := by decide +kernel
theorem dX11_rankHere_43 : decode cX11_rankHere 43 = .ok (.bipush 61, 2) := by decide +kernel
theorem dX11_rankHere_45 : decode cX11_rankHere 45 = .ok (.invokevirtual 272, 3) := by decide +kernel
theorem dX11_rankHere_48 : decode cX11_rankHere 48 = .ok (.ifCond .eq 5, 3) := by decide +kernel
theorem dX11_rankHere_51 : decode cX11_rankHere 51 = .ok (.iconst 4, 1) := by decide +kernel
theorem dX11_rankHere_52 : decode cX11_rankHere 52 = .ok (.ireturn, 1) := by decide +kernel
theorem dX11_rankHere_53 : decode cX11_rankHere 53 = .ok (.aload_n 0, 1) := by decide +kernel
theorem dX11_rankHere_54 : decode cX11_rankHere 54 = .ok (.bipush 43, 2) := by decide +kernel
theorem dX11_rankHere_56 : decode cX11_rankHere 56 = .ok (.invokevirtual 272, 3) := by decide +kernel
theorem dX11_rankHere_59 : decode cX11_rankHere 59 = .ok (.ifCond .ne 12, 3) := by decide +kernel
theorem dX11_rankHere_62 : decode cX11_rankHere 62 = .ok (.aload_n 0, 1) := by decide +kernel
theorem dX11_rankHere_63 : decode cX11_rankHere 63 = .ok (.bipush 45, 2) := by decide +kernel
theorem dX11_rankHere_65 : decode cX11_rankHere 65 = .ok (.invokevirtual 272, 3) := by decide +kernel
theorem dX11_rankHere_68 : decode cX11_rankHere 68 = .ok (.ifCond .eq 5, 3) := by decide +kernel
theorem dX11_rankHere_71 : decode cX11_rankHere 71 = .ok (.iconst 5, 1) := by decide +kernel
theorem dX11_rankHere_72 : decode cX11_rankHere 72 = .ok (.ireturn, 1) := by decide +kernel
theorem dX11_rankHere_73 : decode cX11_rankHere 73 = .ok (.aload_n 0, 1) := by decide +kernel
theorem dX11_rankHere_74 : decode cX11_rankHere 74 = .ok (.bipush 42, 2) := by decide +kernel
theorem dX11_rankHere_76 : decode cX11_rankHere 76 = .ok (.invokevirtual 272, 3) := by decide +kernel
theorem dX11_rankHere_79 : decode cX11_rankHere 79 = .ok (.ifCond .ne 21, 3) := by decide +kernel
theorem dX11_rankHere_82 : decode cX11_rankHere 82 = .ok (.aload_n 0, 1) := by decide +kernel
theorem dX11_rankHere_83 : decode cX11_rankHere 83 = .ok (.bipush 47, 2) := by decide +kernel
theorem dX11_rankHere_85 : decode cX11_rankHere 85 = .ok (.invokevirtual 272, 3) := by decide +kernel
theorem dX11_rankHere_88 : decode cX11_rankHere 88 = .ok (.ifCond .ne 12, 3) := by decide +kernel
theorem dX11_rankHere_91 : decode cX11_rankHere 91 = .ok (.aload_n 0, 1) := by decide +kernel
theorem dX11_rankHere_92 : decode cX11_rankHere 92 = .ok (.bipush 37, 2) := by decide +kernel
theorem dX11_rankHere_94 : decode cX11_rankHere 94 = .ok (.invokevirtual 272, 3) := by decide +kernel
theorem dX11_rankHere_97 : decode cX11_rankHere 97 = .ok (.ifCond .eq 8, 3) := by decide +kernel
theorem dX11_rankHere_100 : decode cX11_rankHere 100 = .ok (.bipush 6, 2) := by decide +kernel
theorem dX11_rankHere_102 : decode cX11_rankHere 102 = .ok (.goto 4, 3) := by decide +kernel
theorem dX11_rankHere_105 : decode cX11_rankHere 105 = .ok (.iconst 0, 1) := by decide +kernel
theorem dX11_rankHere_106 : decode cX11_rankHere 106 = .ok (.ireturn, 1) := by decide +kernel
theorem dX11_isCompared_0 : decode cX11_isCompared 0 = .ok (.aload_n 0, 1) := by decide +kernel
theorem dX11_isCompared_1 : decode cX11_isCompared 1 = .ok (.getfield 293, 3) := by decide +kernel
theorem dX11_isCompared_4 : decode cX11_isCompared 4 = .ok (.iconst 1, 1) := by decide +kernel
theorem dX11_isCompared_5 : decode cX11_isCompared 5 = .ok (.isub, 1) := by decide +kernel
theorem dX11_isCompared_6 : decode cX11_isCompared 6 = .ok (.istore_n 1, 1) := by decide +kernel
theorem dX11_isCompared_7 : decode cX11_isCompared 7 = .ok (.aload_n 0, 1) := by decide +kernel
theorem dX11_isCompared_8 : decode cX11_isCompared 8 = .ok (.getfield 68, 3) := by decide +kernel
theorem dX11_isCompared_11 : decode cX11_isCompared 11 = .ok (.iload_n 1, 1) := by decide +kernel
theorem dX11_isCompared_12 : decode cX11_isCompared 12 = .ok (.iaload, 1) := by decide +kernel
theorem dX11_isCompared_13 : decode cX11_isCompared 13 = .ok (.iconst 5, 1) := by decide +kernel
theorem dX11_isCompared_14 : decode cX11_isCompared 14 = .ok (.if_icmp .eq 14, 3) := by decide +kernel
theorem dX11_isCompared_17 : decode cX11_isCompared 17 = .ok (.aload_n 0, 1) := by decide +kernel
theorem dX11_isCompared_18 : decode cX11_isCompared 18 = .ok (.getfield 68, 3) := by decide +kernel
theorem dX11_isCompared_21 : decode cX11_isCompared 21 = .ok (.iload_n 1, 1) := by decide +kernel
theorem dX11_isCompared_22 : decode cX11_isCompared 22 = .ok (.iaload, 1) := by decide +kernel
theorem dX11_isCompared_23 : decode cX11_isCompared 23 = .ok (.bipush 6, 2) := by decide +kernel
theorem dX11_isCompared_25 : decode cX11_isCompared 25 = .ok (.if_icmp .ne 9, 3) := by decide +kernel
theorem dX11_isCompared_28 : decode cX11_isCompared 28 = .ok (.iinc 1 (-1), 3) := by decide +kernel
theorem dX11_isCompared_31 : decode cX11_isCompared 31 = .ok (.goto (-24), 3) := by decide +kernel
theorem dX11_isCompared_34 : decode cX11_isCompared 34 = .ok (.aload_n 0, 1) := by decide +kernel
theorem dX11_isCompared_35 : decode cX11_isCompared 35 = .ok (.getfield 68, 3) := by decide +kernel
theorem dX11_isCompared_38 : decode cX11_isCompared 38 = .ok (.iload_n 1, 1) := by decide +kernel
theorem dX11_isCompared_39 : decode cX11_isCompared 39 = .ok (.iaload, 1) := by decide +kernel
theorem dX11_isCompared_40 : decode cX11_isCompared 40 = .ok (.iconst 4, 1) := by decide +kernel
theorem dX11_isCompared_41 : decode cX11_isCompared 41 = .ok (.if_icmp .ne 7, 3) := by decide +kernel
theorem dX11_isCompared_44 : decode cX11_isCompared 44 = .ok (.iconst 1, 1) := by decide +kernel
theorem dX11_isCompared_45 : decode cX11_isCompared 45 = .ok (.goto 4, 3) := by decide +kernel
theorem dX11_isCompared_48 : decode cX11_isCompared 48 = .ok (.iconst 0, 1) := by decide +kernel
theorem dX11_isCompared_49 : decode cX11_isCompared 49 = .ok (.ireturn, 1) := by decide +kernel
theorem dX11_behindUnit_0 : decode cX11_behindUnit 0 = .ok (.aload_n 0, 1) := by decide +kernel
theorem dX11_behindUnit_1 : decode cX11_behindUnit 1 = .ok (.invokevirtual 314, 3) := by decide +kernel
theorem dX11_behindUnit_4 : decode cX11_behindUnit 4 = .ok (.istore_n 1, 1) := by decide +kernel
theorem dX11_behindUnit_5 : decode cX11_behindUnit 5 = .ok (.iload_n 1, 1) := by decide +kernel
theorem dX11_behindUnit_6 : decode cX11_behindUnit 6 = .ok (.iconst 4, 1) := by decide +kernel
theorem dX11_behindUnit_7 : decode cX11_behindUnit 7 = .ok (.if_icmp .ne 16, 3) := by decide +kernel
theorem dX11_behindUnit_10 : decode cX11_behindUnit 10 = .ok (.aload_n 0, 1) := by decide +kernel
theorem dX11_behindUnit_11 : decode cX11_behindUnit 11 = .ok (.invokevirtual 317, 3) := by decide +kernel
theorem dX11_behindUnit_14 : decode cX11_behindUnit 14 = .ok (.ifCond .eq 9, 3) := by decide +kernel
theorem dX11_behindUnit_17 : decode cX11_behindUnit 17 = .ok (.aload_n 0, 1) := by decide +kernel
theorem dX11_behindUnit_18 : decode cX11_behindUnit 18 = .ok (.invokevirtual 238, 3) := by decide +kernel
theorem dX11_behindUnit_21 : decode cX11_behindUnit 21 = .ok (.iconst 1, 1) := by decide +kernel
theorem dX11_behindUnit_22 : decode cX11_behindUnit 22 = .ok (.ireturn, 1) := by decide +kernel
theorem dX11_behindUnit_23 : decode cX11_behindUnit 23 = .ok (.aload_n 0, 1) := by decide +kernel
theorem dX11_behindUnit_24 : decode cX11_behindUnit 24 = .ok (.getfield 68, 3) := by decide +kernel
theorem dX11_behindUnit_27 : decode cX11_behindUnit 27 = .ok (.aload_n 0, 1) := by decide +kernel
theorem dX11_behindUnit_28 : decode cX11_behindUnit 28 = .ok (.getfield 293, 3) := by decide +kernel
theorem dX11_behindUnit_31 : decode cX11_behindUnit 31 = .ok (.iconst 1, 1) := by decide +kernel
theorem dX11_behindUnit_32 : decode cX11_behindUnit 32 = .ok (.isub, 1) := by decide +kernel
theorem dX11_behindUnit_33 : decode cX11_behindUnit 33 = .ok (.iaload, 1) := by decide +kernel
theorem dX11_behindUnit_34 : decode cX11_behindUnit 34 = .ok (.bipush 6, 2) := by decide +kernel
theorem dX11_behindUnit_36 : decode cX11_behindUnit 36 = .ok (.if_icmp .gt 68, 3) := by decide +kernel
theorem dX11_behindUnit_39 : decode cX11_behindUnit 39 = .ok (.aload_n 0, 1) := by decide +kernel
theorem dX11_behindUnit_40 : decode cX11_behindUnit 40 = .ok (.getfield 68, 3) := by decide +kernel
theorem dX11_behindUnit_43 : decode cX11_behindUnit 43 = .ok (.aload_n 0, 1) := by decide +kernel
theorem dX11_behindUnit_44 : decode cX11_behindUnit 44 = .ok (.getfield 293, 3) := by decide +kernel
theorem dX11_behindUnit_47 : decode cX11_behindUnit 47 = .ok (.iconst 1, 1) := by decide +kernel
theorem dX11_behindUnit_48 : decode cX11_behindUnit 48 = .ok (.isub, 1) := by decide +kernel
theorem dX11_behindUnit_49 : decode cX11_behindUnit 49 = .ok (.iaload, 1) := by decide +kernel
theorem dX11_behindUnit_50 : decode cX11_behindUnit 50 = .ok (.iload_n 1, 1) := by decide +kernel
theorem dX11_behindUnit_51 : decode cX11_behindUnit 51 = .ok (.if_icmp .lt 53, 3) := by decide +kernel
theorem dX11_behindUnit_54 : decode cX11_behindUnit 54 = .ok (.aload_n 0, 1) := by decide +kernel
theorem dX11_behindUnit_55 : decode cX11_behindUnit 55 = .ok (.dup, 1) := by decide +kernel
theorem dX11_behindUnit_56 : decode cX11_behindUnit 56 = .ok (.getfield 293, 3) := by decide +kernel
theorem dX11_behindUnit_59 : decode cX11_behindUnit 59 = .ok (.iconst 1, 1) := by decide +kernel
theorem dX11_behindUnit_60 : decode cX11_behindUnit 60 = .ok (.isub, 1) := by decide +kernel
theorem dX11_behindUnit_61 : decode cX11_behindUnit 61 = .ok (.putfield 293, 3) := by decide +kernel
theorem dX11_behindUnit_64 : decode cX11_behindUnit 64 = .ok (.aload_n 0, 1) := by decide +kernel
theorem dX11_behindUnit_65 : decode cX11_behindUnit 65 = .ok (.getfield 68, 3) := by decide +kernel
theorem dX11_behindUnit_68 : decode cX11_behindUnit 68 = .ok (.aload_n 0, 1) := by decide +kernel
theorem dX11_behindUnit_69 : decode cX11_behindUnit 69 = .ok (.getfield 293, 3) := by decide +kernel
theorem dX11_behindUnit_72 : decode cX11_behindUnit 72 = .ok (.iaload, 1) := by decide +kernel
theorem dX11_behindUnit_73 : decode cX11_behindUnit 73 = .ok (.iconst 3, 1) := by decide +kernel
theorem dX11_behindUnit_74 : decode cX11_behindUnit 74 = .ok (.if_icmp .ne 13, 3) := by decide +kernel
theorem dX11_behindUnit_77 : decode cX11_behindUnit 77 = .ok (.aload_n 0, 1) := by decide +kernel
theorem dX11_behindUnit_78 : decode cX11_behindUnit 78 = .ok (.dup, 1) := by decide +kernel
theorem dX11_behindUnit_79 : decode cX11_behindUnit 79 = .ok (.getfield 296, 3) := by decide +kernel
theorem dX11_behindUnit_82 : decode cX11_behindUnit 82 = .ok (.iconst 1, 1) := by decide +kernel
theorem dX11_behindUnit_83 : decode cX11_behindUnit 83 = .ok (.isub, 1) := by decide +kernel
theorem dX11_behindUnit_84 : decode cX11_behindUnit 84 = .ok (.putfield 296, 3) := by decide +kernel
theorem dX11_behindUnit_87 : decode cX11_behindUnit 87 = .ok (.aload_n 0, 1) := by decide +kernel
theorem dX11_behindUnit_88 : decode cX11_behindUnit 88 = .ok (.aload_n 0, 1) := by decide +kernel
theorem dX11_behindUnit_89 : decode cX11_behindUnit 89 = .ok (.getfield 71, 3) := by decide +kernel
theorem dX11_behindUnit_92 : decode cX11_behindUnit 92 = .ok (.aload_n 0, 1) := by decide +kernel
theorem dX11_behindUnit_93 : decode cX11_behindUnit 93 = .ok (.getfield 293, 3) := by decide +kernel
theorem dX11_behindUnit_96 : decode cX11_behindUnit 96 = .ok (.iaload, 1) := by decide +kernel
theorem dX11_behindUnit_97 : decode cX11_behindUnit 97 = .ok (.iconst 0, 1) := by decide +kernel
theorem dX11_behindUnit_98 : decode cX11_behindUnit 98 = .ok (.invokevirtual 311, 3) := by decide +kernel
theorem dX11_behindUnit_101 : decode cX11_behindUnit 101 = .ok (.goto (-78), 3) := by decide +kernel
theorem dX11_behindUnit_104 : decode cX11_behindUnit 104 = .ok (.iload_n 1, 1) := by decide +kernel
theorem dX11_behindUnit_105 : decode cX11_behindUnit 105 = .ok (.ifCond .le 42, 3) := by decide +kernel
theorem dX11_behindUnit_108 : decode cX11_behindUnit 108 = .ok (.aload_n 0, 1) := by decide +kernel
theorem dX11_behindUnit_109 : decode cX11_behindUnit 109 = .ok (.iload_n 1, 1) := by decide +kernel
theorem dX11_behindUnit_110 : decode cX11_behindUnit 110 = .ok (.iload_n 1, 1) := by decide +kernel
theorem dX11_behindUnit_111 : decode cX11_behindUnit 111 = .ok (.iconst 2, 1) := by decide +kernel
theorem dX11_behindUnit_112 : decode cX11_behindUnit 112 = .ok (.if_icmp .ne 8, 3) := by decide +kernel
theorem dX11_behindUnit_115 : decode cX11_behindUnit 115 = .ok (.bipush 38, 2) := by decide +kernel
theorem dX11_behindUnit_117 : decode cX11_behindUnit 117 = .ok (.goto 21, 3) := by decide +kernel
theorem dX11_behindUnit_120 : decode cX11_behindUnit 120 = .ok (.iload_n 1, 1) := by decide +kernel
theorem dX11_behindUnit_121 : decode cX11_behindUnit 121 = .ok (.iconst 1, 1) := by decide +kernel
theorem dX11_behindUnit_122 : decode cX11_behindUnit 122 = .ok (.if_icmp .ne 8, 3) := by decide +kernel
theorem dX11_behindUnit_125 : decode cX11_behindUnit 125 = .ok (.bipush 124, 2) := by decide +kernel
theorem dX11_behindUnit_127 : decode cX11_behindUnit 127 = .ok (.goto 11, 3) := by decide +kernel
theorem dX11_behindUnit_130 : decode cX11_behindUnit 130 = .ok (.aload_n 0, 1) := by decide +kernel
theorem dX11_behindUnit_131 : decode cX11_behindUnit 131 = .ok (.aload_n 0, 1) := by decide +kernel
theorem dX11_behindUnit_132 : decode cX11_behindUnit 132 = .ok (.getfield 196, 3) := by decide +kernel
theorem dX11_behindUnit_135 : decode cX11_behindUnit 135 = .ok (.invokevirtual 199, 3) := by decide +kernel
theorem dX11_behindUnit_138 : decode cX11_behindUnit 138 = .ok (.invokevirtual 299, 3) := by decide +kernel
theorem dX11_behindUnit_141 : decode cX11_behindUnit 141 = .ok (.aload_n 0, 1) := by decide +kernel
theorem dX11_behindUnit_142 : decode cX11_behindUnit 142 = .ok (.invokevirtual 235, 3) := by decide +kernel
theorem dX11_behindUnit_145 : decode cX11_behindUnit 145 = .ok (.iconst 1, 1) := by decide +kernel
theorem dX11_behindUnit_146 : decode cX11_behindUnit 146 = .ok (.ireturn, 1) := by decide +kernel
theorem dX11_behindUnit_147 : decode cX11_behindUnit 147 = .ok (.aload_n 0, 1) := by decide +kernel
theorem dX11_behindUnit_148 : decode cX11_behindUnit 148 = .ok (.dup, 1) := by decide +kernel
theorem dX11_behindUnit_149 : decode cX11_behindUnit 149 = .ok (.getfield 293, 3) := by decide +kernel
theorem dX11_behindUnit_152 : decode cX11_behindUnit 152 = .ok (.iconst 1, 1) := by decide +kernel
theorem dX11_behindUnit_153 : decode cX11_behindUnit 153 = .ok (.isub, 1) := by decide +kernel
theorem dX11_behindUnit_154 : decode cX11_behindUnit 154 = .ok (.putfield 293, 3) := by decide +kernel
theorem dX11_behindUnit_157 : decode cX11_behindUnit 157 = .ok (.aload_n 0, 1) := by decide +kernel
theorem dX11_behindUnit_158 : decode cX11_behindUnit 158 = .ok (.getfield 68, 3) := by decide +kernel
theorem dX11_behindUnit_161 : decode cX11_behindUnit 161 = .ok (.aload_n 0, 1) := by decide +kernel
theorem dX11_behindUnit_162 : decode cX11_behindUnit 162 = .ok (.getfield 293, 3) := by decide +kernel
theorem dX11_behindUnit_165 : decode cX11_behindUnit 165 = .ok (.iaload, 1) := by decide +kernel
theorem dX11_behindUnit_166 : decode cX11_behindUnit 166 = .ok (.bipush 7, 2) := by decide +kernel
theorem dX11_behindUnit_168 : decode cX11_behindUnit 168 = .ok (.if_icmp .ne 23, 3) := by decide +kernel
theorem dX11_behindUnit_171 : decode cX11_behindUnit 171 = .ok (.aload_n 0, 1) := by decide +kernel
theorem dX11_behindUnit_172 : decode cX11_behindUnit 172 = .ok (.dup, 1) := by decide +kernel
theorem dX11_behindUnit_173 : decode cX11_behindUnit 173 = .ok (.getfield 296, 3) := by decide +kernel
theorem dX11_behindUnit_176 : decode cX11_behindUnit 176 = .ok (.iconst 1, 1) := by decide +kernel
theorem dX11_behindUnit_177 : decode cX11_behindUnit 177 = .ok (.isub, 1) := by decide +kernel
theorem dX11_behindUnit_178 : decode cX11_behindUnit 178 = .ok (.putfield 296, 3) := by decide +kernel
theorem dX11_behindUnit_181 : decode cX11_behindUnit 181 = .ok (.aload_n 0, 1) := by decide +kernel
theorem dX11_behindUnit_182 : decode cX11_behindUnit 182 = .ok (.aload_n 0, 1) := by decide +kernel
theorem dX11_behindUnit_183 : decode cX11_behindUnit 183 = .ok (.bipush 41, 2) := by decide +kernel
theorem dX11_behindUnit_185 : decode cX11_behindUnit 185 = .ok (.invokevirtual 272, 3) := by decide +kernel
theorem dX11_behindUnit_188 : decode cX11_behindUnit 188 = .ok (.invokevirtual 275, 3) := by decide +kernel
theorem dX11_behindUnit_191 : decode cX11_behindUnit 191 = .ok (.iconst 0, 1) := by decide +kernel
theorem dX11_behindUnit_192 : decode cX11_behindUnit 192 = .ok (.ireturn, 1) := by decide +kernel
theorem dX11_two_0 : decode cX11_two 0 = .ok (.iload_n 0, 1) := by decide +kernel
theorem dX11_two_1 : decode cX11_two 1 = .ok (.tableswitch 202 37 62 #[143, 188, 202, 202, 202, 127, 119, 202, 123, 202, 131, 202, 202, 202, 202, 202, 202, 202, 202, 202, 202, 202, 202, 155, 177, 166], 119) := by decide +kernel
theorem dX11_two_120 : decode cX11_two 120 = .ok (.iload_n 1, 1) := by decide +kernel
theorem dX11_two_121 : decode cX11_two 121 = .ok (.iload_n 2, 1) := by decide +kernel
theorem dX11_two_122 : decode cX11_two 122 = .ok (.iadd, 1) := by decide +kernel
theorem dX11_two_123 : decode cX11_two 123 = .ok (.ireturn, 1) := by decide +kernel
theorem dX11_two_124 : decode cX11_two 124 = .ok (.iload_n 1, 1) := by decide +kernel
theorem dX11_two_125 : decode cX11_two 125 = .ok (.iload_n 2, 1) := by decide +kernel
theorem dX11_two_126 : decode cX11_two 126 = .ok (.isub, 1) := by decide +kernel
theorem dX11_two_127 : decode cX11_two 127 = .ok (.ireturn, 1) := by decide +kernel
theorem dX11_two_128 : decode cX11_two 128 = .ok (.iload_n 1, 1) := by decide +kernel
theorem dX11_two_129 : decode cX11_two 129 = .ok (.iload_n 2, 1) := by decide +kernel
theorem dX11_two_130 : decode cX11_two 130 = .ok (.imul, 1) := by decide +kernel
theorem dX11_two_131 : decode cX11_two 131 = .ok (.ireturn, 1) := by decide +kernel
theorem dX11_two_132 : decode cX11_two 132 = .ok (.iload_n 2, 1) := by decide +kernel
theorem dX11_two_133 : decode cX11_two 133 = .ok (.ifCond .ne 7, 3) := by decide +kernel
theorem dX11_two_136 : decode cX11_two 136 = .ok (.iconst 0, 1) := by decide +kernel
theorem dX11_two_137 : decode cX11_two 137 = .ok (.goto 6, 3) := by decide +kernel
theorem dX11_two_140 : decode cX11_two 140 = .ok (.iload_n 1, 1) := by decide +kernel
theorem dX11_two_141 : decode cX11_two 141 = .ok (.iload_n 2, 1) := by decide +kernel
theorem dX11_two_142 : decode cX11_two 142 = .ok (.idiv, 1) := by decide +kernel
theorem dX11_two_143 : decode cX11_two 143 = .ok (.ireturn, 1) := by decide +kernel
theorem dX11_two_144 : decode cX11_two 144 = .ok (.iload_n 2, 1) := by decide +kernel
theorem dX11_two_145 : decode cX11_two 145 = .ok (.ifCond .ne 7, 3) := by decide +kernel
theorem dX11_two_148 : decode cX11_two 148 = .ok (.iconst 0, 1) := by decide +kernel
theorem dX11_two_149 : decode cX11_two 149 = .ok (.goto 6, 3) := by decide +kernel
theorem dX11_two_152 : decode cX11_two 152 = .ok (.iload_n 1, 1) := by decide +kernel
theorem dX11_two_153 : decode cX11_two 153 = .ok (.iload_n 2, 1) := by decide +kernel
theorem dX11_two_154 : decode cX11_two 154 = .ok (.irem, 1) := by decide +kernel
theorem dX11_two_155 : decode cX11_two 155 = .ok (.ireturn, 1) := by decide +kernel
theorem dX11_two_156 : decode cX11_two 156 = .ok (.iload_n 1, 1) := by decide +kernel
theorem dX11_two_157 : decode cX11_two 157 = .ok (.iload_n 2, 1) := by decide +kernel
theorem dX11_two_158 : decode cX11_two 158 = .ok (.if_icmp .ge 7, 3) := by decide +kernel
theorem dX11_two_161 : decode cX11_two 161 = .ok (.iconst 1, 1) := by decide +kernel
theorem dX11_two_162 : decode cX11_two 162 = .ok (.goto 4, 3) := by decide +kernel
theorem dX11_two_165 : decode cX11_two 165 = .ok (.iconst 0, 1) := by decide +kernel
theorem dX11_two_166 : decode cX11_two 166 = .ok (.ireturn, 1) := by decide +kernel
theorem dX11_two_167 : decode cX11_two 167 = .ok (.iload_n 1, 1) := by decide +kernel
theorem dX11_two_168 : decode cX11_two 168 = .ok (.iload_n 2, 1) := by decide +kernel
theorem dX11_two_169 : decode cX11_two 169 = .ok (.if_icmp .le 7, 3) := by decide +kernel
theorem dX11_two_172 : decode cX11_two 172 = .ok (.iconst 1, 1) := by decide +kernel
theorem dX11_two_173 : decode cX11_two 173 = .ok (.goto 4, 3) := by decide +kernel
theorem dX11_two_176 : decode cX11_two 176 = .ok (.iconst 0, 1) := by decide +kernel
theorem dX11_two_177 : decode cX11_two 177 = .ok (.ireturn, 1) := by decide +kernel
theorem dX11_two_178 : decode cX11_two 178 = .ok (.iload_n 1, 1) := by decide +kernel
theorem dX11_two_179 : decode cX11_two 179 = .ok (.iload_n 2, 1) := by decide +kernel
theorem dX11_two_180 : decode cX11_two 180 = .ok (.if_icmp .ne 7, 3) := by decide +kernel
theorem dX11_two_183 : decode cX11_two 183 = .ok (.iconst 1, 1) := by decide +kernel
theorem dX11_two_184 : decode cX11_two 184 = .ok (.goto 4, 3) := by decide +kernel
theorem dX11_two_187 : decode cX11_two 187 = .ok (.iconst 0, 1) := by decide +kernel
theorem dX11_two_188 : decode cX11_two 188 = .ok (.ireturn, 1) := by decide +kernel
theorem dX11_two_189 : decode cX11_two 189 = .ok (.iload_n 1, 1) := by decide +kernel
theorem dX11_two_190 : decode cX11_two 190 = .ok (.ifCond .eq 11, 3) := by decide +kernel
theorem dX11_two_193 : decode cX11_two 193 = .ok (.iload_n 2, 1) := by decide +kernel
theorem dX11_two_194 : decode cX11_two 194 = .ok (.ifCond .eq 7, 3) := by decide +kernel
theorem dX11_two_197 : decode cX11_two 197 = .ok (.iconst 1, 1) := by decide +kernel
theorem dX11_two_198 : decode cX11_two 198 = .ok (.goto 4, 3) := by decide +kernel
theorem dX11_two_201 : decode cX11_two 201 = .ok (.iconst 0, 1) := by decide +kernel
theorem dX11_two_202 : decode cX11_two 202 = .ok (.ireturn, 1) := by decide +kernel
theorem dX11_two_203 : decode cX11_two 203 = .ok (.iload_n 1, 1) := by decide +kernel
theorem dX11_two_204 : decode cX11_two 204 = .ok (.ifCond .ne 7, 3) := by decide +kernel
theorem dX11_two_207 : decode cX11_two 207 = .ok (.iload_n 2, 1) := by decide +kernel
theorem dX11_two_208 : decode cX11_two 208 = .ok (.ifCond .eq 7, 3) := by decide +kernel
theorem dX11_two_211 : decode cX11_two 211 = .ok (.iconst 1, 1) := by decide +kernel
theorem dX11_two_212 : decode cX11_two 212 = .ok (.goto 4, 3) := by decide +kernel
theorem dX11_two_215 : decode cX11_two 215 = .ok (.iconst 0, 1) := by decide +kernel
theorem dX11_two_216 : decode cX11_two 216 = .ok (.ireturn, 1) := by decide +kernel
theorem dX11_asked_0 : decode cX11_asked 0 = .ok (.iload_n 1, 1) := by decide +kernel
theorem dX11_asked_1 : decode cX11_asked 1 = .ok (.tableswitch 183 100 121 #[178, 183, 183, 183, 108, 183, 164, 183, 120, 103, 183, 183, 183, 183, 145, 183, 173, 183, 183, 183, 183, 159], 103) := by decide +kernel
theorem dX11_asked_104 : decode cX11_asked 104 = .ok (.aload_n 0, 1) := by decide +kernel
theorem dX11_asked_105 : decode cX11_asked 105 = .ok (.getfield 320, 3) := by decide +kernel
theorem dX11_asked_108 : decode cX11_asked 108 = .ok (.ireturn, 1) := by decide +kernel
theorem dX11_asked_109 : decode cX11_asked 109 = .ok (.aload_n 0, 1) := by decide +kernel
theorem dX11_asked_110 : decode cX11_asked 110 = .ok (.getfield 323, 3) := by decide +kernel
theorem dX11_asked_113 : decode cX11_asked 113 = .ok (.aload_n 0, 1) := by decide +kernel
theorem dX11_asked_114 : decode cX11_asked 114 = .ok (.getfield 320, 3) := by decide +kernel
theorem dX11_asked_117 : decode cX11_asked 117 = .ok (.ishr, 1) := by decide +kernel
theorem dX11_asked_118 : decode cX11_asked 118 = .ok (.iconst 1, 1) := by decide +kernel
theorem dX11_asked_119 : decode cX11_asked 119 = .ok (.iand, 1) := by decide +kernel
theorem dX11_asked_120 : decode cX11_asked 120 = .ok (.ireturn, 1) := by decide +kernel
theorem dX11_asked_121 : decode cX11_asked 121 = .ok (.aload_n 0, 1) := by decide +kernel
theorem dX11_asked_122 : decode cX11_asked 122 = .ok (.getfield 320, 3) := by decide +kernel
theorem dX11_asked_125 : decode cX11_asked 125 = .ok (.ifCond .le 19, 3) := by decide +kernel
theorem dX11_asked_128 : decode cX11_asked 128 = .ok (.aload_n 0, 1) := by decide +kernel
theorem dX11_asked_129 : decode cX11_asked 129 = .ok (.getfield 323, 3) := by decide +kernel
theorem dX11_asked_132 : decode cX11_asked 132 = .ok (.aload_n 0, 1) := by decide +kernel
theorem dX11_asked_133 : decode cX11_asked 133 = .ok (.getfield 320, 3) := by decide +kernel
theorem dX11_asked_136 : decode cX11_asked 136 = .ok (.iconst 1, 1) := by decide +kernel
theorem dX11_asked_137 : decode cX11_asked 137 = .ok (.isub, 1) := by decide +kernel
theorem dX11_asked_138 : decode cX11_asked 138 = .ok (.ishr, 1) := by decide +kernel
theorem dX11_asked_139 : decode cX11_asked 139 = .ok (.iconst 1, 1) := by decide +kernel
theorem dX11_asked_140 : decode cX11_asked 140 = .ok (.iand, 1) := by decide +kernel
theorem dX11_asked_141 : decode cX11_asked 141 = .ok (.goto 4, 3) := by decide +kernel
theorem dX11_asked_144 : decode cX11_asked 144 = .ok (.iconst 0, 1) := by decide +kernel
theorem dX11_asked_145 : decode cX11_asked 145 = .ok (.ireturn, 1) := by decide +kernel
theorem dX11_asked_146 : decode cX11_asked 146 = .ok (.aload_n 0, 1) := by decide +kernel
theorem dX11_asked_147 : decode cX11_asked 147 = .ok (.getfield 323, 3) := by decide +kernel
theorem dX11_asked_150 : decode cX11_asked 150 = .ok (.aload_n 0, 1) := by decide +kernel
theorem dX11_asked_151 : decode cX11_asked 151 = .ok (.getfield 320, 3) := by decide +kernel
theorem dX11_asked_154 : decode cX11_asked 154 = .ok (.iconst 1, 1) := by decide +kernel
theorem dX11_asked_155 : decode cX11_asked 155 = .ok (.iadd, 1) := by decide +kernel
theorem dX11_asked_156 : decode cX11_asked 156 = .ok (.ishr, 1) := by decide +kernel
theorem dX11_asked_157 : decode cX11_asked 157 = .ok (.iconst 1, 1) := by decide +kernel
theorem dX11_asked_158 : decode cX11_asked 158 = .ok (.iand, 1) := by decide +kernel
theorem dX11_asked_159 : decode cX11_asked 159 = .ok (.ireturn, 1) := by decide +kernel
theorem dX11_asked_160 : decode cX11_asked 160 = .ok (.aload_n 0, 1) := by decide +kernel
theorem dX11_asked_161 : decode cX11_asked 161 = .ok (.getfield 326, 3) := by decide +kernel
theorem dX11_asked_164 : decode cX11_asked 164 = .ok (.ireturn, 1) := by decide +kernel
theorem dX11_asked_165 : decode cX11_asked 165 = .ok (.aload_n 0, 1) := by decide +kernel
theorem dX11_asked_166 : decode cX11_asked 166 = .ok (.getfield 77, 3) := by decide +kernel
theorem dX11_asked_169 : decode cX11_asked 169 = .ok (.sipush 219, 3) := by decide +kernel
theorem dX11_asked_172 : decode cX11_asked 172 = .ok (.iaload, 1) := by decide +kernel
theorem dX11_asked_173 : decode cX11_asked 173 = .ok (.ireturn, 1) := by decide +kernel
theorem dX11_asked_174 : decode cX11_asked 174 = .ok (.aload_n 0, 1) := by decide +kernel
theorem dX11_asked_175 : decode cX11_asked 175 = .ok (.getfield 329, 3) := by decide +kernel
theorem dX11_asked_178 : decode cX11_asked 178 = .ok (.ireturn, 1) := by decide +kernel
theorem dX11_asked_179 : decode cX11_asked 179 = .ok (.aload_n 0, 1) := by decide +kernel
theorem dX11_asked_180 : decode cX11_asked 180 = .ok (.getfield 332, 3) := by decide +kernel
theorem dX11_asked_183 : decode cX11_asked 183 = .ok (.ireturn, 1) := by decide +kernel
theorem dX11_asked_184 : decode cX11_asked 184 = .ok (.iload_n 2, 1) := by decide +kernel
theorem dX11_asked_185 : decode cX11_asked 185 = .ok (.ireturn, 1) := by decide +kernel
theorem dX11_comes_0 : decode cX11_comes 0 = .ok (.iconst 0, 1) := by decide +kernel
theorem dX11_comes_1 : decode cX11_comes 1 = .ok (.istore_n 2, 1) := by decide +kernel
theorem dX11_comes_2 : decode cX11_comes 2 = .ok (.aload_n 0, 1) := by decide +kernel
theorem dX11_comes_3 : decode cX11_comes 3 = .ok (.getfield 42, 3) := by decide +kernel
theorem dX11_comes_6 : decode cX11_comes 6 = .ok (.bipush 8, 2) := by decide +kernel
theorem dX11_comes_8 : decode cX11_comes 8 = .ok (.aload_n 0, 1) := by decide +kernel
theorem dX11_comes_9 : decode cX11_comes 9 = .ok (.getfield 250, 3) := by decide +kernel
theorem dX11_comes_12 : decode cX11_comes 12 = .ok (.imul, 1) := by decide +kernel
theorem dX11_comes_13 : decode cX11_comes 13 = .ok (.iload_n 1, 1) := by decide +kernel
theorem dX11_comes_14 : decode cX11_comes 14 = .ok (.iadd, 1) := by decide +kernel
theorem dX11_comes_15 : decode cX11_comes 15 = .ok (.iaload, 1) := by decide +kernel
theorem dX11_comes_16 : decode cX11_comes 16 = .ok (.istore_n 3, 1) := by decide +kernel
theorem dX11_comes_17 : decode cX11_comes 17 = .ok (.iload_n 3, 1) := by decide +kernel
theorem dX11_comes_18 : decode cX11_comes 18 = .ok (.aload_n 0, 1) := by decide +kernel
theorem dX11_comes_19 : decode cX11_comes 19 = .ok (.getfield 45, 3) := by decide +kernel
theorem dX11_comes_22 : decode cX11_comes 22 = .ok (.bipush 8, 2) := by decide +kernel
theorem dX11_comes_24 : decode cX11_comes 24 = .ok (.aload_n 0, 1) := by decide +kernel
theorem dX11_comes_25 : decode cX11_comes 25 = .ok (.getfield 250, 3) := by decide +kernel
theorem dX11_comes_28 : decode cX11_comes 28 = .ok (.imul, 1) := by decide +kernel
theorem dX11_comes_29 : decode cX11_comes 29 = .ok (.iload_n 1, 1) := by decide +kernel
theorem dX11_comes_30 : decode cX11_comes 30 = .ok (.iadd, 1) := by decide +kernel
theorem dX11_comes_31 : decode cX11_comes 31 = .ok (.iaload, 1) := by decide +kernel
theorem dX11_comes_32 : decode cX11_comes 32 = .ok (.if_icmp .ge 113, 3) := by decide +kernel
theorem dX11_comes_35 : decode cX11_comes 35 = .ok (.aload_n 0, 1) := by decide +kernel
theorem dX11_comes_36 : decode cX11_comes 36 = .ok (.getfield 62, 3) := by decide +kernel
theorem dX11_comes_39 : decode cX11_comes 39 = .ok (.iload_n 3, 1) := by decide +kernel
theorem dX11_comes_40 : decode cX11_comes 40 = .ok (.iaload, 1) := by decide +kernel
theorem dX11_comes_41 : decode cX11_comes 41 = .ok (.istore 4, 2) := by decide +kernel
theorem dX11_comes_43 : decode cX11_comes 43 = .ok (.iload 4, 2) := by decide +kernel
theorem dX11_comes_45 : decode cX11_comes 45 = .ok (.bipush 126, 2) := by decide +kernel
theorem dX11_comes_47 : decode cX11_comes 47 = .ok (.if_icmp .ne 30, 3) := by decide +kernel
theorem dX11_comes_50 : decode cX11_comes 50 = .ok (.aload_n 0, 1) := by decide +kernel
theorem dX11_comes_51 : decode cX11_comes 51 = .ok (.getfield 74, 3) := by decide +kernel
theorem dX11_comes_54 : decode cX11_comes 54 = .ok (.iload_n 2, 1) := by decide +kernel
theorem dX11_comes_55 : decode cX11_comes 55 = .ok (.iconst 1, 1) := by decide +kernel
theorem dX11_comes_56 : decode cX11_comes 56 = .ok (.isub, 1) := by decide +kernel
theorem dX11_comes_57 : decode cX11_comes 57 = .ok (.aload_n 0, 1) := by decide +kernel
theorem dX11_comes_58 : decode cX11_comes 58 = .ok (.getfield 74, 3) := by decide +kernel
theorem dX11_comes_61 : decode cX11_comes 61 = .ok (.iload_n 2, 1) := by decide +kernel
theorem dX11_comes_62 : decode cX11_comes 62 = .ok (.iconst 1, 1) := by decide +kernel
theorem dX11_comes_63 : decode cX11_comes 63 = .ok (.isub, 1) := by decide +kernel
theorem dX11_comes_64 : decode cX11_comes 64 = .ok (.iaload, 1) := by decide +kernel
theorem dX11_comes_65 : decode cX11_comes 65 = .ok (.ifCond .ne 7, 3) := by decide +kernel
theorem dX11_comes_68 : decode cX11_comes 68 = .ok (.iconst 1, 1) := by decide +kernel
theorem dX11_comes_69 : decode cX11_comes 69 = .ok (.goto 4, 3) := by decide +kernel
theorem dX11_comes_72 : decode cX11_comes 72 = .ok (.iconst 0, 1) := by decide +kernel
theorem dX11_comes_73 : decode cX11_comes 73 = .ok (.iastore, 1) := by decide +kernel
theorem dX11_comes_74 : decode cX11_comes 74 = .ok (.goto 65, 3) := by decide +kernel
theorem dX11_comes_77 : decode cX11_comes 77 = .ok (.iload 4, 2) := by decide +kernel
theorem dX11_comes_79 : decode cX11_comes 79 = .ok (.invokestatic 206, 3) := by decide +kernel
theorem dX11_comes_82 : decode cX11_comes 82 = .ok (.ifCond .eq 27, 3) := by decide +kernel
theorem dX11_comes_85 : decode cX11_comes 85 = .ok (.aload_n 0, 1) := by decide +kernel
theorem dX11_comes_86 : decode cX11_comes 86 = .ok (.getfield 74, 3) := by decide +kernel
theorem dX11_comes_89 : decode cX11_comes 89 = .ok (.iload_n 2, 1) := by decide +kernel
theorem dX11_comes_90 : decode cX11_comes 90 = .ok (.aload_n 0, 1) := by decide +kernel
theorem dX11_comes_91 : decode cX11_comes 91 = .ok (.iload 4, 2) := by decide +kernel
theorem dX11_comes_93 : decode cX11_comes 93 = .ok (.aload_n 0, 1) := by decide +kernel
theorem dX11_comes_94 : decode cX11_comes 94 = .ok (.getfield 65, 3) := by decide +kernel
theorem dX11_comes_97 : decode cX11_comes 97 = .ok (.iload_n 3, 1) := by decide +kernel
theorem dX11_comes_98 : decode cX11_comes 98 = .ok (.iaload, 1) := by decide +kernel
theorem dX11_comes_99 : decode cX11_comes 99 = .ok (.invokevirtual 335, 3) := by decide +kernel
theorem dX11_comes_102 : decode cX11_comes 102 = .ok (.iastore, 1) := by decide +kernel
theorem dX11_comes_103 : decode cX11_comes 103 = .ok (.iinc 2 1, 3) := by decide +kernel
theorem dX11_comes_106 : decode cX11_comes 106 = .ok (.goto 33, 3) := by decide +kernel
theorem dX11_comes_109 : decode cX11_comes 109 = .ok (.iinc 2 (-1), 3) := by decide +kernel
theorem dX11_comes_112 : decode cX11_comes 112 = .ok (.aload_n 0, 1) := by decide +kernel
theorem dX11_comes_113 : decode cX11_comes 113 = .ok (.getfield 74, 3) := by decide +kernel
theorem dX11_comes_116 : decode cX11_comes 116 = .ok (.iload_n 2, 1) := by decide +kernel
theorem dX11_comes_117 : decode cX11_comes 117 = .ok (.iconst 1, 1) := by decide +kernel
theorem dX11_comes_118 : decode cX11_comes 118 = .ok (.isub, 1) := by decide +kernel
theorem dX11_comes_119 : decode cX11_comes 119 = .ok (.iload 4, 2) := by decide +kernel
theorem dX11_comes_121 : decode cX11_comes 121 = .ok (.aload_n 0, 1) := by decide +kernel
theorem dX11_comes_122 : decode cX11_comes 122 = .ok (.getfield 74, 3) := by decide +kernel
theorem dX11_comes_125 : decode cX11_comes 125 = .ok (.iload_n 2, 1) := by decide +kernel
theorem dX11_comes_126 : decode cX11_comes 126 = .ok (.iconst 1, 1) := by decide +kernel
theorem dX11_comes_127 : decode cX11_comes 127 = .ok (.isub, 1) := by decide +kernel
theorem dX11_comes_128 : decode cX11_comes 128 = .ok (.iaload, 1) := by decide +kernel
theorem dX11_comes_129 : decode cX11_comes 129 = .ok (.aload_n 0, 1) := by decide +kernel
theorem dX11_comes_130 : decode cX11_comes 130 = .ok (.getfield 74, 3) := by decide +kernel
theorem dX11_comes_133 : decode cX11_comes 133 = .ok (.iload_n 2, 1) := by decide +kernel
theorem dX11_comes_134 : decode cX11_comes 134 = .ok (.iaload, 1) := by decide +kernel
theorem dX11_comes_135 : decode cX11_comes 135 = .ok (.invokestatic 338, 3) := by decide +kernel
theorem dX11_comes_138 : decode cX11_comes 138 = .ok (.iastore, 1) := by decide +kernel
theorem dX11_comes_139 : decode cX11_comes 139 = .ok (.iinc 3 1, 3) := by decide +kernel
theorem dX11_comes_142 : decode cX11_comes 142 = .ok (.goto (-125), 3) := by decide +kernel
theorem dX11_comes_145 : decode cX11_comes 145 = .ok (.aload_n 0, 1) := by decide +kernel
theorem dX11_comes_146 : decode cX11_comes 146 = .ok (.getfield 74, 3) := by decide +kernel
theorem dX11_comes_149 : decode cX11_comes 149 = .ok (.iconst 0, 1) := by decide +kernel
theorem dX11_comes_150 : decode cX11_comes 150 = .ok (.iaload, 1) := by decide +kernel
theorem dX11_comes_151 : decode cX11_comes 151 = .ok (.ireturn, 1) := by decide +kernel
theorem dX11_fault_0 : decode cX11_fault 0 = .ok (.iload_n 1, 1) := by decide +kernel
theorem dX11_fault_1 : decode cX11_fault 1 = .ok (.ifCond .ne 10, 3) := by decide +kernel
theorem dX11_fault_4 : decode cX11_fault 4 = .ok (.aload_n 0, 1) := by decide +kernel
theorem dX11_fault_5 : decode cX11_fault 5 = .ok (.getfield 156, 3) := by decide +kernel
theorem dX11_fault_8 : decode cX11_fault 8 = .ok (.goto 16, 3) := by decide +kernel
theorem dX11_fault_11 : decode cX11_fault 11 = .ok (.iload_n 1, 1) := by decide +kernel
theorem dX11_fault_12 : decode cX11_fault 12 = .ok (.iconst 1, 1) := by decide +kernel
theorem dX11_fault_13 : decode cX11_fault 13 = .ok (.if_icmp .ne 10, 3) := by decide +kernel
theorem dX11_fault_16 : decode cX11_fault 16 = .ok (.aload_n 0, 1) := by decide +kernel
theorem dX11_fault_17 : decode cX11_fault 17 = .ok (.getfield 16, 3) := by decide +kernel
theorem dX11_fault_20 : decode cX11_fault 20 = .ok (.goto 4, 3) := by decide +kernel
theorem dX11_fault_23 : decode cX11_fault 23 = .ok (.iconst (-1), 1) := by decide +kernel
theorem dX11_fault_24 : decode cX11_fault 24 = .ok (.ireturn, 1) := by decide +kernel
theorem dX11_isIn_0 : decode cX11_isIn 0 = .ok (.iload_n 0, 1) := by decide +kernel
theorem dX11_isIn_1 : decode cX11_isIn 1 = .ok (.iload_n 1, 1) := by decide +kernel
theorem dX11_isIn_2 : decode cX11_isIn 2 = .ok (.if_icmp .lt 12, 3) := by decide +kernel
theorem dX11_isIn_5 : decode cX11_isIn 5 = .ok (.iload_n 0, 1) := by decide +kernel
theorem dX11_isIn_6 : decode cX11_isIn 6 = .ok (.iload_n 2, 1) := by decide +kernel
theorem dX11_isIn_7 : decode cX11_isIn 7 = .ok (.if_icmp .gt 7, 3) := by decide +kernel
theorem dX11_isIn_10 : decode cX11_isIn 10 = .ok (.iconst 1, 1) := by decide +kernel
theorem dX11_isIn_11 : decode cX11_isIn 11 = .ok (.goto 4, 3) := by decide +kernel
theorem dX11_isIn_14 : decode cX11_isIn 14 = .ok (.iconst 0, 1) := by decide +kernel
theorem dX11_isIn_15 : decode cX11_isIn 15 = .ok (.ireturn, 1) := by decide +kernel
theorem dX11_bitsOf_0 : decode cX11_bitsOf 0 = .ok (.iconst 0, 1) := by decide +kernel
theorem dX11_bitsOf_1 : decode cX11_bitsOf 1 = .ok (.istore_n 1, 1) := by decide +kernel
theorem dX11_bitsOf_2 : decode cX11_bitsOf 2 = .ok (.iload_n 0, 1) := by decide +kernel
theorem dX11_bitsOf_3 : decode cX11_bitsOf 3 = .ok (.istore_n 2, 1) := by decide +kernel
theorem dX11_bitsOf_4 : decode cX11_bitsOf 4 = .ok (.iload_n 2, 1) := by decide +kernel
theorem dX11_bitsOf_5 : decode cX11_bitsOf 5 = .ok (.ifCond .eq 15, 3) := by decide +kernel
theorem dX11_bitsOf_8 : decode cX11_bitsOf 8 = .ok (.iinc 1 1, 3) := by decide +kernel
theorem dX11_bitsOf_11 : decode cX11_bitsOf 11 = .ok (.iload_n 2, 1) := by decide +kernel
theorem dX11_bitsOf_12 : decode cX11_bitsOf 12 = .ok (.iload_n 2, 1) := by decide +kernel
theorem dX11_bitsOf_13 : decode cX11_bitsOf 13 = .ok (.iconst 1, 1) := by decide +kernel
theorem dX11_bitsOf_14 : decode cX11_bitsOf 14 = .ok (.isub, 1) := by decide +kernel
theorem dX11_bitsOf_15 : decode cX11_bitsOf 15 = .ok (.iand, 1) := by decide +kernel
theorem dX11_bitsOf_16 : decode cX11_bitsOf 16 = .ok (.istore_n 2, 1) := by decide +kernel
theorem dX11_bitsOf_17 : decode cX11_bitsOf 17 = .ok (.goto (-13), 3) := by decide +kernel
theorem dX11_bitsOf_20 : decode cX11_bitsOf 20 = .ok (.iload_n 1, 1) := by decide +kernel
theorem dX11_bitsOf_21 : decode cX11_bitsOf 21 = .ok (.ireturn, 1) := by decide +kernel
theorem dX11_width_0 : decode cX11_width 0 = .ok (.aload_n 0, 1) := by decide +kernel
theorem dX11_width_1 : decode cX11_width 1 = .ok (.getfield 20, 3) := by decide +kernel
theorem dX11_width_4 : decode cX11_width 4 = .ok (.aload_n 0, 1) := by decide +kernel
theorem dX11_width_5 : decode cX11_width 5 = .ok (.getfield 250, 3) := by decide +kernel
theorem dX11_width_8 : decode cX11_width 8 = .ok (.iaload, 1) := by decide +kernel
theorem dX11_width_9 : decode cX11_width 9 = .ok (.ireturn, 1) := by decide +kernel
theorem dX11_isRow_0 : decode cX11_isRow 0 = .ok (.iload_n 1, 1) := by decide +kernel
theorem dX11_isRow_1 : decode cX11_isRow 1 = .ok (.ifCond .lt 17, 3) := by decide +kernel
theorem dX11_isRow_4 : decode cX11_isRow 4 = .ok (.iload_n 1, 1) := by decide +kernel
theorem dX11_isRow_5 : decode cX11_isRow 5 = .ok (.iconst 1, 1) := by decide +kernel
theorem dX11_isRow_6 : decode cX11_isRow 6 = .ok (.aload_n 0, 1) := by decide +kernel
theorem dX11_isRow_7 : decode cX11_isRow 7 = .ok (.invokevirtual 342, 3) := by decide +kernel
theorem dX11_isRow_10 : decode cX11_isRow 10 = .ok (.ishl, 1) := by decide +kernel
theorem dX11_isRow_11 : decode cX11_isRow 11 = .ok (.if_icmp .ge 7, 3) := by decide +kernel
theorem dX11_isRow_14 : decode cX11_isRow 14 = .ok (.iconst 1, 1) := by decide +kernel
theorem dX11_isRow_15 : decode cX11_isRow 15 = .ok (.goto 4, 3) := by decide +kernel
theorem dX11_isRow_18 : decode cX11_isRow 18 = .ok (.iconst 0, 1) := by decide +kernel
theorem dX11_isRow_19 : decode cX11_isRow 19 = .ok (.ireturn, 1) := by decide +kernel
theorem dX11_isHand_0 : decode cX11_isHand 0 = .ok (.iload_n 1, 1) := by decide +kernel
theorem dX11_isHand_1 : decode cX11_isHand 1 = .ok (.iconst 0, 1) := by decide +kernel
theorem dX11_isHand_2 : decode cX11_isHand 2 = .ok (.aload_n 0, 1) := by decide +kernel
theorem dX11_isHand_3 : decode cX11_isHand 3 = .ok (.getfield 27, 3) := by decide +kernel
theorem dX11_isHand_6 : decode cX11_isHand 6 = .ok (.aload_n 0, 1) := by decide +kernel
theorem dX11_isHand_7 : decode cX11_isHand 7 = .ok (.getfield 250, 3) := by decide +kernel
theorem dX11_isHand_10 : decode cX11_isHand 10 = .ok (.iaload, 1) := by decide +kernel
theorem dX11_isHand_11 : decode cX11_isHand 11 = .ok (.iconst 1, 1) := by decide +kernel
theorem dX11_isHand_12 : decode cX11_isHand 12 = .ok (.isub, 1) := by decide +kernel
theorem dX11_isHand_13 : decode cX11_isHand 13 = .ok (.invokestatic 345, 3) := by decide +kernel
theorem dX11_isHand_16 : decode cX11_isHand 16 = .ok (.ireturn, 1) := by decide +kernel
theorem dX11_isSeal_0 : decode cX11_isSeal 0 = .ok (.iload_n 1, 1) := by decide +kernel
theorem dX11_isSeal_1 : decode cX11_isSeal 1 = .ok (.iconst 0, 1) := by decide +kernel
theorem dX11_isSeal_2 : decode cX11_isSeal 2 = .ok (.aload_n 0, 1) := by decide +kernel
theorem dX11_isSeal_3 : decode cX11_isSeal 3 = .ok (.getfield 77, 3) := by decide +kernel
theorem dX11_isSeal_6 : decode cX11_isSeal 6 = .ok (.sipush 216, 3) := by decide +kernel
theorem dX11_isSeal_9 : decode cX11_isSeal 9 = .ok (.iaload, 1) := by decide +kernel
theorem dX11_isSeal_10 : decode cX11_isSeal 10 = .ok (.iconst 1, 1) := by decide +kernel
theorem dX11_isSeal_11 : decode cX11_isSeal 11 = .ok (.isub, 1) := by decide +kernel
theorem dX11_isSeal_12 : decode cX11_isSeal 12 = .ok (.invokestatic 345, 3) := by decide +kernel
theorem dX11_isSeal_15 : decode cX11_isSeal 15 = .ok (.ireturn, 1) := by decide +kernel
theorem dX11_isHeat_0 : decode cX11_isHeat 0 = .ok (.iload_n 0, 1) := by decide +kernel
theorem dX11_isHeat_1 : decode cX11_isHeat 1 = .ok (.iconst 0, 1) := by decide +kernel
theorem dX11_isHeat_2 : decode cX11_isHeat 2 = .ok (.bipush 9, 2) := by decide +kernel
theorem dX11_isHeat_4 : decode cX11_isHeat 4 = .ok (.invokestatic 345, 3) := by decide +kernel
theorem dX11_isHeat_7 : decode cX11_isHeat 7 = .ok (.ireturn, 1) := by decide +kernel
theorem dX11_rowOf_0 : decode cX11_rowOf 0 = .ok (.aload_n 0, 1) := by decide +kernel
theorem dX11_rowOf_1 : decode cX11_rowOf 1 = .ok (.getfield 77, 3) := by decide +kernel
theorem dX11_rowOf_4 : decode cX11_rowOf 4 = .ok (.iconst 4, 1) := by decide +kernel
theorem dX11_rowOf_5 : decode cX11_rowOf 5 = .ok (.iload_n 1, 1) := by decide +kernel
theorem dX11_rowOf_6 : decode cX11_rowOf 6 = .ok (.imul, 1) := by decide +kernel
theorem dX11_rowOf_7 : decode cX11_rowOf 7 = .ok (.iaload, 1) := by decide +kernel
theorem dX11_rowOf_8 : decode cX11_rowOf 8 = .ok (.ireturn, 1) := by decide +kernel
theorem dX11_turnedRow_0 : decode cX11_turnedRow 0 = .ok (.iconst 0, 1) := by decide +kernel
theorem dX11_turnedRow_1 : decode cX11_turnedRow 1 = .ok (.istore_n 2, 1) := by decide +kernel
theorem dX11_turnedRow_2 : decode cX11_turnedRow 2 = .ok (.iconst 0, 1) := by decide +kernel
theorem dX11_turnedRow_3 : decode cX11_turnedRow 3 = .ok (.istore_n 3, 1) := by decide +kernel
theorem dX11_turnedRow_4 : decode cX11_turnedRow 4 = .ok (.iload_n 3, 1) := by decide +kernel
theorem dX11_turnedRow_5 : decode cX11_turnedRow 5 = .ok (.aload_n 0, 1) := by decide +kernel
theorem dX11_turnedRow_6 : decode cX11_turnedRow 6 = .ok (.invokevirtual 342, 3) := by decide +kernel
theorem dX11_turnedRow_9 : decode cX11_turnedRow 9 = .ok (.if_icmp .ge 31, 3) := by decide +kernel
theorem dX11_turnedRow_12 : decode cX11_turnedRow 12 = .ok (.iload_n 1, 1) := by decide +kernel
theorem dX11_turnedRow_13 : decode cX11_turnedRow 13 = .ok (.iload_n 3, 1) := by decide +kernel
theorem dX11_turnedRow_14 : decode cX11_turnedRow 14 = .ok (.ishr, 1) := by decide +kernel
theorem dX11_turnedRow_15 : decode cX11_turnedRow 15 = .ok (.iconst 1, 1) := by decide +kernel
theorem dX11_turnedRow_16 : decode cX11_turnedRow 16 = .ok (.iand, 1) := by decide +kernel
theorem dX11_turnedRow_17 : decode cX11_turnedRow 17 = .ok (.iconst 1, 1) := by decide +kernel
theorem dX11_turnedRow_18 : decode cX11_turnedRow 18 = .ok (.if_icmp .ne 16, 3) := by decide +kernel
theorem dX11_turnedRow_21 : decode cX11_turnedRow 21 = .ok (.iload_n 2, 1) := by decide +kernel
theorem dX11_turnedRow_22 : decode cX11_turnedRow 22 = .ok (.iconst 1, 1) := by decide +kernel
theorem dX11_turnedRow_23 : decode cX11_turnedRow 23 = .ok (.aload_n 0, 1) := by decide +kernel
theorem dX11_turnedRow_24 : decode cX11_turnedRow 24 = .ok (.invokevirtual 342, 3) := by decide +kernel
theorem dX11_turnedRow_27 : decode cX11_turnedRow 27 = .ok (.iconst 1, 1) := by decide +kernel
theorem dX11_turnedRow_28 : decode cX11_turnedRow 28 = .ok (.isub, 1) := by decide +kernel
theorem dX11_turnedRow_29 : decode cX11_turnedRow 29 = .ok (.iload_n 3, 1) := by decide +kernel
theorem dX11_turnedRow_30 : decode cX11_turnedRow 30 = .ok (.isub, 1) := by decide +kernel
theorem dX11_turnedRow_31 : decode cX11_turnedRow 31 = .ok (.ishl, 1) := by decide +kernel
theorem dX11_turnedRow_32 : decode cX11_turnedRow 32 = .ok (.ior, 1) := by decide +kernel
theorem dX11_turnedRow_33 : decode cX11_turnedRow 33 = .ok (.istore_n 2, 1) := by decide +kernel
theorem dX11_turnedRow_34 : decode cX11_turnedRow 34 = .ok (.iinc 3 1, 3) := by decide +kernel
theorem dX11_turnedRow_37 : decode cX11_turnedRow 37 = .ok (.goto (-33), 3) := by decide +kernel
theorem dX11_turnedRow_40 : decode cX11_turnedRow 40 = .ok (.iload_n 2, 1) := by decide +kernel
theorem dX11_turnedRow_41 : decode cX11_turnedRow 41 = .ok (.ireturn, 1) := by decide +kernel
theorem dX11_castOf_0 : decode cX11_castOf 0 = .ok (.aload_n 0, 1) := by decide +kernel
theorem dX11_castOf_1 : decode cX11_castOf 1 = .ok (.aload_n 0, 1) := by decide +kernel
theorem dX11_castOf_2 : decode cX11_castOf 2 = .ok (.iload_n 1, 1) := by decide +kernel
theorem dX11_castOf_3 : decode cX11_castOf 3 = .ok (.invokevirtual 349, 3) := by decide +kernel
theorem dX11_castOf_6 : decode cX11_castOf 6 = .ok (.putfield 323, 3) := by decide +kernel
theorem dX11_castOf_9 : decode cX11_castOf 9 = .ok (.aload_n 0, 1) := by decide +kernel
theorem dX11_castOf_10 : decode cX11_castOf 10 = .ok (.aload_n 0, 1) := by decide +kernel
theorem dX11_castOf_11 : decode cX11_castOf 11 = .ok (.getfield 323, 3) := by decide +kernel
theorem dX11_castOf_14 : decode cX11_castOf 14 = .ok (.invokestatic 352, 3) := by decide +kernel
theorem dX11_castOf_17 : decode cX11_castOf 17 = .ok (.putfield 326, 3) := by decide +kernel
theorem dX11_castOf_20 : decode cX11_castOf 20 = .ok (.aload_n 0, 1) := by decide +kernel
theorem dX11_castOf_21 : decode cX11_castOf 21 = .ok (.iload_n 3, 1) := by decide +kernel
theorem dX11_castOf_22 : decode cX11_castOf 22 = .ok (.putfield 329, 3) := by decide +kernel
theorem dX11_castOf_25 : decode cX11_castOf 25 = .ok (.aload_n 0, 1) := by decide +kernel
theorem dX11_castOf_26 : decode cX11_castOf 26 = .ok (.iload 4, 2) := by decide +kernel
theorem dX11_castOf_28 : decode cX11_castOf 28 = .ok (.putfield 332, 3) := by decide +kernel
theorem dX11_castOf_31 : decode cX11_castOf 31 = .ok (.iconst 0, 1) := by decide +kernel
theorem dX11_castOf_32 : decode cX11_castOf 32 = .ok (.istore 5, 2) := by decide +kernel
theorem dX11_castOf_34 : decode cX11_castOf 34 = .ok (.iconst 0, 1) := by decide +kernel
theorem dX11_castOf_35 : decode cX11_castOf 35 = .ok (.istore 6, 2) := by decide +kernel
theorem dX11_castOf_37 : decode cX11_castOf 37 = .ok (.iload 6, 2) := by decide +kernel
theorem dX11_castOf_39 : decode cX11_castOf 39 = .ok (.aload_n 0, 1) := by decide +kernel
theorem dX11_castOf_40 : decode cX11_castOf 40 = .ok (.invokevirtual 342, 3) := by decide +kernel
theorem dX11_castOf_43 : decode cX11_castOf 43 = .ok (.if_icmp .ge 91, 3) := by decide +kernel
theorem dX11_castOf_46 : decode cX11_castOf 46 = .ok (.aload_n 0, 1) := by decide +kernel
theorem dX11_castOf_47 : decode cX11_castOf 47 = .ok (.iload 6, 2) := by decide +kernel
theorem dX11_castOf_49 : decode cX11_castOf 49 = .ok (.putfield 320, 3) := by decide +kernel
theorem dX11_castOf_52 : decode cX11_castOf 52 = .ok (.aload_n 0, 1) := by decide +kernel
theorem dX11_castOf_53 : decode cX11_castOf 53 = .ok (.getfield 323, 3) := by decide +kernel
theorem dX11_castOf_56 : decode cX11_castOf 56 = .ok (.iload 6, 2) := by decide +kernel
theorem dX11_castOf_58 : decode cX11_castOf 58 = .ok (.ishr, 1) := by decide +kernel
theorem dX11_castOf_59 : decode cX11_castOf 59 = .ok (.iconst 1, 1) := by decide +kernel
theorem dX11_castOf_60 : decode cX11_castOf 60 = .ok (.iand, 1) := by decide +kernel
theorem dX11_castOf_61 : decode cX11_castOf 61 = .ok (.iconst 1, 1) := by decide +kernel
theorem dX11_castOf_62 : decode cX11_castOf 62 = .ok (.if_icmp .ne 7, 3) := by decide +kernel
theorem dX11_castOf_65 : decode cX11_castOf 65 = .ok (.iconst 1, 1) := by decide +kernel
theorem dX11_castOf_66 : decode cX11_castOf 66 = .ok (.goto 4, 3) := by decide +kernel
theorem dX11_castOf_69 : decode cX11_castOf 69 = .ok (.iconst 0, 1) := by decide +kernel
theorem dX11_castOf_70 : decode cX11_castOf 70 = .ok (.istore 7, 2) := by decide +kernel
theorem dX11_castOf_72 : decode cX11_castOf 72 = .ok (.iload 7, 2) := by decide +kernel
theorem dX11_castOf_74 : decode cX11_castOf 74 = .ok (.ifCond .eq 21, 3) := by decide +kernel
theorem dX11_castOf_77 : decode cX11_castOf 77 = .ok (.aload_n 0, 1) := by decide +kernel
theorem dX11_castOf_78 : decode cX11_castOf 78 = .ok (.iconst 2, 1) := by decide +kernel
theorem dX11_castOf_79 : decode cX11_castOf 79 = .ok (.iload_n 2, 1) := by decide +kernel
theorem dX11_castOf_80 : decode cX11_castOf 80 = .ok (.imul, 1) := by decide +kernel
theorem dX11_castOf_81 : decode cX11_castOf 81 = .ok (.invokevirtual 355, 3) := by decide +kernel
theorem dX11_castOf_84 : decode cX11_castOf 84 = .ok (.ifCond .ne 7, 3) := by decide +kernel
theorem dX11_castOf_87 : decode cX11_castOf 87 = .ok (.iconst 1, 1) := by decide +kernel
theorem dX11_castOf_88 : decode cX11_castOf 88 = .ok (.goto 24, 3) := by decide +kernel
theorem dX11_castOf_91 : decode cX11_castOf 91 = .ok (.iconst 0, 1) := by decide +kernel
theorem dX11_castOf_92 : decode cX11_castOf 92 = .ok (.goto 20, 3) := by decide +kernel
theorem dX11_castOf_95 : decode cX11_castOf 95 = .ok (.aload_n 0, 1) := by decide +kernel
theorem dX11_castOf_96 : decode cX11_castOf 96 = .ok (.iconst 2, 1) := by decide +kernel
theorem dX11_castOf_97 : decode cX11_castOf 97 = .ok (.iload_n 2, 1) := by decide +kernel
theorem dX11_castOf_98 : decode cX11_castOf 98 = .ok (.imul, 1) := by decide +kernel
theorem dX11_castOf_99 : decode cX11_castOf 99 = .ok (.iconst 1, 1) := by decide +kernel
theorem dX11_castOf_100 : decode cX11_castOf 100 = .ok (.iadd, 1) := by decide +kernel
theorem dX11_castOf_101 : decode cX11_castOf 101 = .ok (.invokevirtual 355, 3) := by decide +kernel
theorem dX11_castOf_104 : decode cX11_castOf 104 = .ok (.ifCond .eq 7, 3) := by decide +kernel
theorem dX11_castOf_107 : decode cX11_castOf 107 = .ok (.iconst 1, 1) := by decide +kernel
theorem dX11_castOf_108 : decode cX11_castOf 108 = .ok (.goto 4, 3) := by decide +kernel
theorem dX11_castOf_111 : decode cX11_castOf 111 = .ok (.iconst 0, 1) := by decide +kernel
theorem dX11_castOf_112 : decode cX11_castOf 112 = .ok (.istore 8, 2) := by decide +kernel
theorem dX11_castOf_114 : decode cX11_castOf 114 = .ok (.iload 8, 2) := by decide +kernel
theorem dX11_castOf_116 : decode cX11_castOf 116 = .ok (.ifCond .eq 12, 3) := by decide +kernel
theorem dX11_castOf_119 : decode cX11_castOf 119 = .ok (.iload 5, 2) := by decide +kernel
theorem dX11_castOf_121 : decode cX11_castOf 121 = .ok (.iconst 1, 1) := by decide +kernel
theorem dX11_castOf_122 : decode cX11_castOf 122 = .ok (.iload 6, 2) := by decide +kernel
theorem dX11_castOf_124 : decode cX11_castOf 124 = .ok (.ishl, 1) := by decide +kernel
theorem dX11_castOf_125 : decode cX11_castOf 125 = .ok (.ior, 1) := by decide +kernel
theorem dX11_castOf_126 : decode cX11_castOf 126 = .ok (.istore 5, 2) := by decide +kernel
theorem dX11_castOf_128 : decode cX11_castOf 128 = .ok (.iinc 6 1, 3) := by decide +kernel
theorem dX11_castOf_131 : decode cX11_castOf 131 = .ok (.goto (-94), 3) := by decide +kernel
theorem dX11_castOf_134 : decode cX11_castOf 134 = .ok (.iload 5, 2) := by decide +kernel
theorem dX11_castOf_136 : decode cX11_castOf 136 = .ok (.ireturn, 1) := by decide +kernel
theorem dX11_turned_0 : decode cX11_turned 0 = .ok (.aload_n 0, 1) := by decide +kernel
theorem dX11_turned_1 : decode cX11_turned 1 = .ok (.iload_n 1, 1) := by decide +kernel
theorem dX11_turned_2 : decode cX11_turned 2 = .ok (.invokevirtual 358, 3) := by decide +kernel
theorem dX11_turned_5 : decode cX11_turned 5 = .ok (.ifCond .eq 11, 3) := by decide +kernel
theorem dX11_turned_8 : decode cX11_turned 8 = .ok (.aload_n 0, 1) := by decide +kernel
theorem dX11_turned_9 : decode cX11_turned 9 = .ok (.iload_n 1, 1) := by decide +kernel
theorem dX11_turned_10 : decode cX11_turned 10 = .ok (.invokevirtual 349, 3) := by decide +kernel
theorem dX11_turned_13 : decode cX11_turned 13 = .ok (.goto 4, 3) := by decide +kernel
theorem dX11_turned_16 : decode cX11_turned 16 = .ok (.iconst (-1), 1) := by decide +kernel
theorem dX11_turned_17 : decode cX11_turned 17 = .ok (.ireturn, 1) := by decide +kernel
theorem dX11_would_0 : decode cX11_would 0 = .ok (.aload_n 0, 1) := by decide +kernel
theorem dX11_would_1 : decode cX11_would 1 = .ok (.iload_n 1, 1) := by decide +kernel
theorem dX11_would_2 : decode cX11_would 2 = .ok (.invokevirtual 358, 3) := by decide +kernel
theorem dX11_would_5 : decode cX11_would 5 = .ok (.ifCond .eq 41, 3) := by decide +kernel
theorem dX11_would_8 : decode cX11_would 8 = .ok (.aload_n 0, 1) := by decide +kernel
theorem dX11_would_9 : decode cX11_would 9 = .ok (.iload_n 2, 1) := by decide +kernel
theorem dX11_would_10 : decode cX11_would 10 = .ok (.invokevirtual 361, 3) := by decide +kernel
theorem dX11_would_13 : decode cX11_would 13 = .ok (.ifCond .eq 33, 3) := by decide +kernel
theorem dX11_would_16 : decode cX11_would 16 = .ok (.iload_n 3, 1) := by decide +kernel
theorem dX11_would_17 : decode cX11_would 17 = .ok (.invokestatic 364, 3) := by decide +kernel
theorem dX11_would_20 : decode cX11_would 20 = .ok (.ifCond .eq 26, 3) := by decide +kernel
theorem dX11_would_23 : decode cX11_would 23 = .ok (.iload 4, 2) := by decide +kernel
theorem dX11_would_25 : decode cX11_would 25 = .ok (.iconst 0, 1) := by decide +kernel
theorem dX11_would_26 : decode cX11_would 26 = .ok (.bipush 99, 2) := by decide +kernel
theorem dX11_would_28 : decode cX11_would 28 = .ok (.invokestatic 345, 3) := by decide +kernel
theorem dX11_would_31 : decode cX11_would 31 = .ok (.ifCond .eq 15, 3) := by decide +kernel
theorem dX11_would_34 : decode cX11_would 34 = .ok (.aload_n 0, 1) := by decide +kernel
theorem dX11_would_35 : decode cX11_would 35 = .ok (.iload_n 1, 1) := by decide +kernel
theorem dX11_would_36 : decode cX11_would 36 = .ok (.iload_n 2, 1) := by decide +kernel
theorem dX11_would_37 : decode cX11_would 37 = .ok (.iload_n 3, 1) := by decide +kernel
theorem dX11_would_38 : decode cX11_would 38 = .ok (.iload 4, 2) := by decide +kernel
theorem dX11_would_40 : decode cX11_would 40 = .ok (.invokevirtual 367, 3) := by decide +kernel
theorem dX11_would_43 : decode cX11_would 43 = .ok (.goto 4, 3) := by decide +kernel
theorem dX11_would_46 : decode cX11_would 46 = .ok (.iconst (-1), 1) := by decide +kernel
theorem dX11_would_47 : decode cX11_would 47 = .ok (.ireturn, 1) := by decide +kernel
theorem dX11_startAnew_0 : decode cX11_startAnew 0 = .ok (.iconst 0, 1) := by decide +kernel
theorem dX11_startAnew_1 : decode cX11_startAnew 1 = .ok (.istore_n 1, 1) := by decide +kernel
theorem dX11_startAnew_2 : decode cX11_startAnew 2 = .ok (.iload_n 1, 1) := by decide +kernel
theorem dX11_startAnew_3 : decode cX11_startAnew 3 = .ok (.sipush 221, 3) := by decide +kernel
theorem dX11_startAnew_6 : decode cX11_startAnew 6 = .ok (.if_icmp .ge 16, 3) := by decide +kernel
theorem dX11_startAnew_9 : decode cX11_startAnew 9 = .ok (.aload_n 0, 1) := by decide +kernel
theorem dX11_startAnew_10 : decode cX11_startAnew 10 = .ok (.getfield 77, 3) := by decide +kernel
theorem dX11_startAnew_13 : decode cX11_startAnew 13 = .ok (.iload_n 1, 1) := by decide +kernel
theorem dX11_startAnew_14 : decode cX11_startAnew 14 = .ok (.iconst 0, 1) := by decide +kernel
theorem dX11_startAnew_15 : decode cX11_startAnew 15 = .ok (.iastore, 1) := by decide +kernel
theorem dX11_startAnew_16 : decode cX11_startAnew 16 = .ok (.iinc 1 1, 3) := by decide +kernel
theorem dX11_startAnew_19 : decode cX11_startAnew 19 = .ok (.goto (-17), 3) := by decide +kernel
theorem dX11_startAnew_22 : decode cX11_startAnew 22 = .ok (.aload_n 0, 1) := by decide +kernel
theorem dX11_startAnew_23 : decode cX11_startAnew 23 = .ok (.getfield 77, 3) := by decide +kernel
theorem dX11_startAnew_26 : decode cX11_startAnew 26 = .ok (.iconst 0, 1) := by decide +kernel
theorem dX11_startAnew_27 : decode cX11_startAnew 27 = .ok (.aload_n 0, 1) := by decide +kernel
theorem dX11_startAnew_28 : decode cX11_startAnew 28 = .ok (.getfield 24, 3) := by decide +kernel
theorem dX11_startAnew_31 : decode cX11_startAnew 31 = .ok (.aload_n 0, 1) := by decide +kernel
theorem dX11_startAnew_32 : decode cX11_startAnew 32 = .ok (.getfield 250, 3) := by decide +kernel
theorem dX11_startAnew_35 : decode cX11_startAnew 35 = .ok (.iaload, 1) := by decide +kernel
theorem dX11_startAnew_36 : decode cX11_startAnew 36 = .ok (.iastore, 1) := by decide +kernel
theorem dX11_startAnew_37 : decode cX11_startAnew 37 = .ok (.aload_n 0, 1) := by decide +kernel
theorem dX11_startAnew_38 : decode cX11_startAnew 38 = .ok (.getfield 77, 3) := by decide +kernel
theorem dX11_startAnew_41 : decode cX11_startAnew 41 = .ok (.iconst 1, 1) := by decide +kernel
theorem dX11_startAnew_42 : decode cX11_startAnew 42 = .ok (.iconst (-1), 1) := by decide +kernel
theorem dX11_startAnew_43 : decode cX11_startAnew 43 = .ok (.iastore, 1) := by decide +kernel
theorem dX11_startAnew_44 : decode cX11_startAnew 44 = .ok (.aload_n 0, 1) := by decide +kernel
theorem dX11_startAnew_45 : decode cX11_startAnew 45 = .ok (.getfield 77, 3) := by decide +kernel
theorem dX11_startAnew_48 : decode cX11_startAnew 48 = .ok (.iconst 2, 1) := by decide +kernel
theorem dX11_startAnew_49 : decode cX11_startAnew 49 = .ok (.iconst (-1), 1) := by decide +kernel
theorem dX11_startAnew_50 : decode cX11_startAnew 50 = .ok (.iastore, 1) := by decide +kernel
theorem dX11_startAnew_51 : decode cX11_startAnew 51 = .ok (.aload_n 0, 1) := by decide +kernel
theorem dX11_startAnew_52 : decode cX11_startAnew 52 = .ok (.getfield 77, 3) := by decide +kernel
theorem dX11_startAnew_55 : decode cX11_startAnew 55 = .ok (.sipush 216, 3) := by decide +kernel
theorem dX11_startAnew_58 : decode cX11_startAnew 58 = .ok (.iconst 1, 1) := by decide +kernel
theorem dX11_startAnew_59 : decode cX11_startAnew 59 = .ok (.iastore, 1) := by decide +kernel
theorem dX11_startAnew_60 : decode cX11_startAnew 60 = .ok (.aload_n 0, 1) := by decide +kernel
theorem dX11_startAnew_61 : decode cX11_startAnew 61 = .ok (.getfield 77, 3) := by decide +kernel
theorem dX11_startAnew_64 : decode cX11_startAnew 64 = .ok (.sipush 218, 3) := by decide +kernel
theorem dX11_startAnew_67 : decode cX11_startAnew 67 = .ok (.aload_n 0, 1) := by decide +kernel
theorem dX11_startAnew_68 : decode cX11_startAnew 68 = .ok (.getfield 33, 3) := by decide +kernel
theorem dX11_startAnew_71 : decode cX11_startAnew 71 = .ok (.aload_n 0, 1) := by decide +kernel
theorem dX11_startAnew_72 : decode cX11_startAnew 72 = .ok (.getfield 250, 3) := by decide +kernel
theorem dX11_startAnew_75 : decode cX11_startAnew 75 = .ok (.iaload, 1) := by decide +kernel
theorem dX11_startAnew_76 : decode cX11_startAnew 76 = .ok (.iastore, 1) := by decide +kernel
theorem dX11_startAnew_77 : decode cX11_startAnew 77 = .ok (.aload_n 0, 1) := by decide +kernel
theorem dX11_startAnew_78 : decode cX11_startAnew 78 = .ok (.getfield 77, 3) := by decide +kernel
theorem dX11_startAnew_81 : decode cX11_startAnew 81 = .ok (.sipush 220, 3) := by decide +kernel
theorem dX11_startAnew_84 : decode cX11_startAnew 84 = .ok (.aload_n 0, 1) := by decide +kernel
theorem dX11_startAnew_85 : decode cX11_startAnew 85 = .ok (.getfield 36, 3) := by decide +kernel
theorem dX11_startAnew_88 : decode cX11_startAnew 88 = .ok (.aload_n 0, 1) := by decide +kernel
theorem dX11_startAnew_89 : decode cX11_startAnew 89 = .ok (.getfield 250, 3) := by decide +kernel
theorem dX11_startAnew_92 : decode cX11_startAnew 92 = .ok (.iaload, 1) := by decide +kernel
theorem dX11_startAnew_93 : decode cX11_startAnew 93 = .ok (.iastore, 1) := by decide +kernel
theorem dX11_startAnew_94 : decode cX11_startAnew 94 = .ok (.aload_n 0, 1) := by decide +kernel
theorem dX11_startAnew_95 : decode cX11_startAnew 95 = .ok (.iconst 0, 1) := by decide +kernel
theorem dX11_startAnew_96 : decode cX11_startAnew 96 = .ok (.putfield 371, 3) := by decide +kernel
theorem dX11_startAnew_99 : decode cX11_startAnew 99 = .ok (.aload_n 0, 1) := by decide +kernel
theorem dX11_startAnew_100 : decode cX11_startAnew 100 = .ok (.iconst 0, 1) := by decide +kernel
theorem dX11_startAnew_101 : decode cX11_startAnew 101 = .ok (.putfield 374, 3) := by decide +kernel
theorem dX11_startAnew_104 : decode cX11_startAnew 104 = .ok (.aload_n 0, 1) := by decide +kernel
theorem dX11_startAnew_105 : decode cX11_startAnew 105 = .ok (.iconst 0, 1) := by decide +kernel
theorem dX11_startAnew_106 : decode cX11_startAnew 106 = .ok (.putfield 377, 3) := by decide +kernel
theorem dX11_startAnew_109 : decode cX11_startAnew 109 = .ok (.aload_n 0, 1) := by decide +kernel
theorem dX11_startAnew_110 : decode cX11_startAnew 110 = .ok (.iconst 0, 1) := by decide +kernel
theorem dX11_startAnew_111 : decode cX11_startAnew 111 = .ok (.putfield 380, 3) := by decide +kernel
theorem dX11_startAnew_114 : decode cX11_startAnew 114 = .ok (.iconst 0, 1) := by decide +kernel
theorem dX11_startAnew_115 : decode cX11_startAnew 115 = .ok (.istore_n 1, 1) := by decide +kernel
theorem dX11_startAnew_116 : decode cX11_startAnew 116 = .ok (.iload_n 1, 1) := by decide +kernel
theorem dX11_startAnew_117 : decode cX11_startAnew 117 = .ok (.iconst 3, 1) := by decide +kernel
theorem dX11_startAnew_118 : decode cX11_startAnew 118 = .ok (.if_icmp .ge 16, 3) := by decide +kernel
theorem dX11_startAnew_121 : decode cX11_startAnew 121 = .ok (.aload_n 0, 1) := by decide +kernel
theorem dX11_startAnew_122 : decode cX11_startAnew 122 = .ok (.getfield 144, 3) := by decide +kernel
theorem dX11_startAnew_125 : decode cX11_startAnew 125 = .ok (.iload_n 1, 1) := by decide +kernel
theorem dX11_startAnew_126 : decode cX11_startAnew 126 = .ok (.iconst 0, 1) := by decide +kernel
theorem dX11_startAnew_127 : decode cX11_startAnew 127 = .ok (.bastore, 1) := by decide +kernel
theorem dX11_startAnew_128 : decode cX11_startAnew 128 = .ok (.iinc 1 1, 3) := by decide +kernel
theorem dX11_startAnew_131 : decode cX11_startAnew 131 = .ok (.goto (-15), 3) := by decide +kernel
theorem dX11_startAnew_134 : decode cX11_startAnew 134 = .ok (.return_, 1) := by decide +kernel
theorem dX11_deep_0 : decode cX11_deep 0 = .ok (.iconst 0, 1) := by decide +kernel
theorem dX11_deep_1 : decode cX11_deep 1 = .ok (.istore_n 2, 1) := by decide +kernel
theorem dX11_deep_2 : decode cX11_deep 2 = .ok (.iload_n 1, 1) := by decide +kernel
theorem dX11_deep_3 : decode cX11_deep 3 = .ok (.istore_n 3, 1) := by decide +kernel
theorem dX11_deep_4 : decode cX11_deep 4 = .ok (.iload_n 3, 1) := by decide +kernel
theorem dX11_deep_5 : decode cX11_deep 5 = .ok (.ifCond .le 20, 3) := by decide +kernel
theorem dX11_deep_8 : decode cX11_deep 8 = .ok (.iinc 2 1, 3) := by decide +kernel
theorem dX11_deep_11 : decode cX11_deep 11 = .ok (.aload_n 0, 1) := by decide +kernel
theorem dX11_deep_12 : decode cX11_deep 12 = .ok (.getfield 77, 3) := by decide +kernel
theorem dX11_deep_15 : decode cX11_deep 15 = .ok (.iconst 4, 1) := by decide +kernel
theorem dX11_deep_16 : decode cX11_deep 16 = .ok (.iload_n 3, 1) := by decide +kernel
theorem dX11_deep_17 : decode cX11_deep 17 = .ok (.imul, 1) := by decide +kernel
theorem dX11_deep_18 : decode cX11_deep 18 = .ok (.iconst 1, 1) := by decide +kernel
theorem dX11_deep_19 : decode cX11_deep 19 = .ok (.iadd, 1) := by decide +kernel
theorem dX11_deep_20 : decode cX11_deep 20 = .ok (.iaload, 1) := by decide +kernel
theorem dX11_deep_21 : decode cX11_deep 21 = .ok (.istore_n 3, 1) := by decide +kernel
theorem dX11_deep_22 : decode cX11_deep 22 = .ok (.goto (-18), 3) := by decide +kernel
theorem dX11_deep_25 : decode cX11_deep 25 = .ok (.iload_n 2, 1) := by decide +kernel
theorem dX11_deep_26 : decode cX11_deep 26 = .ok (.ireturn, 1) := by decide +kernel
theorem dX11_seal_0 : decode cX11_seal 0 = .ok (.aload_n 0, 1) := by decide +kernel
theorem dX11_seal_1 : decode cX11_seal 1 = .ok (.iload_n 1, 1) := by decide +kernel
theorem dX11_seal_2 : decode cX11_seal 2 = .ok (.invokevirtual 383, 3) := by decide +kernel
theorem dX11_seal_5 : decode cX11_seal 5 = .ok (.ifCond .eq 12, 3) := by decide +kernel
theorem dX11_seal_8 : decode cX11_seal 8 = .ok (.iload_n 2, 1) := by decide +kernel
theorem dX11_seal_9 : decode cX11_seal 9 = .ok (.iconst 0, 1) := by decide +kernel
theorem dX11_seal_10 : decode cX11_seal 10 = .ok (.iconst 4, 1) := by decide +kernel
theorem dX11_seal_11 : decode cX11_seal 11 = .ok (.invokestatic 345, 3) := by decide +kernel
theorem dX11_seal_14 : decode cX11_seal 14 = .ok (.ifCond .ne 7, 3) := by decide +kernel
theorem dX11_seal_17 : decode cX11_seal 17 = .ok (.iconst (-1), 1) := by decide +kernel
theorem dX11_seal_18 : decode cX11_seal 18 = .ok (.goto 26, 3) := by decide +kernel
theorem dX11_seal_21 : decode cX11_seal 21 = .ok (.iload_n 2, 1) := by decide +kernel
theorem dX11_seal_22 : decode cX11_seal 22 = .ok (.iconst 4, 1) := by decide +kernel
theorem dX11_seal_23 : decode cX11_seal 23 = .ok (.if_icmp .ne 11, 3) := by decide +kernel
theorem dX11_seal_26 : decode cX11_seal 26 = .ok (.aload_n 0, 1) := by decide +kernel
theorem dX11_seal_27 : decode cX11_seal 27 = .ok (.iload_n 1, 1) := by decide +kernel
theorem dX11_seal_28 : decode cX11_seal 28 = .ok (.invokevirtual 386, 3) := by decide +kernel
theorem dX11_seal_31 : decode cX11_seal 31 = .ok (.goto 13, 3) := by decide +kernel
theorem dX11_seal_34 : decode cX11_seal 34 = .ok (.aload_n 0, 1) := by decide +kernel
theorem dX11_seal_35 : decode cX11_seal 35 = .ok (.getfield 77, 3) := by decide +kernel
theorem dX11_seal_38 : decode cX11_seal 38 = .ok (.iconst 4, 1) := by decide +kernel
theorem dX11_seal_39 : decode cX11_seal 39 = .ok (.iload_n 1, 1) := by decide +kernel
theorem dX11_seal_40 : decode cX11_seal 40 = .ok (.imul, 1) := by decide +kernel
theorem dX11_seal_41 : decode cX11_seal 41 = .ok (.iload_n 2, 1) := by decide +kernel
theorem dX11_seal_42 : decode cX11_seal 42 = .ok (.iadd, 1) := by decide +kernel
theorem dX11_seal_43 : decode cX11_seal 43 = .ok (.iaload, 1) := by decide +kernel
theorem dX11_seal_44 : decode cX11_seal 44 = .ok (.ireturn, 1) := by decide +kernel
theorem dX11_shown_0 : decode cX11_shown 0 = .ok (.iload_n 1, 1) := by decide +kernel
theorem dX11_shown_1 : decode cX11_shown 1 = .ok (.iconst 0, 1) := by decide +kernel
theorem dX11_shown_2 : decode cX11_shown 2 = .ok (.aload_n 0, 1) := by decide +kernel
theorem dX11_shown_3 : decode cX11_shown 3 = .ok (.getfield 77, 3) := by decide +kernel
theorem dX11_shown_6 : decode cX11_shown 6 = .ok (.sipush 217, 3) := by decide +kernel
theorem dX11_shown_9 : decode cX11_shown 9 = .ok (.iaload, 1) := by decide +kernel
theorem dX11_shown_10 : decode cX11_shown 10 = .ok (.iconst 1, 1) := by decide +kernel
theorem dX11_shown_11 : decode cX11_shown 11 = .ok (.isub, 1) := by decide +kernel
theorem dX11_shown_12 : decode cX11_shown 12 = .ok (.invokestatic 345, 3) := by decide +kernel
theorem dX11_shown_15 : decode cX11_shown 15 = .ok (.ifCond .eq 28, 3) := by decide +kernel
theorem dX11_shown_18 : decode cX11_shown 18 = .ok (.iload_n 2, 1) := by decide +kernel
theorem dX11_shown_19 : decode cX11_shown 19 = .ok (.iconst 0, 1) := by decide +kernel
theorem dX11_shown_20 : decode cX11_shown 20 = .ok (.iconst 2, 1) := by decide +kernel
theorem dX11_shown_21 : decode cX11_shown 21 = .ok (.invokestatic 345, 3) := by decide +kernel
theorem dX11_shown_24 : decode cX11_shown 24 = .ok (.ifCond .eq 19, 3) := by decide +kernel
theorem dX11_shown_27 : decode cX11_shown 27 = .ok (.aload_n 0, 1) := by decide +kernel
theorem dX11_shown_28 : decode cX11_shown 28 = .ok (.getfield 77, 3) := by decide +kernel
theorem dX11_shown_31 : decode cX11_shown 31 = .ok (.bipush 96, 2) := by decide +kernel
theorem dX11_shown_33 : decode cX11_shown 33 = .ok (.iconst 3, 1) := by decide +kernel
theorem dX11_shown_34 : decode cX11_shown 34 = .ok (.iload_n 1, 1) := by decide +kernel
theorem dX11_shown_35 : decode cX11_shown 35 = .ok (.imul, 1) := by decide +kernel
theorem dX11_shown_36 : decode cX11_shown 36 = .ok (.iadd, 1) := by decide +kernel
theorem dX11_shown_37 : decode cX11_shown 37 = .ok (.iload_n 2, 1) := by decide +kernel
theorem dX11_shown_38 : decode cX11_shown 38 = .ok (.iadd, 1) := by decide +kernel
theorem dX11_shown_39 : decode cX11_shown 39 = .ok (.iaload, 1) := by decide +kernel
theorem dX11_shown_40 : decode cX11_shown 40 = .ok (.goto 4, 3) := by decide +kernel
theorem dX11_shown_43 : decode cX11_shown 43 = .ok (.iconst (-1), 1) := by decide +kernel
theorem dX11_shown_44 : decode cX11_shown 44 = .ok (.ireturn, 1) := by decide +kernel
theorem dX11_prints_0 : decode cX11_prints 0 = .ok (.aload_n 0, 1) := by decide +kernel
theorem dX11_prints_1 : decode cX11_prints 1 = .ok (.iload_n 1, 1) := by decide +kernel
theorem dX11_prints_2 : decode cX11_prints 2 = .ok (.invokevirtual 358, 3) := by decide +kernel
theorem dX11_prints_5 : decode cX11_prints 5 = .ok (.ifCond .eq 12, 3) := by decide +kernel
theorem dX11_prints_8 : decode cX11_prints 8 = .ok (.iload_n 2, 1) := by decide +kernel
theorem dX11_prints_9 : decode cX11_prints 9 = .ok (.iconst 0, 1) := by decide +kernel
theorem dX11_prints_10 : decode cX11_prints 10 = .ok (.iconst 2, 1) := by decide +kernel
theorem dX11_prints_11 : decode cX11_prints 11 = .ok (.invokestatic 345, 3) := by decide +kernel
theorem dX11_prints_14 : decode cX11_prints 14 = .ok (.ifCond .ne 5, 3) := by decide +kernel
theorem dX11_prints_17 : decode cX11_prints 17 = .ok (.iconst (-1), 1) := by decide +kernel
theorem dX11_prints_18 : decode cX11_prints 18 = .ok (.ireturn, 1) := by decide +kernel
theorem dX11_prints_19 : decode cX11_prints 19 = .ok (.iconst 0, 1) := by decide +kernel
theorem dX11_prints_20 : decode cX11_prints 20 = .ok (.istore_n 3, 1) := by decide +kernel
theorem dX11_prints_21 : decode cX11_prints 21 = .ok (.iconst (-1), 1) := by decide +kernel
theorem dX11_prints_22 : decode cX11_prints 22 = .ok (.istore 4, 2) := by decide +kernel
theorem dX11_prints_24 : decode cX11_prints 24 = .ok (.iconst (-1), 1) := by decide +kernel
theorem dX11_prints_25 : decode cX11_prints 25 = .ok (.istore 5, 2) := by decide +kernel
theorem dX11_prints_27 : decode cX11_prints 27 = .ok (.iconst 0, 1) := by decide +kernel
theorem dX11_prints_28 : decode cX11_prints 28 = .ok (.istore 6, 2) := by decide +kernel
theorem dX11_prints_30 : decode cX11_prints 30 = .ok (.iload 6, 2) := by decide +kernel
theorem dX11_prints_32 : decode cX11_prints 32 = .ok (.aload_n 0, 1) := by decide +kernel
theorem dX11_prints_33 : decode cX11_prints 33 = .ok (.getfield 77, 3) := by decide +kernel
theorem dX11_prints_36 : decode cX11_prints 36 = .ok (.sipush 217, 3) := by decide +kernel
theorem dX11_prints_39 : decode cX11_prints 39 = .ok (.iaload, 1) := by decide +kernel
theorem dX11_prints_40 : decode cX11_prints 40 = .ok (.if_icmp .ge 56, 3) := by decide +kernel
theorem dX11_prints_43 : decode cX11_prints 43 = .ok (.aload_n 0, 1) := by decide +kernel
theorem dX11_prints_44 : decode cX11_prints 44 = .ok (.getfield 77, 3) := by decide +kernel
theorem dX11_prints_47 : decode cX11_prints 47 = .ok (.bipush 96, 2) := by decide +kernel
theorem dX11_prints_49 : decode cX11_prints 49 = .ok (.iconst 3, 1) := by decide +kernel
theorem dX11_prints_50 : decode cX11_prints 50 = .ok (.iload 6, 2) := by decide +kernel
theorem dX11_prints_52 : decode cX11_prints 52 = .ok (.imul, 1) := by decide +kernel
theorem dX11_prints_53 : decode cX11_prints 53 = .ok (.iadd, 1) := by decide +kernel
theorem dX11_prints_54 : decode cX11_prints 54 = .ok (.iaload, 1) := by decide +kernel
theorem dX11_prints_55 : decode cX11_prints 55 = .ok (.iload_n 1, 1) := by decide +kernel
theorem dX11_prints_56 : decode cX11_prints 56 = .ok (.if_icmp .eq 6, 3) := by decide +kernel
theorem dX11_prints_59 : decode cX11_prints 59 = .ok (.goto 31, 3) := by decide +kernel
theorem dX11_prints_62 : decode cX11_prints 62 = .ok (.iinc 3 1, 3) := by decide +kernel
theorem dX11_prints_65 : decode cX11_prints 65 = .ok (.aload_n 0, 1) := by decide +kernel
theorem dX11_prints_66 : decode cX11_prints 66 = .ok (.getfield 77, 3) := by decide +kernel
theorem dX11_prints_69 : decode cX11_prints 69 = .ok (.bipush 96, 2) := by decide +kernel
theorem dX11_prints_71 : decode cX11_prints 71 = .ok (.iconst 3, 1) := by decide +kernel
theorem dX11_prints_72 : decode cX11_prints 72 = .ok (.iload 6, 2) := by decide +kernel
theorem dX11_prints_74 : decode cX11_prints 74 = .ok (.imul, 1) := by decide +kernel
theorem dX11_prints_75 : decode cX11_prints 75 = .ok (.iadd, 1) := by decide +kernel
theorem dX11_prints_76 : decode cX11_prints 76 = .ok (.iconst 2, 1) := by decide +kernel
theorem dX11_prints_77 : decode cX11_prints 77 = .ok (.iadd, 1) := by decide +kernel
theorem dX11_prints_78 : decode cX11_prints 78 = .ok (.iaload, 1) := by decide +kernel
theorem dX11_prints_79 : decode cX11_prints 79 = .ok (.istore 5, 2) := by decide +kernel
theorem dX11_prints_81 : decode cX11_prints 81 = .ok (.iload 4, 2) := by decide +kernel
theorem dX11_prints_83 : decode cX11_prints 83 = .ok (.ifCond .ge 7, 3) := by decide +kernel
theorem dX11_prints_86 : decode cX11_prints 86 = .ok (.iload 5, 2) := by decide +kernel
theorem dX11_prints_88 : decode cX11_prints 88 = .ok (.istore 4, 2) := by decide +kernel
theorem dX11_prints_90 : decode cX11_prints 90 = .ok (.iinc 6 1, 3) := by decide +kernel
theorem dX11_prints_93 : decode cX11_prints 93 = .ok (.goto (-63), 3) := by decide +kernel
theorem dX11_prints_96 : decode cX11_prints 96 = .ok (.iload_n 2, 1) := by decide +kernel
theorem dX11_prints_97 : decode cX11_prints 97 = .ok (.ifCond .ne 7, 3) := by decide +kernel
theorem dX11_prints_100 : decode cX11_prints 100 = .ok (.iload_n 3, 1) := by decide +kernel
theorem dX11_prints_101 : decode cX11_prints 101 = .ok (.goto 15, 3) := by decide +kernel
theorem dX11_prints_104 : decode cX11_prints 104 = .ok (.iload_n 2, 1) := by decide +kernel
theorem dX11_prints_105 : decode cX11_prints 105 = .ok (.iconst 1, 1) := by decide +kernel
theorem dX11_prints_106 : decode cX11_prints 106 = .ok (.if_icmp .ne 8, 3) := by decide +kernel
theorem dX11_prints_109 : decode cX11_prints 109 = .ok (.iload 4, 2) := by decide +kernel
theorem dX11_prints_111 : decode cX11_prints 111 = .ok (.goto 5, 3) := by decide +kernel
theorem dX11_prints_114 : decode cX11_prints 114 = .ok (.iload 5, 2) := by decide +kernel
theorem dX11_prints_116 : decode cX11_prints 116 = .ok (.ireturn, 1) := by decide +kernel
theorem dX11_keepAct_0 : decode cX11_keepAct 0 = .ok (.aload_n 0, 1) := by decide +kernel
theorem dX11_keepAct_1 : decode cX11_keepAct 1 = .ok (.getfield 371, 3) := by decide +kernel
theorem dX11_keepAct_4 : decode cX11_keepAct 4 = .ok (.bipush 40, 2) := by decide +kernel
theorem dX11_keepAct_6 : decode cX11_keepAct 6 = .ok (.if_icmp .ne 44, 3) := by decide +kernel
theorem dX11_keepAct_9 : decode cX11_keepAct 9 = .ok (.iconst 0, 1) := by decide +kernel
theorem dX11_keepAct_10 : decode cX11_keepAct 10 = .ok (.istore_n 1, 1) := by decide +kernel
theorem dX11_keepAct_11 : decode cX11_keepAct 11 = .ok (.iload_n 1, 1) := by decide +kernel
theorem dX11_keepAct_12 : decode cX11_keepAct 12 = .ok (.sipush 8840, 3) := by decide +kernel
theorem dX11_keepAct_15 : decode cX11_keepAct 15 = .ok (.if_icmp .ge 25, 3) := by decide +kernel
theorem dX11_keepAct_18 : decode cX11_keepAct 18 = .ok (.aload_n 0, 1) := by decide +kernel
theorem dX11_keepAct_19 : decode cX11_keepAct 19 = .ok (.getfield 80, 3) := by decide +kernel
theorem dX11_keepAct_22 : decode cX11_keepAct 22 = .ok (.iload_n 1, 1) := by decide +kernel
theorem dX11_keepAct_23 : decode cX11_keepAct 23 = .ok (.aload_n 0, 1) := by decide +kernel
theorem dX11_keepAct_24 : decode cX11_keepAct 24 = .ok (.getfield 80, 3) := by decide +kernel
theorem dX11_keepAct_27 : decode cX11_keepAct 27 = .ok (.iload_n 1, 1) := by decide +kernel
theorem dX11_keepAct_28 : decode cX11_keepAct 28 = .ok (.sipush 221, 3) := by decide +kernel
theorem dX11_keepAct_31 : decode cX11_keepAct 31 = .ok (.iadd, 1) := by decide +kernel
theorem dX11_keepAct_32 : decode cX11_keepAct 32 = .ok (.iaload, 1) := by decide +kernel
theorem dX11_keepAct_33 : decode cX11_keepAct 33 = .ok (.iastore, 1) := by decide +kernel
theorem dX11_keepAct_34 : decode cX11_keepAct 34 = .ok (.iinc 1 1, 3) := by decide +kernel
theorem dX11_keepAct_37 : decode cX11_keepAct 37 = .ok (.goto (-26), 3) := by decide +kernel
theorem dX11_keepAct_40 : decode cX11_keepAct 40 = .ok (.aload_n 0, 1) := by decide +kernel
theorem dX11_keepAct_41 : decode cX11_keepAct 41 = .ok (.dup, 1) := by decide +kernel
theorem dX11_keepAct_42 : decode cX11_keepAct 42 = .ok (.getfield 371, 3) := by decide +kernel
theorem dX11_keepAct_45 : decode cX11_keepAct 45 = .ok (.iconst 1, 1) := by decide +kernel
theorem dX11_keepAct_46 : decode cX11_keepAct 46 = .ok (.isub, 1) := by decide +kernel
theorem dX11_keepAct_47 : decode cX11_keepAct 47 = .ok (.putfield 371, 3) := by decide +kernel
theorem dX11_keepAct_50 : decode cX11_keepAct 50 = .ok (.iconst 0, 1) := by decide +kernel
theorem dX11_keepAct_51 : decode cX11_keepAct 51 = .ok (.istore_n 1, 1) := by decide +kernel
theorem dX11_keepAct_52 : decode cX11_keepAct 52 = .ok (.iload_n 1, 1) := by decide +kernel
theorem dX11_keepAct_53 : decode cX11_keepAct 53 = .ok (.sipush 221, 3) := by decide +kernel
theorem dX11_keepAct_56 : decode cX11_keepAct 56 = .ok (.if_icmp .ge 30, 3) := by decide +kernel
theorem dX11_keepAct_59 : decode cX11_keepAct 59 = .ok (.aload_n 0, 1) := by decide +kernel
theorem dX11_keepAct_60 : decode cX11_keepAct 60 = .ok (.getfield 80, 3) := by decide +kernel
theorem dX11_keepAct_63 : decode cX11_keepAct 63 = .ok (.sipush 221, 3) := by decide +kernel
theorem dX11_keepAct_66 : decode cX11_keepAct 66 = .ok (.aload_n 0, 1) := by decide +kernel
theorem dX11_keepAct_67 : decode cX11_keepAct 67 = .ok (.getfield 371, 3) := by decide +kernel
theorem dX11_keepAct_70 : decode cX11_keepAct 70 = .ok (.imul, 1) := by decide +kernel
theorem dX11_keepAct_71 : decode cX11_keepAct 71 = .ok (.iload_n 1, 1) := by decide +kernel
theorem dX11_keepAct_72 : decode cX11_keepAct 72 = .ok (.iadd, 1) := by decide +kernel
theorem dX11_keepAct_73 : decode cX11_keepAct 73 = .ok (.aload_n 0, 1) := by decide +kernel
theorem dX11_keepAct_74 : decode cX11_keepAct 74 = .ok (.getfield 77, 3) := by decide +kernel
theorem dX11_keepAct_77 : decode cX11_keepAct 77 = .ok (.iload_n 1, 1) := by decide +kernel
theorem dX11_keepAct_78 : decode cX11_keepAct 78 = .ok (.iaload, 1) := by decide +kernel
theorem dX11_keepAct_79 : decode cX11_keepAct 79 = .ok (.iastore, 1) := by decide +kernel
theorem dX11_keepAct_80 : decode cX11_keepAct 80 = .ok (.iinc 1 1, 3) := by decide +kernel
theorem dX11_keepAct_83 : decode cX11_keepAct 83 = .ok (.goto (-31), 3) := by decide +kernel
theorem dX11_keepAct_86 : decode cX11_keepAct 86 = .ok (.aload_n 0, 1) := by decide +kernel
theorem dX11_keepAct_87 : decode cX11_keepAct 87 = .ok (.dup, 1) := by decide +kernel
theorem dX11_keepAct_88 : decode cX11_keepAct 88 = .ok (.getfield 371, 3) := by decide +kernel
theorem dX11_keepAct_91 : decode cX11_keepAct 91 = .ok (.iconst 1, 1) := by decide +kernel
theorem dX11_keepAct_92 : decode cX11_keepAct 92 = .ok (.iadd, 1) := by decide +kernel
theorem dX11_keepAct_93 : decode cX11_keepAct 93 = .ok (.putfield 371, 3) := by decide +kernel
theorem dX11_keepAct_96 : decode cX11_keepAct 96 = .ok (.aload_n 0, 1) := by decide +kernel
theorem dX11_keepAct_97 : decode cX11_keepAct 97 = .ok (.iconst 0, 1) := by decide +kernel
theorem dX11_keepAct_98 : decode cX11_keepAct 98 = .ok (.putfield 374, 3) := by decide +kernel
theorem dX11_keepAct_101 : decode cX11_keepAct 101 = .ok (.return_, 1) := by decide +kernel
theorem dX11_exchange_0 : decode cX11_exchange 0 = .ok (.iconst 0, 1) := by decide +kernel
theorem dX11_exchange_1 : decode cX11_exchange 1 = .ok (.istore_n 1, 1) := by decide +kernel
theorem dX11_exchange_2 : decode cX11_exchange 2 = .ok (.iload_n 1, 1) := by decide +kernel
theorem dX11_exchange_3 : decode cX11_exchange 3 = .ok (.sipush 221, 3) := by decide +kernel
theorem dX11_exchange_6 : decode cX11_exchange 6 = .ok (.if_icmp .ge 53, 3) := by decide +kernel
theorem dX11_exchange_9 : decode cX11_exchange 9 = .ok (.aload_n 0, 1) := by decide +kernel
theorem dX11_exchange_10 : decode cX11_exchange 10 = .ok (.getfield 80, 3) := by decide +kernel
theorem dX11_exchange_13 : decode cX11_exchange 13 = .ok (.sipush 221, 3) := by decide +kernel
theorem dX11_exchange_16 : decode cX11_exchange 16 = .ok (.aload_n 0, 1) := by decide +kernel
theorem dX11_exchange_17 : decode cX11_exchange 17 = .ok (.getfield 371, 3) := by decide +kernel
theorem dX11_exchange_20 : decode cX11_exchange 20 = .ok (.imul, 1) := by decide +kernel
theorem dX11_exchange_21 : decode cX11_exchange 21 = .ok (.iload_n 1, 1) := by decide +kernel
theorem dX11_exchange_22 : decode cX11_exchange 22 = .ok (.iadd, 1) := by decide +kernel
theorem dX11_exchange_23 : decode cX11_exchange 23 = .ok (.iaload, 1) := by decide +kernel
theorem dX11_exchange_24 : decode cX11_exchange 24 = .ok (.istore_n 2, 1) := by decide +kernel
theorem dX11_exchange_25 : decode cX11_exchange 25 = .ok (.aload_n 0, 1) := by decide +kernel
theorem dX11_exchange_26 : decode cX11_exchange 26 = .ok (.getfield 80, 3) := by decide +kernel
theorem dX11_exchange_29 : decode cX11_exchange 29 = .ok (.sipush 221, 3) := by decide +kernel
theorem dX11_exchange_32 : decode cX11_exchange 32 = .ok (.aload_n 0, 1) := by decide +kernel
theorem dX11_exchange_33 : decode cX11_exchange 33 = .ok (.getfield 371, 3) := by decide +kernel
theorem dX11_exchange_36 : decode cX11_exchange 36 = .ok (.imul, 1) := by decide +kernel
theorem dX11_exchange_37 : decode cX11_exchange 37 = .ok (.iload_n 1, 1) := by decide +kernel
theorem dX11_exchange_38 : decode cX11_exchange 38 = .ok (.iadd, 1) := by decide +kernel
theorem dX11_exchange_39 : decode cX11_exchange 39 = .ok (.aload_n 0, 1) := by decide +kernel
theorem dX11_exchange_40 : decode cX11_exchange 40 = .ok (.getfield 77, 3) := by decide +kernel
theorem dX11_exchange_43 : decode cX11_exchange 43 = .ok (.iload_n 1, 1) := by decide +kernel
theorem dX11_exchange_44 : decode cX11_exchange 44 = .ok (.iaload, 1) := by decide +kernel
theorem dX11_exchange_45 : decode cX11_exchange 45 = .ok (.iastore, 1) := by decide +kernel
theorem dX11_exchange_46 : decode cX11_exchange 46 = .ok (.aload_n 0, 1) := by decide +kernel
theorem dX11_exchange_47 : decode cX11_exchange 47 = .ok (.getfield 77, 3) := by decide +kernel
theorem dX11_exchange_50 : decode cX11_exchange 50 = .ok (.iload_n 1, 1) := by decide +kernel
theorem dX11_exchange_51 : decode cX11_exchange 51 = .ok (.iload_n 2, 1) := by decide +kernel
theorem dX11_exchange_52 : decode cX11_exchange 52 = .ok (.iastore, 1) := by decide +kernel
theorem dX11_exchange_53 : decode cX11_exchange 53 = .ok (.iinc 1 1, 3) := by decide +kernel
theorem dX11_exchange_56 : decode cX11_exchange 56 = .ok (.goto (-54), 3) := by decide +kernel
theorem dX11_exchange_59 : decode cX11_exchange 59 = .ok (.return_, 1) := by decide +kernel
theorem dX11_cast_0 : decode cX11_cast 0 = .ok (.aload_n 0, 1) := by decide +kernel
theorem dX11_cast_1 : decode cX11_cast 1 = .ok (.iload_n 1, 1) := by decide +kernel
theorem dX11_cast_2 : decode cX11_cast 2 = .ok (.invokevirtual 383, 3) := by decide +kernel
theorem dX11_cast_5 : decode cX11_cast 5 = .ok (.ifCond .eq 45, 3) := by decide +kernel
theorem dX11_cast_8 : decode cX11_cast 8 = .ok (.aload_n 0, 1) := by decide +kernel
theorem dX11_cast_9 : decode cX11_cast 9 = .ok (.iload_n 2, 1) := by decide +kernel
theorem dX11_cast_10 : decode cX11_cast 10 = .ok (.invokevirtual 361, 3) := by decide +kernel
theorem dX11_cast_13 : decode cX11_cast 13 = .ok (.ifCond .eq 37, 3) := by decide +kernel
theorem dX11_cast_16 : decode cX11_cast 16 = .ok (.iload_n 3, 1) := by decide +kernel
theorem dX11_cast_17 : decode cX11_cast 17 = .ok (.invokestatic 364, 3) := by decide +kernel
theorem dX11_cast_20 : decode cX11_cast 20 = .ok (.ifCond .eq 30, 3) := by decide +kernel
theorem dX11_cast_23 : decode cX11_cast 23 = .ok (.aload_n 0, 1) := by decide +kernel
theorem dX11_cast_24 : decode cX11_cast 24 = .ok (.getfield 77, 3) := by decide +kernel
theorem dX11_cast_27 : decode cX11_cast 27 = .ok (.sipush 216, 3) := by decide +kernel
theorem dX11_cast_30 : decode cX11_cast 30 = .ok (.iaload, 1) := by decide +kernel
theorem dX11_cast_31 : decode cX11_cast 31 = .ok (.bipush 24, 2) := by decide +kernel
theorem dX11_cast_33 : decode cX11_cast 33 = .ok (.if_icmp .eq 17, 3) := by decide +kernel
theorem dX11_cast_36 : decode cX11_cast 36 = .ok (.aload_n 0, 1) := by decide +kernel
theorem dX11_cast_37 : decode cX11_cast 37 = .ok (.getfield 77, 3) := by decide +kernel
theorem dX11_cast_40 : decode cX11_cast 40 = .ok (.sipush 218, 3) := by decide +kernel
theorem dX11_cast_43 : decode cX11_cast 43 = .ok (.iaload, 1) := by decide +kernel
theorem dX11_cast_44 : decode cX11_cast 44 = .ok (.iconst 1, 1) := by decide +kernel
theorem dX11_cast_45 : decode cX11_cast 45 = .ok (.iload_n 3, 1) := by decide +kernel
theorem dX11_cast_46 : decode cX11_cast 46 = .ok (.iadd, 1) := by decide +kernel
theorem dX11_cast_47 : decode cX11_cast 47 = .ok (.if_icmp .ge 5, 3) := by decide +kernel
theorem dX11_cast_50 : decode cX11_cast 50 = .ok (.iconst (-1), 1) := by decide +kernel
theorem dX11_cast_51 : decode cX11_cast 51 = .ok (.ireturn, 1) := by decide +kernel
theorem dX11_cast_52 : decode cX11_cast 52 = .ok (.aload_n 0, 1) := by decide +kernel
theorem dX11_cast_53 : decode cX11_cast 53 = .ok (.invokevirtual 389, 3) := by decide +kernel
theorem dX11_cast_56 : decode cX11_cast 56 = .ok (.aload_n 0, 1) := by decide +kernel
theorem dX11_cast_57 : decode cX11_cast 57 = .ok (.getfield 77, 3) := by decide +kernel
theorem dX11_cast_60 : decode cX11_cast 60 = .ok (.sipush 216, 3) := by decide +kernel
theorem dX11_cast_63 : decode cX11_cast 63 = .ok (.iaload, 1) := by decide +kernel
theorem dX11_cast_64 : decode cX11_cast 64 = .ok (.istore 4, 2) := by decide +kernel
theorem dX11_cast_66 : decode cX11_cast 66 = .ok (.aload_n 0, 1) := by decide +kernel
theorem dX11_cast_67 : decode cX11_cast 67 = .ok (.getfield 77, 3) := by decide +kernel
theorem dX11_cast_70 : decode cX11_cast 70 = .ok (.sipush 220, 3) := by decide +kernel
theorem dX11_cast_73 : decode cX11_cast 73 = .ok (.sipush 137, 3) := by decide +kernel
theorem dX11_cast_76 : decode cX11_cast 76 = .ok (.aload_n 0, 1) := by decide +kernel
theorem dX11_cast_77 : decode cX11_cast 77 = .ok (.getfield 77, 3) := by decide +kernel
theorem dX11_cast_80 : decode cX11_cast 80 = .ok (.sipush 220, 3) := by decide +kernel
theorem dX11_cast_83 : decode cX11_cast 83 = .ok (.iaload, 1) := by decide +kernel
theorem dX11_cast_84 : decode cX11_cast 84 = .ok (.imul, 1) := by decide +kernel
theorem dX11_cast_85 : decode cX11_cast 85 = .ok (.bipush 71, 2) := by decide +kernel
theorem dX11_cast_87 : decode cX11_cast 87 = .ok (.iadd, 1) := by decide +kernel
theorem dX11_cast_88 : decode cX11_cast 88 = .ok (.sipush 1000, 3) := by decide +kernel
theorem dX11_cast_91 : decode cX11_cast 91 = .ok (.irem, 1) := by decide +kernel
theorem dX11_cast_92 : decode cX11_cast 92 = .ok (.iastore, 1) := by decide +kernel
theorem dX11_cast_93 : decode cX11_cast 93 = .ok (.aload_n 0, 1) := by decide +kernel
theorem dX11_cast_94 : decode cX11_cast 94 = .ok (.getfield 77, 3) := by decide +kernel
theorem dX11_cast_97 : decode cX11_cast 97 = .ok (.iconst 4, 1) := by decide +kernel
theorem dX11_cast_98 : decode cX11_cast 98 = .ok (.iload 4, 2) := by decide +kernel
theorem dX11_cast_100 : decode cX11_cast 100 = .ok (.imul, 1) := by decide +kernel
theorem dX11_cast_101 : decode cX11_cast 101 = .ok (.aload_n 0, 1) := by decide +kernel
theorem dX11_cast_102 : decode cX11_cast 102 = .ok (.aload_n 0, 1) := by decide +kernel
theorem dX11_cast_103 : decode cX11_cast 103 = .ok (.iload_n 1, 1) := by decide +kernel
theorem dX11_cast_104 : decode cX11_cast 104 = .ok (.invokevirtual 392, 3) := by decide +kernel
theorem dX11_cast_107 : decode cX11_cast 107 = .ok (.iload_n 2, 1) := by decide +kernel
theorem dX11_cast_108 : decode cX11_cast 108 = .ok (.iload_n 3, 1) := by decide +kernel
theorem dX11_cast_109 : decode cX11_cast 109 = .ok (.aload_n 0, 1) := by decide +kernel
theorem dX11_cast_110 : decode cX11_cast 110 = .ok (.getfield 77, 3) := by decide +kernel
theorem dX11_cast_113 : decode cX11_cast 113 = .ok (.sipush 220, 3) := by decide +kernel
theorem dX11_cast_116 : decode cX11_cast 116 = .ok (.iaload, 1) := by decide +kernel
theorem dX11_cast_117 : decode cX11_cast 117 = .ok (.bipush 100, 2) := by decide +kernel
theorem dX11_cast_119 : decode cX11_cast 119 = .ok (.irem, 1) := by decide +kernel
theorem dX11_cast_120 : decode cX11_cast 120 = .ok (.invokevirtual 367, 3) := by decide +kernel
theorem dX11_cast_123 : decode cX11_cast 123 = .ok (.iastore, 1) := by decide +kernel
theorem dX11_cast_124 : decode cX11_cast 124 = .ok (.aload_n 0, 1) := by decide +kernel
theorem dX11_cast_125 : decode cX11_cast 125 = .ok (.getfield 77, 3) := by decide +kernel
theorem dX11_cast_128 : decode cX11_cast 128 = .ok (.iconst 4, 1) := by decide +kernel
theorem dX11_cast_129 : decode cX11_cast 129 = .ok (.iload 4, 2) := by decide +kernel
theorem dX11_cast_131 : decode cX11_cast 131 = .ok (.imul, 1) := by decide +kernel
theorem dX11_cast_132 : decode cX11_cast 132 = .ok (.iconst 1, 1) := by decide +kernel
theorem dX11_cast_133 : decode cX11_cast 133 = .ok (.iadd, 1) := by decide +kernel
theorem dX11_cast_134 : decode cX11_cast 134 = .ok (.iload_n 1, 1) := by decide +kernel
theorem dX11_cast_135 : decode cX11_cast 135 = .ok (.iastore, 1) := by decide +kernel
theorem dX11_cast_136 : decode cX11_cast 136 = .ok (.aload_n 0, 1) := by decide +kernel
theorem dX11_cast_137 : decode cX11_cast 137 = .ok (.getfield 77, 3) := by decide +kernel
theorem dX11_cast_140 : decode cX11_cast 140 = .ok (.iconst 4, 1) := by decide +kernel
theorem dX11_cast_141 : decode cX11_cast 141 = .ok (.iload 4, 2) := by decide +kernel
theorem dX11_cast_143 : decode cX11_cast 143 = .ok (.imul, 1) := by decide +kernel
theorem dX11_cast_144 : decode cX11_cast 144 = .ok (.iconst 2, 1) := by decide +kernel
theorem dX11_cast_145 : decode cX11_cast 145 = .ok (.iadd, 1) := by decide +kernel
theorem dX11_cast_146 : decode cX11_cast 146 = .ok (.iload_n 2, 1) := by decide +kernel
theorem dX11_cast_147 : decode cX11_cast 147 = .ok (.iastore, 1) := by decide +kernel
theorem dX11_cast_148 : decode cX11_cast 148 = .ok (.aload_n 0, 1) := by decide +kernel
theorem dX11_cast_149 : decode cX11_cast 149 = .ok (.getfield 77, 3) := by decide +kernel
theorem dX11_cast_152 : decode cX11_cast 152 = .ok (.iconst 4, 1) := by decide +kernel
theorem dX11_cast_153 : decode cX11_cast 153 = .ok (.iload 4, 2) := by decide +kernel
theorem dX11_cast_155 : decode cX11_cast 155 = .ok (.imul, 1) := by decide +kernel
theorem dX11_cast_156 : decode cX11_cast 156 = .ok (.iconst 3, 1) := by decide +kernel
theorem dX11_cast_157 : decode cX11_cast 157 = .ok (.iadd, 1) := by decide +kernel
theorem dX11_cast_158 : decode cX11_cast 158 = .ok (.aload_n 0, 1) := by decide +kernel
theorem dX11_cast_159 : decode cX11_cast 159 = .ok (.getfield 77, 3) := by decide +kernel
theorem dX11_cast_162 : decode cX11_cast 162 = .ok (.sipush 219, 3) := by decide +kernel
theorem dX11_cast_165 : decode cX11_cast 165 = .ok (.iaload, 1) := by decide +kernel
theorem dX11_cast_166 : decode cX11_cast 166 = .ok (.iastore, 1) := by decide +kernel
theorem dX11_cast_167 : decode cX11_cast 167 = .ok (.aload_n 0, 1) := by decide +kernel
theorem dX11_cast_168 : decode cX11_cast 168 = .ok (.getfield 77, 3) := by decide +kernel
theorem dX11_cast_171 : decode cX11_cast 171 = .ok (.sipush 216, 3) := by decide +kernel
theorem dX11_cast_174 : decode cX11_cast 174 = .ok (.dup2, 1) := by decide +kernel
theorem dX11_cast_175 : decode cX11_cast 175 = .ok (.iaload, 1) := by decide +kernel
theorem dX11_cast_176 : decode cX11_cast 176 = .ok (.iconst 1, 1) := by decide +kernel
theorem dX11_cast_177 : decode cX11_cast 177 = .ok (.iadd, 1) := by decide +kernel
theorem dX11_cast_178 : decode cX11_cast 178 = .ok (.iastore, 1) := by decide +kernel
theorem dX11_cast_179 : decode cX11_cast 179 = .ok (.aload_n 0, 1) := by decide +kernel
theorem dX11_cast_180 : decode cX11_cast 180 = .ok (.getfield 77, 3) := by decide +kernel
theorem dX11_cast_183 : decode cX11_cast 183 = .ok (.sipush 218, 3) := by decide +kernel
theorem dX11_cast_186 : decode cX11_cast 186 = .ok (.dup2, 1) := by decide +kernel
theorem dX11_cast_187 : decode cX11_cast 187 = .ok (.iaload, 1) := by decide +kernel
theorem dX11_cast_188 : decode cX11_cast 188 = .ok (.iconst 1, 1) := by decide +kernel
theorem dX11_cast_189 : decode cX11_cast 189 = .ok (.iload_n 3, 1) := by decide +kernel
theorem dX11_cast_190 : decode cX11_cast 190 = .ok (.iadd, 1) := by decide +kernel
theorem dX11_cast_191 : decode cX11_cast 191 = .ok (.isub, 1) := by decide +kernel
theorem dX11_cast_192 : decode cX11_cast 192 = .ok (.iastore, 1) := by decide +kernel
theorem dX11_cast_193 : decode cX11_cast 193 = .ok (.iload 4, 2) := by decide +kernel
theorem dX11_cast_195 : decode cX11_cast 195 = .ok (.ireturn, 1) := by decide +kernel
theorem dX11_print_0 : decode cX11_print 0 = .ok (.aload_n 0, 1) := by decide +kernel
theorem dX11_print_1 : decode cX11_print 1 = .ok (.iload_n 1, 1) := by decide +kernel
theorem dX11_print_2 : decode cX11_print 2 = .ok (.invokevirtual 383, 3) := by decide +kernel
theorem dX11_print_5 : decode cX11_print 5 = .ok (.ifCond .eq 27, 3) := by decide +kernel
theorem dX11_print_8 : decode cX11_print 8 = .ok (.aload_n 0, 1) := by decide +kernel
theorem dX11_print_9 : decode cX11_print 9 = .ok (.getfield 77, 3) := by decide +kernel
theorem dX11_print_12 : decode cX11_print 12 = .ok (.sipush 217, 3) := by decide +kernel
theorem dX11_print_15 : decode cX11_print 15 = .ok (.iaload, 1) := by decide +kernel
theorem dX11_print_16 : decode cX11_print 16 = .ok (.bipush 40, 2) := by decide +kernel
theorem dX11_print_18 : decode cX11_print 18 = .ok (.if_icmp .eq 14, 3) := by decide +kernel
theorem dX11_print_21 : decode cX11_print 21 = .ok (.aload_n 0, 1) := by decide +kernel
theorem dX11_print_22 : decode cX11_print 22 = .ok (.getfield 77, 3) := by decide +kernel
theorem dX11_print_25 : decode cX11_print 25 = .ok (.sipush 218, 3) := by decide +kernel
theorem dX11_print_28 : decode cX11_print 28 = .ok (.iaload, 1) := by decide +kernel
theorem dX11_print_29 : decode cX11_print 29 = .ok (.ifCond .ne 5, 3) := by decide +kernel
theorem dX11_print_32 : decode cX11_print 32 = .ok (.iconst (-1), 1) := by decide +kernel
theorem dX11_print_33 : decode cX11_print 33 = .ok (.ireturn, 1) := by decide +kernel
theorem dX11_print_34 : decode cX11_print 34 = .ok (.aload_n 0, 1) := by decide +kernel
theorem dX11_print_35 : decode cX11_print 35 = .ok (.invokevirtual 389, 3) := by decide +kernel
theorem dX11_print_38 : decode cX11_print 38 = .ok (.aload_n 0, 1) := by decide +kernel
theorem dX11_print_39 : decode cX11_print 39 = .ok (.getfield 77, 3) := by decide +kernel
theorem dX11_print_42 : decode cX11_print 42 = .ok (.sipush 217, 3) := by decide +kernel
theorem dX11_print_45 : decode cX11_print 45 = .ok (.iaload, 1) := by decide +kernel
theorem dX11_print_46 : decode cX11_print 46 = .ok (.istore_n 2, 1) := by decide +kernel
theorem dX11_print_47 : decode cX11_print 47 = .ok (.aload_n 0, 1) := by decide +kernel
theorem dX11_print_48 : decode cX11_print 48 = .ok (.getfield 77, 3) := by decide +kernel
theorem dX11_print_51 : decode cX11_print 51 = .ok (.bipush 96, 2) := by decide +kernel
theorem dX11_print_53 : decode cX11_print 53 = .ok (.iconst 3, 1) := by decide +kernel
theorem dX11_print_54 : decode cX11_print 54 = .ok (.iload_n 2, 1) := by decide +kernel
theorem dX11_print_55 : decode cX11_print 55 = .ok (.imul, 1) := by decide +kernel
theorem dX11_print_56 : decode cX11_print 56 = .ok (.iadd, 1) := by decide +kernel
theorem dX11_print_57 : decode cX11_print 57 = .ok (.aload_n 0, 1) := by decide +kernel
theorem dX11_print_58 : decode cX11_print 58 = .ok (.aload_n 0, 1) := by decide +kernel
theorem dX11_print_59 : decode cX11_print 59 = .ok (.iload_n 1, 1) := by decide +kernel
theorem dX11_print_60 : decode cX11_print 60 = .ok (.invokevirtual 392, 3) := by decide +kernel
theorem dX11_print_63 : decode cX11_print 63 = .ok (.invokevirtual 349, 3) := by decide +kernel
theorem dX11_print_66 : decode cX11_print 66 = .ok (.iastore, 1) := by decide +kernel
theorem dX11_print_67 : decode cX11_print 67 = .ok (.aload_n 0, 1) := by decide +kernel
theorem dX11_print_68 : decode cX11_print 68 = .ok (.getfield 77, 3) := by decide +kernel
theorem dX11_print_71 : decode cX11_print 71 = .ok (.bipush 96, 2) := by decide +kernel
theorem dX11_print_73 : decode cX11_print 73 = .ok (.iconst 3, 1) := by decide +kernel
theorem dX11_print_74 : decode cX11_print 74 = .ok (.iload_n 2, 1) := by decide +kernel
theorem dX11_print_75 : decode cX11_print 75 = .ok (.imul, 1) := by decide +kernel
theorem dX11_print_76 : decode cX11_print 76 = .ok (.iadd, 1) := by decide +kernel
theorem dX11_print_77 : decode cX11_print 77 = .ok (.iconst 1, 1) := by decide +kernel
theorem dX11_print_78 : decode cX11_print 78 = .ok (.iadd, 1) := by decide +kernel
theorem dX11_print_79 : decode cX11_print 79 = .ok (.iload_n 1, 1) := by decide +kernel
theorem dX11_print_80 : decode cX11_print 80 = .ok (.iastore, 1) := by decide +kernel
theorem dX11_print_81 : decode cX11_print 81 = .ok (.aload_n 0, 1) := by decide +kernel
theorem dX11_print_82 : decode cX11_print 82 = .ok (.getfield 77, 3) := by decide +kernel
theorem dX11_print_85 : decode cX11_print 85 = .ok (.bipush 96, 2) := by decide +kernel
theorem dX11_print_87 : decode cX11_print 87 = .ok (.iconst 3, 1) := by decide +kernel
theorem dX11_print_88 : decode cX11_print 88 = .ok (.iload_n 2, 1) := by decide +kernel
theorem dX11_print_89 : decode cX11_print 89 = .ok (.imul, 1) := by decide +kernel
theorem dX11_print_90 : decode cX11_print 90 = .ok (.iadd, 1) := by decide +kernel
theorem dX11_print_91 : decode cX11_print 91 = .ok (.iconst 2, 1) := by decide +kernel
theorem dX11_print_92 : decode cX11_print 92 = .ok (.iadd, 1) := by decide +kernel
theorem dX11_print_93 : decode cX11_print 93 = .ok (.aload_n 0, 1) := by decide +kernel
theorem dX11_print_94 : decode cX11_print 94 = .ok (.getfield 77, 3) := by decide +kernel
theorem dX11_print_97 : decode cX11_print 97 = .ok (.sipush 219, 3) := by decide +kernel
theorem dX11_print_100 : decode cX11_print 100 = .ok (.iaload, 1) := by decide +kernel
theorem dX11_print_101 : decode cX11_print 101 = .ok (.iastore, 1) := by decide +kernel
theorem dX11_print_102 : decode cX11_print 102 = .ok (.aload_n 0, 1) := by decide +kernel
theorem dX11_print_103 : decode cX11_print 103 = .ok (.getfield 77, 3) := by decide +kernel
theorem dX11_print_106 : decode cX11_print 106 = .ok (.sipush 217, 3) := by decide +kernel
theorem dX11_print_109 : decode cX11_print 109 = .ok (.dup2, 1) := by decide +kernel
theorem dX11_print_110 : decode cX11_print 110 = .ok (.iaload, 1) := by decide +kernel
theorem dX11_print_111 : decode cX11_print 111 = .ok (.iconst 1, 1) := by decide +kernel
theorem dX11_print_112 : decode cX11_print 112 = .ok (.iadd, 1) := by decide +kernel
theorem dX11_print_113 : decode cX11_print 113 = .ok (.iastore, 1) := by decide +kernel
theorem dX11_print_114 : decode cX11_print 114 = .ok (.aload_n 0, 1) := by decide +kernel
theorem dX11_print_115 : decode cX11_print 115 = .ok (.getfield 77, 3) := by decide +kernel
theorem dX11_print_118 : decode cX11_print 118 = .ok (.sipush 218, 3) := by decide +kernel
theorem dX11_print_121 : decode cX11_print 121 = .ok (.dup2, 1) := by decide +kernel
theorem dX11_print_122 : decode cX11_print 122 = .ok (.iaload, 1) := by decide +kernel
theorem dX11_print_123 : decode cX11_print 123 = .ok (.iconst 1, 1) := by decide +kernel
theorem dX11_print_124 : decode cX11_print 124 = .ok (.isub, 1) := by decide +kernel
theorem dX11_print_125 : decode cX11_print 125 = .ok (.iastore, 1) := by decide +kernel
theorem dX11_print_126 : decode cX11_print 126 = .ok (.iload_n 2, 1) := by decide +kernel
theorem dX11_print_127 : decode cX11_print 127 = .ok (.ireturn, 1) := by decide +kernel
theorem dX11_crack_0 : decode cX11_crack 0 = .ok (.aload_n 0, 1) := by decide +kernel
theorem dX11_crack_1 : decode cX11_crack 1 = .ok (.iload_n 1, 1) := by decide +kernel
theorem dX11_crack_2 : decode cX11_crack 2 = .ok (.invokevirtual 383, 3) := by decide +kernel
theorem dX11_crack_5 : decode cX11_crack 5 = .ok (.ifCond .eq 29, 3) := by decide +kernel
theorem dX11_crack_8 : decode cX11_crack 8 = .ok (.iload_n 2, 1) := by decide +kernel
theorem dX11_crack_9 : decode cX11_crack 9 = .ok (.iconst 0, 1) := by decide +kernel
theorem dX11_crack_10 : decode cX11_crack 10 = .ok (.aload_n 0, 1) := by decide +kernel
theorem dX11_crack_11 : decode cX11_crack 11 = .ok (.invokevirtual 342, 3) := by decide +kernel
theorem dX11_crack_14 : decode cX11_crack 14 = .ok (.iconst 1, 1) := by decide +kernel
theorem dX11_crack_15 : decode cX11_crack 15 = .ok (.isub, 1) := by decide +kernel
theorem dX11_crack_16 : decode cX11_crack 16 = .ok (.invokestatic 345, 3) := by decide +kernel
theorem dX11_crack_19 : decode cX11_crack 19 = .ok (.ifCond .eq 15, 3) := by decide +kernel
theorem dX11_crack_22 : decode cX11_crack 22 = .ok (.aload_n 0, 1) := by decide +kernel
theorem dX11_crack_23 : decode cX11_crack 23 = .ok (.iload_n 1, 1) := by decide +kernel
theorem dX11_crack_24 : decode cX11_crack 24 = .ok (.invokevirtual 392, 3) := by decide +kernel
theorem dX11_crack_27 : decode cX11_crack 27 = .ok (.iload_n 2, 1) := by decide +kernel
theorem dX11_crack_28 : decode cX11_crack 28 = .ok (.ishr, 1) := by decide +kernel
theorem dX11_crack_29 : decode cX11_crack 29 = .ok (.iconst 1, 1) := by decide +kernel
theorem dX11_crack_30 : decode cX11_crack 30 = .ok (.iand, 1) := by decide +kernel
theorem dX11_crack_31 : decode cX11_crack 31 = .ok (.ifCond .ne 5, 3) := by decide +kernel
theorem dX11_crack_34 : decode cX11_crack 34 = .ok (.iconst 0, 1) := by decide +kernel
theorem dX11_crack_35 : decode cX11_crack 35 = .ok (.ireturn, 1) := by decide +kernel
theorem dX11_crack_36 : decode cX11_crack 36 = .ok (.aload_n 0, 1) := by decide +kernel
theorem dX11_crack_37 : decode cX11_crack 37 = .ok (.invokevirtual 389, 3) := by decide +kernel
theorem dX11_crack_40 : decode cX11_crack 40 = .ok (.aload_n 0, 1) := by decide +kernel
theorem dX11_crack_41 : decode cX11_crack 41 = .ok (.getfield 77, 3) := by decide +kernel
theorem dX11_crack_44 : decode cX11_crack 44 = .ok (.iconst 4, 1) := by decide +kernel
theorem dX11_crack_45 : decode cX11_crack 45 = .ok (.iload_n 1, 1) := by decide +kernel
theorem dX11_crack_46 : decode cX11_crack 46 = .ok (.imul, 1) := by decide +kernel
theorem dX11_crack_47 : decode cX11_crack 47 = .ok (.dup2, 1) := by decide +kernel
theorem dX11_crack_48 : decode cX11_crack 48 = .ok (.iaload, 1) := by decide +kernel
theorem dX11_crack_49 : decode cX11_crack 49 = .ok (.iconst 1, 1) := by decide +kernel
theorem dX11_crack_50 : decode cX11_crack 50 = .ok (.iload_n 2, 1) := by decide +kernel
theorem dX11_crack_51 : decode cX11_crack 51 = .ok (.ishl, 1) := by decide +kernel
theorem dX11_crack_52 : decode cX11_crack 52 = .ok (.isub, 1) := by decide +kernel
theorem dX11_crack_53 : decode cX11_crack 53 = .ok (.iastore, 1) := by decide +kernel
theorem dX11_crack_54 : decode cX11_crack 54 = .ok (.iconst 1, 1) := by decide +kernel
theorem dX11_crack_55 : decode cX11_crack 55 = .ok (.ireturn, 1) := by decide +kernel
theorem dX11_year_0 : decode cX11_year 0 = .ok (.aload_n 0, 1) := by decide +kernel
theorem dX11_year_1 : decode cX11_year 1 = .ok (.getfield 77, 3) := by decide +kernel
theorem dX11_year_4 : decode cX11_year 4 = .ok (.sipush 219, 3) := by decide +kernel
theorem dX11_year_7 : decode cX11_year 7 = .ok (.iaload, 1) := by decide +kernel
theorem dX11_year_8 : decode cX11_year 8 = .ok (.sipush 999, 3) := by decide +kernel
theorem dX11_year_11 : decode cX11_year 11 = .ok (.if_icmp .ne 5, 3) := by decide +kernel
theorem dX11_year_14 : decode cX11_year 14 = .ok (.iconst (-1), 1) := by decide +kernel
theorem dX11_year_15 : decode cX11_year 15 = .ok (.ireturn, 1) := by decide +kernel
theorem dX11_year_16 : decode cX11_year 16 = .ok (.aload_n 0, 1) := by decide +kernel
theorem dX11_year_17 : decode cX11_year 17 = .ok (.invokevirtual 389, 3) := by decide +kernel
theorem dX11_year_20 : decode cX11_year 20 = .ok (.aload_n 0, 1) := by decide +kernel
theorem dX11_year_21 : decode cX11_year 21 = .ok (.getfield 77, 3) := by decide +kernel
theorem dX11_year_24 : decode cX11_year 24 = .ok (.sipush 219, 3) := by decide +kernel
theorem dX11_year_27 : decode cX11_year 27 = .ok (.dup2, 1) := by decide +kernel
theorem dX11_year_28 : decode cX11_year 28 = .ok (.iaload, 1) := by decide +kernel
theorem dX11_year_29 : decode cX11_year 29 = .ok (.iconst 1, 1) := by decide +kernel
theorem dX11_year_30 : decode cX11_year 30 = .ok (.iadd, 1) := by decide +kernel
theorem dX11_year_31 : decode cX11_year 31 = .ok (.iastore, 1) := by decide +kernel
theorem dX11_year_32 : decode cX11_year 32 = .ok (.aload_n 0, 1) := by decide +kernel
theorem dX11_year_33 : decode cX11_year 33 = .ok (.getfield 77, 3) := by decide +kernel
theorem dX11_year_36 : decode cX11_year 36 = .ok (.sipush 219, 3) := by decide +kernel
theorem dX11_year_39 : decode cX11_year 39 = .ok (.iaload, 1) := by decide +kernel
theorem dX11_year_40 : decode cX11_year 40 = .ok (.ireturn, 1) := by decide +kernel
theorem dX11_undo_0 : decode cX11_undo 0 = .ok (.aload_n 0, 1) := by decide +kernel
theorem dX11_undo_1 : decode cX11_undo 1 = .ok (.getfield 371, 3) := by decide +kernel
theorem dX11_undo_4 : decode cX11_undo 4 = .ok (.ifCond .ne 5, 3) := by decide +kernel
theorem dX11_undo_7 : decode cX11_undo 7 = .ok (.iconst 0, 1) := by decide +kernel
theorem dX11_undo_8 : decode cX11_undo 8 = .ok (.ireturn, 1) := by decide +kernel
theorem dX11_undo_9 : decode cX11_undo 9 = .ok (.aload_n 0, 1) := by decide +kernel
theorem dX11_undo_10 : decode cX11_undo 10 = .ok (.dup, 1) := by decide +kernel
theorem dX11_undo_11 : decode cX11_undo 11 = .ok (.getfield 371, 3) := by decide +kernel
theorem dX11_undo_14 : decode cX11_undo 14 = .ok (.iconst 1, 1) := by decide +kernel
theorem dX11_undo_15 : decode cX11_undo 15 = .ok (.isub, 1) := by decide +kernel
theorem dX11_undo_16 : decode cX11_undo 16 = .ok (.putfield 371, 3) := by decide +kernel
theorem dX11_undo_19 : decode cX11_undo 19 = .ok (.aload_n 0, 1) := by decide +kernel
theorem dX11_undo_20 : decode cX11_undo 20 = .ok (.dup, 1) := by decide +kernel
theorem dX11_undo_21 : decode cX11_undo 21 = .ok (.getfield 374, 3) := by decide +kernel
theorem dX11_undo_24 : decode cX11_undo 24 = .ok (.iconst 1, 1) := by decide +kernel
theorem dX11_undo_25 : decode cX11_undo 25 = .ok (.iadd, 1) := by decide +kernel
theorem dX11_undo_26 : decode cX11_undo 26 = .ok (.putfield 374, 3) := by decide +kernel
theorem dX11_undo_29 : decode cX11_undo 29 = .ok (.aload_n 0, 1) := by decide +kernel
theorem dX11_undo_30 : decode cX11_undo 30 = .ok (.invokevirtual 395, 3) := by decide +kernel
theorem dX11_undo_33 : decode cX11_undo 33 = .ok (.iconst 1, 1) := by decide +kernel
theorem dX11_undo_34 : decode cX11_undo 34 = .ok (.ireturn, 1) := by decide +kernel
theorem dX11_redo_0 : decode cX11_redo 0 = .ok (.aload_n 0, 1) := by decide +kernel
theorem dX11_redo_1 : decode cX11_redo 1 = .ok (.getfield 374, 3) := by decide +kernel
theorem dX11_redo_4 : decode cX11_redo 4 = .ok (.ifCond .ne 5, 3) := by decide +kernel
theorem dX11_redo_7 : decode cX11_redo 7 = .ok (.iconst 0, 1) := by decide +kernel
theorem dX11_redo_8 : decode cX11_redo 8 = .ok (.ireturn, 1) := by decide +kernel
theorem dX11_redo_9 : decode cX11_redo 9 = .ok (.aload_n 0, 1) := by decide +kernel
theorem dX11_redo_10 : decode cX11_redo 10 = .ok (.invokevirtual 395, 3) := by decide +kernel
theorem dX11_redo_13 : decode cX11_redo 13 = .ok (.aload_n 0, 1) := by decide +kernel
theorem dX11_redo_14 : decode cX11_redo 14 = .ok (.dup, 1) := by decide +kernel
theorem dX11_redo_15 : decode cX11_redo 15 = .ok (.getfield 371, 3) := by decide +kernel
theorem dX11_redo_18 : decode cX11_redo 18 = .ok (.iconst 1, 1) := by decide +kernel
theorem dX11_redo_19 : decode cX11_redo 19 = .ok (.iadd, 1) := by decide +kernel
theorem dX11_redo_20 : decode cX11_redo 20 = .ok (.putfield 371, 3) := by decide +kernel
theorem dX11_redo_23 : decode cX11_redo 23 = .ok (.aload_n 0, 1) := by decide +kernel
theorem dX11_redo_24 : decode cX11_redo 24 = .ok (.dup, 1) := by decide +kernel
theorem dX11_redo_25 : decode cX11_redo 25 = .ok (.getfield 374, 3) := by decide +kernel
theorem dX11_redo_28 : decode cX11_redo 28 = .ok (.iconst 1, 1) := by decide +kernel
theorem dX11_redo_29 : decode cX11_redo 29 = .ok (.isub, 1) := by decide +kernel
theorem dX11_redo_30 : decode cX11_redo 30 = .ok (.putfield 374, 3) := by decide +kernel
theorem dX11_redo_33 : decode cX11_redo 33 = .ok (.iconst 1, 1) := by decide +kernel
theorem dX11_redo_34 : decode cX11_redo 34 = .ok (.ireturn, 1) := by decide +kernel
theorem dX11_whose_0 : decode cX11_whose 0 = .ok (.aload_n 0, 1) := by decide +kernel
theorem dX11_whose_1 : decode cX11_whose 1 = .ok (.iload_n 1, 1) := by decide +kernel
theorem dX11_whose_2 : decode cX11_whose 2 = .ok (.invokevirtual 383, 3) := by decide +kernel
theorem dX11_whose_5 : decode cX11_whose 5 = .ok (.ifCond .eq 18, 3) := by decide +kernel
theorem dX11_whose_8 : decode cX11_whose 8 = .ok (.iload_n 2, 1) := by decide +kernel
theorem dX11_whose_9 : decode cX11_whose 9 = .ok (.invokestatic 364, 3) := by decide +kernel
theorem dX11_whose_12 : decode cX11_whose 12 = .ok (.ifCond .eq 11, 3) := by decide +kernel
theorem dX11_whose_15 : decode cX11_whose 15 = .ok (.aload_n 0, 1) := by decide +kernel
theorem dX11_whose_16 : decode cX11_whose 16 = .ok (.iload_n 3, 1) := by decide +kernel
theorem dX11_whose_17 : decode cX11_whose 17 = .ok (.invokevirtual 358, 3) := by decide +kernel
theorem dX11_whose_20 : decode cX11_whose 20 = .ok (.ifCond .ne 5, 3) := by decide +kernel
theorem dX11_whose_23 : decode cX11_whose 23 = .ok (.iconst (-1), 1) := by decide +kernel
theorem dX11_whose_24 : decode cX11_whose 24 = .ok (.ireturn, 1) := by decide +kernel
theorem dX11_whose_25 : decode cX11_whose 25 = .ok (.iconst 0, 1) := by decide +kernel
theorem dX11_whose_26 : decode cX11_whose 26 = .ok (.istore 4, 2) := by decide +kernel
theorem dX11_whose_28 : decode cX11_whose 28 = .ok (.iconst 0, 1) := by decide +kernel
theorem dX11_whose_29 : decode cX11_whose 29 = .ok (.istore 5, 2) := by decide +kernel
theorem dX11_whose_31 : decode cX11_whose 31 = .ok (.iload 5, 2) := by decide +kernel
theorem dX11_whose_33 : decode cX11_whose 33 = .ok (.aload_n 0, 1) := by decide +kernel
theorem dX11_whose_34 : decode cX11_whose 34 = .ok (.getfield 27, 3) := by decide +kernel
theorem dX11_whose_37 : decode cX11_whose 37 = .ok (.aload_n 0, 1) := by decide +kernel
theorem dX11_whose_38 : decode cX11_whose 38 = .ok (.getfield 250, 3) := by decide +kernel
theorem dX11_whose_41 : decode cX11_whose 41 = .ok (.iaload, 1) := by decide +kernel
theorem dX11_whose_42 : decode cX11_whose 42 = .ok (.if_icmp .ge 35, 3) := by decide +kernel
theorem dX11_whose_45 : decode cX11_whose 45 = .ok (.aload_n 0, 1) := by decide +kernel
theorem dX11_whose_46 : decode cX11_whose 46 = .ok (.aload_n 0, 1) := by decide +kernel
theorem dX11_whose_47 : decode cX11_whose 47 = .ok (.iload_n 1, 1) := by decide +kernel
theorem dX11_whose_48 : decode cX11_whose 48 = .ok (.invokevirtual 392, 3) := by decide +kernel
theorem dX11_whose_51 : decode cX11_whose 51 = .ok (.iload 5, 2) := by decide +kernel
theorem dX11_whose_53 : decode cX11_whose 53 = .ok (.iload_n 2, 1) := by decide +kernel
theorem dX11_whose_54 : decode cX11_whose 54 = .ok (.iconst 0, 1) := by decide +kernel
theorem dX11_whose_55 : decode cX11_whose 55 = .ok (.invokevirtual 367, 3) := by decide +kernel
theorem dX11_whose_58 : decode cX11_whose 58 = .ok (.iload_n 3, 1) := by decide +kernel
theorem dX11_whose_59 : decode cX11_whose 59 = .ok (.if_icmp .ne 12, 3) := by decide +kernel
theorem dX11_whose_62 : decode cX11_whose 62 = .ok (.iload 4, 2) := by decide +kernel
theorem dX11_whose_64 : decode cX11_whose 64 = .ok (.iconst 1, 1) := by decide +kernel
theorem dX11_whose_65 : decode cX11_whose 65 = .ok (.iload 5, 2) := by decide +kernel
theorem dX11_whose_67 : decode cX11_whose 67 = .ok (.ishl, 1) := by decide +kernel
theorem dX11_whose_68 : decode cX11_whose 68 = .ok (.ior, 1) := by decide +kernel
theorem dX11_whose_69 : decode cX11_whose 69 = .ok (.istore 4, 2) := by decide +kernel
theorem dX11_whose_71 : decode cX11_whose 71 = .ok (.iinc 5 1, 3) := by decide +kernel
theorem dX11_whose_74 : decode cX11_whose 74 = .ok (.goto (-43), 3) := by decide +kernel
theorem dX11_whose_77 : decode cX11_whose 77 = .ok (.iload 4, 2) := by decide +kernel
theorem dX11_whose_79 : decode cX11_whose 79 = .ok (.ireturn, 1) := by decide +kernel
theorem dX11_made_0 : decode cX11_made 0 = .ok (.aload_n 0, 1) := by decide +kernel
theorem dX11_made_1 : decode cX11_made 1 = .ok (.iload_n 1, 1) := by decide +kernel
theorem dX11_made_2 : decode cX11_made 2 = .ok (.invokevirtual 358, 3) := by decide +kernel
theorem dX11_made_5 : decode cX11_made 5 = .ok (.ifCond .eq 13, 3) := by decide +kernel
theorem dX11_made_8 : decode cX11_made 8 = .ok (.iload_n 2, 1) := by decide +kernel
theorem dX11_made_9 : decode cX11_made 9 = .ok (.iconst 0, 1) := by decide +kernel
theorem dX11_made_10 : decode cX11_made 10 = .ok (.bipush 12, 2) := by decide +kernel
theorem dX11_made_12 : decode cX11_made 12 = .ok (.invokestatic 345, 3) := by decide +kernel
theorem dX11_made_15 : decode cX11_made 15 = .ok (.ifCond .ne 5, 3) := by decide +kernel
theorem dX11_made_18 : decode cX11_made 18 = .ok (.iconst (-1), 1) := by decide +kernel
theorem dX11_made_19 : decode cX11_made 19 = .ok (.ireturn, 1) := by decide +kernel
theorem dX11_made_20 : decode cX11_made 20 = .ok (.iconst 0, 1) := by decide +kernel
theorem dX11_made_21 : decode cX11_made 21 = .ok (.istore_n 3, 1) := by decide +kernel
theorem dX11_made_22 : decode cX11_made 22 = .ok (.iconst 0, 1) := by decide +kernel
theorem dX11_made_23 : decode cX11_made 23 = .ok (.istore 4, 2) := by decide +kernel
theorem dX11_made_25 : decode cX11_made 25 = .ok (.iload 4, 2) := by decide +kernel
theorem dX11_made_27 : decode cX11_made 27 = .ok (.aload_n 0, 1) := by decide +kernel
theorem dX11_made_28 : decode cX11_made 28 = .ok (.getfield 77, 3) := by decide +kernel
theorem dX11_made_31 : decode cX11_made 31 = .ok (.sipush 216, 3) := by decide +kernel
theorem dX11_made_34 : decode cX11_made 34 = .ok (.iaload, 1) := by decide +kernel
theorem dX11_made_35 : decode cX11_made 35 = .ok (.if_icmp .ge 47, 3) := by decide +kernel
theorem dX11_made_38 : decode cX11_made 38 = .ok (.aload_n 0, 1) := by decide +kernel
theorem dX11_made_39 : decode cX11_made 39 = .ok (.aload_n 0, 1) := by decide +kernel
theorem dX11_made_40 : decode cX11_made 40 = .ok (.iload 4, 2) := by decide +kernel
theorem dX11_made_42 : decode cX11_made 42 = .ok (.invokevirtual 392, 3) := by decide +kernel
theorem dX11_made_45 : decode cX11_made 45 = .ok (.invokevirtual 349, 3) := by decide +kernel
theorem dX11_made_48 : decode cX11_made 48 = .ok (.istore 5, 2) := by decide +kernel
theorem dX11_made_50 : decode cX11_made 50 = .ok (.iload_n 1, 1) := by decide +kernel
theorem dX11_made_51 : decode cX11_made 51 = .ok (.iload 5, 2) := by decide +kernel
theorem dX11_made_53 : decode cX11_made 53 = .ok (.iand, 1) := by decide +kernel
theorem dX11_made_54 : decode cX11_made 54 = .ok (.iload_n 1, 1) := by decide +kernel
theorem dX11_made_55 : decode cX11_made 55 = .ok (.if_icmp .ne 21, 3) := by decide +kernel
theorem dX11_made_58 : decode cX11_made 58 = .ok (.iload 5, 2) := by decide +kernel
theorem dX11_made_60 : decode cX11_made 60 = .ok (.iload_n 1, 1) := by decide +kernel
theorem dX11_made_61 : decode cX11_made 61 = .ok (.isub, 1) := by decide +kernel
theorem dX11_made_62 : decode cX11_made 62 = .ok (.invokestatic 352, 3) := by decide +kernel
theorem dX11_made_65 : decode cX11_made 65 = .ok (.iload_n 2, 1) := by decide +kernel
theorem dX11_made_66 : decode cX11_made 66 = .ok (.if_icmp .gt 10, 3) := by decide +kernel
theorem dX11_made_69 : decode cX11_made 69 = .ok (.iload_n 3, 1) := by decide +kernel
theorem dX11_made_70 : decode cX11_made 70 = .ok (.iconst 1, 1) := by decide +kernel
theorem dX11_made_71 : decode cX11_made 71 = .ok (.iload 4, 2) := by decide +kernel
theorem dX11_made_73 : decode cX11_made 73 = .ok (.ishl, 1) := by decide +kernel
theorem dX11_made_74 : decode cX11_made 74 = .ok (.ior, 1) := by decide +kernel
theorem dX11_made_75 : decode cX11_made 75 = .ok (.istore_n 3, 1) := by decide +kernel
theorem dX11_made_76 : decode cX11_made 76 = .ok (.iinc 4 1, 3) := by decide +kernel
theorem dX11_made_79 : decode cX11_made 79 = .ok (.goto (-54), 3) := by decide +kernel
theorem dX11_made_82 : decode cX11_made 82 = .ok (.iload_n 3, 1) := by decide +kernel
theorem dX11_made_83 : decode cX11_made 83 = .ok (.ireturn, 1) := by decide +kernel
theorem dX11_apart_0 : decode cX11_apart 0 = .ok (.aload_n 0, 1) := by decide +kernel
theorem dX11_apart_1 : decode cX11_apart 1 = .ok (.iload_n 1, 1) := by decide +kernel
theorem dX11_apart_2 : decode cX11_apart 2 = .ok (.invokevirtual 383, 3) := by decide +kernel
theorem dX11_apart_5 : decode cX11_apart 5 = .ok (.ifCond .eq 44, 3) := by decide +kernel
theorem dX11_apart_8 : decode cX11_apart 8 = .ok (.aload_n 0, 1) := by decide +kernel
theorem dX11_apart_9 : decode cX11_apart 9 = .ok (.iload_n 2, 1) := by decide +kernel
theorem dX11_apart_10 : decode cX11_apart 10 = .ok (.invokevirtual 383, 3) := by decide +kernel
theorem dX11_apart_13 : decode cX11_apart 13 = .ok (.ifCond .eq 36, 3) := by decide +kernel
theorem dX11_apart_16 : decode cX11_apart 16 = .ok (.aload_n 0, 1) := by decide +kernel
theorem dX11_apart_17 : decode cX11_apart 17 = .ok (.iload_n 1, 1) := by decide +kernel
theorem dX11_apart_18 : decode cX11_apart 18 = .ok (.invokevirtual 392, 3) := by decide +kernel
theorem dX11_apart_21 : decode cX11_apart 21 = .ok (.iload_n 3, 1) := by decide +kernel
theorem dX11_apart_22 : decode cX11_apart 22 = .ok (.ifCond .eq 15, 3) := by decide +kernel
theorem dX11_apart_25 : decode cX11_apart 25 = .ok (.aload_n 0, 1) := by decide +kernel
theorem dX11_apart_26 : decode cX11_apart 26 = .ok (.aload_n 0, 1) := by decide +kernel
theorem dX11_apart_27 : decode cX11_apart 27 = .ok (.iload_n 2, 1) := by decide +kernel
theorem dX11_apart_28 : decode cX11_apart 28 = .ok (.invokevirtual 392, 3) := by decide +kernel
theorem dX11_apart_31 : decode cX11_apart 31 = .ok (.invokevirtual 349, 3) := by decide +kernel
theorem dX11_apart_34 : decode cX11_apart 34 = .ok (.goto 8, 3) := by decide +kernel
theorem dX11_apart_37 : decode cX11_apart 37 = .ok (.aload_n 0, 1) := by decide +kernel
theorem dX11_apart_38 : decode cX11_apart 38 = .ok (.iload_n 2, 1) := by decide +kernel
theorem dX11_apart_39 : decode cX11_apart 39 = .ok (.invokevirtual 392, 3) := by decide +kernel
theorem dX11_apart_42 : decode cX11_apart 42 = .ok (.ixor, 1) := by decide +kernel
theorem dX11_apart_43 : decode cX11_apart 43 = .ok (.invokestatic 352, 3) := by decide +kernel
theorem dX11_apart_46 : decode cX11_apart 46 = .ok (.goto 4, 3) := by decide +kernel
theorem dX11_apart_49 : decode cX11_apart 49 = .ok (.iconst (-1), 1) := by decide +kernel
theorem dX11_apart_50 : decode cX11_apart 50 = .ok (.ireturn, 1) := by decide +kernel
theorem dX11_heats_0 : decode cX11_heats 0 = .ok (.aload_n 0, 1) := by decide +kernel
theorem dX11_heats_1 : decode cX11_heats 1 = .ok (.iload_n 1, 1) := by decide +kernel
theorem dX11_heats_2 : decode cX11_heats 2 = .ok (.invokevirtual 383, 3) := by decide +kernel
theorem dX11_heats_5 : decode cX11_heats 5 = .ok (.ifCond .eq 19, 3) := by decide +kernel
theorem dX11_heats_8 : decode cX11_heats 8 = .ok (.aload_n 0, 1) := by decide +kernel
theorem dX11_heats_9 : decode cX11_heats 9 = .ok (.iload_n 2, 1) := by decide +kernel
theorem dX11_heats_10 : decode cX11_heats 10 = .ok (.invokevirtual 361, 3) := by decide +kernel
theorem dX11_heats_13 : decode cX11_heats 13 = .ok (.ifCond .eq 11, 3) := by decide +kernel
theorem dX11_heats_16 : decode cX11_heats 16 = .ok (.aload_n 0, 1) := by decide +kernel
theorem dX11_heats_17 : decode cX11_heats 17 = .ok (.iload_n 3, 1) := by decide +kernel
theorem dX11_heats_18 : decode cX11_heats 18 = .ok (.invokevirtual 358, 3) := by decide +kernel
theorem dX11_heats_21 : decode cX11_heats 21 = .ok (.ifCond .ne 5, 3) := by decide +kernel
theorem dX11_heats_24 : decode cX11_heats 24 = .ok (.iconst (-1), 1) := by decide +kernel
theorem dX11_heats_25 : decode cX11_heats 25 = .ok (.ireturn, 1) := by decide +kernel
theorem dX11_heats_26 : decode cX11_heats 26 = .ok (.iconst 0, 1) := by decide +kernel
theorem dX11_heats_27 : decode cX11_heats 27 = .ok (.istore 4, 2) := by decide +kernel
theorem dX11_heats_29 : decode cX11_heats 29 = .ok (.iconst 0, 1) := by decide +kernel
theorem dX11_heats_30 : decode cX11_heats 30 = .ok (.istore 5, 2) := by decide +kernel
theorem dX11_heats_32 : decode cX11_heats 32 = .ok (.iload 5, 2) := by decide +kernel
theorem dX11_heats_34 : decode cX11_heats 34 = .ok (.bipush 9, 2) := by decide +kernel
theorem dX11_heats_36 : decode cX11_heats 36 = .ok (.if_icmp .gt 35, 3) := by decide +kernel
theorem dX11_heats_39 : decode cX11_heats 39 = .ok (.aload_n 0, 1) := by decide +kernel
theorem dX11_heats_40 : decode cX11_heats 40 = .ok (.aload_n 0, 1) := by decide +kernel
theorem dX11_heats_41 : decode cX11_heats 41 = .ok (.iload_n 1, 1) := by decide +kernel
theorem dX11_heats_42 : decode cX11_heats 42 = .ok (.invokevirtual 392, 3) := by decide +kernel
theorem dX11_heats_45 : decode cX11_heats 45 = .ok (.iload_n 2, 1) := by decide +kernel
theorem dX11_heats_46 : decode cX11_heats 46 = .ok (.iload 5, 2) := by decide +kernel
theorem dX11_heats_48 : decode cX11_heats 48 = .ok (.iconst 0, 1) := by decide +kernel
theorem dX11_heats_49 : decode cX11_heats 49 = .ok (.invokevirtual 367, 3) := by decide +kernel
theorem dX11_heats_52 : decode cX11_heats 52 = .ok (.iload_n 3, 1) := by decide +kernel
theorem dX11_heats_53 : decode cX11_heats 53 = .ok (.if_icmp .ne 12, 3) := by decide +kernel
theorem dX11_heats_56 : decode cX11_heats 56 = .ok (.iload 4, 2) := by decide +kernel
theorem dX11_heats_58 : decode cX11_heats 58 = .ok (.iconst 1, 1) := by decide +kernel
theorem dX11_heats_59 : decode cX11_heats 59 = .ok (.iload 5, 2) := by decide +kernel
theorem dX11_heats_61 : decode cX11_heats 61 = .ok (.ishl, 1) := by decide +kernel
theorem dX11_heats_62 : decode cX11_heats 62 = .ok (.ior, 1) := by decide +kernel
theorem dX11_heats_63 : decode cX11_heats 63 = .ok (.istore 4, 2) := by decide +kernel
theorem dX11_heats_65 : decode cX11_heats 65 = .ok (.iinc 5 1, 3) := by decide +kernel
theorem dX11_heats_68 : decode cX11_heats 68 = .ok (.goto (-36), 3) := by decide +kernel
theorem dX11_heats_71 : decode cX11_heats 71 = .ok (.iload 4, 2) := by decide +kernel
theorem dX11_heats_73 : decode cX11_heats 73 = .ok (.ireturn, 1) := by decide +kernel
theorem dX11_luckOf_0 : decode cX11_luckOf 0 = .ok (.iconst 0, 1) := by decide +kernel
theorem dX11_luckOf_1 : decode cX11_luckOf 1 = .ok (.istore 5, 2) := by decide +kernel
theorem dX11_luckOf_3 : decode cX11_luckOf 3 = .ok (.iconst 0, 1) := by decide +kernel
theorem dX11_luckOf_4 : decode cX11_luckOf 4 = .ok (.istore 6, 2) := by decide +kernel
theorem dX11_luckOf_6 : decode cX11_luckOf 6 = .ok (.iload 6, 2) := by decide +kernel
theorem dX11_luckOf_8 : decode cX11_luckOf 8 = .ok (.bipush 100, 2) := by decide +kernel
theorem dX11_luckOf_10 : decode cX11_luckOf 10 = .ok (.if_icmp .ge 37, 3) := by decide +kernel
theorem dX11_luckOf_13 : decode cX11_luckOf 13 = .ok (.iload 5, 2) := by decide +kernel
theorem dX11_luckOf_15 : decode cX11_luckOf 15 = .ok (.aload_n 0, 1) := by decide +kernel
theorem dX11_luckOf_16 : decode cX11_luckOf 16 = .ok (.aload_n 0, 1) := by decide +kernel
theorem dX11_luckOf_17 : decode cX11_luckOf 17 = .ok (.iload_n 1, 1) := by decide +kernel
theorem dX11_luckOf_18 : decode cX11_luckOf 18 = .ok (.invokevirtual 392, 3) := by decide +kernel
theorem dX11_luckOf_21 : decode cX11_luckOf 21 = .ok (.iload_n 2, 1) := by decide +kernel
theorem dX11_luckOf_22 : decode cX11_luckOf 22 = .ok (.iload_n 3, 1) := by decide +kernel
theorem dX11_luckOf_23 : decode cX11_luckOf 23 = .ok (.iload 6, 2) := by decide +kernel
theorem dX11_luckOf_25 : decode cX11_luckOf 25 = .ok (.invokevirtual 367, 3) := by decide +kernel
theorem dX11_luckOf_28 : decode cX11_luckOf 28 = .ok (.iload 4, 2) := by decide +kernel
theorem dX11_luckOf_30 : decode cX11_luckOf 30 = .ok (.if_icmp .ne 7, 3) := by decide +kernel
theorem dX11_luckOf_33 : decode cX11_luckOf 33 = .ok (.iconst 1, 1) := by decide +kernel
theorem dX11_luckOf_34 : decode cX11_luckOf 34 = .ok (.goto 4, 3) := by decide +kernel
theorem dX11_luckOf_37 : decode cX11_luckOf 37 = .ok (.iconst 0, 1) := by decide +kernel
theorem dX11_luckOf_38 : decode cX11_luckOf 38 = .ok (.iadd, 1) := by decide +kernel
theorem dX11_luckOf_39 : decode cX11_luckOf 39 = .ok (.istore 5, 2) := by decide +kernel
theorem dX11_luckOf_41 : decode cX11_luckOf 41 = .ok (.iinc 6 1, 3) := by decide +kernel
theorem dX11_luckOf_44 : decode cX11_luckOf 44 = .ok (.goto (-38), 3) := by decide +kernel
theorem dX11_luckOf_47 : decode cX11_luckOf 47 = .ok (.iload 5, 2) := by decide +kernel
theorem dX11_luckOf_49 : decode cX11_luckOf 49 = .ok (.ireturn, 1) := by decide +kernel
theorem dX11_canCast_0 : decode cX11_canCast 0 = .ok (.aload_n 0, 1) := by decide +kernel
theorem dX11_canCast_1 : decode cX11_canCast 1 = .ok (.iload_n 1, 1) := by decide +kernel
theorem dX11_canCast_2 : decode cX11_canCast 2 = .ok (.invokevirtual 383, 3) := by decide +kernel
theorem dX11_canCast_5 : decode cX11_canCast 5 = .ok (.ifCond .eq 22, 3) := by decide +kernel
theorem dX11_canCast_8 : decode cX11_canCast 8 = .ok (.aload_n 0, 1) := by decide +kernel
theorem dX11_canCast_9 : decode cX11_canCast 9 = .ok (.iload_n 2, 1) := by decide +kernel
theorem dX11_canCast_10 : decode cX11_canCast 10 = .ok (.invokevirtual 361, 3) := by decide +kernel
theorem dX11_canCast_13 : decode cX11_canCast 13 = .ok (.ifCond .eq 14, 3) := by decide +kernel
theorem dX11_canCast_16 : decode cX11_canCast 16 = .ok (.iload_n 3, 1) := by decide +kernel
theorem dX11_canCast_17 : decode cX11_canCast 17 = .ok (.invokestatic 364, 3) := by decide +kernel
theorem dX11_canCast_20 : decode cX11_canCast 20 = .ok (.ifCond .eq 7, 3) := by decide +kernel
theorem dX11_canCast_23 : decode cX11_canCast 23 = .ok (.iconst 1, 1) := by decide +kernel
theorem dX11_canCast_24 : decode cX11_canCast 24 = .ok (.goto 4, 3) := by decide +kernel
theorem dX11_canCast_27 : decode cX11_canCast 27 = .ok (.iconst 0, 1) := by decide +kernel
theorem dX11_canCast_28 : decode cX11_canCast 28 = .ok (.ireturn, 1) := by decide +kernel
theorem dX11_luck_0 : decode cX11_luck 0 = .ok (.aload_n 0, 1) := by decide +kernel
theorem dX11_luck_1 : decode cX11_luck 1 = .ok (.iload_n 1, 1) := by decide +kernel
theorem dX11_luck_2 : decode cX11_luck 2 = .ok (.iload_n 2, 1) := by decide +kernel
theorem dX11_luck_3 : decode cX11_luck 3 = .ok (.iload_n 3, 1) := by decide +kernel
theorem dX11_luck_4 : decode cX11_luck 4 = .ok (.invokevirtual 398, 3) := by decide +kernel
theorem dX11_luck_7 : decode cX11_luck 7 = .ok (.ifCond .eq 24, 3) := by decide +kernel
theorem dX11_luck_10 : decode cX11_luck 10 = .ok (.aload_n 0, 1) := by decide +kernel
theorem dX11_luck_11 : decode cX11_luck 11 = .ok (.iload 4, 2) := by decide +kernel
theorem dX11_luck_13 : decode cX11_luck 13 = .ok (.invokevirtual 358, 3) := by decide +kernel
theorem dX11_luck_16 : decode cX11_luck 16 = .ok (.ifCond .eq 15, 3) := by decide +kernel
theorem dX11_luck_19 : decode cX11_luck 19 = .ok (.aload_n 0, 1) := by decide +kernel
theorem dX11_luck_20 : decode cX11_luck 20 = .ok (.iload_n 1, 1) := by decide +kernel
theorem dX11_luck_21 : decode cX11_luck 21 = .ok (.iload_n 2, 1) := by decide +kernel
theorem dX11_luck_22 : decode cX11_luck 22 = .ok (.iload_n 3, 1) := by decide +kernel
theorem dX11_luck_23 : decode cX11_luck 23 = .ok (.iload 4, 2) := by decide +kernel
theorem dX11_luck_25 : decode cX11_luck 25 = .ok (.invokevirtual 401, 3) := by decide +kernel
theorem dX11_luck_28 : decode cX11_luck 28 = .ok (.goto 4, 3) := by decide +kernel
theorem dX11_luck_31 : decode cX11_luck 31 = .ok (.iconst (-1), 1) := by decide +kernel
theorem dX11_luck_32 : decode cX11_luck 32 = .ok (.ireturn, 1) := by decide +kernel
theorem dX11_likely_0 : decode cX11_likely 0 = .ok (.aload_n 0, 1) := by decide +kernel
theorem dX11_likely_1 : decode cX11_likely 1 = .ok (.iload_n 1, 1) := by decide +kernel
theorem dX11_likely_2 : decode cX11_likely 2 = .ok (.iload_n 2, 1) := by decide +kernel
theorem dX11_likely_3 : decode cX11_likely 3 = .ok (.iload_n 3, 1) := by decide +kernel
theorem dX11_likely_4 : decode cX11_likely 4 = .ok (.invokevirtual 398, 3) := by decide +kernel
theorem dX11_likely_7 : decode cX11_likely 7 = .ok (.ifCond .eq 13, 3) := by decide +kernel
theorem dX11_likely_10 : decode cX11_likely 10 = .ok (.iload 4, 2) := by decide +kernel
theorem dX11_likely_12 : decode cX11_likely 12 = .ok (.iconst 0, 1) := by decide +kernel
theorem dX11_likely_13 : decode cX11_likely 13 = .ok (.iconst 1, 1) := by decide +kernel
theorem dX11_likely_14 : decode cX11_likely 14 = .ok (.invokestatic 345, 3) := by decide +kernel
theorem dX11_likely_17 : decode cX11_likely 17 = .ok (.ifCond .ne 5, 3) := by decide +kernel
theorem dX11_likely_20 : decode cX11_likely 20 = .ok (.iconst (-1), 1) := by decide +kernel
theorem dX11_likely_21 : decode cX11_likely 21 = .ok (.ireturn, 1) := by decide +kernel
theorem dX11_likely_22 : decode cX11_likely 22 = .ok (.iconst 0, 1) := by decide +kernel
theorem dX11_likely_23 : decode cX11_likely 23 = .ok (.istore 5, 2) := by decide +kernel
theorem dX11_likely_25 : decode cX11_likely 25 = .ok (.iload 5, 2) := by decide +kernel
theorem dX11_likely_27 : decode cX11_likely 27 = .ok (.bipush 100, 2) := by decide +kernel
theorem dX11_likely_29 : decode cX11_likely 29 = .ok (.if_icmp .ge 29, 3) := by decide +kernel
theorem dX11_likely_32 : decode cX11_likely 32 = .ok (.aload_n 0, 1) := by decide +kernel
theorem dX11_likely_33 : decode cX11_likely 33 = .ok (.getfield 83, 3) := by decide +kernel
theorem dX11_likely_36 : decode cX11_likely 36 = .ok (.iload 5, 2) := by decide +kernel
theorem dX11_likely_38 : decode cX11_likely 38 = .ok (.aload_n 0, 1) := by decide +kernel
theorem dX11_likely_39 : decode cX11_likely 39 = .ok (.aload_n 0, 1) := by decide +kernel
theorem dX11_likely_40 : decode cX11_likely 40 = .ok (.iload_n 1, 1) := by decide +kernel
theorem dX11_likely_41 : decode cX11_likely 41 = .ok (.invokevirtual 392, 3) := by decide +kernel
theorem dX11_likely_44 : decode cX11_likely 44 = .ok (.iload_n 2, 1) := by decide +kernel
theorem dX11_likely_45 : decode cX11_likely 45 = .ok (.iload_n 3, 1) := by decide +kernel
theorem dX11_likely_46 : decode cX11_likely 46 = .ok (.iload 5, 2) := by decide +kernel
theorem dX11_likely_48 : decode cX11_likely 48 = .ok (.invokevirtual 367, 3) := by decide +kernel
theorem dX11_likely_51 : decode cX11_likely 51 = .ok (.iastore, 1) := by decide +kernel
theorem dX11_likely_52 : decode cX11_likely 52 = .ok (.iinc 5 1, 3) := by decide +kernel
theorem dX11_likely_55 : decode cX11_likely 55 = .ok (.goto (-30), 3) := by decide +kernel
theorem dX11_likely_58 : decode cX11_likely 58 = .ok (.iconst (-1), 1) := by decide +kernel
theorem dX11_likely_59 : decode cX11_likely 59 = .ok (.istore 5, 2) := by decide +kernel
theorem dX11_likely_61 : decode cX11_likely 61 = .ok (.iconst 0, 1) := by decide +kernel
theorem dX11_likely_62 : decode cX11_likely 62 = .ok (.istore 6, 2) := by decide +kernel
theorem dX11_likely_64 : decode cX11_likely 64 = .ok (.iconst 0, 1) := by decide +kernel
theorem dX11_likely_65 : decode cX11_likely 65 = .ok (.istore 7, 2) := by decide +kernel
theorem dX11_likely_67 : decode cX11_likely 67 = .ok (.iload 7, 2) := by decide +kernel
theorem dX11_likely_69 : decode cX11_likely 69 = .ok (.bipush 100, 2) := by decide +kernel
theorem dX11_likely_71 : decode cX11_likely 71 = .ok (.if_icmp .ge 97, 3) := by decide +kernel
theorem dX11_likely_74 : decode cX11_likely 74 = .ok (.iconst 0, 1) := by decide +kernel
theorem dX11_likely_75 : decode cX11_likely 75 = .ok (.istore 8, 2) := by decide +kernel
theorem dX11_likely_77 : decode cX11_likely 77 = .ok (.iconst 0, 1) := by decide +kernel
theorem dX11_likely_78 : decode cX11_likely 78 = .ok (.istore 9, 2) := by decide +kernel
theorem dX11_likely_80 : decode cX11_likely 80 = .ok (.iload 9, 2) := by decide +kernel
theorem dX11_likely_82 : decode cX11_likely 82 = .ok (.bipush 100, 2) := by decide +kernel
theorem dX11_likely_84 : decode cX11_likely 84 = .ok (.if_icmp .ge 36, 3) := by decide +kernel
theorem dX11_likely_87 : decode cX11_likely 87 = .ok (.iload 8, 2) := by decide +kernel
theorem dX11_likely_89 : decode cX11_likely 89 = .ok (.aload_n 0, 1) := by decide +kernel
theorem dX11_likely_90 : decode cX11_likely 90 = .ok (.getfield 83, 3) := by decide +kernel
theorem dX11_likely_93 : decode cX11_likely 93 = .ok (.iload 9, 2) := by decide +kernel
theorem dX11_likely_95 : decode cX11_likely 95 = .ok (.iaload, 1) := by decide +kernel
theorem dX11_likely_96 : decode cX11_likely 96 = .ok (.aload_n 0, 1) := by decide +kernel
theorem dX11_likely_97 : decode cX11_likely 97 = .ok (.getfield 83, 3) := by decide +kernel
theorem dX11_likely_100 : decode cX11_likely 100 = .ok (.iload 7, 2) := by decide +kernel
theorem dX11_likely_102 : decode cX11_likely 102 = .ok (.iaload, 1) := by decide +kernel
theorem dX11_likely_103 : decode cX11_likely 103 = .ok (.if_icmp .ne 7, 3) := by decide +kernel
theorem dX11_likely_106 : decode cX11_likely 106 = .ok (.iconst 1, 1) := by decide +kernel
theorem dX11_likely_107 : decode cX11_likely 107 = .ok (.goto 4, 3) := by decide +kernel
theorem dX11_likely_110 : decode cX11_likely 110 = .ok (.iconst 0, 1) := by decide +kernel
theorem dX11_likely_111 : decode cX11_likely 111 = .ok (.iadd, 1) := by decide +kernel
theorem dX11_likely_112 : decode cX11_likely 112 = .ok (.istore 8, 2) := by decide +kernel
theorem dX11_likely_114 : decode cX11_likely 114 = .ok (.iinc 9 1, 3) := by decide +kernel
theorem dX11_likely_117 : decode cX11_likely 117 = .ok (.goto (-37), 3) := by decide +kernel
theorem dX11_likely_120 : decode cX11_likely 120 = .ok (.iload 8, 2) := by decide +kernel
theorem dX11_likely_122 : decode cX11_likely 122 = .ok (.iload 6, 2) := by decide +kernel
theorem dX11_likely_124 : decode cX11_likely 124 = .ok (.if_icmp .lt 38, 3) := by decide +kernel
theorem dX11_likely_127 : decode cX11_likely 127 = .ok (.iload 8, 2) := by decide +kernel
theorem dX11_likely_129 : decode cX11_likely 129 = .ok (.iload 6, 2) := by decide +kernel
theorem dX11_likely_131 : decode cX11_likely 131 = .ok (.if_icmp .ne 18, 3) := by decide +kernel
theorem dX11_likely_134 : decode cX11_likely 134 = .ok (.aload_n 0, 1) := by decide +kernel
theorem dX11_likely_135 : decode cX11_likely 135 = .ok (.getfield 83, 3) := by decide +kernel
theorem dX11_likely_138 : decode cX11_likely 138 = .ok (.iload 7, 2) := by decide +kernel
theorem dX11_likely_140 : decode cX11_likely 140 = .ok (.iaload, 1) := by decide +kernel
theorem dX11_likely_141 : decode cX11_likely 141 = .ok (.iload 5, 2) := by decide +kernel
theorem dX11_likely_143 : decode cX11_likely 143 = .ok (.if_icmp .lt 6, 3) := by decide +kernel
theorem dX11_likely_146 : decode cX11_likely 146 = .ok (.goto 16, 3) := by decide +kernel
theorem dX11_likely_149 : decode cX11_likely 149 = .ok (.iload 8, 2) := by decide +kernel
theorem dX11_likely_151 : decode cX11_likely 151 = .ok (.istore 6, 2) := by decide +kernel
theorem dX11_likely_153 : decode cX11_likely 153 = .ok (.aload_n 0, 1) := by decide +kernel
theorem dX11_likely_154 : decode cX11_likely 154 = .ok (.getfield 83, 3) := by decide +kernel
theorem dX11_likely_157 : decode cX11_likely 157 = .ok (.iload 7, 2) := by decide +kernel
theorem dX11_likely_159 : decode cX11_likely 159 = .ok (.iaload, 1) := by decide +kernel
theorem dX11_likely_160 : decode cX11_likely 160 = .ok (.istore 5, 2) := by decide +kernel
theorem dX11_likely_162 : decode cX11_likely 162 = .ok (.iinc 7 1, 3) := by decide +kernel
theorem dX11_likely_165 : decode cX11_likely 165 = .ok (.goto (-98), 3) := by decide +kernel
theorem dX11_likely_168 : decode cX11_likely 168 = .ok (.iload 4, 2) := by decide +kernel
theorem dX11_likely_170 : decode cX11_likely 170 = .ok (.ifCond .ne 8, 3) := by decide +kernel
theorem dX11_likely_173 : decode cX11_likely 173 = .ok (.iload 5, 2) := by decide +kernel
theorem dX11_likely_175 : decode cX11_likely 175 = .ok (.goto 5, 3) := by decide +kernel
theorem dX11_likely_178 : decode cX11_likely 178 = .ok (.iload 6, 2) := by decide +kernel
theorem dX11_likely_180 : decode cX11_likely 180 = .ok (.ireturn, 1) := by decide +kernel
theorem dX11_fades_0 : decode cX11_fades 0 = .ok (.aload_n 0, 1) := by decide +kernel
theorem dX11_fades_1 : decode cX11_fades 1 = .ok (.iload_n 1, 1) := by decide +kernel
theorem dX11_fades_2 : decode cX11_fades 2 = .ok (.iload_n 2, 1) := by decide +kernel
theorem dX11_fades_3 : decode cX11_fades 3 = .ok (.iload_n 3, 1) := by decide +kernel
theorem dX11_fades_4 : decode cX11_fades 4 = .ok (.invokevirtual 398, 3) := by decide +kernel
theorem dX11_fades_7 : decode cX11_fades 7 = .ok (.ifCond .ne 5, 3) := by decide +kernel
theorem dX11_fades_10 : decode cX11_fades 10 = .ok (.iconst (-1), 1) := by decide +kernel
theorem dX11_fades_11 : decode cX11_fades 11 = .ok (.ireturn, 1) := by decide +kernel
theorem dX11_fades_12 : decode cX11_fades 12 = .ok (.aload_n 0, 1) := by decide +kernel
theorem dX11_fades_13 : decode cX11_fades 13 = .ok (.iload_n 1, 1) := by decide +kernel
theorem dX11_fades_14 : decode cX11_fades 14 = .ok (.invokevirtual 392, 3) := by decide +kernel
theorem dX11_fades_17 : decode cX11_fades 17 = .ok (.istore 4, 2) := by decide +kernel
theorem dX11_fades_19 : decode cX11_fades 19 = .ok (.iconst 0, 1) := by decide +kernel
theorem dX11_fades_20 : decode cX11_fades 20 = .ok (.istore 5, 2) := by decide +kernel
theorem dX11_fades_22 : decode cX11_fades 22 = .ok (.iload 5, 2) := by decide +kernel
theorem dX11_fades_24 : decode cX11_fades 24 = .ok (.sipush 4096, 3) := by decide +kernel
theorem dX11_fades_27 : decode cX11_fades 27 = .ok (.if_icmp .gt 28, 3) := by decide +kernel
theorem dX11_fades_30 : decode cX11_fades 30 = .ok (.iload 4, 2) := by decide +kernel
theorem dX11_fades_32 : decode cX11_fades 32 = .ok (.ifCond .ne 6, 3) := by decide +kernel
theorem dX11_fades_35 : decode cX11_fades 35 = .ok (.iload 5, 2) := by decide +kernel
theorem dX11_fades_37 : decode cX11_fades 37 = .ok (.ireturn, 1) := by decide +kernel
theorem dX11_fades_38 : decode cX11_fades 38 = .ok (.aload_n 0, 1) := by decide +kernel
theorem dX11_fades_39 : decode cX11_fades 39 = .ok (.iload 4, 2) := by decide +kernel
theorem dX11_fades_41 : decode cX11_fades 41 = .ok (.iload_n 2, 1) := by decide +kernel
theorem dX11_fades_42 : decode cX11_fades 42 = .ok (.iload_n 3, 1) := by decide +kernel
theorem dX11_fades_43 : decode cX11_fades 43 = .ok (.iconst 0, 1) := by decide +kernel
theorem dX11_fades_44 : decode cX11_fades 44 = .ok (.invokevirtual 367, 3) := by decide +kernel
theorem dX11_fades_47 : decode cX11_fades 47 = .ok (.istore 4, 2) := by decide +kernel
theorem dX11_fades_49 : decode cX11_fades 49 = .ok (.iinc 5 1, 3) := by decide +kernel
theorem dX11_fades_52 : decode cX11_fades 52 = .ok (.goto (-30), 3) := by decide +kernel
theorem dX11_fades_55 : decode cX11_fades 55 = .ok (.iconst (-1), 1) := by decide +kernel
theorem dX11_fades_56 : decode cX11_fades 56 = .ok (.ireturn, 1) := by decide +kernel
theorem dX11_kinOf_0 : decode cX11_kinOf 0 = .ok (.iload_n 1, 1) := by decide +kernel
theorem dX11_kinOf_1 : decode cX11_kinOf 1 = .ok (.istore_n 3, 1) := by decide +kernel
theorem dX11_kinOf_2 : decode cX11_kinOf 2 = .ok (.iload_n 2, 1) := by decide +kernel
theorem dX11_kinOf_3 : decode cX11_kinOf 3 = .ok (.istore 4, 2) := by decide +kernel
theorem dX11_kinOf_5 : decode cX11_kinOf 5 = .ok (.iload_n 3, 1) := by decide +kernel
theorem dX11_kinOf_6 : decode cX11_kinOf 6 = .ok (.iload 4, 2) := by decide +kernel
theorem dX11_kinOf_8 : decode cX11_kinOf 8 = .ok (.if_icmp .eq 39, 3) := by decide +kernel
theorem dX11_kinOf_11 : decode cX11_kinOf 11 = .ok (.iload_n 3, 1) := by decide +kernel
theorem dX11_kinOf_12 : decode cX11_kinOf 12 = .ok (.iload 4, 2) := by decide +kernel
theorem dX11_kinOf_14 : decode cX11_kinOf 14 = .ok (.if_icmp .le 17, 3) := by decide +kernel
theorem dX11_kinOf_17 : decode cX11_kinOf 17 = .ok (.aload_n 0, 1) := by decide +kernel
theorem dX11_kinOf_18 : decode cX11_kinOf 18 = .ok (.getfield 77, 3) := by decide +kernel
theorem dX11_kinOf_21 : decode cX11_kinOf 21 = .ok (.iconst 4, 1) := by decide +kernel
theorem dX11_kinOf_22 : decode cX11_kinOf 22 = .ok (.iload_n 3, 1) := by decide +kernel
theorem dX11_kinOf_23 : decode cX11_kinOf 23 = .ok (.imul, 1) := by decide +kernel
theorem dX11_kinOf_24 : decode cX11_kinOf 24 = .ok (.iconst 1, 1) := by decide +kernel
theorem dX11_kinOf_25 : decode cX11_kinOf 25 = .ok (.iadd, 1) := by decide +kernel
theorem dX11_kinOf_26 : decode cX11_kinOf 26 = .ok (.iaload, 1) := by decide +kernel
theorem dX11_kinOf_27 : decode cX11_kinOf 27 = .ok (.istore_n 3, 1) := by decide +kernel
theorem dX11_kinOf_28 : decode cX11_kinOf 28 = .ok (.goto (-23), 3) := by decide +kernel
theorem dX11_kinOf_31 : decode cX11_kinOf 31 = .ok (.aload_n 0, 1) := by decide +kernel
theorem dX11_kinOf_32 : decode cX11_kinOf 32 = .ok (.getfield 77, 3) := by decide +kernel
theorem dX11_kinOf_35 : decode cX11_kinOf 35 = .ok (.iconst 4, 1) := by decide +kernel
theorem dX11_kinOf_36 : decode cX11_kinOf 36 = .ok (.iload 4, 2) := by decide +kernel
theorem dX11_kinOf_38 : decode cX11_kinOf 38 = .ok (.imul, 1) := by decide +kernel
theorem dX11_kinOf_39 : decode cX11_kinOf 39 = .ok (.iconst 1, 1) := by decide +kernel
theorem dX11_kinOf_40 : decode cX11_kinOf 40 = .ok (.iadd, 1) := by decide +kernel
theorem dX11_kinOf_41 : decode cX11_kinOf 41 = .ok (.iaload, 1) := by decide +kernel
theorem dX11_kinOf_42 : decode cX11_kinOf 42 = .ok (.istore 4, 2) := by decide +kernel
theorem dX11_kinOf_44 : decode cX11_kinOf 44 = .ok (.goto (-39), 3) := by decide +kernel
theorem dX11_kinOf_47 : decode cX11_kinOf 47 = .ok (.iload_n 3, 1) := by decide +kernel
theorem dX11_kinOf_48 : decode cX11_kinOf 48 = .ok (.ireturn, 1) := by decide +kernel
theorem dX11_kin_0 : decode cX11_kin 0 = .ok (.aload_n 0, 1) := by decide +kernel
theorem dX11_kin_1 : decode cX11_kin 1 = .ok (.iload_n 1, 1) := by decide +kernel
theorem dX11_kin_2 : decode cX11_kin 2 = .ok (.invokevirtual 383, 3) := by decide +kernel
theorem dX11_kin_5 : decode cX11_kin 5 = .ok (.ifCond .eq 20, 3) := by decide +kernel
theorem dX11_kin_8 : decode cX11_kin 8 = .ok (.aload_n 0, 1) := by decide +kernel
theorem dX11_kin_9 : decode cX11_kin 9 = .ok (.iload_n 2, 1) := by decide +kernel
theorem dX11_kin_10 : decode cX11_kin 10 = .ok (.invokevirtual 383, 3) := by decide +kernel
theorem dX11_kin_13 : decode cX11_kin 13 = .ok (.ifCond .eq 12, 3) := by decide +kernel
theorem dX11_kin_16 : decode cX11_kin 16 = .ok (.iload_n 3, 1) := by decide +kernel
theorem dX11_kin_17 : decode cX11_kin 17 = .ok (.iconst 0, 1) := by decide +kernel
theorem dX11_kin_18 : decode cX11_kin 18 = .ok (.iconst 1, 1) := by decide +kernel
theorem dX11_kin_19 : decode cX11_kin 19 = .ok (.invokestatic 345, 3) := by decide +kernel
theorem dX11_kin_22 : decode cX11_kin 22 = .ok (.ifCond .ne 5, 3) := by decide +kernel
theorem dX11_kin_25 : decode cX11_kin 25 = .ok (.iconst (-1), 1) := by decide +kernel
theorem dX11_kin_26 : decode cX11_kin 26 = .ok (.ireturn, 1) := by decide +kernel
theorem dX11_kin_27 : decode cX11_kin 27 = .ok (.aload_n 0, 1) := by decide +kernel
theorem dX11_kin_28 : decode cX11_kin 28 = .ok (.iload_n 1, 1) := by decide +kernel
theorem dX11_kin_29 : decode cX11_kin 29 = .ok (.iload_n 2, 1) := by decide +kernel
theorem dX11_kin_30 : decode cX11_kin 30 = .ok (.invokevirtual 404, 3) := by decide +kernel
theorem dX11_kin_33 : decode cX11_kin 33 = .ok (.istore 4, 2) := by decide +kernel
theorem dX11_kin_35 : decode cX11_kin 35 = .ok (.iload_n 3, 1) := by decide +kernel
theorem dX11_kin_36 : decode cX11_kin 36 = .ok (.ifCond .ne 8, 3) := by decide +kernel
theorem dX11_kin_39 : decode cX11_kin 39 = .ok (.iload 4, 2) := by decide +kernel
theorem dX11_kin_41 : decode cX11_kin 41 = .ok (.goto 23, 3) := by decide +kernel
theorem dX11_kin_44 : decode cX11_kin 44 = .ok (.aload_n 0, 1) := by decide +kernel
theorem dX11_kin_45 : decode cX11_kin 45 = .ok (.iload_n 1, 1) := by decide +kernel
theorem dX11_kin_46 : decode cX11_kin 46 = .ok (.invokevirtual 386, 3) := by decide +kernel
theorem dX11_kin_49 : decode cX11_kin 49 = .ok (.aload_n 0, 1) := by decide +kernel
theorem dX11_kin_50 : decode cX11_kin 50 = .ok (.iload_n 2, 1) := by decide +kernel
theorem dX11_kin_51 : decode cX11_kin 51 = .ok (.invokevirtual 386, 3) := by decide +kernel
theorem dX11_kin_54 : decode cX11_kin 54 = .ok (.iadd, 1) := by decide +kernel
theorem dX11_kin_55 : decode cX11_kin 55 = .ok (.iconst 2, 1) := by decide +kernel
theorem dX11_kin_56 : decode cX11_kin 56 = .ok (.aload_n 0, 1) := by decide +kernel
theorem dX11_kin_57 : decode cX11_kin 57 = .ok (.iload 4, 2) := by decide +kernel
theorem dX11_kin_59 : decode cX11_kin 59 = .ok (.invokevirtual 386, 3) := by decide +kernel
theorem dX11_kin_62 : decode cX11_kin 62 = .ok (.imul, 1) := by decide +kernel
theorem dX11_kin_63 : decode cX11_kin 63 = .ok (.isub, 1) := by decide +kernel
theorem dX11_kin_64 : decode cX11_kin 64 = .ok (.ireturn, 1) := by decide +kernel
theorem dX11_thumb_0 : decode cX11_thumb 0 = .ok (.aload_n 0, 1) := by decide +kernel
theorem dX11_thumb_1 : decode cX11_thumb 1 = .ok (.iload_n 1, 1) := by decide +kernel
theorem dX11_thumb_2 : decode cX11_thumb 2 = .ok (.invokevirtual 383, 3) := by decide +kernel
theorem dX11_thumb_5 : decode cX11_thumb 5 = .ok (.ifCond .eq 29, 3) := by decide +kernel
theorem dX11_thumb_8 : decode cX11_thumb 8 = .ok (.iload_n 2, 1) := by decide +kernel
theorem dX11_thumb_9 : decode cX11_thumb 9 = .ok (.iconst 0, 1) := by decide +kernel
theorem dX11_thumb_10 : decode cX11_thumb 10 = .ok (.aload_n 0, 1) := by decide +kernel
theorem dX11_thumb_11 : decode cX11_thumb 11 = .ok (.invokevirtual 342, 3) := by decide +kernel
theorem dX11_thumb_14 : decode cX11_thumb 14 = .ok (.iconst 1, 1) := by decide +kernel
theorem dX11_thumb_15 : decode cX11_thumb 15 = .ok (.isub, 1) := by decide +kernel
theorem dX11_thumb_16 : decode cX11_thumb 16 = .ok (.invokestatic 345, 3) := by decide +kernel
theorem dX11_thumb_19 : decode cX11_thumb 19 = .ok (.ifCond .eq 15, 3) := by decide +kernel
theorem dX11_thumb_22 : decode cX11_thumb 22 = .ok (.aload_n 0, 1) := by decide +kernel
theorem dX11_thumb_23 : decode cX11_thumb 23 = .ok (.iload_n 1, 1) := by decide +kernel
theorem dX11_thumb_24 : decode cX11_thumb 24 = .ok (.invokevirtual 392, 3) := by decide +kernel
theorem dX11_thumb_27 : decode cX11_thumb 27 = .ok (.iload_n 2, 1) := by decide +kernel
theorem dX11_thumb_28 : decode cX11_thumb 28 = .ok (.ishr, 1) := by decide +kernel
theorem dX11_thumb_29 : decode cX11_thumb 29 = .ok (.iconst 1, 1) := by decide +kernel
theorem dX11_thumb_30 : decode cX11_thumb 30 = .ok (.iand, 1) := by decide +kernel
theorem dX11_thumb_31 : decode cX11_thumb 31 = .ok (.ifCond .ne 6, 3) := by decide +kernel
theorem dX11_thumb_34 : decode cX11_thumb 34 = .ok (.bipush (-2), 2) := by decide +kernel
theorem dX11_thumb_36 : decode cX11_thumb 36 = .ok (.ireturn, 1) := by decide +kernel
theorem dX11_thumb_37 : decode cX11_thumb 37 = .ok (.iload_n 1, 1) := by decide +kernel
theorem dX11_thumb_38 : decode cX11_thumb 38 = .ok (.istore_n 3, 1) := by decide +kernel
theorem dX11_thumb_39 : decode cX11_thumb 39 = .ok (.iload_n 2, 1) := by decide +kernel
theorem dX11_thumb_40 : decode cX11_thumb 40 = .ok (.istore 4, 2) := by decide +kernel
theorem dX11_thumb_42 : decode cX11_thumb 42 = .ok (.iload_n 3, 1) := by decide +kernel
theorem dX11_thumb_43 : decode cX11_thumb 43 = .ok (.ifCond .le 57, 3) := by decide +kernel
theorem dX11_thumb_46 : decode cX11_thumb 46 = .ok (.aload_n 0, 1) := by decide +kernel
theorem dX11_thumb_47 : decode cX11_thumb 47 = .ok (.getfield 77, 3) := by decide +kernel
theorem dX11_thumb_50 : decode cX11_thumb 50 = .ok (.iconst 4, 1) := by decide +kernel
theorem dX11_thumb_51 : decode cX11_thumb 51 = .ok (.iload_n 3, 1) := by decide +kernel
theorem dX11_thumb_52 : decode cX11_thumb 52 = .ok (.imul, 1) := by decide +kernel
theorem dX11_thumb_53 : decode cX11_thumb 53 = .ok (.iconst 1, 1) := by decide +kernel
theorem dX11_thumb_54 : decode cX11_thumb 54 = .ok (.iadd, 1) := by decide +kernel
theorem dX11_thumb_55 : decode cX11_thumb 55 = .ok (.iaload, 1) := by decide +kernel
theorem dX11_thumb_56 : decode cX11_thumb 56 = .ok (.istore 5, 2) := by decide +kernel
theorem dX11_thumb_58 : decode cX11_thumb 58 = .ok (.aload_n 0, 1) := by decide +kernel
theorem dX11_thumb_59 : decode cX11_thumb 59 = .ok (.invokevirtual 342, 3) := by decide +kernel
theorem dX11_thumb_62 : decode cX11_thumb 62 = .ok (.iconst 1, 1) := by decide +kernel
theorem dX11_thumb_63 : decode cX11_thumb 63 = .ok (.isub, 1) := by decide +kernel
theorem dX11_thumb_64 : decode cX11_thumb 64 = .ok (.iload 4, 2) := by decide +kernel
theorem dX11_thumb_66 : decode cX11_thumb 66 = .ok (.isub, 1) := by decide +kernel
theorem dX11_thumb_67 : decode cX11_thumb 67 = .ok (.istore 4, 2) := by decide +kernel
theorem dX11_thumb_69 : decode cX11_thumb 69 = .ok (.aload_n 0, 1) := by decide +kernel
theorem dX11_thumb_70 : decode cX11_thumb 70 = .ok (.iload 5, 2) := by decide +kernel
theorem dX11_thumb_72 : decode cX11_thumb 72 = .ok (.invokevirtual 392, 3) := by decide +kernel
theorem dX11_thumb_75 : decode cX11_thumb 75 = .ok (.iload 4, 2) := by decide +kernel
theorem dX11_thumb_77 : decode cX11_thumb 77 = .ok (.ishr, 1) := by decide +kernel
theorem dX11_thumb_78 : decode cX11_thumb 78 = .ok (.iconst 1, 1) := by decide +kernel
theorem dX11_thumb_79 : decode cX11_thumb 79 = .ok (.iand, 1) := by decide +kernel
theorem dX11_thumb_80 : decode cX11_thumb 80 = .ok (.ifCond .ne 14, 3) := by decide +kernel
theorem dX11_thumb_83 : decode cX11_thumb 83 = .ok (.aload_n 0, 1) := by decide +kernel
theorem dX11_thumb_84 : decode cX11_thumb 84 = .ok (.getfield 77, 3) := by decide +kernel
theorem dX11_thumb_87 : decode cX11_thumb 87 = .ok (.iconst 4, 1) := by decide +kernel
theorem dX11_thumb_88 : decode cX11_thumb 88 = .ok (.iload_n 3, 1) := by decide +kernel
theorem dX11_thumb_89 : decode cX11_thumb 89 = .ok (.imul, 1) := by decide +kernel
theorem dX11_thumb_90 : decode cX11_thumb 90 = .ok (.iconst 2, 1) := by decide +kernel
theorem dX11_thumb_91 : decode cX11_thumb 91 = .ok (.iadd, 1) := by decide +kernel
theorem dX11_thumb_92 : decode cX11_thumb 92 = .ok (.iaload, 1) := by decide +kernel
theorem dX11_thumb_93 : decode cX11_thumb 93 = .ok (.ireturn, 1) := by decide +kernel
theorem dX11_thumb_94 : decode cX11_thumb 94 = .ok (.iload 5, 2) := by decide +kernel
theorem dX11_thumb_96 : decode cX11_thumb 96 = .ok (.istore_n 3, 1) := by decide +kernel
theorem dX11_thumb_97 : decode cX11_thumb 97 = .ok (.goto (-55), 3) := by decide +kernel
theorem dX11_thumb_100 : decode cX11_thumb 100 = .ok (.iconst (-1), 1) := by decide +kernel
theorem dX11_thumb_101 : decode cX11_thumb 101 = .ok (.ireturn, 1) := by decide +kernel
theorem dX11_layShares_0 : decode cX11_layShares 0 = .ok (.iload_n 1, 1) := by decide +kernel
theorem dX11_layShares_1 : decode cX11_layShares 1 = .ok (.invokestatic 352, 3) := by decide +kernel
theorem dX11_layShares_4 : decode cX11_layShares 4 = .ok (.istore_n 3, 1) := by decide +kernel
theorem dX11_layShares_5 : decode cX11_layShares 5 = .ok (.bipush 100, 2) := by decide +kernel
theorem dX11_layShares_7 : decode cX11_layShares 7 = .ok (.istore 4, 2) := by decide +kernel
theorem dX11_layShares_9 : decode cX11_layShares 9 = .ok (.iconst 0, 1) := by decide +kernel
theorem dX11_layShares_10 : decode cX11_layShares 10 = .ok (.istore 5, 2) := by decide +kernel
theorem dX11_layShares_12 : decode cX11_layShares 12 = .ok (.iload 5, 2) := by decide +kernel
theorem dX11_layShares_14 : decode cX11_layShares 14 = .ok (.iload_n 2, 1) := by decide +kernel
theorem dX11_layShares_15 : decode cX11_layShares 15 = .ok (.if_icmp .ge 111, 3) := by decide +kernel
theorem dX11_layShares_18 : decode cX11_layShares 18 = .ok (.iconst 0, 1) := by decide +kernel
theorem dX11_layShares_19 : decode cX11_layShares 19 = .ok (.istore 6, 2) := by decide +kernel
theorem dX11_layShares_21 : decode cX11_layShares 21 = .ok (.iconst 0, 1) := by decide +kernel
theorem dX11_layShares_22 : decode cX11_layShares 22 = .ok (.istore 7, 2) := by decide +kernel
theorem dX11_layShares_24 : decode cX11_layShares 24 = .ok (.iload 7, 2) := by decide +kernel
theorem dX11_layShares_26 : decode cX11_layShares 26 = .ok (.aload_n 0, 1) := by decide +kernel
theorem dX11_layShares_27 : decode cX11_layShares 27 = .ok (.invokevirtual 342, 3) := by decide +kernel
theorem dX11_layShares_30 : decode cX11_layShares 30 = .ok (.if_icmp .ge 34, 3) := by decide +kernel
theorem dX11_layShares_33 : decode cX11_layShares 33 = .ok (.iload 7, 2) := by decide +kernel
theorem dX11_layShares_35 : decode cX11_layShares 35 = .ok (.iload_n 2, 1) := by decide +kernel
theorem dX11_layShares_36 : decode cX11_layShares 36 = .ok (.imul, 1) := by decide +kernel
theorem dX11_layShares_37 : decode cX11_layShares 37 = .ok (.aload_n 0, 1) := by decide +kernel
theorem dX11_layShares_38 : decode cX11_layShares 38 = .ok (.invokevirtual 342, 3) := by decide +kernel
theorem dX11_layShares_41 : decode cX11_layShares 41 = .ok (.idiv, 1) := by decide +kernel
theorem dX11_layShares_42 : decode cX11_layShares 42 = .ok (.iload 5, 2) := by decide +kernel
theorem dX11_layShares_44 : decode cX11_layShares 44 = .ok (.if_icmp .ne 14, 3) := by decide +kernel
theorem dX11_layShares_47 : decode cX11_layShares 47 = .ok (.iload 6, 2) := by decide +kernel
theorem dX11_layShares_49 : decode cX11_layShares 49 = .ok (.iload_n 1, 1) := by decide +kernel
theorem dX11_layShares_50 : decode cX11_layShares 50 = .ok (.iload 7, 2) := by decide +kernel
theorem dX11_layShares_52 : decode cX11_layShares 52 = .ok (.ishr, 1) := by decide +kernel
theorem dX11_layShares_53 : decode cX11_layShares 53 = .ok (.iconst 1, 1) := by decide +kernel
theorem dX11_layShares_54 : decode cX11_layShares 54 = .ok (.iand, 1) := by decide +kernel
theorem dX11_layShares_55 : decode cX11_layShares 55 = .ok (.iadd, 1) := by decide +kernel
theorem dX11_layShares_56 : decode cX11_layShares 56 = .ok (.istore 6, 2) := by decide +kernel
theorem dX11_layShares_58 : decode cX11_layShares 58 = .ok (.iinc 7 1, 3) := by decide +kernel
theorem dX11_layShares_61 : decode cX11_layShares 61 = .ok (.goto (-37), 3) := by decide +kernel
theorem dX11_layShares_64 : decode cX11_layShares 64 = .ok (.aload_n 0, 1) := by decide +kernel
theorem dX11_layShares_65 : decode cX11_layShares 65 = .ok (.getfield 86, 3) := by decide +kernel
theorem dX11_layShares_68 : decode cX11_layShares 68 = .ok (.iload 5, 2) := by decide +kernel
theorem dX11_layShares_70 : decode cX11_layShares 70 = .ok (.iload_n 3, 1) := by decide +kernel
theorem dX11_layShares_71 : decode cX11_layShares 71 = .ok (.ifCond .ne 7, 3) := by decide +kernel
theorem dX11_layShares_74 : decode cX11_layShares 74 = .ok (.iconst 0, 1) := by decide +kernel
theorem dX11_layShares_75 : decode cX11_layShares 75 = .ok (.goto 10, 3) := by decide +kernel
theorem dX11_layShares_78 : decode cX11_layShares 78 = .ok (.bipush 100, 2) := by decide +kernel
theorem dX11_layShares_80 : decode cX11_layShares 80 = .ok (.iload 6, 2) := by decide +kernel
theorem dX11_layShares_82 : decode cX11_layShares 82 = .ok (.imul, 1) := by decide +kernel
theorem dX11_layShares_83 : decode cX11_layShares 83 = .ok (.iload_n 3, 1) := by decide +kernel
theorem dX11_layShares_84 : decode cX11_layShares 84 = .ok (.idiv, 1) := by decide +kernel
theorem dX11_layShares_85 : decode cX11_layShares 85 = .ok (.iastore, 1) := by decide +kernel
theorem dX11_layShares_86 : decode cX11_layShares 86 = .ok (.aload_n 0, 1) := by decide +kernel
theorem dX11_layShares_87 : decode cX11_layShares 87 = .ok (.getfield 89, 3) := by decide +kernel
theorem dX11_layShares_90 : decode cX11_layShares 90 = .ok (.iload 5, 2) := by decide +kernel
theorem dX11_layShares_92 : decode cX11_layShares 92 = .ok (.iload_n 3, 1) := by decide +kernel
theorem dX11_layShares_93 : decode cX11_layShares 93 = .ok (.ifCond .ne 7, 3) := by decide +kernel
theorem dX11_layShares_96 : decode cX11_layShares 96 = .ok (.iconst 0, 1) := by decide +kernel
theorem dX11_layShares_97 : decode cX11_layShares 97 = .ok (.goto 10, 3) := by decide +kernel
theorem dX11_layShares_100 : decode cX11_layShares 100 = .ok (.bipush 100, 2) := by decide +kernel
theorem dX11_layShares_102 : decode cX11_layShares 102 = .ok (.iload 6, 2) := by decide +kernel
theorem dX11_layShares_104 : decode cX11_layShares 104 = .ok (.imul, 1) := by decide +kernel
theorem dX11_layShares_105 : decode cX11_layShares 105 = .ok (.iload_n 3, 1) := by decide +kernel
theorem dX11_layShares_106 : decode cX11_layShares 106 = .ok (.irem, 1) := by decide +kernel
theorem dX11_layShares_107 : decode cX11_layShares 107 = .ok (.iastore, 1) := by decide +kernel
theorem dX11_layShares_108 : decode cX11_layShares 108 = .ok (.iload 4, 2) := by decide +kernel
theorem dX11_layShares_110 : decode cX11_layShares 110 = .ok (.aload_n 0, 1) := by decide +kernel
theorem dX11_layShares_111 : decode cX11_layShares 111 = .ok (.getfield 86, 3) := by decide +kernel
theorem dX11_layShares_114 : decode cX11_layShares 114 = .ok (.iload 5, 2) := by decide +kernel
theorem dX11_layShares_116 : decode cX11_layShares 116 = .ok (.iaload, 1) := by decide +kernel
theorem dX11_layShares_117 : decode cX11_layShares 117 = .ok (.isub, 1) := by decide +kernel
theorem dX11_layShares_118 : decode cX11_layShares 118 = .ok (.istore 4, 2) := by decide +kernel
theorem dX11_layShares_120 : decode cX11_layShares 120 = .ok (.iinc 5 1, 3) := by decide +kernel
theorem dX11_layShares_123 : decode cX11_layShares 123 = .ok (.goto (-111), 3) := by decide +kernel
theorem dX11_layShares_126 : decode cX11_layShares 126 = .ok (.iload_n 3, 1) := by decide +kernel
theorem dX11_layShares_127 : decode cX11_layShares 127 = .ok (.ifCond .ne 4, 3) := by decide +kernel
theorem dX11_layShares_130 : decode cX11_layShares 130 = .ok (.return_, 1) := by decide +kernel
theorem dX11_layShares_131 : decode cX11_layShares 131 = .ok (.iload 4, 2) := by decide +kernel
theorem dX11_layShares_133 : decode cX11_layShares 133 = .ok (.ifCond .le 67, 3) := by decide +kernel
theorem dX11_layShares_136 : decode cX11_layShares 136 = .ok (.iconst 0, 1) := by decide +kernel
theorem dX11_layShares_137 : decode cX11_layShares 137 = .ok (.istore 5, 2) := by decide +kernel
theorem dX11_layShares_139 : decode cX11_layShares 139 = .ok (.iconst 1, 1) := by decide +kernel
theorem dX11_layShares_140 : decode cX11_layShares 140 = .ok (.istore 6, 2) := by decide +kernel
theorem dX11_layShares_142 : decode cX11_layShares 142 = .ok (.iload 6, 2) := by decide +kernel
theorem dX11_layShares_144 : decode cX11_layShares 144 = .ok (.iload_n 2, 1) := by decide +kernel
theorem dX11_layShares_145 : decode cX11_layShares 145 = .ok (.if_icmp .ge 30, 3) := by decide +kernel
theorem dX11_layShares_148 : decode cX11_layShares 148 = .ok (.aload_n 0, 1) := by decide +kernel
theorem dX11_layShares_149 : decode cX11_layShares 149 = .ok (.getfield 89, 3) := by decide +kernel
theorem dX11_layShares_152 : decode cX11_layShares 152 = .ok (.iload 6, 2) := by decide +kernel
theorem dX11_layShares_154 : decode cX11_layShares 154 = .ok (.iaload, 1) := by decide +kernel
theorem dX11_layShares_155 : decode cX11_layShares 155 = .ok (.aload_n 0, 1) := by decide +kernel
theorem dX11_layShares_156 : decode cX11_layShares 156 = .ok (.getfield 89, 3) := by decide +kernel
theorem dX11_layShares_159 : decode cX11_layShares 159 = .ok (.iload 5, 2) := by decide +kernel
theorem dX11_layShares_161 : decode cX11_layShares 161 = .ok (.iaload, 1) := by decide +kernel
theorem dX11_layShares_162 : decode cX11_layShares 162 = .ok (.if_icmp .le 7, 3) := by decide +kernel
theorem dX11_layShares_165 : decode cX11_layShares 165 = .ok (.iload 6, 2) := by decide +kernel
theorem dX11_layShares_167 : decode cX11_layShares 167 = .ok (.istore 5, 2) := by decide +kernel
theorem dX11_layShares_169 : decode cX11_layShares 169 = .ok (.iinc 6 1, 3) := by decide +kernel
theorem dX11_layShares_172 : decode cX11_layShares 172 = .ok (.goto (-30), 3) := by decide +kernel
theorem dX11_layShares_175 : decode cX11_layShares 175 = .ok (.aload_n 0, 1) := by decide +kernel
theorem dX11_layShares_176 : decode cX11_layShares 176 = .ok (.getfield 86, 3) := by decide +kernel
theorem dX11_layShares_179 : decode cX11_layShares 179 = .ok (.iload 5, 2) := by decide +kernel
theorem dX11_layShares_181 : decode cX11_layShares 181 = .ok (.dup2, 1) := by decide +kernel
theorem dX11_layShares_182 : decode cX11_layShares 182 = .ok (.iaload, 1) := by decide +kernel
theorem dX11_layShares_183 : decode cX11_layShares 183 = .ok (.iconst 1, 1) := by decide +kernel
theorem dX11_layShares_184 : decode cX11_layShares 184 = .ok (.iadd, 1) := by decide +kernel
theorem dX11_layShares_185 : decode cX11_layShares 185 = .ok (.iastore, 1) := by decide +kernel
theorem dX11_layShares_186 : decode cX11_layShares 186 = .ok (.aload_n 0, 1) := by decide +kernel
theorem dX11_layShares_187 : decode cX11_layShares 187 = .ok (.getfield 89, 3) := by decide +kernel
theorem dX11_layShares_190 : decode cX11_layShares 190 = .ok (.iload 5, 2) := by decide +kernel
theorem dX11_layShares_192 : decode cX11_layShares 192 = .ok (.iconst (-1), 1) := by decide +kernel
theorem dX11_layShares_193 : decode cX11_layShares 193 = .ok (.iastore, 1) := by decide +kernel
theorem dX11_layShares_194 : decode cX11_layShares 194 = .ok (.iinc 4 (-1), 3) := by decide +kernel
theorem dX11_layShares_197 : decode cX11_layShares 197 = .ok (.goto (-66), 3) := by decide +kernel
theorem dX11_layShares_200 : decode cX11_layShares 200 = .ok (.return_, 1) := by decide +kernel
theorem dX11_share_0 : decode cX11_share 0 = .ok (.aload_n 0, 1) := by decide +kernel
theorem dX11_share_1 : decode cX11_share 1 = .ok (.iload_n 1, 1) := by decide +kernel
theorem dX11_share_2 : decode cX11_share 2 = .ok (.invokevirtual 358, 3) := by decide +kernel
theorem dX11_share_5 : decode cX11_share 5 = .ok (.ifCond .eq 23, 3) := by decide +kernel
theorem dX11_share_8 : decode cX11_share 8 = .ok (.iload_n 2, 1) := by decide +kernel
theorem dX11_share_9 : decode cX11_share 9 = .ok (.iconst 1, 1) := by decide +kernel
theorem dX11_share_10 : decode cX11_share 10 = .ok (.iconst 4, 1) := by decide +kernel
theorem dX11_share_11 : decode cX11_share 11 = .ok (.invokestatic 345, 3) := by decide +kernel
theorem dX11_share_14 : decode cX11_share 14 = .ok (.ifCond .eq 14, 3) := by decide +kernel
theorem dX11_share_17 : decode cX11_share 17 = .ok (.iload_n 3, 1) := by decide +kernel
theorem dX11_share_18 : decode cX11_share 18 = .ok (.iconst 0, 1) := by decide +kernel
theorem dX11_share_19 : decode cX11_share 19 = .ok (.iload_n 2, 1) := by decide +kernel
theorem dX11_share_20 : decode cX11_share 20 = .ok (.iconst 1, 1) := by decide +kernel
theorem dX11_share_21 : decode cX11_share 21 = .ok (.isub, 1) := by decide +kernel
theorem dX11_share_22 : decode cX11_share 22 = .ok (.invokestatic 345, 3) := by decide +kernel
theorem dX11_share_25 : decode cX11_share 25 = .ok (.ifCond .ne 5, 3) := by decide +kernel
theorem dX11_share_28 : decode cX11_share 28 = .ok (.iconst (-1), 1) := by decide +kernel
theorem dX11_share_29 : decode cX11_share 29 = .ok (.ireturn, 1) := by decide +kernel
theorem dX11_share_30 : decode cX11_share 30 = .ok (.aload_n 0, 1) := by decide +kernel
theorem dX11_share_31 : decode cX11_share 31 = .ok (.iload_n 1, 1) := by decide +kernel
theorem dX11_share_32 : decode cX11_share 32 = .ok (.iload_n 2, 1) := by decide +kernel
theorem dX11_share_33 : decode cX11_share 33 = .ok (.invokevirtual 407, 3) := by decide +kernel
theorem dX11_share_36 : decode cX11_share 36 = .ok (.aload_n 0, 1) := by decide +kernel
theorem dX11_share_37 : decode cX11_share 37 = .ok (.getfield 86, 3) := by decide +kernel
theorem dX11_share_40 : decode cX11_share 40 = .ok (.iload_n 3, 1) := by decide +kernel
theorem dX11_share_41 : decode cX11_share 41 = .ok (.iaload, 1) := by decide +kernel
theorem dX11_share_42 : decode cX11_share 42 = .ok (.ireturn, 1) := by decide +kernel
theorem dX11_lies_0 : decode cX11_lies 0 = .ok (.iload_n 1, 1) := by decide +kernel
theorem dX11_lies_1 : decode cX11_lies 1 = .ok (.iconst 0, 1) := by decide +kernel
theorem dX11_lies_2 : decode cX11_lies 2 = .ok (.aload_n 0, 1) := by decide +kernel
theorem dX11_lies_3 : decode cX11_lies 3 = .ok (.getfield 380, 3) := by decide +kernel
theorem dX11_lies_6 : decode cX11_lies 6 = .ok (.iconst 1, 1) := by decide +kernel
theorem dX11_lies_7 : decode cX11_lies 7 = .ok (.isub, 1) := by decide +kernel
theorem dX11_lies_8 : decode cX11_lies 8 = .ok (.invokestatic 345, 3) := by decide +kernel
theorem dX11_lies_11 : decode cX11_lies 11 = .ok (.ifCond .eq 12, 3) := by decide +kernel
theorem dX11_lies_14 : decode cX11_lies 14 = .ok (.aload_n 0, 1) := by decide +kernel
theorem dX11_lies_15 : decode cX11_lies 15 = .ok (.getfield 92, 3) := by decide +kernel
theorem dX11_lies_18 : decode cX11_lies 18 = .ok (.iload_n 1, 1) := by decide +kernel
theorem dX11_lies_19 : decode cX11_lies 19 = .ok (.iaload, 1) := by decide +kernel
theorem dX11_lies_20 : decode cX11_lies 20 = .ok (.goto 5, 3) := by decide +kernel
theorem dX11_lies_23 : decode cX11_lies 23 = .ok (.bipush (-2), 2) := by decide +kernel
theorem dX11_lies_25 : decode cX11_lies 25 = .ok (.ireturn, 1) := by decide +kernel
theorem dX11_doTell_0 : decode cX11_doTell 0 = .ok (.iconst 0, 1) := by decide +kernel
theorem dX11_doTell_1 : decode cX11_doTell 1 = .ok (.istore_n 2, 1) := by decide +kernel
theorem dX11_doTell_2 : decode cX11_doTell 2 = .ok (.iload_n 2, 1) := by decide +kernel
theorem dX11_doTell_3 : decode cX11_doTell 3 = .ok (.aload_n 0, 1) := by decide +kernel
theorem dX11_doTell_4 : decode cX11_doTell 4 = .ok (.getfield 77, 3) := by decide +kernel
theorem dX11_doTell_7 : decode cX11_doTell 7 = .ok (.sipush 216, 3) := by decide +kernel
theorem dX11_doTell_10 : decode cX11_doTell 10 = .ok (.iaload, 1) := by decide +kernel
theorem dX11_doTell_11 : decode cX11_doTell 11 = .ok (.if_icmp .ge 53, 3) := by decide +kernel
theorem dX11_doTell_14 : decode cX11_doTell 14 = .ok (.iconst 0, 1) := by decide +kernel
theorem dX11_doTell_15 : decode cX11_doTell 15 = .ok (.istore_n 3, 1) := by decide +kernel
theorem dX11_doTell_16 : decode cX11_doTell 16 = .ok (.iload_n 3, 1) := by decide +kernel
theorem dX11_doTell_17 : decode cX11_doTell 17 = .ok (.iload_n 2, 1) := by decide +kernel
theorem dX11_doTell_18 : decode cX11_doTell 18 = .ok (.if_icmp .ge 40, 3) := by decide +kernel
theorem dX11_doTell_21 : decode cX11_doTell 21 = .ok (.aload_n 0, 1) := by decide +kernel
theorem dX11_doTell_22 : decode cX11_doTell 22 = .ok (.iload_n 2, 1) := by decide +kernel
theorem dX11_doTell_23 : decode cX11_doTell 23 = .ok (.invokevirtual 392, 3) := by decide +kernel
theorem dX11_doTell_26 : decode cX11_doTell 26 = .ok (.aload_n 0, 1) := by decide +kernel
theorem dX11_doTell_27 : decode cX11_doTell 27 = .ok (.iload_n 3, 1) := by decide +kernel
theorem dX11_doTell_28 : decode cX11_doTell 28 = .ok (.invokevirtual 392, 3) := by decide +kernel
theorem dX11_doTell_31 : decode cX11_doTell 31 = .ok (.if_icmp .eq 21, 3) := by decide +kernel
theorem dX11_doTell_34 : decode cX11_doTell 34 = .ok (.aload_n 0, 1) := by decide +kernel
theorem dX11_doTell_35 : decode cX11_doTell 35 = .ok (.iload_n 2, 1) := by decide +kernel
theorem dX11_doTell_36 : decode cX11_doTell 36 = .ok (.invokevirtual 392, 3) := by decide +kernel
theorem dX11_doTell_39 : decode cX11_doTell 39 = .ok (.aload_n 0, 1) := by decide +kernel
theorem dX11_doTell_40 : decode cX11_doTell 40 = .ok (.iload_n 3, 1) := by decide +kernel
theorem dX11_doTell_41 : decode cX11_doTell 41 = .ok (.invokevirtual 392, 3) := by decide +kernel
theorem dX11_doTell_44 : decode cX11_doTell 44 = .ok (.ixor, 1) := by decide +kernel
theorem dX11_doTell_45 : decode cX11_doTell 45 = .ok (.iload_n 1, 1) := by decide +kernel
theorem dX11_doTell_46 : decode cX11_doTell 46 = .ok (.iand, 1) := by decide +kernel
theorem dX11_doTell_47 : decode cX11_doTell 47 = .ok (.ifCond .ne 5, 3) := by decide +kernel
theorem dX11_doTell_50 : decode cX11_doTell 50 = .ok (.iconst 0, 1) := by decide +kernel
theorem dX11_doTell_51 : decode cX11_doTell 51 = .ok (.ireturn, 1) := by decide +kernel
theorem dX11_doTell_52 : decode cX11_doTell 52 = .ok (.iinc 3 1, 3) := by decide +kernel
theorem dX11_doTell_55 : decode cX11_doTell 55 = .ok (.goto (-39), 3) := by decide +kernel
theorem dX11_doTell_58 : decode cX11_doTell 58 = .ok (.iinc 2 1, 3) := by decide +kernel
theorem dX11_doTell_61 : decode cX11_doTell 61 = .ok (.goto (-59), 3) := by decide +kernel
theorem dX11_doTell_64 : decode cX11_doTell 64 = .ok (.iconst 1, 1) := by decide +kernel
theorem dX11_doTell_65 : decode cX11_doTell 65 = .ok (.ireturn, 1) := by decide +kernel
theorem dX11_tell_0 : decode cX11_tell 0 = .ok (.iconst (-1), 1) := by decide +kernel
theorem dX11_tell_1 : decode cX11_tell 1 = .ok (.istore_n 1, 1) := by decide +kernel
theorem dX11_tell_2 : decode cX11_tell 2 = .ok (.iconst 0, 1) := by decide +kernel
theorem dX11_tell_3 : decode cX11_tell 3 = .ok (.istore_n 2, 1) := by decide +kernel
theorem dX11_tell_4 : decode cX11_tell 4 = .ok (.iload_n 2, 1) := by decide +kernel
theorem dX11_tell_5 : decode cX11_tell 5 = .ok (.iconst 1, 1) := by decide +kernel
theorem dX11_tell_6 : decode cX11_tell 6 = .ok (.aload_n 0, 1) := by decide +kernel
theorem dX11_tell_7 : decode cX11_tell 7 = .ok (.invokevirtual 342, 3) := by decide +kernel
theorem dX11_tell_10 : decode cX11_tell 10 = .ok (.ishl, 1) := by decide +kernel
theorem dX11_tell_11 : decode cX11_tell 11 = .ok (.if_icmp .ge 34, 3) := by decide +kernel
theorem dX11_tell_14 : decode cX11_tell 14 = .ok (.iload_n 1, 1) := by decide +kernel
theorem dX11_tell_15 : decode cX11_tell 15 = .ok (.ifCond .lt 14, 3) := by decide +kernel
theorem dX11_tell_18 : decode cX11_tell 18 = .ok (.iload_n 2, 1) := by decide +kernel
theorem dX11_tell_19 : decode cX11_tell 19 = .ok (.invokestatic 352, 3) := by decide +kernel
theorem dX11_tell_22 : decode cX11_tell 22 = .ok (.iload_n 1, 1) := by decide +kernel
theorem dX11_tell_23 : decode cX11_tell 23 = .ok (.invokestatic 352, 3) := by decide +kernel
theorem dX11_tell_26 : decode cX11_tell 26 = .ok (.if_icmp .ge 13, 3) := by decide +kernel
theorem dX11_tell_29 : decode cX11_tell 29 = .ok (.aload_n 0, 1) := by decide +kernel
theorem dX11_tell_30 : decode cX11_tell 30 = .ok (.iload_n 2, 1) := by decide +kernel
theorem dX11_tell_31 : decode cX11_tell 31 = .ok (.invokevirtual 410, 3) := by decide +kernel
theorem dX11_tell_34 : decode cX11_tell 34 = .ok (.ifCond .eq 5, 3) := by decide +kernel
theorem dX11_tell_37 : decode cX11_tell 37 = .ok (.iload_n 2, 1) := by decide +kernel
theorem dX11_tell_38 : decode cX11_tell 38 = .ok (.istore_n 1, 1) := by decide +kernel
theorem dX11_tell_39 : decode cX11_tell 39 = .ok (.iinc 2 1, 3) := by decide +kernel
theorem dX11_tell_42 : decode cX11_tell 42 = .ok (.goto (-38), 3) := by decide +kernel
theorem dX11_tell_45 : decode cX11_tell 45 = .ok (.aload_n 0, 1) := by decide +kernel
theorem dX11_tell_46 : decode cX11_tell 46 = .ok (.iconst 0, 1) := by decide +kernel
theorem dX11_tell_47 : decode cX11_tell 47 = .ok (.putfield 380, 3) := by decide +kernel
theorem dX11_tell_50 : decode cX11_tell 50 = .ok (.iconst 0, 1) := by decide +kernel
theorem dX11_tell_51 : decode cX11_tell 51 = .ok (.istore_n 2, 1) := by decide +kernel
theorem dX11_tell_52 : decode cX11_tell 52 = .ok (.iload_n 2, 1) := by decide +kernel
theorem dX11_tell_53 : decode cX11_tell 53 = .ok (.aload_n 0, 1) := by decide +kernel
theorem dX11_tell_54 : decode cX11_tell 54 = .ok (.invokevirtual 342, 3) := by decide +kernel
theorem dX11_tell_57 : decode cX11_tell 57 = .ok (.if_icmp .ge 40, 3) := by decide +kernel
theorem dX11_tell_60 : decode cX11_tell 60 = .ok (.iload_n 1, 1) := by decide +kernel
theorem dX11_tell_61 : decode cX11_tell 61 = .ok (.iload_n 2, 1) := by decide +kernel
theorem dX11_tell_62 : decode cX11_tell 62 = .ok (.ishr, 1) := by decide +kernel
theorem dX11_tell_63 : decode cX11_tell 63 = .ok (.iconst 1, 1) := by decide +kernel
theorem dX11_tell_64 : decode cX11_tell 64 = .ok (.iand, 1) := by decide +kernel
theorem dX11_tell_65 : decode cX11_tell 65 = .ok (.ifCond .ne 6, 3) := by decide +kernel
theorem dX11_tell_68 : decode cX11_tell 68 = .ok (.goto 23, 3) := by decide +kernel
theorem dX11_tell_71 : decode cX11_tell 71 = .ok (.aload_n 0, 1) := by decide +kernel
theorem dX11_tell_72 : decode cX11_tell 72 = .ok (.getfield 92, 3) := by decide +kernel
theorem dX11_tell_75 : decode cX11_tell 75 = .ok (.aload_n 0, 1) := by decide +kernel
theorem dX11_tell_76 : decode cX11_tell 76 = .ok (.getfield 380, 3) := by decide +kernel
theorem dX11_tell_79 : decode cX11_tell 79 = .ok (.iload_n 2, 1) := by decide +kernel
theorem dX11_tell_80 : decode cX11_tell 80 = .ok (.iastore, 1) := by decide +kernel
theorem dX11_tell_81 : decode cX11_tell 81 = .ok (.aload_n 0, 1) := by decide +kernel
theorem dX11_tell_82 : decode cX11_tell 82 = .ok (.dup, 1) := by decide +kernel
theorem dX11_tell_83 : decode cX11_tell 83 = .ok (.getfield 380, 3) := by decide +kernel
theorem dX11_tell_86 : decode cX11_tell 86 = .ok (.iconst 1, 1) := by decide +kernel
theorem dX11_tell_87 : decode cX11_tell 87 = .ok (.iadd, 1) := by decide +kernel
theorem dX11_tell_88 : decode cX11_tell 88 = .ok (.putfield 380, 3) := by decide +kernel
theorem dX11_tell_91 : decode cX11_tell 91 = .ok (.iinc 2 1, 3) := by decide +kernel
theorem dX11_tell_94 : decode cX11_tell 94 = .ok (.goto (-42), 3) := by decide +kernel
theorem dX11_tell_97 : decode cX11_tell 97 = .ok (.aload_n 0, 1) := by decide +kernel
theorem dX11_tell_98 : decode cX11_tell 98 = .ok (.getfield 380, 3) := by decide +kernel
theorem dX11_tell_101 : decode cX11_tell 101 = .ok (.ireturn, 1) := by decide +kernel
theorem dX11_round_0 : decode cX11_round 0 = .ok (.aload_n 0, 1) := by decide +kernel
theorem dX11_round_1 : decode cX11_round 1 = .ok (.iload_n 1, 1) := by decide +kernel
theorem dX11_round_2 : decode cX11_round 2 = .ok (.iload_n 2, 1) := by decide +kernel
theorem dX11_round_3 : decode cX11_round 3 = .ok (.iload_n 3, 1) := by decide +kernel
theorem dX11_round_4 : decode cX11_round 4 = .ok (.invokevirtual 398, 3) := by decide +kernel
theorem dX11_round_7 : decode cX11_round 7 = .ok (.ifCond .eq 13, 3) := by decide +kernel
theorem dX11_round_10 : decode cX11_round 10 = .ok (.iload 4, 2) := by decide +kernel
theorem dX11_round_12 : decode cX11_round 12 = .ok (.iconst 0, 1) := by decide +kernel
theorem dX11_round_13 : decode cX11_round 13 = .ok (.iconst 1, 1) := by decide +kernel
theorem dX11_round_14 : decode cX11_round 14 = .ok (.invokestatic 345, 3) := by decide +kernel
theorem dX11_round_17 : decode cX11_round 17 = .ok (.ifCond .ne 5, 3) := by decide +kernel
theorem dX11_round_20 : decode cX11_round 20 = .ok (.iconst (-1), 1) := by decide +kernel
theorem dX11_round_21 : decode cX11_round 21 = .ok (.ireturn, 1) := by decide +kernel
theorem dX11_round_22 : decode cX11_round 22 = .ok (.iconst 0, 1) := by decide +kernel
theorem dX11_round_23 : decode cX11_round 23 = .ok (.istore 5, 2) := by decide +kernel
theorem dX11_round_25 : decode cX11_round 25 = .ok (.iload 5, 2) := by decide +kernel
theorem dX11_round_27 : decode cX11_round 27 = .ok (.sipush 4096, 3) := by decide +kernel
theorem dX11_round_30 : decode cX11_round 30 = .ok (.if_icmp .ge 17, 3) := by decide +kernel
theorem dX11_round_33 : decode cX11_round 33 = .ok (.aload_n 0, 1) := by decide +kernel
theorem dX11_round_34 : decode cX11_round 34 = .ok (.getfield 95, 3) := by decide +kernel
theorem dX11_round_37 : decode cX11_round 37 = .ok (.iload 5, 2) := by decide +kernel
theorem dX11_round_39 : decode cX11_round 39 = .ok (.iconst (-1), 1) := by decide +kernel
theorem dX11_round_40 : decode cX11_round 40 = .ok (.iastore, 1) := by decide +kernel
theorem dX11_round_41 : decode cX11_round 41 = .ok (.iinc 5 1, 3) := by decide +kernel
theorem dX11_round_44 : decode cX11_round 44 = .ok (.goto (-19), 3) := by decide +kernel
theorem dX11_round_47 : decode cX11_round 47 = .ok (.aload_n 0, 1) := by decide +kernel
theorem dX11_round_48 : decode cX11_round 48 = .ok (.iload_n 1, 1) := by decide +kernel
theorem dX11_round_49 : decode cX11_round 49 = .ok (.invokevirtual 392, 3) := by decide +kernel
theorem dX11_round_52 : decode cX11_round 52 = .ok (.istore 5, 2) := by decide +kernel
theorem dX11_round_54 : decode cX11_round 54 = .ok (.iconst 0, 1) := by decide +kernel
theorem dX11_round_55 : decode cX11_round 55 = .ok (.istore 6, 2) := by decide +kernel
theorem dX11_round_57 : decode cX11_round 57 = .ok (.aload_n 0, 1) := by decide +kernel
theorem dX11_round_58 : decode cX11_round 58 = .ok (.getfield 95, 3) := by decide +kernel
theorem dX11_round_61 : decode cX11_round 61 = .ok (.iload 5, 2) := by decide +kernel
theorem dX11_round_63 : decode cX11_round 63 = .ok (.iaload, 1) := by decide +kernel
theorem dX11_round_64 : decode cX11_round 64 = .ok (.ifCond .ge 29, 3) := by decide +kernel
theorem dX11_round_67 : decode cX11_round 67 = .ok (.aload_n 0, 1) := by decide +kernel
theorem dX11_round_68 : decode cX11_round 68 = .ok (.getfield 95, 3) := by decide +kernel
theorem dX11_round_71 : decode cX11_round 71 = .ok (.iload 5, 2) := by decide +kernel
theorem dX11_round_73 : decode cX11_round 73 = .ok (.iload 6, 2) := by decide +kernel
theorem dX11_round_75 : decode cX11_round 75 = .ok (.iastore, 1) := by decide +kernel
theorem dX11_round_76 : decode cX11_round 76 = .ok (.iinc 6 1, 3) := by decide +kernel
theorem dX11_round_79 : decode cX11_round 79 = .ok (.aload_n 0, 1) := by decide +kernel
theorem dX11_round_80 : decode cX11_round 80 = .ok (.iload 5, 2) := by decide +kernel
theorem dX11_round_82 : decode cX11_round 82 = .ok (.iload_n 2, 1) := by decide +kernel
theorem dX11_round_83 : decode cX11_round 83 = .ok (.iload_n 3, 1) := by decide +kernel
theorem dX11_round_84 : decode cX11_round 84 = .ok (.iconst 0, 1) := by decide +kernel
theorem dX11_round_85 : decode cX11_round 85 = .ok (.invokevirtual 367, 3) := by decide +kernel
theorem dX11_round_88 : decode cX11_round 88 = .ok (.istore 5, 2) := by decide +kernel
theorem dX11_round_90 : decode cX11_round 90 = .ok (.goto (-33), 3) := by decide +kernel
theorem dX11_round_93 : decode cX11_round 93 = .ok (.iload 4, 2) := by decide +kernel
theorem dX11_round_95 : decode cX11_round 95 = .ok (.ifCond .ne 8, 3) := by decide +kernel
theorem dX11_round_98 : decode cX11_round 98 = .ok (.iload 6, 2) := by decide +kernel
theorem dX11_round_100 : decode cX11_round 100 = .ok (.goto 13, 3) := by decide +kernel
theorem dX11_round_103 : decode cX11_round 103 = .ok (.iload 6, 2) := by decide +kernel
theorem dX11_round_105 : decode cX11_round 105 = .ok (.aload_n 0, 1) := by decide +kernel
theorem dX11_round_106 : decode cX11_round 106 = .ok (.getfield 95, 3) := by decide +kernel
theorem dX11_round_109 : decode cX11_round 109 = .ok (.iload 5, 2) := by decide +kernel
theorem dX11_round_111 : decode cX11_round 111 = .ok (.iaload, 1) := by decide +kernel
theorem dX11_round_112 : decode cX11_round 112 = .ok (.isub, 1) := by decide +kernel
theorem dX11_round_113 : decode cX11_round 113 = .ok (.ireturn, 1) := by decide +kernel
theorem dX11_steady_0 : decode cX11_steady 0 = .ok (.aload_n 0, 1) := by decide +kernel
theorem dX11_steady_1 : decode cX11_steady 1 = .ok (.iload_n 1, 1) := by decide +kernel
theorem dX11_steady_2 : decode cX11_steady 2 = .ok (.invokevirtual 361, 3) := by decide +kernel
theorem dX11_steady_5 : decode cX11_steady 5 = .ok (.ifCond .eq 19, 3) := by decide +kernel
theorem dX11_steady_8 : decode cX11_steady 8 = .ok (.iload_n 2, 1) := by decide +kernel
theorem dX11_steady_9 : decode cX11_steady 9 = .ok (.invokestatic 364, 3) := by decide +kernel
theorem dX11_steady_12 : decode cX11_steady 12 = .ok (.ifCond .eq 12, 3) := by decide +kernel
theorem dX11_steady_15 : decode cX11_steady 15 = .ok (.iload_n 3, 1) := by decide +kernel
theorem dX11_steady_16 : decode cX11_steady 16 = .ok (.iconst 0, 1) := by decide +kernel
theorem dX11_steady_17 : decode cX11_steady 17 = .ok (.iconst 1, 1) := by decide +kernel
theorem dX11_steady_18 : decode cX11_steady 18 = .ok (.invokestatic 345, 3) := by decide +kernel
theorem dX11_steady_21 : decode cX11_steady 21 = .ok (.ifCond .ne 5, 3) := by decide +kernel
theorem dX11_steady_24 : decode cX11_steady 24 = .ok (.iconst (-1), 1) := by decide +kernel
theorem dX11_steady_25 : decode cX11_steady 25 = .ok (.ireturn, 1) := by decide +kernel
theorem dX11_steady_26 : decode cX11_steady 26 = .ok (.iconst 0, 1) := by decide +kernel
theorem dX11_steady_27 : decode cX11_steady 27 = .ok (.istore 4, 2) := by decide +kernel
theorem dX11_steady_29 : decode cX11_steady 29 = .ok (.iconst (-1), 1) := by decide +kernel
theorem dX11_steady_30 : decode cX11_steady 30 = .ok (.istore 5, 2) := by decide +kernel
theorem dX11_steady_32 : decode cX11_steady 32 = .ok (.iconst 0, 1) := by decide +kernel
theorem dX11_steady_33 : decode cX11_steady 33 = .ok (.istore 6, 2) := by decide +kernel
theorem dX11_steady_35 : decode cX11_steady 35 = .ok (.iload 6, 2) := by decide +kernel
theorem dX11_steady_37 : decode cX11_steady 37 = .ok (.iconst 1, 1) := by decide +kernel
theorem dX11_steady_38 : decode cX11_steady 38 = .ok (.aload_n 0, 1) := by decide +kernel
theorem dX11_steady_39 : decode cX11_steady 39 = .ok (.invokevirtual 342, 3) := by decide +kernel
theorem dX11_steady_42 : decode cX11_steady 42 = .ok (.ishl, 1) := by decide +kernel
theorem dX11_steady_43 : decode cX11_steady 43 = .ok (.if_icmp .ge 58, 3) := by decide +kernel
theorem dX11_steady_46 : decode cX11_steady 46 = .ok (.aload_n 0, 1) := by decide +kernel
theorem dX11_steady_47 : decode cX11_steady 47 = .ok (.aload_n 0, 1) := by decide +kernel
theorem dX11_steady_48 : decode cX11_steady 48 = .ok (.iload 6, 2) := by decide +kernel
theorem dX11_steady_50 : decode cX11_steady 50 = .ok (.iload_n 1, 1) := by decide +kernel
theorem dX11_steady_51 : decode cX11_steady 51 = .ok (.iload_n 2, 1) := by decide +kernel
theorem dX11_steady_52 : decode cX11_steady 52 = .ok (.iconst 0, 1) := by decide +kernel
theorem dX11_steady_53 : decode cX11_steady 53 = .ok (.invokevirtual 367, 3) := by decide +kernel
theorem dX11_steady_56 : decode cX11_steady 56 = .ok (.iload_n 1, 1) := by decide +kernel
theorem dX11_steady_57 : decode cX11_steady 57 = .ok (.iload_n 2, 1) := by decide +kernel
theorem dX11_steady_58 : decode cX11_steady 58 = .ok (.iconst 0, 1) := by decide +kernel
theorem dX11_steady_59 : decode cX11_steady 59 = .ok (.invokevirtual 367, 3) := by decide +kernel
theorem dX11_steady_62 : decode cX11_steady 62 = .ok (.iload 6, 2) := by decide +kernel
theorem dX11_steady_64 : decode cX11_steady 64 = .ok (.if_icmp .eq 6, 3) := by decide +kernel
theorem dX11_steady_67 : decode cX11_steady 67 = .ok (.goto 28, 3) := by decide +kernel
theorem dX11_steady_70 : decode cX11_steady 70 = .ok (.iinc 4 1, 3) := by decide +kernel
theorem dX11_steady_73 : decode cX11_steady 73 = .ok (.iload 5, 2) := by decide +kernel
theorem dX11_steady_75 : decode cX11_steady 75 = .ok (.ifCond .lt 16, 3) := by decide +kernel
theorem dX11_steady_78 : decode cX11_steady 78 = .ok (.iload 6, 2) := by decide +kernel
theorem dX11_steady_80 : decode cX11_steady 80 = .ok (.invokestatic 352, 3) := by decide +kernel
theorem dX11_steady_83 : decode cX11_steady 83 = .ok (.iload 5, 2) := by decide +kernel
theorem dX11_steady_85 : decode cX11_steady 85 = .ok (.invokestatic 352, 3) := by decide +kernel
theorem dX11_steady_88 : decode cX11_steady 88 = .ok (.if_icmp .le 7, 3) := by decide +kernel
theorem dX11_steady_91 : decode cX11_steady 91 = .ok (.iload 6, 2) := by decide +kernel
theorem dX11_steady_93 : decode cX11_steady 93 = .ok (.istore 5, 2) := by decide +kernel
theorem dX11_steady_95 : decode cX11_steady 95 = .ok (.iinc 6 1, 3) := by decide +kernel
theorem dX11_steady_98 : decode cX11_steady 98 = .ok (.goto (-63), 3) := by decide +kernel
theorem dX11_steady_101 : decode cX11_steady 101 = .ok (.iload_n 3, 1) := by decide +kernel
theorem dX11_steady_102 : decode cX11_steady 102 = .ok (.ifCond .ne 8, 3) := by decide +kernel
theorem dX11_steady_105 : decode cX11_steady 105 = .ok (.iload 4, 2) := by decide +kernel
theorem dX11_steady_107 : decode cX11_steady 107 = .ok (.goto 5, 3) := by decide +kernel
theorem dX11_steady_110 : decode cX11_steady 110 = .ok (.iload 5, 2) := by decide +kernel
theorem dX11_steady_112 : decode cX11_steady 112 = .ok (.ireturn, 1) := by decide +kernel
theorem dX11_against_0 : decode cX11_against 0 = .ok (.aload_n 0, 1) := by decide +kernel
theorem dX11_against_1 : decode cX11_against 1 = .ok (.iload_n 1, 1) := by decide +kernel
theorem dX11_against_2 : decode cX11_against 2 = .ok (.invokevirtual 361, 3) := by decide +kernel
theorem dX11_against_5 : decode cX11_against 5 = .ok (.ifCond .eq 18, 3) := by decide +kernel
theorem dX11_against_8 : decode cX11_against 8 = .ok (.aload_n 0, 1) := by decide +kernel
theorem dX11_against_9 : decode cX11_against 9 = .ok (.iload_n 2, 1) := by decide +kernel
theorem dX11_against_10 : decode cX11_against 10 = .ok (.invokevirtual 361, 3) := by decide +kernel
theorem dX11_against_13 : decode cX11_against 13 = .ok (.ifCond .eq 10, 3) := by decide +kernel
theorem dX11_against_16 : decode cX11_against 16 = .ok (.iload_n 3, 1) := by decide +kernel
theorem dX11_against_17 : decode cX11_against 17 = .ok (.invokestatic 364, 3) := by decide +kernel
theorem dX11_against_20 : decode cX11_against 20 = .ok (.ifCond .ne 5, 3) := by decide +kernel
theorem dX11_against_23 : decode cX11_against 23 = .ok (.iconst (-1), 1) := by decide +kernel
theorem dX11_against_24 : decode cX11_against 24 = .ok (.ireturn, 1) := by decide +kernel
theorem dX11_against_25 : decode cX11_against 25 = .ok (.iconst 0, 1) := by decide +kernel
theorem dX11_against_26 : decode cX11_against 26 = .ok (.istore 4, 2) := by decide +kernel
theorem dX11_against_28 : decode cX11_against 28 = .ok (.iconst 0, 1) := by decide +kernel
theorem dX11_against_29 : decode cX11_against 29 = .ok (.istore 5, 2) := by decide +kernel
theorem dX11_against_31 : decode cX11_against 31 = .ok (.iload 5, 2) := by decide +kernel
theorem dX11_against_33 : decode cX11_against 33 = .ok (.iconst 1, 1) := by decide +kernel
theorem dX11_against_34 : decode cX11_against 34 = .ok (.aload_n 0, 1) := by decide +kernel
theorem dX11_against_35 : decode cX11_against 35 = .ok (.invokevirtual 342, 3) := by decide +kernel
theorem dX11_against_38 : decode cX11_against 38 = .ok (.ishl, 1) := by decide +kernel
theorem dX11_against_39 : decode cX11_against 39 = .ok (.if_icmp .ge 40, 3) := by decide +kernel
theorem dX11_against_42 : decode cX11_against 42 = .ok (.iload 4, 2) := by decide +kernel
theorem dX11_against_44 : decode cX11_against 44 = .ok (.aload_n 0, 1) := by decide +kernel
theorem dX11_against_45 : decode cX11_against 45 = .ok (.iload 5, 2) := by decide +kernel
theorem dX11_against_47 : decode cX11_against 47 = .ok (.iload_n 1, 1) := by decide +kernel
theorem dX11_against_48 : decode cX11_against 48 = .ok (.iload_n 3, 1) := by decide +kernel
theorem dX11_against_49 : decode cX11_against 49 = .ok (.iconst 0, 1) := by decide +kernel
theorem dX11_against_50 : decode cX11_against 50 = .ok (.invokevirtual 367, 3) := by decide +kernel
theorem dX11_against_53 : decode cX11_against 53 = .ok (.aload_n 0, 1) := by decide +kernel
theorem dX11_against_54 : decode cX11_against 54 = .ok (.iload 5, 2) := by decide +kernel
theorem dX11_against_56 : decode cX11_against 56 = .ok (.iload_n 2, 1) := by decide +kernel
theorem dX11_against_57 : decode cX11_against 57 = .ok (.iload_n 3, 1) := by decide +kernel
theorem dX11_against_58 : decode cX11_against 58 = .ok (.iconst 0, 1) := by decide +kernel
theorem dX11_against_59 : decode cX11_against 59 = .ok (.invokevirtual 367, 3) := by decide +kernel
theorem dX11_against_62 : decode cX11_against 62 = .ok (.if_icmp .eq 7, 3) := by decide +kernel
theorem dX11_against_65 : decode cX11_against 65 = .ok (.iconst 1, 1) := by decide +kernel
theorem dX11_against_66 : decode cX11_against 66 = .ok (.goto 4, 3) := by decide +kernel
theorem dX11_against_69 : decode cX11_against 69 = .ok (.iconst 0, 1) := by decide +kernel
theorem dX11_against_70 : decode cX11_against 70 = .ok (.iadd, 1) := by decide +kernel
theorem dX11_against_71 : decode cX11_against 71 = .ok (.istore 4, 2) := by decide +kernel
theorem dX11_against_73 : decode cX11_against 73 = .ok (.iinc 5 1, 3) := by decide +kernel
theorem dX11_against_76 : decode cX11_against 76 = .ok (.goto (-45), 3) := by decide +kernel
theorem dX11_against_79 : decode cX11_against 79 = .ok (.iload 4, 2) := by decide +kernel
theorem dX11_against_81 : decode cX11_against 81 = .ok (.ireturn, 1) := by decide +kernel
theorem dX11_forge_0 : decode cX11_forge 0 = .ok (.aload_n 0, 1) := by decide +kernel
theorem dX11_forge_1 : decode cX11_forge 1 = .ok (.iload_n 1, 1) := by decide +kernel
theorem dX11_forge_2 : decode cX11_forge 2 = .ok (.iload_n 2, 1) := by decide +kernel
theorem dX11_forge_3 : decode cX11_forge 3 = .ok (.iload_n 3, 1) := by decide +kernel
theorem dX11_forge_4 : decode cX11_forge 4 = .ok (.invokevirtual 398, 3) := by decide +kernel
theorem dX11_forge_7 : decode cX11_forge 7 = .ok (.ifCond .eq 22, 3) := by decide +kernel
theorem dX11_forge_10 : decode cX11_forge 10 = .ok (.aload_n 0, 1) := by decide +kernel
theorem dX11_forge_11 : decode cX11_forge 11 = .ok (.iload 4, 2) := by decide +kernel
theorem dX11_forge_13 : decode cX11_forge 13 = .ok (.invokevirtual 358, 3) := by decide +kernel
theorem dX11_forge_16 : decode cX11_forge 16 = .ok (.ifCond .eq 13, 3) := by decide +kernel
theorem dX11_forge_19 : decode cX11_forge 19 = .ok (.iload 5, 2) := by decide +kernel
theorem dX11_forge_21 : decode cX11_forge 21 = .ok (.iconst 0, 1) := by decide +kernel
theorem dX11_forge_22 : decode cX11_forge 22 = .ok (.iconst 1, 1) := by decide +kernel
theorem dX11_forge_23 : decode cX11_forge 23 = .ok (.invokestatic 345, 3) := by decide +kernel
theorem dX11_forge_26 : decode cX11_forge 26 = .ok (.ifCond .ne 5, 3) := by decide +kernel
theorem dX11_forge_29 : decode cX11_forge 29 = .ok (.iconst (-1), 1) := by decide +kernel
theorem dX11_forge_30 : decode cX11_forge 30 = .ok (.ireturn, 1) := by decide +kernel
theorem dX11_forge_31 : decode cX11_forge 31 = .ok (.iconst (-1), 1) := by decide +kernel
theorem dX11_forge_32 : decode cX11_forge 32 = .ok (.istore 6, 2) := by decide +kernel
theorem dX11_forge_34 : decode cX11_forge 34 = .ok (.iconst 0, 1) := by decide +kernel
theorem dX11_forge_35 : decode cX11_forge 35 = .ok (.istore 7, 2) := by decide +kernel
theorem dX11_forge_37 : decode cX11_forge 37 = .ok (.iconst 0, 1) := by decide +kernel
theorem dX11_forge_38 : decode cX11_forge 38 = .ok (.istore 8, 2) := by decide +kernel
theorem dX11_forge_40 : decode cX11_forge 40 = .ok (.iload 8, 2) := by decide +kernel
theorem dX11_forge_42 : decode cX11_forge 42 = .ok (.iconst 1, 1) := by decide +kernel
theorem dX11_forge_43 : decode cX11_forge 43 = .ok (.aload_n 0, 1) := by decide +kernel
theorem dX11_forge_44 : decode cX11_forge 44 = .ok (.invokevirtual 342, 3) := by decide +kernel
theorem dX11_forge_47 : decode cX11_forge 47 = .ok (.ishl, 1) := by decide +kernel
theorem dX11_forge_48 : decode cX11_forge 48 = .ok (.if_icmp .ge 59, 3) := by decide +kernel
theorem dX11_forge_51 : decode cX11_forge 51 = .ok (.iload 8, 2) := by decide +kernel
theorem dX11_forge_53 : decode cX11_forge 53 = .ok (.aload_n 0, 1) := by decide +kernel
theorem dX11_forge_54 : decode cX11_forge 54 = .ok (.iload_n 1, 1) := by decide +kernel
theorem dX11_forge_55 : decode cX11_forge 55 = .ok (.invokevirtual 392, 3) := by decide +kernel
theorem dX11_forge_58 : decode cX11_forge 58 = .ok (.ixor, 1) := by decide +kernel
theorem dX11_forge_59 : decode cX11_forge 59 = .ok (.invokestatic 352, 3) := by decide +kernel
theorem dX11_forge_62 : decode cX11_forge 62 = .ok (.istore 9, 2) := by decide +kernel
theorem dX11_forge_64 : decode cX11_forge 64 = .ok (.iload 6, 2) := by decide +kernel
theorem dX11_forge_66 : decode cX11_forge 66 = .ok (.ifCond .lt 10, 3) := by decide +kernel
theorem dX11_forge_69 : decode cX11_forge 69 = .ok (.iload 9, 2) := by decide +kernel
theorem dX11_forge_71 : decode cX11_forge 71 = .ok (.iload 7, 2) := by decide +kernel
theorem dX11_forge_73 : decode cX11_forge 73 = .ok (.if_icmp .ge 28, 3) := by decide +kernel
theorem dX11_forge_76 : decode cX11_forge 76 = .ok (.aload_n 0, 1) := by decide +kernel
theorem dX11_forge_77 : decode cX11_forge 77 = .ok (.iload 8, 2) := by decide +kernel
theorem dX11_forge_79 : decode cX11_forge 79 = .ok (.iload_n 2, 1) := by decide +kernel
theorem dX11_forge_80 : decode cX11_forge 80 = .ok (.iload_n 3, 1) := by decide +kernel
theorem dX11_forge_81 : decode cX11_forge 81 = .ok (.iconst 0, 1) := by decide +kernel
theorem dX11_forge_82 : decode cX11_forge 82 = .ok (.invokevirtual 367, 3) := by decide +kernel
theorem dX11_forge_85 : decode cX11_forge 85 = .ok (.iload 4, 2) := by decide +kernel
theorem dX11_forge_87 : decode cX11_forge 87 = .ok (.if_icmp .eq 6, 3) := by decide +kernel
theorem dX11_forge_90 : decode cX11_forge 90 = .ok (.goto 11, 3) := by decide +kernel
theorem dX11_forge_93 : decode cX11_forge 93 = .ok (.iload 8, 2) := by decide +kernel
theorem dX11_forge_95 : decode cX11_forge 95 = .ok (.istore 6, 2) := by decide +kernel
theorem dX11_forge_97 : decode cX11_forge 97 = .ok (.iload 9, 2) := by decide +kernel
theorem dX11_forge_99 : decode cX11_forge 99 = .ok (.istore 7, 2) := by decide +kernel
theorem dX11_forge_101 : decode cX11_forge 101 = .ok (.iinc 8 1, 3) := by decide +kernel
theorem dX11_forge_104 : decode cX11_forge 104 = .ok (.goto (-64), 3) := by decide +kernel
theorem dX11_forge_107 : decode cX11_forge 107 = .ok (.iload 6, 2) := by decide +kernel
theorem dX11_forge_109 : decode cX11_forge 109 = .ok (.ifCond .ge 7, 3) := by decide +kernel
theorem dX11_forge_112 : decode cX11_forge 112 = .ok (.iconst (-1), 1) := by decide +kernel
theorem dX11_forge_113 : decode cX11_forge 113 = .ok (.goto 15, 3) := by decide +kernel
theorem dX11_forge_116 : decode cX11_forge 116 = .ok (.iload 5, 2) := by decide +kernel
theorem dX11_forge_118 : decode cX11_forge 118 = .ok (.ifCond .ne 8, 3) := by decide +kernel
theorem dX11_forge_121 : decode cX11_forge 121 = .ok (.iload 7, 2) := by decide +kernel
theorem dX11_forge_123 : decode cX11_forge 123 = .ok (.goto 5, 3) := by decide +kernel
theorem dX11_forge_126 : decode cX11_forge 126 = .ok (.iload 6, 2) := by decide +kernel
theorem dX11_forge_128 : decode cX11_forge 128 = .ok (.ireturn, 1) := by decide +kernel
theorem dX11_nearest_0 : decode cX11_nearest 0 = .ok (.aload_n 0, 1) := by decide +kernel
theorem dX11_nearest_1 : decode cX11_nearest 1 = .ok (.iload_n 1, 1) := by decide +kernel
theorem dX11_nearest_2 : decode cX11_nearest 2 = .ok (.invokevirtual 358, 3) := by decide +kernel
theorem dX11_nearest_5 : decode cX11_nearest 5 = .ok (.ifCond .eq 12, 3) := by decide +kernel
theorem dX11_nearest_8 : decode cX11_nearest 8 = .ok (.iload_n 2, 1) := by decide +kernel
theorem dX11_nearest_9 : decode cX11_nearest 9 = .ok (.iconst 0, 1) := by decide +kernel
theorem dX11_nearest_10 : decode cX11_nearest 10 = .ok (.iconst 2, 1) := by decide +kernel
theorem dX11_nearest_11 : decode cX11_nearest 11 = .ok (.invokestatic 345, 3) := by decide +kernel
theorem dX11_nearest_14 : decode cX11_nearest 14 = .ok (.ifCond .ne 5, 3) := by decide +kernel
theorem dX11_nearest_17 : decode cX11_nearest 17 = .ok (.iconst (-1), 1) := by decide +kernel
theorem dX11_nearest_18 : decode cX11_nearest 18 = .ok (.ireturn, 1) := by decide +kernel
theorem dX11_nearest_19 : decode cX11_nearest 19 = .ok (.iconst (-1), 1) := by decide +kernel
theorem dX11_nearest_20 : decode cX11_nearest 20 = .ok (.istore_n 3, 1) := by decide +kernel
theorem dX11_nearest_21 : decode cX11_nearest 21 = .ok (.iconst 0, 1) := by decide +kernel
theorem dX11_nearest_22 : decode cX11_nearest 22 = .ok (.istore 4, 2) := by decide +kernel
theorem dX11_nearest_24 : decode cX11_nearest 24 = .ok (.iconst 0, 1) := by decide +kernel
theorem dX11_nearest_25 : decode cX11_nearest 25 = .ok (.istore 5, 2) := by decide +kernel
theorem dX11_nearest_27 : decode cX11_nearest 27 = .ok (.iload 5, 2) := by decide +kernel
theorem dX11_nearest_29 : decode cX11_nearest 29 = .ok (.iconst 2, 1) := by decide +kernel
theorem dX11_nearest_30 : decode cX11_nearest 30 = .ok (.aload_n 0, 1) := by decide +kernel
theorem dX11_nearest_31 : decode cX11_nearest 31 = .ok (.getfield 77, 3) := by decide +kernel
theorem dX11_nearest_34 : decode cX11_nearest 34 = .ok (.sipush 216, 3) := by decide +kernel
theorem dX11_nearest_37 : decode cX11_nearest 37 = .ok (.iaload, 1) := by decide +kernel
theorem dX11_nearest_38 : decode cX11_nearest 38 = .ok (.imul, 1) := by decide +kernel
theorem dX11_nearest_39 : decode cX11_nearest 39 = .ok (.if_icmp .ge 82, 3) := by decide +kernel
theorem dX11_nearest_42 : decode cX11_nearest 42 = .ok (.iload 5, 2) := by decide +kernel
theorem dX11_nearest_44 : decode cX11_nearest 44 = .ok (.aload_n 0, 1) := by decide +kernel
theorem dX11_nearest_45 : decode cX11_nearest 45 = .ok (.getfield 77, 3) := by decide +kernel
theorem dX11_nearest_48 : decode cX11_nearest 48 = .ok (.sipush 216, 3) := by decide +kernel
theorem dX11_nearest_51 : decode cX11_nearest 51 = .ok (.iaload, 1) := by decide +kernel
theorem dX11_nearest_52 : decode cX11_nearest 52 = .ok (.irem, 1) := by decide +kernel
theorem dX11_nearest_53 : decode cX11_nearest 53 = .ok (.istore 6, 2) := by decide +kernel
theorem dX11_nearest_55 : decode cX11_nearest 55 = .ok (.iload_n 1, 1) := by decide +kernel
theorem dX11_nearest_56 : decode cX11_nearest 56 = .ok (.iload 5, 2) := by decide +kernel
theorem dX11_nearest_58 : decode cX11_nearest 58 = .ok (.aload_n 0, 1) := by decide +kernel
theorem dX11_nearest_59 : decode cX11_nearest 59 = .ok (.getfield 77, 3) := by decide +kernel
theorem dX11_nearest_62 : decode cX11_nearest 62 = .ok (.sipush 216, 3) := by decide +kernel
theorem dX11_nearest_65 : decode cX11_nearest 65 = .ok (.iaload, 1) := by decide +kernel
theorem dX11_nearest_66 : decode cX11_nearest 66 = .ok (.if_icmp .ge 16, 3) := by decide +kernel
theorem dX11_nearest_69 : decode cX11_nearest 69 = .ok (.aload_n 0, 1) := by decide +kernel
theorem dX11_nearest_70 : decode cX11_nearest 70 = .ok (.aload_n 0, 1) := by decide +kernel
theorem dX11_nearest_71 : decode cX11_nearest 71 = .ok (.iload 6, 2) := by decide +kernel
theorem dX11_nearest_73 : decode cX11_nearest 73 = .ok (.invokevirtual 392, 3) := by decide +kernel
theorem dX11_nearest_76 : decode cX11_nearest 76 = .ok (.invokevirtual 349, 3) := by decide +kernel
theorem dX11_nearest_79 : decode cX11_nearest 79 = .ok (.goto 9, 3) := by decide +kernel
theorem dX11_nearest_82 : decode cX11_nearest 82 = .ok (.aload_n 0, 1) := by decide +kernel
theorem dX11_nearest_83 : decode cX11_nearest 83 = .ok (.iload 6, 2) := by decide +kernel
theorem dX11_nearest_85 : decode cX11_nearest 85 = .ok (.invokevirtual 392, 3) := by decide +kernel
theorem dX11_nearest_88 : decode cX11_nearest 88 = .ok (.ixor, 1) := by decide +kernel
theorem dX11_nearest_89 : decode cX11_nearest 89 = .ok (.invokestatic 352, 3) := by decide +kernel
theorem dX11_nearest_92 : decode cX11_nearest 92 = .ok (.istore 7, 2) := by decide +kernel
theorem dX11_nearest_94 : decode cX11_nearest 94 = .ok (.iload_n 3, 1) := by decide +kernel
theorem dX11_nearest_95 : decode cX11_nearest 95 = .ok (.ifCond .lt 13, 3) := by decide +kernel
theorem dX11_nearest_98 : decode cX11_nearest 98 = .ok (.iload 7, 2) := by decide +kernel
theorem dX11_nearest_100 : decode cX11_nearest 100 = .ok (.iload 4, 2) := by decide +kernel
theorem dX11_nearest_102 : decode cX11_nearest 102 = .ok (.if_icmp .lt 6, 3) := by decide +kernel
theorem dX11_nearest_105 : decode cX11_nearest 105 = .ok (.goto 10, 3) := by decide +kernel
theorem dX11_nearest_108 : decode cX11_nearest 108 = .ok (.iload 5, 2) := by decide +kernel
theorem dX11_nearest_110 : decode cX11_nearest 110 = .ok (.istore_n 3, 1) := by decide +kernel
theorem dX11_nearest_111 : decode cX11_nearest 111 = .ok (.iload 7, 2) := by decide +kernel
theorem dX11_nearest_113 : decode cX11_nearest 113 = .ok (.istore 4, 2) := by decide +kernel
theorem dX11_nearest_115 : decode cX11_nearest 115 = .ok (.iinc 5 1, 3) := by decide +kernel
theorem dX11_nearest_118 : decode cX11_nearest 118 = .ok (.goto (-91), 3) := by decide +kernel
theorem dX11_nearest_121 : decode cX11_nearest 121 = .ok (.iload_n 2, 1) := by decide +kernel
theorem dX11_nearest_122 : decode cX11_nearest 122 = .ok (.ifCond .ne 6, 3) := by decide +kernel
theorem dX11_nearest_125 : decode cX11_nearest 125 = .ok (.iload 4, 2) := by decide +kernel
theorem dX11_nearest_127 : decode cX11_nearest 127 = .ok (.ireturn, 1) := by decide +kernel
theorem dX11_nearest_128 : decode cX11_nearest 128 = .ok (.iload_n 2, 1) := by decide +kernel
theorem dX11_nearest_129 : decode cX11_nearest 129 = .ok (.iconst 1, 1) := by decide +kernel
theorem dX11_nearest_130 : decode cX11_nearest 130 = .ok (.if_icmp .ne 16, 3) := by decide +kernel
theorem dX11_nearest_133 : decode cX11_nearest 133 = .ok (.iload_n 3, 1) := by decide +kernel
theorem dX11_nearest_134 : decode cX11_nearest 134 = .ok (.aload_n 0, 1) := by decide +kernel
theorem dX11_nearest_135 : decode cX11_nearest 135 = .ok (.getfield 77, 3) := by decide +kernel
theorem dX11_nearest_138 : decode cX11_nearest 138 = .ok (.sipush 216, 3) := by decide +kernel
theorem dX11_nearest_141 : decode cX11_nearest 141 = .ok (.iaload, 1) := by decide +kernel
theorem dX11_nearest_142 : decode cX11_nearest 142 = .ok (.irem, 1) := by decide +kernel
theorem dX11_nearest_143 : decode cX11_nearest 143 = .ok (.goto 13, 3) := by decide +kernel
theorem dX11_nearest_146 : decode cX11_nearest 146 = .ok (.iload_n 3, 1) := by decide +kernel
theorem dX11_nearest_147 : decode cX11_nearest 147 = .ok (.aload_n 0, 1) := by decide +kernel
theorem dX11_nearest_148 : decode cX11_nearest 148 = .ok (.getfield 77, 3) := by decide +kernel
theorem dX11_nearest_151 : decode cX11_nearest 151 = .ok (.sipush 216, 3) := by decide +kernel
theorem dX11_nearest_154 : decode cX11_nearest 154 = .ok (.iaload, 1) := by decide +kernel
theorem dX11_nearest_155 : decode cX11_nearest 155 = .ok (.idiv, 1) := by decide +kernel
theorem dX11_nearest_156 : decode cX11_nearest 156 = .ok (.ireturn, 1) := by decide +kernel
theorem dX11_common_0 : decode cX11_common 0 = .ok (.iload_n 1, 1) := by decide +kernel
theorem dX11_common_1 : decode cX11_common 1 = .ok (.iconst 0, 1) := by decide +kernel
theorem dX11_common_2 : decode cX11_common 2 = .ok (.iconst 2, 1) := by decide +kernel
theorem dX11_common_3 : decode cX11_common 3 = .ok (.invokestatic 345, 3) := by decide +kernel
theorem dX11_common_6 : decode cX11_common 6 = .ok (.ifCond .ne 5, 3) := by decide +kernel
theorem dX11_common_9 : decode cX11_common 9 = .ok (.iconst (-1), 1) := by decide +kernel
theorem dX11_common_10 : decode cX11_common 10 = .ok (.ireturn, 1) := by decide +kernel
theorem dX11_common_11 : decode cX11_common 11 = .ok (.iload_n 1, 1) := by decide +kernel
theorem dX11_common_12 : decode cX11_common 12 = .ok (.iconst 1, 1) := by decide +kernel
theorem dX11_common_13 : decode cX11_common 13 = .ok (.if_icmp .ne 7, 3) := by decide +kernel
theorem dX11_common_16 : decode cX11_common 16 = .ok (.iconst 0, 1) := by decide +kernel
theorem dX11_common_17 : decode cX11_common 17 = .ok (.goto 11, 3) := by decide +kernel
theorem dX11_common_20 : decode cX11_common 20 = .ok (.iconst 1, 1) := by decide +kernel
theorem dX11_common_21 : decode cX11_common 21 = .ok (.aload_n 0, 1) := by decide +kernel
theorem dX11_common_22 : decode cX11_common 22 = .ok (.invokevirtual 342, 3) := by decide +kernel
theorem dX11_common_25 : decode cX11_common 25 = .ok (.ishl, 1) := by decide +kernel
theorem dX11_common_26 : decode cX11_common 26 = .ok (.iconst 1, 1) := by decide +kernel
theorem dX11_common_27 : decode cX11_common 27 = .ok (.isub, 1) := by decide +kernel
theorem dX11_common_28 : decode cX11_common 28 = .ok (.istore_n 2, 1) := by decide +kernel
theorem dX11_common_29 : decode cX11_common 29 = .ok (.iconst 0, 1) := by decide +kernel
theorem dX11_common_30 : decode cX11_common 30 = .ok (.istore_n 3, 1) := by decide +kernel
theorem dX11_common_31 : decode cX11_common 31 = .ok (.iload_n 3, 1) := by decide +kernel
theorem dX11_common_32 : decode cX11_common 32 = .ok (.aload_n 0, 1) := by decide +kernel
theorem dX11_common_33 : decode cX11_common 33 = .ok (.getfield 77, 3) := by decide +kernel
theorem dX11_common_36 : decode cX11_common 36 = .ok (.sipush 216, 3) := by decide +kernel
theorem dX11_common_39 : decode cX11_common 39 = .ok (.iaload, 1) := by decide +kernel
theorem dX11_common_40 : decode cX11_common 40 = .ok (.if_icmp .ge 36, 3) := by decide +kernel
theorem dX11_common_43 : decode cX11_common 43 = .ok (.iload_n 1, 1) := by decide +kernel
theorem dX11_common_44 : decode cX11_common 44 = .ok (.iconst 2, 1) := by decide +kernel
theorem dX11_common_45 : decode cX11_common 45 = .ok (.if_icmp .ge 31, 3) := by decide +kernel
theorem dX11_common_48 : decode cX11_common 48 = .ok (.iload_n 1, 1) := by decide +kernel
theorem dX11_common_49 : decode cX11_common 49 = .ok (.ifCond .ne 13, 3) := by decide +kernel
theorem dX11_common_52 : decode cX11_common 52 = .ok (.iload_n 2, 1) := by decide +kernel
theorem dX11_common_53 : decode cX11_common 53 = .ok (.aload_n 0, 1) := by decide +kernel
theorem dX11_common_54 : decode cX11_common 54 = .ok (.iload_n 3, 1) := by decide +kernel
theorem dX11_common_55 : decode cX11_common 55 = .ok (.invokevirtual 392, 3) := by decide +kernel
theorem dX11_common_58 : decode cX11_common 58 = .ok (.iand, 1) := by decide +kernel
theorem dX11_common_59 : decode cX11_common 59 = .ok (.goto 10, 3) := by decide +kernel
theorem dX11_common_62 : decode cX11_common 62 = .ok (.iload_n 2, 1) := by decide +kernel
theorem dX11_common_63 : decode cX11_common 63 = .ok (.aload_n 0, 1) := by decide +kernel
theorem dX11_common_64 : decode cX11_common 64 = .ok (.iload_n 3, 1) := by decide +kernel
theorem dX11_common_65 : decode cX11_common 65 = .ok (.invokevirtual 392, 3) := by decide +kernel
theorem dX11_common_68 : decode cX11_common 68 = .ok (.ior, 1) := by decide +kernel
theorem dX11_common_69 : decode cX11_common 69 = .ok (.istore_n 2, 1) := by decide +kernel
theorem dX11_common_70 : decode cX11_common 70 = .ok (.iinc 3 1, 3) := by decide +kernel
theorem dX11_common_73 : decode cX11_common 73 = .ok (.goto (-42), 3) := by decide +kernel
theorem dX11_common_76 : decode cX11_common 76 = .ok (.iconst 0, 1) := by decide +kernel
theorem dX11_common_77 : decode cX11_common 77 = .ok (.istore_n 3, 1) := by decide +kernel
theorem dX11_common_78 : decode cX11_common 78 = .ok (.iload_n 3, 1) := by decide +kernel
theorem dX11_common_79 : decode cX11_common 79 = .ok (.aload_n 0, 1) := by decide +kernel
theorem dX11_common_80 : decode cX11_common 80 = .ok (.getfield 77, 3) := by decide +kernel
theorem dX11_common_83 : decode cX11_common 83 = .ok (.sipush 217, 3) := by decide +kernel
theorem dX11_common_86 : decode cX11_common 86 = .ok (.iaload, 1) := by decide +kernel
theorem dX11_common_87 : decode cX11_common 87 = .ok (.if_icmp .ge 28, 3) := by decide +kernel
theorem dX11_common_90 : decode cX11_common 90 = .ok (.iload_n 1, 1) := by decide +kernel
theorem dX11_common_91 : decode cX11_common 91 = .ok (.iconst 2, 1) := by decide +kernel
theorem dX11_common_92 : decode cX11_common 92 = .ok (.if_icmp .ne 23, 3) := by decide +kernel
theorem dX11_common_95 : decode cX11_common 95 = .ok (.iload_n 2, 1) := by decide +kernel
theorem dX11_common_96 : decode cX11_common 96 = .ok (.aload_n 0, 1) := by decide +kernel
theorem dX11_common_97 : decode cX11_common 97 = .ok (.getfield 77, 3) := by decide +kernel
theorem dX11_common_100 : decode cX11_common 100 = .ok (.bipush 96, 2) := by decide +kernel
theorem dX11_common_102 : decode cX11_common 102 = .ok (.iconst 3, 1) := by decide +kernel
theorem dX11_common_103 : decode cX11_common 103 = .ok (.iload_n 3, 1) := by decide +kernel
theorem dX11_common_104 : decode cX11_common 104 = .ok (.imul, 1) := by decide +kernel
theorem dX11_common_105 : decode cX11_common 105 = .ok (.iadd, 1) := by decide +kernel
theorem dX11_common_106 : decode cX11_common 106 = .ok (.iaload, 1) := by decide +kernel
theorem dX11_common_107 : decode cX11_common 107 = .ok (.iand, 1) := by decide +kernel
theorem dX11_common_108 : decode cX11_common 108 = .ok (.istore_n 2, 1) := by decide +kernel
theorem dX11_common_109 : decode cX11_common 109 = .ok (.iinc 3 1, 3) := by decide +kernel
theorem dX11_common_112 : decode cX11_common 112 = .ok (.goto (-34), 3) := by decide +kernel
theorem dX11_common_115 : decode cX11_common 115 = .ok (.iload_n 2, 1) := by decide +kernel
theorem dX11_common_116 : decode cX11_common 116 = .ok (.ireturn, 1) := by decide +kernel
theorem dX11_alike_0 : decode cX11_alike 0 = .ok (.aload_n 0, 1) := by decide +kernel
theorem dX11_alike_1 : decode cX11_alike 1 = .ok (.iload_n 1, 1) := by decide +kernel
theorem dX11_alike_2 : decode cX11_alike 2 = .ok (.invokevirtual 358, 3) := by decide +kernel
theorem dX11_alike_5 : decode cX11_alike 5 = .ok (.ifCond .ne 5, 3) := by decide +kernel
theorem dX11_alike_8 : decode cX11_alike 8 = .ok (.iconst (-1), 1) := by decide +kernel
theorem dX11_alike_9 : decode cX11_alike 9 = .ok (.ireturn, 1) := by decide +kernel
theorem dX11_alike_10 : decode cX11_alike 10 = .ok (.iconst 0, 1) := by decide +kernel
theorem dX11_alike_11 : decode cX11_alike 11 = .ok (.istore_n 3, 1) := by decide +kernel
theorem dX11_alike_12 : decode cX11_alike 12 = .ok (.iconst 0, 1) := by decide +kernel
theorem dX11_alike_13 : decode cX11_alike 13 = .ok (.istore 4, 2) := by decide +kernel
theorem dX11_alike_15 : decode cX11_alike 15 = .ok (.iload 4, 2) := by decide +kernel
theorem dX11_alike_17 : decode cX11_alike 17 = .ok (.aload_n 0, 1) := by decide +kernel
theorem dX11_alike_18 : decode cX11_alike 18 = .ok (.getfield 77, 3) := by decide +kernel
theorem dX11_alike_21 : decode cX11_alike 21 = .ok (.sipush 216, 3) := by decide +kernel
theorem dX11_alike_24 : decode cX11_alike 24 = .ok (.iaload, 1) := by decide +kernel
theorem dX11_alike_25 : decode cX11_alike 25 = .ok (.if_icmp .ge 43, 3) := by decide +kernel
theorem dX11_alike_28 : decode cX11_alike 28 = .ok (.iload_n 2, 1) := by decide +kernel
theorem dX11_alike_29 : decode cX11_alike 29 = .ok (.ifCond .eq 16, 3) := by decide +kernel
theorem dX11_alike_32 : decode cX11_alike 32 = .ok (.aload_n 0, 1) := by decide +kernel
theorem dX11_alike_33 : decode cX11_alike 33 = .ok (.aload_n 0, 1) := by decide +kernel
theorem dX11_alike_34 : decode cX11_alike 34 = .ok (.iload 4, 2) := by decide +kernel
theorem dX11_alike_36 : decode cX11_alike 36 = .ok (.invokevirtual 392, 3) := by decide +kernel
theorem dX11_alike_39 : decode cX11_alike 39 = .ok (.invokevirtual 349, 3) := by decide +kernel
theorem dX11_alike_42 : decode cX11_alike 42 = .ok (.goto 9, 3) := by decide +kernel
theorem dX11_alike_45 : decode cX11_alike 45 = .ok (.aload_n 0, 1) := by decide +kernel
theorem dX11_alike_46 : decode cX11_alike 46 = .ok (.iload 4, 2) := by decide +kernel
theorem dX11_alike_48 : decode cX11_alike 48 = .ok (.invokevirtual 392, 3) := by decide +kernel
theorem dX11_alike_51 : decode cX11_alike 51 = .ok (.iload_n 1, 1) := by decide +kernel
theorem dX11_alike_52 : decode cX11_alike 52 = .ok (.if_icmp .ne 10, 3) := by decide +kernel
theorem dX11_alike_55 : decode cX11_alike 55 = .ok (.iload_n 3, 1) := by decide +kernel
theorem dX11_alike_56 : decode cX11_alike 56 = .ok (.iconst 1, 1) := by decide +kernel
theorem dX11_alike_57 : decode cX11_alike 57 = .ok (.iload 4, 2) := by decide +kernel
theorem dX11_alike_59 : decode cX11_alike 59 = .ok (.ishl, 1) := by decide +kernel
theorem dX11_alike_60 : decode cX11_alike 60 = .ok (.ior, 1) := by decide +kernel
theorem dX11_alike_61 : decode cX11_alike 61 = .ok (.istore_n 3, 1) := by decide +kernel
theorem dX11_alike_62 : decode cX11_alike 62 = .ok (.iinc 4 1, 3) := by decide +kernel
theorem dX11_alike_65 : decode cX11_alike 65 = .ok (.goto (-50), 3) := by decide +kernel
theorem dX11_alike_68 : decode cX11_alike 68 = .ok (.iload_n 3, 1) := by decide +kernel
theorem dX11_alike_69 : decode cX11_alike 69 = .ok (.ireturn, 1) := by decide +kernel
theorem dX11_ways_0 : decode cX11_ways 0 = .ok (.iconst 4, 1) := by decide +kernel
theorem dX11_ways_1 : decode cX11_ways 1 = .ok (.aload_n 0, 1) := by decide +kernel
theorem dX11_ways_2 : decode cX11_ways 2 = .ok (.getfield 27, 3) := by decide +kernel
theorem dX11_ways_5 : decode cX11_ways 5 = .ok (.aload_n 0, 1) := by decide +kernel
theorem dX11_ways_6 : decode cX11_ways 6 = .ok (.getfield 250, 3) := by decide +kernel
theorem dX11_ways_9 : decode cX11_ways 9 = .ok (.iaload, 1) := by decide +kernel
theorem dX11_ways_10 : decode cX11_ways 10 = .ok (.imul, 1) := by decide +kernel
theorem dX11_ways_11 : decode cX11_ways 11 = .ok (.ireturn, 1) := by decide +kernel
theorem dX11_layWays_0 : decode cX11_layWays 0 = .ok (.iconst 1, 1) := by decide +kernel
theorem dX11_layWays_1 : decode cX11_layWays 1 = .ok (.aload_n 0, 1) := by decide +kernel
theorem dX11_layWays_2 : decode cX11_layWays 2 = .ok (.invokevirtual 342, 3) := by decide +kernel
theorem dX11_layWays_5 : decode cX11_layWays 5 = .ok (.ishl, 1) := by decide +kernel
theorem dX11_layWays_6 : decode cX11_layWays 6 = .ok (.istore_n 2, 1) := by decide +kernel
theorem dX11_layWays_7 : decode cX11_layWays 7 = .ok (.iconst 0, 1) := by decide +kernel
theorem dX11_layWays_8 : decode cX11_layWays 8 = .ok (.istore_n 3, 1) := by decide +kernel
theorem dX11_layWays_9 : decode cX11_layWays 9 = .ok (.iload_n 3, 1) := by decide +kernel
theorem dX11_layWays_10 : decode cX11_layWays 10 = .ok (.iload_n 2, 1) := by decide +kernel
theorem dX11_layWays_11 : decode cX11_layWays 11 = .ok (.if_icmp .ge 71, 3) := by decide +kernel
theorem dX11_layWays_14 : decode cX11_layWays 14 = .ok (.iconst 0, 1) := by decide +kernel
theorem dX11_layWays_15 : decode cX11_layWays 15 = .ok (.istore 4, 2) := by decide +kernel
theorem dX11_layWays_17 : decode cX11_layWays 17 = .ok (.iload 4, 2) := by decide +kernel
theorem dX11_layWays_19 : decode cX11_layWays 19 = .ok (.aload_n 0, 1) := by decide +kernel
theorem dX11_layWays_20 : decode cX11_layWays 20 = .ok (.invokevirtual 413, 3) := by decide +kernel
theorem dX11_layWays_23 : decode cX11_layWays 23 = .ok (.if_icmp .ge 35, 3) := by decide +kernel
theorem dX11_layWays_26 : decode cX11_layWays 26 = .ok (.aload_n 0, 1) := by decide +kernel
theorem dX11_layWays_27 : decode cX11_layWays 27 = .ok (.getfield 102, 3) := by decide +kernel
theorem dX11_layWays_30 : decode cX11_layWays 30 = .ok (.bipush 16, 2) := by decide +kernel
theorem dX11_layWays_32 : decode cX11_layWays 32 = .ok (.iload_n 3, 1) := by decide +kernel
theorem dX11_layWays_33 : decode cX11_layWays 33 = .ok (.imul, 1) := by decide +kernel
theorem dX11_layWays_34 : decode cX11_layWays 34 = .ok (.iload 4, 2) := by decide +kernel
theorem dX11_layWays_36 : decode cX11_layWays 36 = .ok (.iadd, 1) := by decide +kernel
theorem dX11_layWays_37 : decode cX11_layWays 37 = .ok (.aload_n 0, 1) := by decide +kernel
theorem dX11_layWays_38 : decode cX11_layWays 38 = .ok (.iload_n 3, 1) := by decide +kernel
theorem dX11_layWays_39 : decode cX11_layWays 39 = .ok (.iload 4, 2) := by decide +kernel
theorem dX11_layWays_41 : decode cX11_layWays 41 = .ok (.iconst 4, 1) := by decide +kernel
theorem dX11_layWays_42 : decode cX11_layWays 42 = .ok (.idiv, 1) := by decide +kernel
theorem dX11_layWays_43 : decode cX11_layWays 43 = .ok (.iload 4, 2) := by decide +kernel
theorem dX11_layWays_45 : decode cX11_layWays 45 = .ok (.iconst 4, 1) := by decide +kernel
theorem dX11_layWays_46 : decode cX11_layWays 46 = .ok (.irem, 1) := by decide +kernel
theorem dX11_layWays_47 : decode cX11_layWays 47 = .ok (.iconst 0, 1) := by decide +kernel
theorem dX11_layWays_48 : decode cX11_layWays 48 = .ok (.invokevirtual 367, 3) := by decide +kernel
theorem dX11_layWays_51 : decode cX11_layWays 51 = .ok (.iastore, 1) := by decide +kernel
theorem dX11_layWays_52 : decode cX11_layWays 52 = .ok (.iinc 4 1, 3) := by decide +kernel
theorem dX11_layWays_55 : decode cX11_layWays 55 = .ok (.goto (-38), 3) := by decide +kernel
theorem dX11_layWays_58 : decode cX11_layWays 58 = .ok (.aload_n 0, 1) := by decide +kernel
theorem dX11_layWays_59 : decode cX11_layWays 59 = .ok (.getfield 98, 3) := by decide +kernel
theorem dX11_layWays_62 : decode cX11_layWays 62 = .ok (.iload_n 3, 1) := by decide +kernel
theorem dX11_layWays_63 : decode cX11_layWays 63 = .ok (.iload_n 3, 1) := by decide +kernel
theorem dX11_layWays_64 : decode cX11_layWays 64 = .ok (.iload_n 1, 1) := by decide +kernel
theorem dX11_layWays_65 : decode cX11_layWays 65 = .ok (.if_icmp .ne 7, 3) := by decide +kernel
theorem dX11_layWays_68 : decode cX11_layWays 68 = .ok (.iconst 0, 1) := by decide +kernel
theorem dX11_layWays_69 : decode cX11_layWays 69 = .ok (.goto 6, 3) := by decide +kernel
theorem dX11_layWays_72 : decode cX11_layWays 72 = .ok (.ldc_w 416, 3) := by decide +kernel
theorem dX11_layWays_75 : decode cX11_layWays 75 = .ok (.iastore, 1) := by decide +kernel
theorem dX11_layWays_76 : decode cX11_layWays 76 = .ok (.iinc 3 1, 3) := by decide +kernel
theorem dX11_layWays_79 : decode cX11_layWays 79 = .ok (.goto (-70), 3) := by decide +kernel
theorem dX11_layWays_82 : decode cX11_layWays 82 = .ok (.iconst 1, 1) := by decide +kernel
theorem dX11_layWays_83 : decode cX11_layWays 83 = .ok (.istore_n 3, 1) := by decide +kernel
theorem dX11_layWays_84 : decode cX11_layWays 84 = .ok (.iload_n 3, 1) := by decide +kernel
theorem dX11_layWays_85 : decode cX11_layWays 85 = .ok (.iconst 4, 1) := by decide +kernel
theorem dX11_layWays_86 : decode cX11_layWays 86 = .ok (.if_icmp .gt 118, 3) := by decide +kernel
theorem dX11_layWays_89 : decode cX11_layWays 89 = .ok (.iconst 0, 1) := by decide +kernel
theorem dX11_layWays_90 : decode cX11_layWays 90 = .ok (.istore 4, 2) := by decide +kernel
theorem dX11_layWays_92 : decode cX11_layWays 92 = .ok (.iload 4, 2) := by decide +kernel
theorem dX11_layWays_94 : decode cX11_layWays 94 = .ok (.iload_n 2, 1) := by decide +kernel
theorem dX11_layWays_95 : decode cX11_layWays 95 = .ok (.if_icmp .ge 103, 3) := by decide +kernel
theorem dX11_layWays_98 : decode cX11_layWays 98 = .ok (.iload 4, 2) := by decide +kernel
theorem dX11_layWays_100 : decode cX11_layWays 100 = .ok (.iload_n 1, 1) := by decide +kernel
theorem dX11_layWays_101 : decode cX11_layWays 101 = .ok (.if_icmp .ne 7, 3) := by decide +kernel
theorem dX11_layWays_104 : decode cX11_layWays 104 = .ok (.iconst 0, 1) := by decide +kernel
theorem dX11_layWays_105 : decode cX11_layWays 105 = .ok (.goto 6, 3) := by decide +kernel
theorem dX11_layWays_108 : decode cX11_layWays 108 = .ok (.ldc_w 416, 3) := by decide +kernel
theorem dX11_layWays_111 : decode cX11_layWays 111 = .ok (.istore 5, 2) := by decide +kernel
theorem dX11_layWays_113 : decode cX11_layWays 113 = .ok (.iconst 0, 1) := by decide +kernel
theorem dX11_layWays_114 : decode cX11_layWays 114 = .ok (.istore 6, 2) := by decide +kernel
theorem dX11_layWays_116 : decode cX11_layWays 116 = .ok (.iload 6, 2) := by decide +kernel
theorem dX11_layWays_118 : decode cX11_layWays 118 = .ok (.aload_n 0, 1) := by decide +kernel
theorem dX11_layWays_119 : decode cX11_layWays 119 = .ok (.invokevirtual 413, 3) := by decide +kernel
theorem dX11_layWays_122 : decode cX11_layWays 122 = .ok (.if_icmp .ge 55, 3) := by decide +kernel
theorem dX11_layWays_125 : decode cX11_layWays 125 = .ok (.aload_n 0, 1) := by decide +kernel
theorem dX11_layWays_126 : decode cX11_layWays 126 = .ok (.getfield 98, 3) := by decide +kernel
theorem dX11_layWays_129 : decode cX11_layWays 129 = .ok (.sipush 4096, 3) := by decide +kernel
theorem dX11_layWays_132 : decode cX11_layWays 132 = .ok (.iload_n 3, 1) := by decide +kernel
theorem dX11_layWays_133 : decode cX11_layWays 133 = .ok (.iconst 1, 1) := by decide +kernel
theorem dX11_layWays_134 : decode cX11_layWays 134 = .ok (.isub, 1) := by decide +kernel
theorem dX11_layWays_135 : decode cX11_layWays 135 = .ok (.imul, 1) := by decide +kernel
theorem dX11_layWays_136 : decode cX11_layWays 136 = .ok (.aload_n 0, 1) := by decide +kernel
theorem dX11_layWays_137 : decode cX11_layWays 137 = .ok (.getfield 102, 3) := by decide +kernel
theorem dX11_layWays_140 : decode cX11_layWays 140 = .ok (.bipush 16, 2) := by decide +kernel
theorem dX11_layWays_142 : decode cX11_layWays 142 = .ok (.iload 4, 2) := by decide +kernel
theorem dX11_layWays_144 : decode cX11_layWays 144 = .ok (.imul, 1) := by decide +kernel
theorem dX11_layWays_145 : decode cX11_layWays 145 = .ok (.iload 6, 2) := by decide +kernel
theorem dX11_layWays_147 : decode cX11_layWays 147 = .ok (.iadd, 1) := by decide +kernel
theorem dX11_layWays_148 : decode cX11_layWays 148 = .ok (.iaload, 1) := by decide +kernel
theorem dX11_layWays_149 : decode cX11_layWays 149 = .ok (.iadd, 1) := by decide +kernel
theorem dX11_layWays_150 : decode cX11_layWays 150 = .ok (.iaload, 1) := by decide +kernel
theorem dX11_layWays_151 : decode cX11_layWays 151 = .ok (.iconst 1, 1) := by decide +kernel
theorem dX11_layWays_152 : decode cX11_layWays 152 = .ok (.iadd, 1) := by decide +kernel
theorem dX11_layWays_153 : decode cX11_layWays 153 = .ok (.iload 6, 2) := by decide +kernel
theorem dX11_layWays_155 : decode cX11_layWays 155 = .ok (.iconst 4, 1) := by decide +kernel
theorem dX11_layWays_156 : decode cX11_layWays 156 = .ok (.irem, 1) := by decide +kernel
theorem dX11_layWays_157 : decode cX11_layWays 157 = .ok (.iadd, 1) := by decide +kernel
theorem dX11_layWays_158 : decode cX11_layWays 158 = .ok (.istore 7, 2) := by decide +kernel
theorem dX11_layWays_160 : decode cX11_layWays 160 = .ok (.iload 7, 2) := by decide +kernel
theorem dX11_layWays_162 : decode cX11_layWays 162 = .ok (.iload 5, 2) := by decide +kernel
theorem dX11_layWays_164 : decode cX11_layWays 164 = .ok (.if_icmp .ge 7, 3) := by decide +kernel
theorem dX11_layWays_167 : decode cX11_layWays 167 = .ok (.iload 7, 2) := by decide +kernel
theorem dX11_layWays_169 : decode cX11_layWays 169 = .ok (.istore 5, 2) := by decide +kernel
theorem dX11_layWays_171 : decode cX11_layWays 171 = .ok (.iinc 6 1, 3) := by decide +kernel
theorem dX11_layWays_174 : decode cX11_layWays 174 = .ok (.goto (-58), 3) := by decide +kernel
theorem dX11_layWays_177 : decode cX11_layWays 177 = .ok (.aload_n 0, 1) := by decide +kernel
theorem dX11_layWays_178 : decode cX11_layWays 178 = .ok (.getfield 98, 3) := by decide +kernel
theorem dX11_layWays_181 : decode cX11_layWays 181 = .ok (.sipush 4096, 3) := by decide +kernel
theorem dX11_layWays_184 : decode cX11_layWays 184 = .ok (.iload_n 3, 1) := by decide +kernel
theorem dX11_layWays_185 : decode cX11_layWays 185 = .ok (.imul, 1) := by decide +kernel
theorem dX11_layWays_186 : decode cX11_layWays 186 = .ok (.iload 4, 2) := by decide +kernel
theorem dX11_layWays_188 : decode cX11_layWays 188 = .ok (.iadd, 1) := by decide +kernel
theorem dX11_layWays_189 : decode cX11_layWays 189 = .ok (.iload 5, 2) := by decide +kernel
theorem dX11_layWays_191 : decode cX11_layWays 191 = .ok (.iastore, 1) := by decide +kernel
theorem dX11_layWays_192 : decode cX11_layWays 192 = .ok (.iinc 4 1, 3) := by decide +kernel
theorem dX11_layWays_195 : decode cX11_layWays 195 = .ok (.goto (-103), 3) := by decide +kernel
theorem dX11_layWays_198 : decode cX11_layWays 198 = .ok (.iinc 3 1, 3) := by decide +kernel
theorem dX11_layWays_201 : decode cX11_layWays 201 = .ok (.goto (-117), 3) := by decide +kernel
theorem dX11_layWays_204 : decode cX11_layWays 204 = .ok (.return_, 1) := by decide +kernel
theorem dX11_wax_0 : decode cX11_wax 0 = .ok (.aload_n 0, 1) := by decide +kernel
theorem dX11_wax_1 : decode cX11_wax 1 = .ok (.iconst 0, 1) := by decide +kernel
theorem dX11_wax_2 : decode cX11_wax 2 = .ok (.putfield 380, 3) := by decide +kernel
theorem dX11_wax_5 : decode cX11_wax 5 = .ok (.aload_n 0, 1) := by decide +kernel
theorem dX11_wax_6 : decode cX11_wax 6 = .ok (.iload_n 1, 1) := by decide +kernel
theorem dX11_wax_7 : decode cX11_wax 7 = .ok (.invokevirtual 358, 3) := by decide +kernel
theorem dX11_wax_10 : decode cX11_wax 10 = .ok (.ifCond .ne 5, 3) := by decide +kernel
theorem dX11_wax_13 : decode cX11_wax 13 = .ok (.iconst (-1), 1) := by decide +kernel
theorem dX11_wax_14 : decode cX11_wax 14 = .ok (.ireturn, 1) := by decide +kernel
theorem dX11_wax_15 : decode cX11_wax 15 = .ok (.aload_n 0, 1) := by decide +kernel
theorem dX11_wax_16 : decode cX11_wax 16 = .ok (.iload_n 1, 1) := by decide +kernel
theorem dX11_wax_17 : decode cX11_wax 17 = .ok (.invokevirtual 417, 3) := by decide +kernel
theorem dX11_wax_20 : decode cX11_wax 20 = .ok (.iconst 0, 1) := by decide +kernel
theorem dX11_wax_21 : decode cX11_wax 21 = .ok (.istore_n 2, 1) := by decide +kernel
theorem dX11_wax_22 : decode cX11_wax 22 = .ok (.iconst 1, 1) := by decide +kernel
theorem dX11_wax_23 : decode cX11_wax 23 = .ok (.istore_n 3, 1) := by decide +kernel
theorem dX11_wax_24 : decode cX11_wax 24 = .ok (.iload_n 3, 1) := by decide +kernel
theorem dX11_wax_25 : decode cX11_wax 25 = .ok (.aload_n 0, 1) := by decide +kernel
theorem dX11_wax_26 : decode cX11_wax 26 = .ok (.getfield 77, 3) := by decide +kernel
theorem dX11_wax_29 : decode cX11_wax 29 = .ok (.sipush 216, 3) := by decide +kernel
theorem dX11_wax_32 : decode cX11_wax 32 = .ok (.iaload, 1) := by decide +kernel
theorem dX11_wax_33 : decode cX11_wax 33 = .ok (.if_icmp .ge 42, 3) := by decide +kernel
theorem dX11_wax_36 : decode cX11_wax 36 = .ok (.aload_n 0, 1) := by decide +kernel
theorem dX11_wax_37 : decode cX11_wax 37 = .ok (.getfield 98, 3) := by decide +kernel
theorem dX11_wax_40 : decode cX11_wax 40 = .ok (.sipush 16384, 3) := by decide +kernel
theorem dX11_wax_43 : decode cX11_wax 43 = .ok (.aload_n 0, 1) := by decide +kernel
theorem dX11_wax_44 : decode cX11_wax 44 = .ok (.iload_n 3, 1) := by decide +kernel
theorem dX11_wax_45 : decode cX11_wax 45 = .ok (.invokevirtual 392, 3) := by decide +kernel
theorem dX11_wax_48 : decode cX11_wax 48 = .ok (.iadd, 1) := by decide +kernel
theorem dX11_wax_49 : decode cX11_wax 49 = .ok (.iaload, 1) := by decide +kernel
theorem dX11_wax_50 : decode cX11_wax 50 = .ok (.aload_n 0, 1) := by decide +kernel
theorem dX11_wax_51 : decode cX11_wax 51 = .ok (.getfield 98, 3) := by decide +kernel
theorem dX11_wax_54 : decode cX11_wax 54 = .ok (.sipush 16384, 3) := by decide +kernel
theorem dX11_wax_57 : decode cX11_wax 57 = .ok (.aload_n 0, 1) := by decide +kernel
theorem dX11_wax_58 : decode cX11_wax 58 = .ok (.iload_n 2, 1) := by decide +kernel
theorem dX11_wax_59 : decode cX11_wax 59 = .ok (.invokevirtual 392, 3) := by decide +kernel
theorem dX11_wax_62 : decode cX11_wax 62 = .ok (.iadd, 1) := by decide +kernel
theorem dX11_wax_63 : decode cX11_wax 63 = .ok (.iaload, 1) := by decide +kernel
theorem dX11_wax_64 : decode cX11_wax 64 = .ok (.if_icmp .ge 5, 3) := by decide +kernel
theorem dX11_wax_67 : decode cX11_wax 67 = .ok (.iload_n 3, 1) := by decide +kernel
theorem dX11_wax_68 : decode cX11_wax 68 = .ok (.istore_n 2, 1) := by decide +kernel
theorem dX11_wax_69 : decode cX11_wax 69 = .ok (.iinc 3 1, 3) := by decide +kernel
theorem dX11_wax_72 : decode cX11_wax 72 = .ok (.goto (-48), 3) := by decide +kernel
theorem dX11_wax_75 : decode cX11_wax 75 = .ok (.aload_n 0, 1) := by decide +kernel
theorem dX11_wax_76 : decode cX11_wax 76 = .ok (.getfield 98, 3) := by decide +kernel
theorem dX11_wax_79 : decode cX11_wax 79 = .ok (.sipush 16384, 3) := by decide +kernel
theorem dX11_wax_82 : decode cX11_wax 82 = .ok (.aload_n 0, 1) := by decide +kernel
theorem dX11_wax_83 : decode cX11_wax 83 = .ok (.iload_n 2, 1) := by decide +kernel
theorem dX11_wax_84 : decode cX11_wax 84 = .ok (.invokevirtual 392, 3) := by decide +kernel
theorem dX11_wax_87 : decode cX11_wax 87 = .ok (.iadd, 1) := by decide +kernel
theorem dX11_wax_88 : decode cX11_wax 88 = .ok (.iaload, 1) := by decide +kernel
theorem dX11_wax_89 : decode cX11_wax 89 = .ok (.istore_n 3, 1) := by decide +kernel
theorem dX11_wax_90 : decode cX11_wax 90 = .ok (.iload_n 3, 1) := by decide +kernel
theorem dX11_wax_91 : decode cX11_wax 91 = .ok (.ldc_w 416, 3) := by decide +kernel
theorem dX11_wax_94 : decode cX11_wax 94 = .ok (.if_icmp .lt 5, 3) := by decide +kernel
theorem dX11_wax_97 : decode cX11_wax 97 = .ok (.iconst (-1), 1) := by decide +kernel
theorem dX11_wax_98 : decode cX11_wax 98 = .ok (.ireturn, 1) := by decide +kernel
theorem dX11_wax_99 : decode cX11_wax 99 = .ok (.aload_n 0, 1) := by decide +kernel
theorem dX11_wax_100 : decode cX11_wax 100 = .ok (.getfield 92, 3) := by decide +kernel
theorem dX11_wax_103 : decode cX11_wax 103 = .ok (.iconst 0, 1) := by decide +kernel
theorem dX11_wax_104 : decode cX11_wax 104 = .ok (.iload_n 2, 1) := by decide +kernel
theorem dX11_wax_105 : decode cX11_wax 105 = .ok (.iastore, 1) := by decide +kernel
theorem dX11_wax_106 : decode cX11_wax 106 = .ok (.aload_n 0, 1) := by decide +kernel
theorem dX11_wax_107 : decode cX11_wax 107 = .ok (.iconst 1, 1) := by decide +kernel
theorem dX11_wax_108 : decode cX11_wax 108 = .ok (.putfield 380, 3) := by decide +kernel
theorem dX11_wax_111 : decode cX11_wax 111 = .ok (.aload_n 0, 1) := by decide +kernel
theorem dX11_wax_112 : decode cX11_wax 112 = .ok (.iload_n 2, 1) := by decide +kernel
theorem dX11_wax_113 : decode cX11_wax 113 = .ok (.invokevirtual 392, 3) := by decide +kernel
theorem dX11_wax_116 : decode cX11_wax 116 = .ok (.istore 4, 2) := by decide +kernel
theorem dX11_wax_118 : decode cX11_wax 118 = .ok (.iconst 4, 1) := by decide +kernel
theorem dX11_wax_119 : decode cX11_wax 119 = .ok (.istore 5, 2) := by decide +kernel
theorem dX11_wax_121 : decode cX11_wax 121 = .ok (.aload_n 0, 1) := by decide +kernel
theorem dX11_wax_122 : decode cX11_wax 122 = .ok (.getfield 98, 3) := by decide +kernel
theorem dX11_wax_125 : decode cX11_wax 125 = .ok (.sipush 4096, 3) := by decide +kernel
theorem dX11_wax_128 : decode cX11_wax 128 = .ok (.iload 5, 2) := by decide +kernel
theorem dX11_wax_130 : decode cX11_wax 130 = .ok (.imul, 1) := by decide +kernel
theorem dX11_wax_131 : decode cX11_wax 131 = .ok (.iload 4, 2) := by decide +kernel
theorem dX11_wax_133 : decode cX11_wax 133 = .ok (.iadd, 1) := by decide +kernel
theorem dX11_wax_134 : decode cX11_wax 134 = .ok (.iaload, 1) := by decide +kernel
theorem dX11_wax_135 : decode cX11_wax 135 = .ok (.ifCond .le 115, 3) := by decide +kernel
theorem dX11_wax_138 : decode cX11_wax 138 = .ok (.iconst 0, 1) := by decide +kernel
theorem dX11_wax_139 : decode cX11_wax 139 = .ok (.istore 6, 2) := by decide +kernel
theorem dX11_wax_141 : decode cX11_wax 141 = .ok (.aload_n 0, 1) := by decide +kernel
theorem dX11_wax_142 : decode cX11_wax 142 = .ok (.getfield 98, 3) := by decide +kernel
theorem dX11_wax_145 : decode cX11_wax 145 = .ok (.sipush 4096, 3) := by decide +kernel
theorem dX11_wax_148 : decode cX11_wax 148 = .ok (.iload 5, 2) := by decide +kernel
theorem dX11_wax_150 : decode cX11_wax 150 = .ok (.iconst 1, 1) := by decide +kernel
theorem dX11_wax_151 : decode cX11_wax 151 = .ok (.isub, 1) := by decide +kernel
theorem dX11_wax_152 : decode cX11_wax 152 = .ok (.imul, 1) := by decide +kernel
theorem dX11_wax_153 : decode cX11_wax 153 = .ok (.aload_n 0, 1) := by decide +kernel
theorem dX11_wax_154 : decode cX11_wax 154 = .ok (.getfield 102, 3) := by decide +kernel
theorem dX11_wax_157 : decode cX11_wax 157 = .ok (.bipush 16, 2) := by decide +kernel
theorem dX11_wax_159 : decode cX11_wax 159 = .ok (.iload 4, 2) := by decide +kernel
theorem dX11_wax_161 : decode cX11_wax 161 = .ok (.imul, 1) := by decide +kernel
theorem dX11_wax_162 : decode cX11_wax 162 = .ok (.iload 6, 2) := by decide +kernel
theorem dX11_wax_164 : decode cX11_wax 164 = .ok (.iadd, 1) := by decide +kernel
theorem dX11_wax_165 : decode cX11_wax 165 = .ok (.iaload, 1) := by decide +kernel
theorem dX11_wax_166 : decode cX11_wax 166 = .ok (.iadd, 1) := by decide +kernel
theorem dX11_wax_167 : decode cX11_wax 167 = .ok (.iaload, 1) := by decide +kernel
theorem dX11_wax_168 : decode cX11_wax 168 = .ok (.iconst 1, 1) := by decide +kernel
theorem dX11_wax_169 : decode cX11_wax 169 = .ok (.iadd, 1) := by decide +kernel
theorem dX11_wax_170 : decode cX11_wax 170 = .ok (.iload 6, 2) := by decide +kernel
theorem dX11_wax_172 : decode cX11_wax 172 = .ok (.iconst 4, 1) := by decide +kernel
theorem dX11_wax_173 : decode cX11_wax 173 = .ok (.irem, 1) := by decide +kernel
theorem dX11_wax_174 : decode cX11_wax 174 = .ok (.iadd, 1) := by decide +kernel
theorem dX11_wax_175 : decode cX11_wax 175 = .ok (.aload_n 0, 1) := by decide +kernel
theorem dX11_wax_176 : decode cX11_wax 176 = .ok (.getfield 98, 3) := by decide +kernel
theorem dX11_wax_179 : decode cX11_wax 179 = .ok (.sipush 4096, 3) := by decide +kernel
theorem dX11_wax_182 : decode cX11_wax 182 = .ok (.iload 5, 2) := by decide +kernel
theorem dX11_wax_184 : decode cX11_wax 184 = .ok (.imul, 1) := by decide +kernel
theorem dX11_wax_185 : decode cX11_wax 185 = .ok (.iload 4, 2) := by decide +kernel
theorem dX11_wax_187 : decode cX11_wax 187 = .ok (.iadd, 1) := by decide +kernel
theorem dX11_wax_188 : decode cX11_wax 188 = .ok (.iaload, 1) := by decide +kernel
theorem dX11_wax_189 : decode cX11_wax 189 = .ok (.if_icmp .eq 9, 3) := by decide +kernel
theorem dX11_wax_192 : decode cX11_wax 192 = .ok (.iinc 6 1, 3) := by decide +kernel
theorem dX11_wax_195 : decode cX11_wax 195 = .ok (.goto (-54), 3) := by decide +kernel
theorem dX11_wax_198 : decode cX11_wax 198 = .ok (.aload_n 0, 1) := by decide +kernel
theorem dX11_wax_199 : decode cX11_wax 199 = .ok (.getfield 92, 3) := by decide +kernel
theorem dX11_wax_202 : decode cX11_wax 202 = .ok (.aload_n 0, 1) := by decide +kernel
theorem dX11_wax_203 : decode cX11_wax 203 = .ok (.getfield 380, 3) := by decide +kernel
theorem dX11_wax_206 : decode cX11_wax 206 = .ok (.bipush 10, 2) := by decide +kernel
theorem dX11_wax_208 : decode cX11_wax 208 = .ok (.iload 6, 2) := by decide +kernel
theorem dX11_wax_210 : decode cX11_wax 210 = .ok (.iconst 4, 1) := by decide +kernel
theorem dX11_wax_211 : decode cX11_wax 211 = .ok (.idiv, 1) := by decide +kernel
theorem dX11_wax_212 : decode cX11_wax 212 = .ok (.imul, 1) := by decide +kernel
theorem dX11_wax_213 : decode cX11_wax 213 = .ok (.iload 6, 2) := by decide +kernel
theorem dX11_wax_215 : decode cX11_wax 215 = .ok (.iconst 4, 1) := by decide +kernel
theorem dX11_wax_216 : decode cX11_wax 216 = .ok (.irem, 1) := by decide +kernel
theorem dX11_wax_217 : decode cX11_wax 217 = .ok (.iadd, 1) := by decide +kernel
theorem dX11_wax_218 : decode cX11_wax 218 = .ok (.iastore, 1) := by decide +kernel
theorem dX11_wax_219 : decode cX11_wax 219 = .ok (.aload_n 0, 1) := by decide +kernel
theorem dX11_wax_220 : decode cX11_wax 220 = .ok (.dup, 1) := by decide +kernel
theorem dX11_wax_221 : decode cX11_wax 221 = .ok (.getfield 380, 3) := by decide +kernel
theorem dX11_wax_224 : decode cX11_wax 224 = .ok (.iconst 1, 1) := by decide +kernel
theorem dX11_wax_225 : decode cX11_wax 225 = .ok (.iadd, 1) := by decide +kernel
theorem dX11_wax_226 : decode cX11_wax 226 = .ok (.putfield 380, 3) := by decide +kernel
theorem dX11_wax_229 : decode cX11_wax 229 = .ok (.aload_n 0, 1) := by decide +kernel
theorem dX11_wax_230 : decode cX11_wax 230 = .ok (.getfield 102, 3) := by decide +kernel
theorem dX11_wax_233 : decode cX11_wax 233 = .ok (.bipush 16, 2) := by decide +kernel
theorem dX11_wax_235 : decode cX11_wax 235 = .ok (.iload 4, 2) := by decide +kernel
theorem dX11_wax_237 : decode cX11_wax 237 = .ok (.imul, 1) := by decide +kernel
theorem dX11_wax_238 : decode cX11_wax 238 = .ok (.iload 6, 2) := by decide +kernel
theorem dX11_wax_240 : decode cX11_wax 240 = .ok (.iadd, 1) := by decide +kernel
theorem dX11_wax_241 : decode cX11_wax 241 = .ok (.iaload, 1) := by decide +kernel
theorem dX11_wax_242 : decode cX11_wax 242 = .ok (.istore 4, 2) := by decide +kernel
theorem dX11_wax_244 : decode cX11_wax 244 = .ok (.iinc 5 (-1), 3) := by decide +kernel
theorem dX11_wax_247 : decode cX11_wax 247 = .ok (.goto (-126), 3) := by decide +kernel
theorem dX11_wax_250 : decode cX11_wax 250 = .ok (.iload_n 3, 1) := by decide +kernel
theorem dX11_wax_251 : decode cX11_wax 251 = .ok (.ireturn, 1) := by decide +kernel
theorem dX11_fact_0 : decode cX11_fact 0 = .ok (.aload_n 0, 1) := by decide +kernel
theorem dX11_fact_1 : decode cX11_fact 1 = .ok (.getfield 377, 3) := by decide +kernel
theorem dX11_fact_4 : decode cX11_fact 4 = .ok (.bipush 40, 2) := by decide +kernel
theorem dX11_fact_6 : decode cX11_fact 6 = .ok (.if_icmp .ne 5, 3) := by decide +kernel
theorem dX11_fact_9 : decode cX11_fact 9 = .ok (.iconst (-1), 1) := by decide +kernel
theorem dX11_fact_10 : decode cX11_fact 10 = .ok (.ireturn, 1) := by decide +kernel
theorem dX11_fact_11 : decode cX11_fact 11 = .ok (.aload_n 0, 1) := by decide +kernel
theorem dX11_fact_12 : decode cX11_fact 12 = .ok (.getfield 105, 3) := by decide +kernel
theorem dX11_fact_15 : decode cX11_fact 15 = .ok (.aload_n 0, 1) := by decide +kernel
theorem dX11_fact_16 : decode cX11_fact 16 = .ok (.getfield 377, 3) := by decide +kernel
theorem dX11_fact_19 : decode cX11_fact 19 = .ok (.iload_n 1, 1) := by decide +kernel
theorem dX11_fact_20 : decode cX11_fact 20 = .ok (.iastore, 1) := by decide +kernel
theorem dX11_fact_21 : decode cX11_fact 21 = .ok (.aload_n 0, 1) := by decide +kernel
theorem dX11_fact_22 : decode cX11_fact 22 = .ok (.getfield 108, 3) := by decide +kernel
theorem dX11_fact_25 : decode cX11_fact 25 = .ok (.aload_n 0, 1) := by decide +kernel
theorem dX11_fact_26 : decode cX11_fact 26 = .ok (.getfield 377, 3) := by decide +kernel
theorem dX11_fact_29 : decode cX11_fact 29 = .ok (.iload_n 2, 1) := by decide +kernel
theorem dX11_fact_30 : decode cX11_fact 30 = .ok (.iastore, 1) := by decide +kernel
theorem dX11_fact_31 : decode cX11_fact 31 = .ok (.aload_n 0, 1) := by decide +kernel
theorem dX11_fact_32 : decode cX11_fact 32 = .ok (.getfield 111, 3) := by decide +kernel
theorem dX11_fact_35 : decode cX11_fact 35 = .ok (.aload_n 0, 1) := by decide +kernel
theorem dX11_fact_36 : decode cX11_fact 36 = .ok (.getfield 377, 3) := by decide +kernel
theorem dX11_fact_39 : decode cX11_fact 39 = .ok (.iload_n 3, 1) := by decide +kernel
theorem dX11_fact_40 : decode cX11_fact 40 = .ok (.iastore, 1) := by decide +kernel
theorem dX11_fact_41 : decode cX11_fact 41 = .ok (.aload_n 0, 1) := by decide +kernel
theorem dX11_fact_42 : decode cX11_fact 42 = .ok (.getfield 114, 3) := by decide +kernel
theorem dX11_fact_45 : decode cX11_fact 45 = .ok (.aload_n 0, 1) := by decide +kernel
theorem dX11_fact_46 : decode cX11_fact 46 = .ok (.getfield 377, 3) := by decide +kernel
theorem dX11_fact_49 : decode cX11_fact 49 = .ok (.iload 4, 2) := by decide +kernel
theorem dX11_fact_51 : decode cX11_fact 51 = .ok (.iastore, 1) := by decide +kernel
theorem dX11_fact_52 : decode cX11_fact 52 = .ok (.aload_n 0, 1) := by decide +kernel
theorem dX11_fact_53 : decode cX11_fact 53 = .ok (.getfield 117, 3) := by decide +kernel
theorem dX11_fact_56 : decode cX11_fact 56 = .ok (.aload_n 0, 1) := by decide +kernel
theorem dX11_fact_57 : decode cX11_fact 57 = .ok (.getfield 377, 3) := by decide +kernel
theorem dX11_fact_60 : decode cX11_fact 60 = .ok (.aload_n 0, 1) := by decide +kernel
theorem dX11_fact_61 : decode cX11_fact 61 = .ok (.getfield 420, 3) := by decide +kernel
theorem dX11_fact_64 : decode cX11_fact 64 = .ok (.iastore, 1) := by decide +kernel
theorem dX11_fact_65 : decode cX11_fact 65 = .ok (.aload_n 0, 1) := by decide +kernel
theorem dX11_fact_66 : decode cX11_fact 66 = .ok (.getfield 120, 3) := by decide +kernel
theorem dX11_fact_69 : decode cX11_fact 69 = .ok (.aload_n 0, 1) := by decide +kernel
theorem dX11_fact_70 : decode cX11_fact 70 = .ok (.getfield 377, 3) := by decide +kernel
theorem dX11_fact_73 : decode cX11_fact 73 = .ok (.iconst (-1), 1) := by decide +kernel
theorem dX11_fact_74 : decode cX11_fact 74 = .ok (.iastore, 1) := by decide +kernel
theorem dX11_fact_75 : decode cX11_fact 75 = .ok (.aload_n 0, 1) := by decide +kernel
theorem dX11_fact_76 : decode cX11_fact 76 = .ok (.dup, 1) := by decide +kernel
theorem dX11_fact_77 : decode cX11_fact 77 = .ok (.getfield 377, 3) := by decide +kernel
theorem dX11_fact_80 : decode cX11_fact 80 = .ok (.iconst 1, 1) := by decide +kernel
theorem dX11_fact_81 : decode cX11_fact 81 = .ok (.iadd, 1) := by decide +kernel
theorem dX11_fact_82 : decode cX11_fact 82 = .ok (.putfield 377, 3) := by decide +kernel
theorem dX11_fact_85 : decode cX11_fact 85 = .ok (.aload_n 0, 1) := by decide +kernel
theorem dX11_fact_86 : decode cX11_fact 86 = .ok (.getfield 377, 3) := by decide +kernel
theorem dX11_fact_89 : decode cX11_fact 89 = .ok (.iconst 1, 1) := by decide +kernel
theorem dX11_fact_90 : decode cX11_fact 90 = .ok (.isub, 1) := by decide +kernel
theorem dX11_fact_91 : decode cX11_fact 91 = .ok (.ireturn, 1) := by decide +kernel
theorem dX11_sample_0 : decode cX11_sample 0 = .ok (.aload_n 0, 1) := by decide +kernel
theorem dX11_sample_1 : decode cX11_sample 1 = .ok (.iload_n 1, 1) := by decide +kernel
theorem dX11_sample_2 : decode cX11_sample 2 = .ok (.invokevirtual 358, 3) := by decide +kernel
theorem dX11_sample_5 : decode cX11_sample 5 = .ok (.ifCond .eq 22, 3) := by decide +kernel
theorem dX11_sample_8 : decode cX11_sample 8 = .ok (.aload_n 0, 1) := by decide +kernel
theorem dX11_sample_9 : decode cX11_sample 9 = .ok (.iconst 0, 1) := by decide +kernel
theorem dX11_sample_10 : decode cX11_sample 10 = .ok (.iload_n 1, 1) := by decide +kernel
theorem dX11_sample_11 : decode cX11_sample 11 = .ok (.iload_n 2, 1) := by decide +kernel
theorem dX11_sample_12 : decode cX11_sample 12 = .ok (.ifCond .eq 7, 3) := by decide +kernel
theorem dX11_sample_15 : decode cX11_sample 15 = .ok (.iconst 1, 1) := by decide +kernel
theorem dX11_sample_16 : decode cX11_sample 16 = .ok (.goto 4, 3) := by decide +kernel
theorem dX11_sample_19 : decode cX11_sample 19 = .ok (.iconst 0, 1) := by decide +kernel
theorem dX11_sample_20 : decode cX11_sample 20 = .ok (.iconst 0, 1) := by decide +kernel
theorem dX11_sample_21 : decode cX11_sample 21 = .ok (.invokevirtual 423, 3) := by decide +kernel
theorem dX11_sample_24 : decode cX11_sample 24 = .ok (.goto 4, 3) := by decide +kernel
theorem dX11_sample_27 : decode cX11_sample 27 = .ok (.iconst (-1), 1) := by decide +kernel
theorem dX11_sample_28 : decode cX11_sample 28 = .ok (.ireturn, 1) := by decide +kernel
theorem dX11_claim_0 : decode cX11_claim 0 = .ok (.aload_n 0, 1) := by decide +kernel
theorem dX11_claim_1 : decode cX11_claim 1 = .ok (.iload_n 1, 1) := by decide +kernel
theorem dX11_claim_2 : decode cX11_claim 2 = .ok (.invokevirtual 358, 3) := by decide +kernel
theorem dX11_claim_5 : decode cX11_claim 5 = .ok (.ifCond .eq 33, 3) := by decide +kernel
theorem dX11_claim_8 : decode cX11_claim 8 = .ok (.aload_n 0, 1) := by decide +kernel
theorem dX11_claim_9 : decode cX11_claim 9 = .ok (.iload_n 2, 1) := by decide +kernel
theorem dX11_claim_10 : decode cX11_claim 10 = .ok (.invokevirtual 383, 3) := by decide +kernel
theorem dX11_claim_13 : decode cX11_claim 13 = .ok (.ifCond .eq 25, 3) := by decide +kernel
theorem dX11_claim_16 : decode cX11_claim 16 = .ok (.iload_n 3, 1) := by decide +kernel
theorem dX11_claim_17 : decode cX11_claim 17 = .ok (.iconst 0, 1) := by decide +kernel
theorem dX11_claim_18 : decode cX11_claim 18 = .ok (.sipush 999, 3) := by decide +kernel
theorem dX11_claim_21 : decode cX11_claim 21 = .ok (.invokestatic 345, 3) := by decide +kernel
theorem dX11_claim_24 : decode cX11_claim 24 = .ok (.ifCond .eq 14, 3) := by decide +kernel
theorem dX11_claim_27 : decode cX11_claim 27 = .ok (.aload_n 0, 1) := by decide +kernel
theorem dX11_claim_28 : decode cX11_claim 28 = .ok (.iconst 1, 1) := by decide +kernel
theorem dX11_claim_29 : decode cX11_claim 29 = .ok (.iload_n 1, 1) := by decide +kernel
theorem dX11_claim_30 : decode cX11_claim 30 = .ok (.iload_n 2, 1) := by decide +kernel
theorem dX11_claim_31 : decode cX11_claim 31 = .ok (.iload_n 3, 1) := by decide +kernel
theorem dX11_claim_32 : decode cX11_claim 32 = .ok (.invokevirtual 423, 3) := by decide +kernel
theorem dX11_claim_35 : decode cX11_claim 35 = .ok (.goto 4, 3) := by decide +kernel
theorem dX11_claim_38 : decode cX11_claim 38 = .ok (.iconst (-1), 1) := by decide +kernel
theorem dX11_claim_39 : decode cX11_claim 39 = .ok (.ireturn, 1) := by decide +kernel
theorem dX11_saw_0 : decode cX11_saw 0 = .ok (.iload_n 1, 1) := by decide +kernel
theorem dX11_saw_1 : decode cX11_saw 1 = .ok (.iconst 0, 1) := by decide +kernel
theorem dX11_saw_2 : decode cX11_saw 2 = .ok (.aload_n 0, 1) := by decide +kernel
theorem dX11_saw_3 : decode cX11_saw 3 = .ok (.invokevirtual 342, 3) := by decide +kernel
theorem dX11_saw_6 : decode cX11_saw 6 = .ok (.iconst 1, 1) := by decide +kernel
theorem dX11_saw_7 : decode cX11_saw 7 = .ok (.isub, 1) := by decide +kernel
theorem dX11_saw_8 : decode cX11_saw 8 = .ok (.invokestatic 345, 3) := by decide +kernel
theorem dX11_saw_11 : decode cX11_saw 11 = .ok (.ifCond .eq 33, 3) := by decide +kernel
theorem dX11_saw_14 : decode cX11_saw 14 = .ok (.iload_n 2, 1) := by decide +kernel
theorem dX11_saw_15 : decode cX11_saw 15 = .ok (.iconst 0, 1) := by decide +kernel
theorem dX11_saw_16 : decode cX11_saw 16 = .ok (.sipush 999, 3) := by decide +kernel
theorem dX11_saw_19 : decode cX11_saw 19 = .ok (.invokestatic 345, 3) := by decide +kernel
theorem dX11_saw_22 : decode cX11_saw 22 = .ok (.ifCond .eq 22, 3) := by decide +kernel
theorem dX11_saw_25 : decode cX11_saw 25 = .ok (.aload_n 0, 1) := by decide +kernel
theorem dX11_saw_26 : decode cX11_saw 26 = .ok (.iconst 2, 1) := by decide +kernel
theorem dX11_saw_27 : decode cX11_saw 27 = .ok (.iload_n 1, 1) := by decide +kernel
theorem dX11_saw_28 : decode cX11_saw 28 = .ok (.iload_n 2, 1) := by decide +kernel
theorem dX11_saw_29 : decode cX11_saw 29 = .ok (.iload_n 3, 1) := by decide +kernel
theorem dX11_saw_30 : decode cX11_saw 30 = .ok (.ifCond .eq 7, 3) := by decide +kernel
theorem dX11_saw_33 : decode cX11_saw 33 = .ok (.iconst 1, 1) := by decide +kernel
theorem dX11_saw_34 : decode cX11_saw 34 = .ok (.goto 4, 3) := by decide +kernel
theorem dX11_saw_37 : decode cX11_saw 37 = .ok (.iconst 0, 1) := by decide +kernel
theorem dX11_saw_38 : decode cX11_saw 38 = .ok (.invokevirtual 423, 3) := by decide +kernel
theorem dX11_saw_41 : decode cX11_saw 41 = .ok (.goto 4, 3) := by decide +kernel
theorem dX11_saw_44 : decode cX11_saw 44 = .ok (.iconst (-1), 1) := by decide +kernel
theorem dX11_saw_45 : decode cX11_saw 45 = .ok (.ireturn, 1) := by decide +kernel
theorem dX11_link_0 : decode cX11_link 0 = .ok (.iload_n 1, 1) := by decide +kernel
theorem dX11_link_1 : decode cX11_link 1 = .ok (.iconst 0, 1) := by decide +kernel
theorem dX11_link_2 : decode cX11_link 2 = .ok (.bipush 7, 2) := by decide +kernel
theorem dX11_link_4 : decode cX11_link 4 = .ok (.invokestatic 345, 3) := by decide +kernel
theorem dX11_link_7 : decode cX11_link 7 = .ok (.ifCond .eq 37, 3) := by decide +kernel
theorem dX11_link_10 : decode cX11_link 10 = .ok (.iload_n 2, 1) := by decide +kernel
theorem dX11_link_11 : decode cX11_link 11 = .ok (.iconst 0, 1) := by decide +kernel
theorem dX11_link_12 : decode cX11_link 12 = .ok (.bipush 7, 2) := by decide +kernel
theorem dX11_link_14 : decode cX11_link 14 = .ok (.invokestatic 345, 3) := by decide +kernel
theorem dX11_link_17 : decode cX11_link 17 = .ok (.ifCond .eq 27, 3) := by decide +kernel
theorem dX11_link_20 : decode cX11_link 20 = .ok (.iload_n 1, 1) := by decide +kernel
theorem dX11_link_21 : decode cX11_link 21 = .ok (.iload_n 2, 1) := by decide +kernel
theorem dX11_link_22 : decode cX11_link 22 = .ok (.if_icmp .eq 22, 3) := by decide +kernel
theorem dX11_link_25 : decode cX11_link 25 = .ok (.aload_n 0, 1) := by decide +kernel
theorem dX11_link_26 : decode cX11_link 26 = .ok (.iconst 3, 1) := by decide +kernel
theorem dX11_link_27 : decode cX11_link 27 = .ok (.iload_n 1, 1) := by decide +kernel
theorem dX11_link_28 : decode cX11_link 28 = .ok (.iload_n 2, 1) := by decide +kernel
theorem dX11_link_29 : decode cX11_link 29 = .ok (.iload_n 3, 1) := by decide +kernel
theorem dX11_link_30 : decode cX11_link 30 = .ok (.ifCond .eq 7, 3) := by decide +kernel
theorem dX11_link_33 : decode cX11_link 33 = .ok (.iconst 1, 1) := by decide +kernel
theorem dX11_link_34 : decode cX11_link 34 = .ok (.goto 4, 3) := by decide +kernel
theorem dX11_link_37 : decode cX11_link 37 = .ok (.iconst 0, 1) := by decide +kernel
theorem dX11_link_38 : decode cX11_link 38 = .ok (.invokevirtual 423, 3) := by decide +kernel
theorem dX11_link_41 : decode cX11_link 41 = .ok (.goto 4, 3) := by decide +kernel
theorem dX11_link_44 : decode cX11_link 44 = .ok (.iconst (-1), 1) := by decide +kernel
theorem dX11_link_45 : decode cX11_link 45 = .ok (.ireturn, 1) := by decide +kernel
theorem dX11_untell_0 : decode cX11_untell 0 = .ok (.iload_n 1, 1) := by decide +kernel
theorem dX11_untell_1 : decode cX11_untell 1 = .ok (.iconst 0, 1) := by decide +kernel
theorem dX11_untell_2 : decode cX11_untell 2 = .ok (.aload_n 0, 1) := by decide +kernel
theorem dX11_untell_3 : decode cX11_untell 3 = .ok (.getfield 377, 3) := by decide +kernel
theorem dX11_untell_6 : decode cX11_untell 6 = .ok (.iconst 1, 1) := by decide +kernel
theorem dX11_untell_7 : decode cX11_untell 7 = .ok (.isub, 1) := by decide +kernel
theorem dX11_untell_8 : decode cX11_untell 8 = .ok (.invokestatic 345, 3) := by decide +kernel
theorem dX11_untell_11 : decode cX11_untell 11 = .ok (.ifCond .eq 12, 3) := by decide +kernel
theorem dX11_untell_14 : decode cX11_untell 14 = .ok (.aload_n 0, 1) := by decide +kernel
theorem dX11_untell_15 : decode cX11_untell 15 = .ok (.getfield 120, 3) := by decide +kernel
theorem dX11_untell_18 : decode cX11_untell 18 = .ok (.iload_n 1, 1) := by decide +kernel
theorem dX11_untell_19 : decode cX11_untell 19 = .ok (.iaload, 1) := by decide +kernel
theorem dX11_untell_20 : decode cX11_untell 20 = .ok (.ifCond .lt 5, 3) := by decide +kernel
theorem dX11_untell_23 : decode cX11_untell 23 = .ok (.iconst 0, 1) := by decide +kernel
theorem dX11_untell_24 : decode cX11_untell 24 = .ok (.ireturn, 1) := by decide +kernel
theorem dX11_untell_25 : decode cX11_untell 25 = .ok (.aload_n 0, 1) := by decide +kernel
theorem dX11_untell_26 : decode cX11_untell 26 = .ok (.getfield 120, 3) := by decide +kernel
theorem dX11_untell_29 : decode cX11_untell 29 = .ok (.iload_n 1, 1) := by decide +kernel
theorem dX11_untell_30 : decode cX11_untell 30 = .ok (.aload_n 0, 1) := by decide +kernel
theorem dX11_untell_31 : decode cX11_untell 31 = .ok (.getfield 420, 3) := by decide +kernel
theorem dX11_untell_34 : decode cX11_untell 34 = .ok (.iastore, 1) := by decide +kernel
theorem dX11_untell_35 : decode cX11_untell 35 = .ok (.iconst 1, 1) := by decide +kernel
theorem dX11_untell_36 : decode cX11_untell 36 = .ok (.ireturn, 1) := by decide +kernel
theorem dX11_later_0 : decode cX11_later 0 = .ok (.iload_n 1, 1) := by decide +kernel
theorem dX11_later_1 : decode cX11_later 1 = .ok (.iconst 0, 1) := by decide +kernel
theorem dX11_later_2 : decode cX11_later 2 = .ok (.sipush 1000, 3) := by decide +kernel
theorem dX11_later_5 : decode cX11_later 5 = .ok (.invokestatic 345, 3) := by decide +kernel
theorem dX11_later_8 : decode cX11_later 8 = .ok (.ifCond .eq 15, 3) := by decide +kernel
theorem dX11_later_11 : decode cX11_later 11 = .ok (.aload_n 0, 1) := by decide +kernel
theorem dX11_later_12 : decode cX11_later 12 = .ok (.getfield 420, 3) := by decide +kernel
theorem dX11_later_15 : decode cX11_later 15 = .ok (.iload_n 1, 1) := by decide +kernel
theorem dX11_later_16 : decode cX11_later 16 = .ok (.iadd, 1) := by decide +kernel
theorem dX11_later_17 : decode cX11_later 17 = .ok (.ldc_w 426, 3) := by decide +kernel
theorem dX11_later_20 : decode cX11_later 20 = .ok (.if_icmp .le 5, 3) := by decide +kernel
theorem dX11_later_23 : decode cX11_later 23 = .ok (.iconst (-1), 1) := by decide +kernel
theorem dX11_later_24 : decode cX11_later 24 = .ok (.ireturn, 1) := by decide +kernel
theorem dX11_later_25 : decode cX11_later 25 = .ok (.aload_n 0, 1) := by decide +kernel
theorem dX11_later_26 : decode cX11_later 26 = .ok (.dup, 1) := by decide +kernel
theorem dX11_later_27 : decode cX11_later 27 = .ok (.getfield 420, 3) := by decide +kernel
theorem dX11_later_30 : decode cX11_later 30 = .ok (.iload_n 1, 1) := by decide +kernel
theorem dX11_later_31 : decode cX11_later 31 = .ok (.iadd, 1) := by decide +kernel
theorem dX11_later_32 : decode cX11_later 32 = .ok (.putfield 420, 3) := by decide +kernel
theorem dX11_later_35 : decode cX11_later 35 = .ok (.aload_n 0, 1) := by decide +kernel
theorem dX11_later_36 : decode cX11_later 36 = .ok (.getfield 420, 3) := by decide +kernel
theorem dX11_later_39 : decode cX11_later 39 = .ok (.ireturn, 1) := by decide +kernel
theorem dX11_counts_0 : decode cX11_counts 0 = .ok (.aload_n 0, 1) := by decide +kernel
theorem dX11_counts_1 : decode cX11_counts 1 = .ok (.getfield 105, 3) := by decide +kernel
theorem dX11_counts_4 : decode cX11_counts 4 = .ok (.iload_n 1, 1) := by decide +kernel
theorem dX11_counts_5 : decode cX11_counts 5 = .ok (.iaload, 1) := by decide +kernel
theorem dX11_counts_6 : decode cX11_counts 6 = .ok (.iload_n 2, 1) := by decide +kernel
theorem dX11_counts_7 : decode cX11_counts 7 = .ok (.if_icmp .ne 36, 3) := by decide +kernel
theorem dX11_counts_10 : decode cX11_counts 10 = .ok (.aload_n 0, 1) := by decide +kernel
theorem dX11_counts_11 : decode cX11_counts 11 = .ok (.getfield 117, 3) := by decide +kernel
theorem dX11_counts_14 : decode cX11_counts 14 = .ok (.iload_n 1, 1) := by decide +kernel
theorem dX11_counts_15 : decode cX11_counts 15 = .ok (.iaload, 1) := by decide +kernel
theorem dX11_counts_16 : decode cX11_counts 16 = .ok (.iload_n 3, 1) := by decide +kernel
theorem dX11_counts_17 : decode cX11_counts 17 = .ok (.if_icmp .gt 26, 3) := by decide +kernel
theorem dX11_counts_20 : decode cX11_counts 20 = .ok (.aload_n 0, 1) := by decide +kernel
theorem dX11_counts_21 : decode cX11_counts 21 = .ok (.getfield 120, 3) := by decide +kernel
theorem dX11_counts_24 : decode cX11_counts 24 = .ok (.iload_n 1, 1) := by decide +kernel
theorem dX11_counts_25 : decode cX11_counts 25 = .ok (.iaload, 1) := by decide +kernel
theorem dX11_counts_26 : decode cX11_counts 26 = .ok (.ifCond .lt 13, 3) := by decide +kernel
theorem dX11_counts_29 : decode cX11_counts 29 = .ok (.aload_n 0, 1) := by decide +kernel
theorem dX11_counts_30 : decode cX11_counts 30 = .ok (.getfield 120, 3) := by decide +kernel
theorem dX11_counts_33 : decode cX11_counts 33 = .ok (.iload_n 1, 1) := by decide +kernel
theorem dX11_counts_34 : decode cX11_counts 34 = .ok (.iaload, 1) := by decide +kernel
theorem dX11_counts_35 : decode cX11_counts 35 = .ok (.iload_n 3, 1) := by decide +kernel
theorem dX11_counts_36 : decode cX11_counts 36 = .ok (.if_icmp .le 7, 3) := by decide +kernel
theorem dX11_counts_39 : decode cX11_counts 39 = .ok (.iconst 1, 1) := by decide +kernel
theorem dX11_counts_40 : decode cX11_counts 40 = .ok (.goto 4, 3) := by decide +kernel
theorem dX11_counts_43 : decode cX11_counts 43 = .ok (.iconst 0, 1) := by decide +kernel
theorem dX11_counts_44 : decode cX11_counts 44 = .ok (.ireturn, 1) := by decide +kernel
theorem dX11_laySamples_0 : decode cX11_laySamples 0 = .ok (.aload_n 0, 1) := by decide +kernel
theorem dX11_laySamples_1 : decode cX11_laySamples 1 = .ok (.iconst 0, 1) := by decide +kernel
theorem dX11_laySamples_2 : decode cX11_laySamples 2 = .ok (.putfield 427, 3) := by decide +kernel
theorem dX11_laySamples_5 : decode cX11_laySamples 5 = .ok (.iconst 0, 1) := by decide +kernel
theorem dX11_laySamples_6 : decode cX11_laySamples 6 = .ok (.istore_n 2, 1) := by decide +kernel
theorem dX11_laySamples_7 : decode cX11_laySamples 7 = .ok (.iload_n 2, 1) := by decide +kernel
theorem dX11_laySamples_8 : decode cX11_laySamples 8 = .ok (.aload_n 0, 1) := by decide +kernel
theorem dX11_laySamples_9 : decode cX11_laySamples 9 = .ok (.getfield 377, 3) := by decide +kernel
theorem dX11_laySamples_12 : decode cX11_laySamples 12 = .ok (.if_icmp .ge 56, 3) := by decide +kernel
theorem dX11_laySamples_15 : decode cX11_laySamples 15 = .ok (.aload_n 0, 1) := by decide +kernel
theorem dX11_laySamples_16 : decode cX11_laySamples 16 = .ok (.getfield 427, 3) := by decide +kernel
theorem dX11_laySamples_19 : decode cX11_laySamples 19 = .ok (.bipush 7, 2) := by decide +kernel
theorem dX11_laySamples_21 : decode cX11_laySamples 21 = .ok (.if_icmp .ge 47, 3) := by decide +kernel
theorem dX11_laySamples_24 : decode cX11_laySamples 24 = .ok (.aload_n 0, 1) := by decide +kernel
theorem dX11_laySamples_25 : decode cX11_laySamples 25 = .ok (.iload_n 2, 1) := by decide +kernel
theorem dX11_laySamples_26 : decode cX11_laySamples 26 = .ok (.iconst 0, 1) := by decide +kernel
theorem dX11_laySamples_27 : decode cX11_laySamples 27 = .ok (.iload_n 1, 1) := by decide +kernel
theorem dX11_laySamples_28 : decode cX11_laySamples 28 = .ok (.invokevirtual 430, 3) := by decide +kernel
theorem dX11_laySamples_31 : decode cX11_laySamples 31 = .ok (.ifCond .ne 6, 3) := by decide +kernel
theorem dX11_laySamples_34 : decode cX11_laySamples 34 = .ok (.goto 28, 3) := by decide +kernel
theorem dX11_laySamples_37 : decode cX11_laySamples 37 = .ok (.aload_n 0, 1) := by decide +kernel
theorem dX11_laySamples_38 : decode cX11_laySamples 38 = .ok (.getfield 123, 3) := by decide +kernel
theorem dX11_laySamples_41 : decode cX11_laySamples 41 = .ok (.aload_n 0, 1) := by decide +kernel
theorem dX11_laySamples_42 : decode cX11_laySamples 42 = .ok (.getfield 427, 3) := by decide +kernel
theorem dX11_laySamples_45 : decode cX11_laySamples 45 = .ok (.aload_n 0, 1) := by decide +kernel
theorem dX11_laySamples_46 : decode cX11_laySamples 46 = .ok (.getfield 108, 3) := by decide +kernel
theorem dX11_laySamples_49 : decode cX11_laySamples 49 = .ok (.iload_n 2, 1) := by decide +kernel
theorem dX11_laySamples_50 : decode cX11_laySamples 50 = .ok (.iaload, 1) := by decide +kernel
theorem dX11_laySamples_51 : decode cX11_laySamples 51 = .ok (.iastore, 1) := by decide +kernel
theorem dX11_laySamples_52 : decode cX11_laySamples 52 = .ok (.aload_n 0, 1) := by decide +kernel
theorem dX11_laySamples_53 : decode cX11_laySamples 53 = .ok (.dup, 1) := by decide +kernel
theorem dX11_laySamples_54 : decode cX11_laySamples 54 = .ok (.getfield 427, 3) := by decide +kernel
theorem dX11_laySamples_57 : decode cX11_laySamples 57 = .ok (.iconst 1, 1) := by decide +kernel
theorem dX11_laySamples_58 : decode cX11_laySamples 58 = .ok (.iadd, 1) := by decide +kernel
theorem dX11_laySamples_59 : decode cX11_laySamples 59 = .ok (.putfield 427, 3) := by decide +kernel
theorem dX11_laySamples_62 : decode cX11_laySamples 62 = .ok (.iinc 2 1, 3) := by decide +kernel
theorem dX11_laySamples_65 : decode cX11_laySamples 65 = .ok (.goto (-58), 3) := by decide +kernel
theorem dX11_laySamples_68 : decode cX11_laySamples 68 = .ok (.iconst 0, 1) := by decide +kernel
theorem dX11_laySamples_69 : decode cX11_laySamples 69 = .ok (.istore_n 2, 1) := by decide +kernel
theorem dX11_laySamples_70 : decode cX11_laySamples 70 = .ok (.iload_n 2, 1) := by decide +kernel
theorem dX11_laySamples_71 : decode cX11_laySamples 71 = .ok (.aload_n 0, 1) := by decide +kernel
theorem dX11_laySamples_72 : decode cX11_laySamples 72 = .ok (.getfield 427, 3) := by decide +kernel
theorem dX11_laySamples_75 : decode cX11_laySamples 75 = .ok (.if_icmp .ge 81, 3) := by decide +kernel
theorem dX11_laySamples_78 : decode cX11_laySamples 78 = .ok (.aload_n 0, 1) := by decide +kernel
theorem dX11_laySamples_79 : decode cX11_laySamples 79 = .ok (.aload_n 0, 1) := by decide +kernel
theorem dX11_laySamples_80 : decode cX11_laySamples 80 = .ok (.getfield 123, 3) := by decide +kernel
theorem dX11_laySamples_83 : decode cX11_laySamples 83 = .ok (.iload_n 2, 1) := by decide +kernel
theorem dX11_laySamples_84 : decode cX11_laySamples 84 = .ok (.iaload, 1) := by decide +kernel
theorem dX11_laySamples_85 : decode cX11_laySamples 85 = .ok (.invokevirtual 349, 3) := by decide +kernel
theorem dX11_laySamples_88 : decode cX11_laySamples 88 = .ok (.istore_n 3, 1) := by decide +kernel
theorem dX11_laySamples_89 : decode cX11_laySamples 89 = .ok (.iconst 0, 1) := by decide +kernel
theorem dX11_laySamples_90 : decode cX11_laySamples 90 = .ok (.istore 4, 2) := by decide +kernel
theorem dX11_laySamples_92 : decode cX11_laySamples 92 = .ok (.iload 4, 2) := by decide +kernel
theorem dX11_laySamples_94 : decode cX11_laySamples 94 = .ok (.aload_n 0, 1) := by decide +kernel
theorem dX11_laySamples_95 : decode cX11_laySamples 95 = .ok (.getfield 427, 3) := by decide +kernel
theorem dX11_laySamples_98 : decode cX11_laySamples 98 = .ok (.if_icmp .ge 52, 3) := by decide +kernel
theorem dX11_laySamples_101 : decode cX11_laySamples 101 = .ok (.aload_n 0, 1) := by decide +kernel
theorem dX11_laySamples_102 : decode cX11_laySamples 102 = .ok (.getfield 129, 3) := by decide +kernel
theorem dX11_laySamples_105 : decode cX11_laySamples 105 = .ok (.bipush 7, 2) := by decide +kernel
theorem dX11_laySamples_107 : decode cX11_laySamples 107 = .ok (.iload_n 2, 1) := by decide +kernel
theorem dX11_laySamples_108 : decode cX11_laySamples 108 = .ok (.imul, 1) := by decide +kernel
theorem dX11_laySamples_109 : decode cX11_laySamples 109 = .ok (.iload 4, 2) := by decide +kernel
theorem dX11_laySamples_111 : decode cX11_laySamples 111 = .ok (.iadd, 1) := by decide +kernel
theorem dX11_laySamples_112 : decode cX11_laySamples 112 = .ok (.iload_n 3, 1) := by decide +kernel
theorem dX11_laySamples_113 : decode cX11_laySamples 113 = .ok (.aload_n 0, 1) := by decide +kernel
theorem dX11_laySamples_114 : decode cX11_laySamples 114 = .ok (.getfield 123, 3) := by decide +kernel
theorem dX11_laySamples_117 : decode cX11_laySamples 117 = .ok (.iload 4, 2) := by decide +kernel
theorem dX11_laySamples_119 : decode cX11_laySamples 119 = .ok (.iaload, 1) := by decide +kernel
theorem dX11_laySamples_120 : decode cX11_laySamples 120 = .ok (.iconst (-1), 1) := by decide +kernel
theorem dX11_laySamples_121 : decode cX11_laySamples 121 = .ok (.ixor, 1) := by decide +kernel
theorem dX11_laySamples_122 : decode cX11_laySamples 122 = .ok (.iand, 1) := by decide +kernel
theorem dX11_laySamples_123 : decode cX11_laySamples 123 = .ok (.invokestatic 352, 3) := by decide +kernel
theorem dX11_laySamples_126 : decode cX11_laySamples 126 = .ok (.iconst 2, 1) := by decide +kernel
theorem dX11_laySamples_127 : decode cX11_laySamples 127 = .ok (.aload_n 0, 1) := by decide +kernel
theorem dX11_laySamples_128 : decode cX11_laySamples 128 = .ok (.getfield 123, 3) := by decide +kernel
theorem dX11_laySamples_131 : decode cX11_laySamples 131 = .ok (.iload 4, 2) := by decide +kernel
theorem dX11_laySamples_133 : decode cX11_laySamples 133 = .ok (.iaload, 1) := by decide +kernel
theorem dX11_laySamples_134 : decode cX11_laySamples 134 = .ok (.iload_n 3, 1) := by decide +kernel
theorem dX11_laySamples_135 : decode cX11_laySamples 135 = .ok (.iconst (-1), 1) := by decide +kernel
theorem dX11_laySamples_136 : decode cX11_laySamples 136 = .ok (.ixor, 1) := by decide +kernel
theorem dX11_laySamples_137 : decode cX11_laySamples 137 = .ok (.iand, 1) := by decide +kernel
theorem dX11_laySamples_138 : decode cX11_laySamples 138 = .ok (.invokestatic 352, 3) := by decide +kernel
theorem dX11_laySamples_141 : decode cX11_laySamples 141 = .ok (.imul, 1) := by decide +kernel
theorem dX11_laySamples_142 : decode cX11_laySamples 142 = .ok (.iadd, 1) := by decide +kernel
theorem dX11_laySamples_143 : decode cX11_laySamples 143 = .ok (.iastore, 1) := by decide +kernel
theorem dX11_laySamples_144 : decode cX11_laySamples 144 = .ok (.iinc 4 1, 3) := by decide +kernel
theorem dX11_laySamples_147 : decode cX11_laySamples 147 = .ok (.goto (-55), 3) := by decide +kernel
theorem dX11_laySamples_150 : decode cX11_laySamples 150 = .ok (.iinc 2 1, 3) := by decide +kernel
theorem dX11_laySamples_153 : decode cX11_laySamples 153 = .ok (.goto (-83), 3) := by decide +kernel
theorem dX11_laySamples_156 : decode cX11_laySamples 156 = .ok (.return_, 1) := by decide +kernel
theorem dX11_changesOf_0 : decode cX11_changesOf 0 = .ok (.iload_n 1, 1) := by decide +kernel
theorem dX11_changesOf_1 : decode cX11_changesOf 1 = .ok (.istore_n 3, 1) := by decide +kernel
theorem dX11_changesOf_2 : decode cX11_changesOf 2 = .ok (.iconst 0, 1) := by decide +kernel
theorem dX11_changesOf_3 : decode cX11_changesOf 3 = .ok (.istore 4, 2) := by decide +kernel
theorem dX11_changesOf_5 : decode cX11_changesOf 5 = .ok (.aload_n 0, 1) := by decide +kernel
theorem dX11_changesOf_6 : decode cX11_changesOf 6 = .ok (.getfield 427, 3) := by decide +kernel
theorem dX11_changesOf_9 : decode cX11_changesOf 9 = .ok (.iconst 1, 1) := by decide +kernel
theorem dX11_changesOf_10 : decode cX11_changesOf 10 = .ok (.isub, 1) := by decide +kernel
theorem dX11_changesOf_11 : decode cX11_changesOf 11 = .ok (.istore 5, 2) := by decide +kernel
theorem dX11_changesOf_13 : decode cX11_changesOf 13 = .ok (.iload 5, 2) := by decide +kernel
theorem dX11_changesOf_15 : decode cX11_changesOf 15 = .ok (.ifCond .lt 91, 3) := by decide +kernel
theorem dX11_changesOf_18 : decode cX11_changesOf 18 = .ok (.aload_n 0, 1) := by decide +kernel
theorem dX11_changesOf_19 : decode cX11_changesOf 19 = .ok (.getfield 126, 3) := by decide +kernel
theorem dX11_changesOf_22 : decode cX11_changesOf 22 = .ok (.iload 5, 2) := by decide +kernel
theorem dX11_changesOf_24 : decode cX11_changesOf 24 = .ok (.iconst (-1), 1) := by decide +kernel
theorem dX11_changesOf_25 : decode cX11_changesOf 25 = .ok (.iastore, 1) := by decide +kernel
theorem dX11_changesOf_26 : decode cX11_changesOf 26 = .ok (.iload 5, 2) := by decide +kernel
theorem dX11_changesOf_28 : decode cX11_changesOf 28 = .ok (.iload_n 2, 1) := by decide +kernel
theorem dX11_changesOf_29 : decode cX11_changesOf 29 = .ok (.if_icmp .ne 6, 3) := by decide +kernel
theorem dX11_changesOf_32 : decode cX11_changesOf 32 = .ok (.goto 68, 3) := by decide +kernel
theorem dX11_changesOf_35 : decode cX11_changesOf 35 = .ok (.iload_n 3, 1) := by decide +kernel
theorem dX11_changesOf_36 : decode cX11_changesOf 36 = .ok (.aload_n 0, 1) := by decide +kernel
theorem dX11_changesOf_37 : decode cX11_changesOf 37 = .ok (.getfield 427, 3) := by decide +kernel
theorem dX11_changesOf_40 : decode cX11_changesOf 40 = .ok (.iconst 1, 1) := by decide +kernel
theorem dX11_changesOf_41 : decode cX11_changesOf 41 = .ok (.isub, 1) := by decide +kernel
theorem dX11_changesOf_42 : decode cX11_changesOf 42 = .ok (.irem, 1) := by decide +kernel
theorem dX11_changesOf_43 : decode cX11_changesOf 43 = .ok (.istore 6, 2) := by decide +kernel
theorem dX11_changesOf_45 : decode cX11_changesOf 45 = .ok (.iload_n 3, 1) := by decide +kernel
theorem dX11_changesOf_46 : decode cX11_changesOf 46 = .ok (.aload_n 0, 1) := by decide +kernel
theorem dX11_changesOf_47 : decode cX11_changesOf 47 = .ok (.getfield 427, 3) := by decide +kernel
theorem dX11_changesOf_50 : decode cX11_changesOf 50 = .ok (.iconst 1, 1) := by decide +kernel
theorem dX11_changesOf_51 : decode cX11_changesOf 51 = .ok (.isub, 1) := by decide +kernel
theorem dX11_changesOf_52 : decode cX11_changesOf 52 = .ok (.idiv, 1) := by decide +kernel
theorem dX11_changesOf_53 : decode cX11_changesOf 53 = .ok (.istore_n 3, 1) := by decide +kernel
theorem dX11_changesOf_54 : decode cX11_changesOf 54 = .ok (.aload_n 0, 1) := by decide +kernel
theorem dX11_changesOf_55 : decode cX11_changesOf 55 = .ok (.getfield 126, 3) := by decide +kernel
theorem dX11_changesOf_58 : decode cX11_changesOf 58 = .ok (.iload 5, 2) := by decide +kernel
theorem dX11_changesOf_60 : decode cX11_changesOf 60 = .ok (.iload 6, 2) := by decide +kernel
theorem dX11_changesOf_62 : decode cX11_changesOf 62 = .ok (.iload 5, 2) := by decide +kernel
theorem dX11_changesOf_64 : decode cX11_changesOf 64 = .ok (.if_icmp .ge 8, 3) := by decide +kernel
theorem dX11_changesOf_67 : decode cX11_changesOf 67 = .ok (.iload 6, 2) := by decide +kernel
theorem dX11_changesOf_69 : decode cX11_changesOf 69 = .ok (.goto 7, 3) := by decide +kernel
theorem dX11_changesOf_72 : decode cX11_changesOf 72 = .ok (.iload 6, 2) := by decide +kernel
theorem dX11_changesOf_74 : decode cX11_changesOf 74 = .ok (.iconst 1, 1) := by decide +kernel
theorem dX11_changesOf_75 : decode cX11_changesOf 75 = .ok (.iadd, 1) := by decide +kernel
theorem dX11_changesOf_76 : decode cX11_changesOf 76 = .ok (.iastore, 1) := by decide +kernel
theorem dX11_changesOf_77 : decode cX11_changesOf 77 = .ok (.iload 4, 2) := by decide +kernel
theorem dX11_changesOf_79 : decode cX11_changesOf 79 = .ok (.aload_n 0, 1) := by decide +kernel
theorem dX11_changesOf_80 : decode cX11_changesOf 80 = .ok (.getfield 129, 3) := by decide +kernel
theorem dX11_changesOf_83 : decode cX11_changesOf 83 = .ok (.bipush 7, 2) := by decide +kernel
theorem dX11_changesOf_85 : decode cX11_changesOf 85 = .ok (.aload_n 0, 1) := by decide +kernel
theorem dX11_changesOf_86 : decode cX11_changesOf 86 = .ok (.getfield 126, 3) := by decide +kernel
theorem dX11_changesOf_89 : decode cX11_changesOf 89 = .ok (.iload 5, 2) := by decide +kernel
theorem dX11_changesOf_91 : decode cX11_changesOf 91 = .ok (.iaload, 1) := by decide +kernel
theorem dX11_changesOf_92 : decode cX11_changesOf 92 = .ok (.imul, 1) := by decide +kernel
theorem dX11_changesOf_93 : decode cX11_changesOf 93 = .ok (.iload 5, 2) := by decide +kernel
theorem dX11_changesOf_95 : decode cX11_changesOf 95 = .ok (.iadd, 1) := by decide +kernel
theorem dX11_changesOf_96 : decode cX11_changesOf 96 = .ok (.iaload, 1) := by decide +kernel
theorem dX11_changesOf_97 : decode cX11_changesOf 97 = .ok (.iadd, 1) := by decide +kernel
theorem dX11_changesOf_98 : decode cX11_changesOf 98 = .ok (.istore 4, 2) := by decide +kernel
theorem dX11_changesOf_100 : decode cX11_changesOf 100 = .ok (.iinc 5 (-1), 3) := by decide +kernel
theorem dX11_changesOf_103 : decode cX11_changesOf 103 = .ok (.goto (-90), 3) := by decide +kernel
theorem dX11_changesOf_106 : decode cX11_changesOf 106 = .ok (.iconst 0, 1) := by decide +kernel
theorem dX11_changesOf_107 : decode cX11_changesOf 107 = .ok (.istore 5, 2) := by decide +kernel
theorem dX11_changesOf_109 : decode cX11_changesOf 109 = .ok (.iload 5, 2) := by decide +kernel
theorem dX11_changesOf_111 : decode cX11_changesOf 111 = .ok (.aload_n 0, 1) := by decide +kernel
theorem dX11_changesOf_112 : decode cX11_changesOf 112 = .ok (.getfield 427, 3) := by decide +kernel
theorem dX11_changesOf_115 : decode cX11_changesOf 115 = .ok (.if_icmp .ge 54, 3) := by decide +kernel
theorem dX11_changesOf_118 : decode cX11_changesOf 118 = .ok (.iload 5, 2) := by decide +kernel
theorem dX11_changesOf_120 : decode cX11_changesOf 120 = .ok (.istore 6, 2) := by decide +kernel
theorem dX11_changesOf_122 : decode cX11_changesOf 122 = .ok (.iconst 0, 1) := by decide +kernel
theorem dX11_changesOf_123 : decode cX11_changesOf 123 = .ok (.istore 7, 2) := by decide +kernel
theorem dX11_changesOf_125 : decode cX11_changesOf 125 = .ok (.iload 7, 2) := by decide +kernel
theorem dX11_changesOf_127 : decode cX11_changesOf 127 = .ok (.aload_n 0, 1) := by decide +kernel
theorem dX11_changesOf_128 : decode cX11_changesOf 128 = .ok (.getfield 427, 3) := by decide +kernel
theorem dX11_changesOf_131 : decode cX11_changesOf 131 = .ok (.if_icmp .ge 24, 3) := by decide +kernel
theorem dX11_changesOf_134 : decode cX11_changesOf 134 = .ok (.iload 6, 2) := by decide +kernel
theorem dX11_changesOf_136 : decode cX11_changesOf 136 = .ok (.iload_n 2, 1) := by decide +kernel
theorem dX11_changesOf_137 : decode cX11_changesOf 137 = .ok (.if_icmp .eq 18, 3) := by decide +kernel
theorem dX11_changesOf_140 : decode cX11_changesOf 140 = .ok (.aload_n 0, 1) := by decide +kernel
theorem dX11_changesOf_141 : decode cX11_changesOf 141 = .ok (.getfield 126, 3) := by decide +kernel
theorem dX11_changesOf_144 : decode cX11_changesOf 144 = .ok (.iload 6, 2) := by decide +kernel
theorem dX11_changesOf_146 : decode cX11_changesOf 146 = .ok (.iaload, 1) := by decide +kernel
theorem dX11_changesOf_147 : decode cX11_changesOf 147 = .ok (.istore 6, 2) := by decide +kernel
theorem dX11_changesOf_149 : decode cX11_changesOf 149 = .ok (.iinc 7 1, 3) := by decide +kernel
theorem dX11_changesOf_152 : decode cX11_changesOf 152 = .ok (.goto (-27), 3) := by decide +kernel
theorem dX11_changesOf_155 : decode cX11_changesOf 155 = .ok (.iload 6, 2) := by decide +kernel
theorem dX11_changesOf_157 : decode cX11_changesOf 157 = .ok (.iload_n 2, 1) := by decide +kernel
theorem dX11_changesOf_158 : decode cX11_changesOf 158 = .ok (.if_icmp .eq 5, 3) := by decide +kernel
theorem dX11_changesOf_161 : decode cX11_changesOf 161 = .ok (.iconst (-1), 1) := by decide +kernel
theorem dX11_changesOf_162 : decode cX11_changesOf 162 = .ok (.ireturn, 1) := by decide +kernel
theorem dX11_changesOf_163 : decode cX11_changesOf 163 = .ok (.iinc 5 1, 3) := by decide +kernel
theorem dX11_changesOf_166 : decode cX11_changesOf 166 = .ok (.goto (-57), 3) := by decide +kernel
theorem dX11_changesOf_169 : decode cX11_changesOf 169 = .ok (.iload 4, 2) := by decide +kernel
theorem dX11_changesOf_171 : decode cX11_changesOf 171 = .ok (.ireturn, 1) := by decide +kernel
theorem dX11_tree_0 : decode cX11_tree 0 = .ok (.aload_n 0, 1) := by decide +kernel
theorem dX11_tree_1 : decode cX11_tree 1 = .ok (.iconst 0, 1) := by decide +kernel
theorem dX11_tree_2 : decode cX11_tree 2 = .ok (.putfield 380, 3) := by decide +kernel
theorem dX11_tree_5 : decode cX11_tree 5 = .ok (.aload_n 0, 1) := by decide +kernel
theorem dX11_tree_6 : decode cX11_tree 6 = .ok (.iload_n 3, 1) := by decide +kernel
theorem dX11_tree_7 : decode cX11_tree 7 = .ok (.invokevirtual 433, 3) := by decide +kernel
theorem dX11_tree_10 : decode cX11_tree 10 = .ok (.iload_n 1, 1) := by decide +kernel
theorem dX11_tree_11 : decode cX11_tree 11 = .ok (.iconst 0, 1) := by decide +kernel
theorem dX11_tree_12 : decode cX11_tree 12 = .ok (.aload_n 0, 1) := by decide +kernel
theorem dX11_tree_13 : decode cX11_tree 13 = .ok (.getfield 427, 3) := by decide +kernel
theorem dX11_tree_16 : decode cX11_tree 16 = .ok (.iconst 1, 1) := by decide +kernel
theorem dX11_tree_17 : decode cX11_tree 17 = .ok (.isub, 1) := by decide +kernel
theorem dX11_tree_18 : decode cX11_tree 18 = .ok (.invokestatic 345, 3) := by decide +kernel
theorem dX11_tree_21 : decode cX11_tree 21 = .ok (.ifCond .eq 12, 3) := by decide +kernel
theorem dX11_tree_24 : decode cX11_tree 24 = .ok (.iload_n 2, 1) := by decide +kernel
theorem dX11_tree_25 : decode cX11_tree 25 = .ok (.iconst 0, 1) := by decide +kernel
theorem dX11_tree_26 : decode cX11_tree 26 = .ok (.iconst 1, 1) := by decide +kernel
theorem dX11_tree_27 : decode cX11_tree 27 = .ok (.invokestatic 345, 3) := by decide +kernel
theorem dX11_tree_30 : decode cX11_tree 30 = .ok (.ifCond .ne 5, 3) := by decide +kernel
theorem dX11_tree_33 : decode cX11_tree 33 = .ok (.iconst (-1), 1) := by decide +kernel
theorem dX11_tree_34 : decode cX11_tree 34 = .ok (.ireturn, 1) := by decide +kernel
theorem dX11_tree_35 : decode cX11_tree 35 = .ok (.iconst 1, 1) := by decide +kernel
theorem dX11_tree_36 : decode cX11_tree 36 = .ok (.istore 4, 2) := by decide +kernel
theorem dX11_tree_38 : decode cX11_tree 38 = .ok (.iconst 1, 1) := by decide +kernel
theorem dX11_tree_39 : decode cX11_tree 39 = .ok (.istore 5, 2) := by decide +kernel
theorem dX11_tree_41 : decode cX11_tree 41 = .ok (.iload 5, 2) := by decide +kernel
theorem dX11_tree_43 : decode cX11_tree 43 = .ok (.aload_n 0, 1) := by decide +kernel
theorem dX11_tree_44 : decode cX11_tree 44 = .ok (.getfield 427, 3) := by decide +kernel
theorem dX11_tree_47 : decode cX11_tree 47 = .ok (.if_icmp .ge 20, 3) := by decide +kernel
theorem dX11_tree_50 : decode cX11_tree 50 = .ok (.iload 4, 2) := by decide +kernel
theorem dX11_tree_52 : decode cX11_tree 52 = .ok (.aload_n 0, 1) := by decide +kernel
theorem dX11_tree_53 : decode cX11_tree 53 = .ok (.getfield 427, 3) := by decide +kernel
theorem dX11_tree_56 : decode cX11_tree 56 = .ok (.iconst 1, 1) := by decide +kernel
theorem dX11_tree_57 : decode cX11_tree 57 = .ok (.isub, 1) := by decide +kernel
theorem dX11_tree_58 : decode cX11_tree 58 = .ok (.imul, 1) := by decide +kernel
theorem dX11_tree_59 : decode cX11_tree 59 = .ok (.istore 4, 2) := by decide +kernel
theorem dX11_tree_61 : decode cX11_tree 61 = .ok (.iinc 5 1, 3) := by decide +kernel
theorem dX11_tree_64 : decode cX11_tree 64 = .ok (.goto (-23), 3) := by decide +kernel
theorem dX11_tree_67 : decode cX11_tree 67 = .ok (.iconst (-1), 1) := by decide +kernel
theorem dX11_tree_68 : decode cX11_tree 68 = .ok (.istore 5, 2) := by decide +kernel
theorem dX11_tree_70 : decode cX11_tree 70 = .ok (.iconst 0, 1) := by decide +kernel
theorem dX11_tree_71 : decode cX11_tree 71 = .ok (.istore 6, 2) := by decide +kernel
theorem dX11_tree_73 : decode cX11_tree 73 = .ok (.iconst 0, 1) := by decide +kernel
theorem dX11_tree_74 : decode cX11_tree 74 = .ok (.istore 7, 2) := by decide +kernel
theorem dX11_tree_76 : decode cX11_tree 76 = .ok (.iload 7, 2) := by decide +kernel
theorem dX11_tree_78 : decode cX11_tree 78 = .ok (.iload 4, 2) := by decide +kernel
theorem dX11_tree_80 : decode cX11_tree 80 = .ok (.if_icmp .ge 102, 3) := by decide +kernel
theorem dX11_tree_83 : decode cX11_tree 83 = .ok (.aload_n 0, 1) := by decide +kernel
theorem dX11_tree_84 : decode cX11_tree 84 = .ok (.iload 7, 2) := by decide +kernel
theorem dX11_tree_86 : decode cX11_tree 86 = .ok (.iload_n 1, 1) := by decide +kernel
theorem dX11_tree_87 : decode cX11_tree 87 = .ok (.invokevirtual 436, 3) := by decide +kernel
theorem dX11_tree_90 : decode cX11_tree 90 = .ok (.istore 8, 2) := by decide +kernel
theorem dX11_tree_92 : decode cX11_tree 92 = .ok (.iload 8, 2) := by decide +kernel
theorem dX11_tree_94 : decode cX11_tree 94 = .ok (.ifCond .lt 82, 3) := by decide +kernel
theorem dX11_tree_97 : decode cX11_tree 97 = .ok (.iload 5, 2) := by decide +kernel
theorem dX11_tree_99 : decode cX11_tree 99 = .ok (.ifCond .lt 13, 3) := by decide +kernel
theorem dX11_tree_102 : decode cX11_tree 102 = .ok (.iload 8, 2) := by decide +kernel
theorem dX11_tree_104 : decode cX11_tree 104 = .ok (.iload 5, 2) := by decide +kernel
theorem dX11_tree_106 : decode cX11_tree 106 = .ok (.if_icmp .le 6, 3) := by decide +kernel
theorem dX11_tree_109 : decode cX11_tree 109 = .ok (.goto 67, 3) := by decide +kernel
theorem dX11_tree_112 : decode cX11_tree 112 = .ok (.iload 5, 2) := by decide +kernel
theorem dX11_tree_114 : decode cX11_tree 114 = .ok (.ifCond .lt 10, 3) := by decide +kernel
theorem dX11_tree_117 : decode cX11_tree 117 = .ok (.iload 8, 2) := by decide +kernel
theorem dX11_tree_119 : decode cX11_tree 119 = .ok (.iload 5, 2) := by decide +kernel
theorem dX11_tree_121 : decode cX11_tree 121 = .ok (.if_icmp .ge 7, 3) := by decide +kernel
theorem dX11_tree_124 : decode cX11_tree 124 = .ok (.iconst 1, 1) := by decide +kernel
theorem dX11_tree_125 : decode cX11_tree 125 = .ok (.goto 7, 3) := by decide +kernel
theorem dX11_tree_128 : decode cX11_tree 128 = .ok (.iload 6, 2) := by decide +kernel
theorem dX11_tree_130 : decode cX11_tree 130 = .ok (.iconst 1, 1) := by decide +kernel
theorem dX11_tree_131 : decode cX11_tree 131 = .ok (.iadd, 1) := by decide +kernel
theorem dX11_tree_132 : decode cX11_tree 132 = .ok (.istore 6, 2) := by decide +kernel
theorem dX11_tree_134 : decode cX11_tree 134 = .ok (.iload 6, 2) := by decide +kernel
theorem dX11_tree_136 : decode cX11_tree 136 = .ok (.iconst 1, 1) := by decide +kernel
theorem dX11_tree_137 : decode cX11_tree 137 = .ok (.if_icmp .ne 35, 3) := by decide +kernel
theorem dX11_tree_140 : decode cX11_tree 140 = .ok (.iconst 0, 1) := by decide +kernel
theorem dX11_tree_141 : decode cX11_tree 141 = .ok (.istore 9, 2) := by decide +kernel
theorem dX11_tree_143 : decode cX11_tree 143 = .ok (.iload 9, 2) := by decide +kernel
theorem dX11_tree_145 : decode cX11_tree 145 = .ok (.aload_n 0, 1) := by decide +kernel
theorem dX11_tree_146 : decode cX11_tree 146 = .ok (.getfield 427, 3) := by decide +kernel
theorem dX11_tree_149 : decode cX11_tree 149 = .ok (.if_icmp .ge 23, 3) := by decide +kernel
theorem dX11_tree_152 : decode cX11_tree 152 = .ok (.aload_n 0, 1) := by decide +kernel
theorem dX11_tree_153 : decode cX11_tree 153 = .ok (.getfield 92, 3) := by decide +kernel
theorem dX11_tree_156 : decode cX11_tree 156 = .ok (.iload 9, 2) := by decide +kernel
theorem dX11_tree_158 : decode cX11_tree 158 = .ok (.aload_n 0, 1) := by decide +kernel
theorem dX11_tree_159 : decode cX11_tree 159 = .ok (.getfield 126, 3) := by decide +kernel
theorem dX11_tree_162 : decode cX11_tree 162 = .ok (.iload 9, 2) := by decide +kernel
theorem dX11_tree_164 : decode cX11_tree 164 = .ok (.iaload, 1) := by decide +kernel
theorem dX11_tree_165 : decode cX11_tree 165 = .ok (.iastore, 1) := by decide +kernel
theorem dX11_tree_166 : decode cX11_tree 166 = .ok (.iinc 9 1, 3) := by decide +kernel
theorem dX11_tree_169 : decode cX11_tree 169 = .ok (.goto (-26), 3) := by decide +kernel
theorem dX11_tree_172 : decode cX11_tree 172 = .ok (.iload 8, 2) := by decide +kernel
theorem dX11_tree_174 : decode cX11_tree 174 = .ok (.istore 5, 2) := by decide +kernel
theorem dX11_tree_176 : decode cX11_tree 176 = .ok (.iinc 7 1, 3) := by decide +kernel
theorem dX11_tree_179 : decode cX11_tree 179 = .ok (.goto (-103), 3) := by decide +kernel
theorem dX11_tree_182 : decode cX11_tree 182 = .ok (.aload_n 0, 1) := by decide +kernel
theorem dX11_tree_183 : decode cX11_tree 183 = .ok (.aload_n 0, 1) := by decide +kernel
theorem dX11_tree_184 : decode cX11_tree 184 = .ok (.getfield 427, 3) := by decide +kernel
theorem dX11_tree_187 : decode cX11_tree 187 = .ok (.putfield 380, 3) := by decide +kernel
theorem dX11_tree_190 : decode cX11_tree 190 = .ok (.iload_n 2, 1) := by decide +kernel
theorem dX11_tree_191 : decode cX11_tree 191 = .ok (.ifCond .ne 8, 3) := by decide +kernel
theorem dX11_tree_194 : decode cX11_tree 194 = .ok (.iload 5, 2) := by decide +kernel
theorem dX11_tree_196 : decode cX11_tree 196 = .ok (.goto 5, 3) := by decide +kernel
theorem dX11_tree_199 : decode cX11_tree 199 = .ok (.iload 6, 2) := by decide +kernel
theorem dX11_tree_201 : decode cX11_tree 201 = .ok (.ireturn, 1) := by decide +kernel
theorem dX11_centre_0 : decode cX11_centre 0 = .ok (.aload_n 0, 1) := by decide +kernel
theorem dX11_centre_1 : decode cX11_centre 1 = .ok (.iload_n 2, 1) := by decide +kernel
theorem dX11_centre_2 : decode cX11_centre 2 = .ok (.invokevirtual 433, 3) := by decide +kernel
theorem dX11_centre_5 : decode cX11_centre 5 = .ok (.aload_n 0, 1) := by decide +kernel
theorem dX11_centre_6 : decode cX11_centre 6 = .ok (.getfield 427, 3) := by decide +kernel
theorem dX11_centre_9 : decode cX11_centre 9 = .ok (.ifCond .eq 12, 3) := by decide +kernel
theorem dX11_centre_12 : decode cX11_centre 12 = .ok (.iload_n 1, 1) := by decide +kernel
theorem dX11_centre_13 : decode cX11_centre 13 = .ok (.iconst 0, 1) := by decide +kernel
theorem dX11_centre_14 : decode cX11_centre 14 = .ok (.iconst 1, 1) := by decide +kernel
theorem dX11_centre_15 : decode cX11_centre 15 = .ok (.invokestatic 345, 3) := by decide +kernel
theorem dX11_centre_18 : decode cX11_centre 18 = .ok (.ifCond .ne 5, 3) := by decide +kernel
theorem dX11_centre_21 : decode cX11_centre 21 = .ok (.iconst (-1), 1) := by decide +kernel
theorem dX11_centre_22 : decode cX11_centre 22 = .ok (.ireturn, 1) := by decide +kernel
theorem dX11_centre_23 : decode cX11_centre 23 = .ok (.iconst (-1), 1) := by decide +kernel
theorem dX11_centre_24 : decode cX11_centre 24 = .ok (.istore_n 3, 1) := by decide +kernel
theorem dX11_centre_25 : decode cX11_centre 25 = .ok (.iconst 0, 1) := by decide +kernel
theorem dX11_centre_26 : decode cX11_centre 26 = .ok (.istore 4, 2) := by decide +kernel
theorem dX11_centre_28 : decode cX11_centre 28 = .ok (.iconst 0, 1) := by decide +kernel
theorem dX11_centre_29 : decode cX11_centre 29 = .ok (.istore 5, 2) := by decide +kernel
theorem dX11_centre_31 : decode cX11_centre 31 = .ok (.iload 5, 2) := by decide +kernel
theorem dX11_centre_33 : decode cX11_centre 33 = .ok (.aload_n 0, 1) := by decide +kernel
theorem dX11_centre_34 : decode cX11_centre 34 = .ok (.getfield 427, 3) := by decide +kernel
theorem dX11_centre_37 : decode cX11_centre 37 = .ok (.if_icmp .ge 76, 3) := by decide +kernel
theorem dX11_centre_40 : decode cX11_centre 40 = .ok (.iconst 0, 1) := by decide +kernel
theorem dX11_centre_41 : decode cX11_centre 41 = .ok (.istore 6, 2) := by decide +kernel
theorem dX11_centre_43 : decode cX11_centre 43 = .ok (.iconst 0, 1) := by decide +kernel
theorem dX11_centre_44 : decode cX11_centre 44 = .ok (.istore 7, 2) := by decide +kernel
theorem dX11_centre_46 : decode cX11_centre 46 = .ok (.iload 7, 2) := by decide +kernel
theorem dX11_centre_48 : decode cX11_centre 48 = .ok (.aload_n 0, 1) := by decide +kernel
theorem dX11_centre_49 : decode cX11_centre 49 = .ok (.getfield 427, 3) := by decide +kernel
theorem dX11_centre_52 : decode cX11_centre 52 = .ok (.if_icmp .ge 34, 3) := by decide +kernel
theorem dX11_centre_55 : decode cX11_centre 55 = .ok (.iload 7, 2) := by decide +kernel
theorem dX11_centre_57 : decode cX11_centre 57 = .ok (.iload 5, 2) := by decide +kernel
theorem dX11_centre_59 : decode cX11_centre 59 = .ok (.if_icmp .eq 21, 3) := by decide +kernel
theorem dX11_centre_62 : decode cX11_centre 62 = .ok (.iload 6, 2) := by decide +kernel
theorem dX11_centre_64 : decode cX11_centre 64 = .ok (.aload_n 0, 1) := by decide +kernel
theorem dX11_centre_65 : decode cX11_centre 65 = .ok (.getfield 129, 3) := by decide +kernel
theorem dX11_centre_68 : decode cX11_centre 68 = .ok (.bipush 7, 2) := by decide +kernel
theorem dX11_centre_70 : decode cX11_centre 70 = .ok (.iload 5, 2) := by decide +kernel
theorem dX11_centre_72 : decode cX11_centre 72 = .ok (.imul, 1) := by decide +kernel
theorem dX11_centre_73 : decode cX11_centre 73 = .ok (.iload 7, 2) := by decide +kernel
theorem dX11_centre_75 : decode cX11_centre 75 = .ok (.iadd, 1) := by decide +kernel
theorem dX11_centre_76 : decode cX11_centre 76 = .ok (.iaload, 1) := by decide +kernel
theorem dX11_centre_77 : decode cX11_centre 77 = .ok (.iadd, 1) := by decide +kernel
theorem dX11_centre_78 : decode cX11_centre 78 = .ok (.istore 6, 2) := by decide +kernel
theorem dX11_centre_80 : decode cX11_centre 80 = .ok (.iinc 7 1, 3) := by decide +kernel
theorem dX11_centre_83 : decode cX11_centre 83 = .ok (.goto (-37), 3) := by decide +kernel
theorem dX11_centre_86 : decode cX11_centre 86 = .ok (.iload_n 3, 1) := by decide +kernel
theorem dX11_centre_87 : decode cX11_centre 87 = .ok (.ifCond .lt 13, 3) := by decide +kernel
theorem dX11_centre_90 : decode cX11_centre 90 = .ok (.iload 6, 2) := by decide +kernel
theorem dX11_centre_92 : decode cX11_centre 92 = .ok (.iload 4, 2) := by decide +kernel
theorem dX11_centre_94 : decode cX11_centre 94 = .ok (.if_icmp .lt 6, 3) := by decide +kernel
theorem dX11_centre_97 : decode cX11_centre 97 = .ok (.goto 10, 3) := by decide +kernel
theorem dX11_centre_100 : decode cX11_centre 100 = .ok (.iload 5, 2) := by decide +kernel
theorem dX11_centre_102 : decode cX11_centre 102 = .ok (.istore_n 3, 1) := by decide +kernel
theorem dX11_centre_103 : decode cX11_centre 103 = .ok (.iload 6, 2) := by decide +kernel
theorem dX11_centre_105 : decode cX11_centre 105 = .ok (.istore 4, 2) := by decide +kernel
theorem dX11_centre_107 : decode cX11_centre 107 = .ok (.iinc 5 1, 3) := by decide +kernel
theorem dX11_centre_110 : decode cX11_centre 110 = .ok (.goto (-79), 3) := by decide +kernel
theorem dX11_centre_113 : decode cX11_centre 113 = .ok (.iload_n 1, 1) := by decide +kernel
theorem dX11_centre_114 : decode cX11_centre 114 = .ok (.ifCond .ne 7, 3) := by decide +kernel
theorem dX11_centre_117 : decode cX11_centre 117 = .ok (.iload_n 3, 1) := by decide +kernel
theorem dX11_centre_118 : decode cX11_centre 118 = .ok (.goto 5, 3) := by decide +kernel
theorem dX11_centre_121 : decode cX11_centre 121 = .ok (.iload 4, 2) := by decide +kernel
theorem dX11_centre_123 : decode cX11_centre 123 = .ok (.ireturn, 1) := by decide +kernel
theorem dX11_layClans_0 : decode cX11_layClans 0 = .ok (.iconst 0, 1) := by decide +kernel
theorem dX11_layClans_1 : decode cX11_layClans 1 = .ok (.istore_n 2, 1) := by decide +kernel
theorem dX11_layClans_2 : decode cX11_layClans 2 = .ok (.iload_n 2, 1) := by decide +kernel
theorem dX11_layClans_3 : decode cX11_layClans 3 = .ok (.aload_n 0, 1) := by decide +kernel
theorem dX11_layClans_4 : decode cX11_layClans 4 = .ok (.getfield 427, 3) := by decide +kernel
theorem dX11_layClans_7 : decode cX11_layClans 7 = .ok (.if_icmp .ge 16, 3) := by decide +kernel
theorem dX11_layClans_10 : decode cX11_layClans 10 = .ok (.aload_n 0, 1) := by decide +kernel
theorem dX11_layClans_11 : decode cX11_layClans 11 = .ok (.getfield 132, 3) := by decide +kernel
theorem dX11_layClans_14 : decode cX11_layClans 14 = .ok (.iload_n 2, 1) := by decide +kernel
theorem dX11_layClans_15 : decode cX11_layClans 15 = .ok (.iload_n 2, 1) := by decide +kernel
theorem dX11_layClans_16 : decode cX11_layClans 16 = .ok (.iastore, 1) := by decide +kernel
theorem dX11_layClans_17 : decode cX11_layClans 17 = .ok (.iinc 2 1, 3) := by decide +kernel
theorem dX11_layClans_20 : decode cX11_layClans 20 = .ok (.goto (-18), 3) := by decide +kernel
theorem dX11_layClans_23 : decode cX11_layClans 23 = .ok (.iconst 0, 1) := by decide +kernel
theorem dX11_layClans_24 : decode cX11_layClans 24 = .ok (.istore_n 2, 1) := by decide +kernel
theorem dX11_layClans_25 : decode cX11_layClans 25 = .ok (.iload_n 2, 1) := by decide +kernel
theorem dX11_layClans_26 : decode cX11_layClans 26 = .ok (.aload_n 0, 1) := by decide +kernel
theorem dX11_layClans_27 : decode cX11_layClans 27 = .ok (.getfield 427, 3) := by decide +kernel
theorem dX11_layClans_30 : decode cX11_layClans 30 = .ok (.if_icmp .ge 158, 3) := by decide +kernel
theorem dX11_layClans_33 : decode cX11_layClans 33 = .ok (.iconst 0, 1) := by decide +kernel
theorem dX11_layClans_34 : decode cX11_layClans 34 = .ok (.istore_n 3, 1) := by decide +kernel
theorem dX11_layClans_35 : decode cX11_layClans 35 = .ok (.iload_n 3, 1) := by decide +kernel
theorem dX11_layClans_36 : decode cX11_layClans 36 = .ok (.iload_n 2, 1) := by decide +kernel
theorem dX11_layClans_37 : decode cX11_layClans 37 = .ok (.if_icmp .ge 145, 3) := by decide +kernel
theorem dX11_layClans_40 : decode cX11_layClans 40 = .ok (.aload_n 0, 1) := by decide +kernel
theorem dX11_layClans_41 : decode cX11_layClans 41 = .ok (.getfield 129, 3) := by decide +kernel
theorem dX11_layClans_44 : decode cX11_layClans 44 = .ok (.bipush 7, 2) := by decide +kernel
theorem dX11_layClans_46 : decode cX11_layClans 46 = .ok (.iload_n 2, 1) := by decide +kernel
theorem dX11_layClans_47 : decode cX11_layClans 47 = .ok (.imul, 1) := by decide +kernel
theorem dX11_layClans_48 : decode cX11_layClans 48 = .ok (.iload_n 3, 1) := by decide +kernel
theorem dX11_layClans_49 : decode cX11_layClans 49 = .ok (.iadd, 1) := by decide +kernel
theorem dX11_layClans_50 : decode cX11_layClans 50 = .ok (.iaload, 1) := by decide +kernel
theorem dX11_layClans_51 : decode cX11_layClans 51 = .ok (.iload_n 1, 1) := by decide +kernel
theorem dX11_layClans_52 : decode cX11_layClans 52 = .ok (.if_icmp .le 21, 3) := by decide +kernel
theorem dX11_layClans_55 : decode cX11_layClans 55 = .ok (.aload_n 0, 1) := by decide +kernel
theorem dX11_layClans_56 : decode cX11_layClans 56 = .ok (.getfield 129, 3) := by decide +kernel
theorem dX11_layClans_59 : decode cX11_layClans 59 = .ok (.bipush 7, 2) := by decide +kernel
theorem dX11_layClans_61 : decode cX11_layClans 61 = .ok (.iload_n 3, 1) := by decide +kernel
theorem dX11_layClans_62 : decode cX11_layClans 62 = .ok (.imul, 1) := by decide +kernel
theorem dX11_layClans_63 : decode cX11_layClans 63 = .ok (.iload_n 2, 1) := by decide +kernel
theorem dX11_layClans_64 : decode cX11_layClans 64 = .ok (.iadd, 1) := by decide +kernel
theorem dX11_layClans_65 : decode cX11_layClans 65 = .ok (.iaload, 1) := by decide +kernel
theorem dX11_layClans_66 : decode cX11_layClans 66 = .ok (.iload_n 1, 1) := by decide +kernel
theorem dX11_layClans_67 : decode cX11_layClans 67 = .ok (.if_icmp .le 6, 3) := by decide +kernel
theorem dX11_layClans_70 : decode cX11_layClans 70 = .ok (.goto 106, 3) := by decide +kernel
theorem dX11_layClans_73 : decode cX11_layClans 73 = .ok (.aload_n 0, 1) := by decide +kernel
theorem dX11_layClans_74 : decode cX11_layClans 74 = .ok (.getfield 132, 3) := by decide +kernel
theorem dX11_layClans_77 : decode cX11_layClans 77 = .ok (.iload_n 2, 1) := by decide +kernel
theorem dX11_layClans_78 : decode cX11_layClans 78 = .ok (.iaload, 1) := by decide +kernel
theorem dX11_layClans_79 : decode cX11_layClans 79 = .ok (.aload_n 0, 1) := by decide +kernel
theorem dX11_layClans_80 : decode cX11_layClans 80 = .ok (.getfield 132, 3) := by decide +kernel
theorem dX11_layClans_83 : decode cX11_layClans 83 = .ok (.iload_n 3, 1) := by decide +kernel
theorem dX11_layClans_84 : decode cX11_layClans 84 = .ok (.iaload, 1) := by decide +kernel
theorem dX11_layClans_85 : decode cX11_layClans 85 = .ok (.if_icmp .ge 12, 3) := by decide +kernel
theorem dX11_layClans_88 : decode cX11_layClans 88 = .ok (.aload_n 0, 1) := by decide +kernel
theorem dX11_layClans_89 : decode cX11_layClans 89 = .ok (.getfield 132, 3) := by decide +kernel
theorem dX11_layClans_92 : decode cX11_layClans 92 = .ok (.iload_n 2, 1) := by decide +kernel
theorem dX11_layClans_93 : decode cX11_layClans 93 = .ok (.iaload, 1) := by decide +kernel
theorem dX11_layClans_94 : decode cX11_layClans 94 = .ok (.goto 9, 3) := by decide +kernel
theorem dX11_layClans_97 : decode cX11_layClans 97 = .ok (.aload_n 0, 1) := by decide +kernel
theorem dX11_layClans_98 : decode cX11_layClans 98 = .ok (.getfield 132, 3) := by decide +kernel
theorem dX11_layClans_101 : decode cX11_layClans 101 = .ok (.iload_n 3, 1) := by decide +kernel
theorem dX11_layClans_102 : decode cX11_layClans 102 = .ok (.iaload, 1) := by decide +kernel
theorem dX11_layClans_103 : decode cX11_layClans 103 = .ok (.istore 4, 2) := by decide +kernel
theorem dX11_layClans_105 : decode cX11_layClans 105 = .ok (.aload_n 0, 1) := by decide +kernel
theorem dX11_layClans_106 : decode cX11_layClans 106 = .ok (.getfield 132, 3) := by decide +kernel
theorem dX11_layClans_109 : decode cX11_layClans 109 = .ok (.iload_n 2, 1) := by decide +kernel
theorem dX11_layClans_110 : decode cX11_layClans 110 = .ok (.iaload, 1) := by decide +kernel
theorem dX11_layClans_111 : decode cX11_layClans 111 = .ok (.aload_n 0, 1) := by decide +kernel
theorem dX11_layClans_112 : decode cX11_layClans 112 = .ok (.getfield 132, 3) := by decide +kernel
theorem dX11_layClans_115 : decode cX11_layClans 115 = .ok (.iload_n 3, 1) := by decide +kernel
theorem dX11_layClans_116 : decode cX11_layClans 116 = .ok (.iaload, 1) := by decide +kernel
theorem dX11_layClans_117 : decode cX11_layClans 117 = .ok (.if_icmp .ge 12, 3) := by decide +kernel
theorem dX11_layClans_120 : decode cX11_layClans 120 = .ok (.aload_n 0, 1) := by decide +kernel
theorem dX11_layClans_121 : decode cX11_layClans 121 = .ok (.getfield 132, 3) := by decide +kernel
theorem dX11_layClans_124 : decode cX11_layClans 124 = .ok (.iload_n 3, 1) := by decide +kernel
theorem dX11_layClans_125 : decode cX11_layClans 125 = .ok (.iaload, 1) := by decide +kernel
theorem dX11_layClans_126 : decode cX11_layClans 126 = .ok (.goto 9, 3) := by decide +kernel
theorem dX11_layClans_129 : decode cX11_layClans 129 = .ok (.aload_n 0, 1) := by decide +kernel
theorem dX11_layClans_130 : decode cX11_layClans 130 = .ok (.getfield 132, 3) := by decide +kernel
theorem dX11_layClans_133 : decode cX11_layClans 133 = .ok (.iload_n 2, 1) := by decide +kernel
theorem dX11_layClans_134 : decode cX11_layClans 134 = .ok (.iaload, 1) := by decide +kernel
theorem dX11_layClans_135 : decode cX11_layClans 135 = .ok (.istore 5, 2) := by decide +kernel
theorem dX11_layClans_137 : decode cX11_layClans 137 = .ok (.iconst 0, 1) := by decide +kernel
theorem dX11_layClans_138 : decode cX11_layClans 138 = .ok (.istore 6, 2) := by decide +kernel
theorem dX11_layClans_140 : decode cX11_layClans 140 = .ok (.iload 6, 2) := by decide +kernel
theorem dX11_layClans_142 : decode cX11_layClans 142 = .ok (.aload_n 0, 1) := by decide +kernel
theorem dX11_layClans_143 : decode cX11_layClans 143 = .ok (.getfield 427, 3) := by decide +kernel
theorem dX11_layClans_146 : decode cX11_layClans 146 = .ok (.if_icmp .ge 30, 3) := by decide +kernel
theorem dX11_layClans_149 : decode cX11_layClans 149 = .ok (.aload_n 0, 1) := by decide +kernel
theorem dX11_layClans_150 : decode cX11_layClans 150 = .ok (.getfield 132, 3) := by decide +kernel
theorem dX11_layClans_153 : decode cX11_layClans 153 = .ok (.iload 6, 2) := by decide +kernel
theorem dX11_layClans_155 : decode cX11_layClans 155 = .ok (.iaload, 1) := by decide +kernel
theorem dX11_layClans_156 : decode cX11_layClans 156 = .ok (.iload 5, 2) := by decide +kernel
theorem dX11_layClans_158 : decode cX11_layClans 158 = .ok (.if_icmp .ne 12, 3) := by decide +kernel
theorem dX11_layClans_161 : decode cX11_layClans 161 = .ok (.aload_n 0, 1) := by decide +kernel
theorem dX11_layClans_162 : decode cX11_layClans 162 = .ok (.getfield 132, 3) := by decide +kernel
theorem dX11_layClans_165 : decode cX11_layClans 165 = .ok (.iload 6, 2) := by decide +kernel
theorem dX11_layClans_167 : decode cX11_layClans 167 = .ok (.iload 4, 2) := by decide +kernel
theorem dX11_layClans_169 : decode cX11_layClans 169 = .ok (.iastore, 1) := by decide +kernel
theorem dX11_layClans_170 : decode cX11_layClans 170 = .ok (.iinc 6 1, 3) := by decide +kernel
theorem dX11_layClans_173 : decode cX11_layClans 173 = .ok (.goto (-33), 3) := by decide +kernel
theorem dX11_layClans_176 : decode cX11_layClans 176 = .ok (.iinc 3 1, 3) := by decide +kernel
theorem dX11_layClans_179 : decode cX11_layClans 179 = .ok (.goto (-144), 3) := by decide +kernel
theorem dX11_layClans_182 : decode cX11_layClans 182 = .ok (.iinc 2 1, 3) := by decide +kernel
theorem dX11_layClans_185 : decode cX11_layClans 185 = .ok (.goto (-160), 3) := by decide +kernel
theorem dX11_layClans_188 : decode cX11_layClans 188 = .ok (.return_, 1) := by decide +kernel
theorem dX11_clans_0 : decode cX11_clans 0 = .ok (.iload_n 1, 1) := by decide +kernel
theorem dX11_clans_1 : decode cX11_clans 1 = .ok (.iconst 0, 1) := by decide +kernel
theorem dX11_clans_2 : decode cX11_clans 2 = .ok (.bipush 24, 2) := by decide +kernel
theorem dX11_clans_4 : decode cX11_clans 4 = .ok (.invokestatic 345, 3) := by decide +kernel
theorem dX11_clans_7 : decode cX11_clans 7 = .ok (.ifCond .eq 12, 3) := by decide +kernel
theorem dX11_clans_10 : decode cX11_clans 10 = .ok (.iload_n 2, 1) := by decide +kernel
theorem dX11_clans_11 : decode cX11_clans 11 = .ok (.iconst 0, 1) := by decide +kernel
theorem dX11_clans_12 : decode cX11_clans 12 = .ok (.iconst 1, 1) := by decide +kernel
theorem dX11_clans_13 : decode cX11_clans 13 = .ok (.invokestatic 345, 3) := by decide +kernel
theorem dX11_clans_16 : decode cX11_clans 16 = .ok (.ifCond .ne 5, 3) := by decide +kernel
theorem dX11_clans_19 : decode cX11_clans 19 = .ok (.iconst (-1), 1) := by decide +kernel
theorem dX11_clans_20 : decode cX11_clans 20 = .ok (.ireturn, 1) := by decide +kernel
theorem dX11_clans_21 : decode cX11_clans 21 = .ok (.aload_n 0, 1) := by decide +kernel
theorem dX11_clans_22 : decode cX11_clans 22 = .ok (.iload_n 3, 1) := by decide +kernel
theorem dX11_clans_23 : decode cX11_clans 23 = .ok (.invokevirtual 433, 3) := by decide +kernel
theorem dX11_clans_26 : decode cX11_clans 26 = .ok (.aload_n 0, 1) := by decide +kernel
theorem dX11_clans_27 : decode cX11_clans 27 = .ok (.iload_n 1, 1) := by decide +kernel
theorem dX11_clans_28 : decode cX11_clans 28 = .ok (.invokevirtual 439, 3) := by decide +kernel
theorem dX11_clans_31 : decode cX11_clans 31 = .ok (.iconst 0, 1) := by decide +kernel
theorem dX11_clans_32 : decode cX11_clans 32 = .ok (.istore 4, 2) := by decide +kernel
theorem dX11_clans_34 : decode cX11_clans 34 = .ok (.iconst 0, 1) := by decide +kernel
theorem dX11_clans_35 : decode cX11_clans 35 = .ok (.istore 5, 2) := by decide +kernel
theorem dX11_clans_37 : decode cX11_clans 37 = .ok (.iconst 0, 1) := by decide +kernel
theorem dX11_clans_38 : decode cX11_clans 38 = .ok (.istore 6, 2) := by decide +kernel
theorem dX11_clans_40 : decode cX11_clans 40 = .ok (.iload 6, 2) := by decide +kernel
theorem dX11_clans_42 : decode cX11_clans 42 = .ok (.aload_n 0, 1) := by decide +kernel
theorem dX11_clans_43 : decode cX11_clans 43 = .ok (.getfield 427, 3) := by decide +kernel
theorem dX11_clans_46 : decode cX11_clans 46 = .ok (.if_icmp .ge 78, 3) := by decide +kernel
theorem dX11_clans_49 : decode cX11_clans 49 = .ok (.iconst 0, 1) := by decide +kernel
theorem dX11_clans_50 : decode cX11_clans 50 = .ok (.istore 7, 2) := by decide +kernel
theorem dX11_clans_52 : decode cX11_clans 52 = .ok (.iconst 0, 1) := by decide +kernel
theorem dX11_clans_53 : decode cX11_clans 53 = .ok (.istore 8, 2) := by decide +kernel
theorem dX11_clans_55 : decode cX11_clans 55 = .ok (.iload 8, 2) := by decide +kernel
theorem dX11_clans_57 : decode cX11_clans 57 = .ok (.aload_n 0, 1) := by decide +kernel
theorem dX11_clans_58 : decode cX11_clans 58 = .ok (.getfield 427, 3) := by decide +kernel
theorem dX11_clans_61 : decode cX11_clans 61 = .ok (.if_icmp .ge 31, 3) := by decide +kernel
theorem dX11_clans_64 : decode cX11_clans 64 = .ok (.iload 7, 2) := by decide +kernel
theorem dX11_clans_66 : decode cX11_clans 66 = .ok (.aload_n 0, 1) := by decide +kernel
theorem dX11_clans_67 : decode cX11_clans 67 = .ok (.getfield 132, 3) := by decide +kernel
theorem dX11_clans_70 : decode cX11_clans 70 = .ok (.iload 8, 2) := by decide +kernel
theorem dX11_clans_72 : decode cX11_clans 72 = .ok (.iaload, 1) := by decide +kernel
theorem dX11_clans_73 : decode cX11_clans 73 = .ok (.iload 6, 2) := by decide +kernel
theorem dX11_clans_75 : decode cX11_clans 75 = .ok (.if_icmp .ne 7, 3) := by decide +kernel
theorem dX11_clans_78 : decode cX11_clans 78 = .ok (.iconst 1, 1) := by decide +kernel
theorem dX11_clans_79 : decode cX11_clans 79 = .ok (.goto 4, 3) := by decide +kernel
theorem dX11_clans_82 : decode cX11_clans 82 = .ok (.iconst 0, 1) := by decide +kernel
theorem dX11_clans_83 : decode cX11_clans 83 = .ok (.iadd, 1) := by decide +kernel
theorem dX11_clans_84 : decode cX11_clans 84 = .ok (.istore 7, 2) := by decide +kernel
theorem dX11_clans_86 : decode cX11_clans 86 = .ok (.iinc 8 1, 3) := by decide +kernel
theorem dX11_clans_89 : decode cX11_clans 89 = .ok (.goto (-34), 3) := by decide +kernel
theorem dX11_clans_92 : decode cX11_clans 92 = .ok (.iload 4, 2) := by decide +kernel
theorem dX11_clans_94 : decode cX11_clans 94 = .ok (.iload 7, 2) := by decide +kernel
theorem dX11_clans_96 : decode cX11_clans 96 = .ok (.ifCond .le 7, 3) := by decide +kernel
theorem dX11_clans_99 : decode cX11_clans 99 = .ok (.iconst 1, 1) := by decide +kernel
theorem dX11_clans_100 : decode cX11_clans 100 = .ok (.goto 4, 3) := by decide +kernel
theorem dX11_clans_103 : decode cX11_clans 103 = .ok (.iconst 0, 1) := by decide +kernel
theorem dX11_clans_104 : decode cX11_clans 104 = .ok (.iadd, 1) := by decide +kernel
theorem dX11_clans_105 : decode cX11_clans 105 = .ok (.istore 4, 2) := by decide +kernel
theorem dX11_clans_107 : decode cX11_clans 107 = .ok (.iload 7, 2) := by decide +kernel
theorem dX11_clans_109 : decode cX11_clans 109 = .ok (.iload 5, 2) := by decide +kernel
theorem dX11_clans_111 : decode cX11_clans 111 = .ok (.if_icmp .le 7, 3) := by decide +kernel
theorem dX11_clans_114 : decode cX11_clans 114 = .ok (.iload 7, 2) := by decide +kernel
theorem dX11_clans_116 : decode cX11_clans 116 = .ok (.istore 5, 2) := by decide +kernel
theorem dX11_clans_118 : decode cX11_clans 118 = .ok (.iinc 6 1, 3) := by decide +kernel
theorem dX11_clans_121 : decode cX11_clans 121 = .ok (.goto (-81), 3) := by decide +kernel
theorem dX11_clans_124 : decode cX11_clans 124 = .ok (.iload_n 2, 1) := by decide +kernel
theorem dX11_clans_125 : decode cX11_clans 125 = .ok (.ifCond .ne 8, 3) := by decide +kernel
theorem dX11_clans_128 : decode cX11_clans 128 = .ok (.iload 4, 2) := by decide +kernel
theorem dX11_clans_130 : decode cX11_clans 130 = .ok (.goto 5, 3) := by decide +kernel
theorem dX11_clans_133 : decode cX11_clans 133 = .ok (.iload 5, 2) := by decide +kernel
theorem dX11_clans_135 : decode cX11_clans 135 = .ok (.ireturn, 1) := by decide +kernel
theorem dX11_origin_0 : decode cX11_origin 0 = .ok (.iload_n 1, 1) := by decide +kernel
theorem dX11_origin_1 : decode cX11_origin 1 = .ok (.iconst 0, 1) := by decide +kernel
theorem dX11_origin_2 : decode cX11_origin 2 = .ok (.iconst 1, 1) := by decide +kernel
theorem dX11_origin_3 : decode cX11_origin 3 = .ok (.invokestatic 345, 3) := by decide +kernel
theorem dX11_origin_6 : decode cX11_origin 6 = .ok (.ifCond .ne 5, 3) := by decide +kernel
theorem dX11_origin_9 : decode cX11_origin 9 = .ok (.iconst (-1), 1) := by decide +kernel
theorem dX11_origin_10 : decode cX11_origin 10 = .ok (.ireturn, 1) := by decide +kernel
theorem dX11_origin_11 : decode cX11_origin 11 = .ok (.iconst 0, 1) := by decide +kernel
theorem dX11_origin_12 : decode cX11_origin 12 = .ok (.istore_n 3, 1) := by decide +kernel
theorem dX11_origin_13 : decode cX11_origin 13 = .ok (.iconst 0, 1) := by decide +kernel
theorem dX11_origin_14 : decode cX11_origin 14 = .ok (.istore 4, 2) := by decide +kernel
theorem dX11_origin_16 : decode cX11_origin 16 = .ok (.iconst 0, 1) := by decide +kernel
theorem dX11_origin_17 : decode cX11_origin 17 = .ok (.istore 5, 2) := by decide +kernel
theorem dX11_origin_19 : decode cX11_origin 19 = .ok (.iload 5, 2) := by decide +kernel
theorem dX11_origin_21 : decode cX11_origin 21 = .ok (.aload_n 0, 1) := by decide +kernel
theorem dX11_origin_22 : decode cX11_origin 22 = .ok (.invokevirtual 342, 3) := by decide +kernel
theorem dX11_origin_25 : decode cX11_origin 25 = .ok (.if_icmp .ge 140, 3) := by decide +kernel
theorem dX11_origin_28 : decode cX11_origin 28 = .ok (.iconst 0, 1) := by decide +kernel
theorem dX11_origin_29 : decode cX11_origin 29 = .ok (.istore 6, 2) := by decide +kernel
theorem dX11_origin_31 : decode cX11_origin 31 = .ok (.iconst 0, 1) := by decide +kernel
theorem dX11_origin_32 : decode cX11_origin 32 = .ok (.istore 7, 2) := by decide +kernel
theorem dX11_origin_34 : decode cX11_origin 34 = .ok (.iconst 0, 1) := by decide +kernel
theorem dX11_origin_35 : decode cX11_origin 35 = .ok (.istore 8, 2) := by decide +kernel
theorem dX11_origin_37 : decode cX11_origin 37 = .ok (.iload 8, 2) := by decide +kernel
theorem dX11_origin_39 : decode cX11_origin 39 = .ok (.aload_n 0, 1) := by decide +kernel
theorem dX11_origin_40 : decode cX11_origin 40 = .ok (.getfield 377, 3) := by decide +kernel
theorem dX11_origin_43 : decode cX11_origin 43 = .ok (.if_icmp .ge 77, 3) := by decide +kernel
theorem dX11_origin_46 : decode cX11_origin 46 = .ok (.aload_n 0, 1) := by decide +kernel
theorem dX11_origin_47 : decode cX11_origin 47 = .ok (.iload 8, 2) := by decide +kernel
theorem dX11_origin_49 : decode cX11_origin 49 = .ok (.iconst 0, 1) := by decide +kernel
theorem dX11_origin_50 : decode cX11_origin 50 = .ok (.iload_n 2, 1) := by decide +kernel
theorem dX11_origin_51 : decode cX11_origin 51 = .ok (.invokevirtual 430, 3) := by decide +kernel
theorem dX11_origin_54 : decode cX11_origin 54 = .ok (.ifCond .ne 6, 3) := by decide +kernel
theorem dX11_origin_57 : decode cX11_origin 57 = .ok (.goto 57, 3) := by decide +kernel
theorem dX11_origin_60 : decode cX11_origin 60 = .ok (.aload_n 0, 1) := by decide +kernel
theorem dX11_origin_61 : decode cX11_origin 61 = .ok (.getfield 111, 3) := by decide +kernel
theorem dX11_origin_64 : decode cX11_origin 64 = .ok (.iload 8, 2) := by decide +kernel
theorem dX11_origin_66 : decode cX11_origin 66 = .ok (.iaload, 1) := by decide +kernel
theorem dX11_origin_67 : decode cX11_origin 67 = .ok (.iconst 1, 1) := by decide +kernel
theorem dX11_origin_68 : decode cX11_origin 68 = .ok (.if_icmp .ne 17, 3) := by decide +kernel
theorem dX11_origin_71 : decode cX11_origin 71 = .ok (.aload_n 0, 1) := by decide +kernel
theorem dX11_origin_72 : decode cX11_origin 72 = .ok (.aload_n 0, 1) := by decide +kernel
theorem dX11_origin_73 : decode cX11_origin 73 = .ok (.getfield 108, 3) := by decide +kernel
theorem dX11_origin_76 : decode cX11_origin 76 = .ok (.iload 8, 2) := by decide +kernel
theorem dX11_origin_78 : decode cX11_origin 78 = .ok (.iaload, 1) := by decide +kernel
theorem dX11_origin_79 : decode cX11_origin 79 = .ok (.invokevirtual 349, 3) := by decide +kernel
theorem dX11_origin_82 : decode cX11_origin 82 = .ok (.goto 10, 3) := by decide +kernel
theorem dX11_origin_85 : decode cX11_origin 85 = .ok (.aload_n 0, 1) := by decide +kernel
theorem dX11_origin_86 : decode cX11_origin 86 = .ok (.getfield 108, 3) := by decide +kernel
theorem dX11_origin_89 : decode cX11_origin 89 = .ok (.iload 8, 2) := by decide +kernel
theorem dX11_origin_91 : decode cX11_origin 91 = .ok (.iaload, 1) := by decide +kernel
theorem dX11_origin_92 : decode cX11_origin 92 = .ok (.istore 9, 2) := by decide +kernel
theorem dX11_origin_94 : decode cX11_origin 94 = .ok (.iload 9, 2) := by decide +kernel
theorem dX11_origin_96 : decode cX11_origin 96 = .ok (.iload 5, 2) := by decide +kernel
theorem dX11_origin_98 : decode cX11_origin 98 = .ok (.ishr, 1) := by decide +kernel
theorem dX11_origin_99 : decode cX11_origin 99 = .ok (.iconst 1, 1) := by decide +kernel
theorem dX11_origin_100 : decode cX11_origin 100 = .ok (.iand, 1) := by decide +kernel
theorem dX11_origin_101 : decode cX11_origin 101 = .ok (.iconst 1, 1) := by decide +kernel
theorem dX11_origin_102 : decode cX11_origin 102 = .ok (.if_icmp .ne 9, 3) := by decide +kernel
theorem dX11_origin_105 : decode cX11_origin 105 = .ok (.iinc 6 1, 3) := by decide +kernel
theorem dX11_origin_108 : decode cX11_origin 108 = .ok (.goto 6, 3) := by decide +kernel
theorem dX11_origin_111 : decode cX11_origin 111 = .ok (.iinc 7 1, 3) := by decide +kernel
theorem dX11_origin_114 : decode cX11_origin 114 = .ok (.iinc 8 1, 3) := by decide +kernel
theorem dX11_origin_117 : decode cX11_origin 117 = .ok (.goto (-80), 3) := by decide +kernel
theorem dX11_origin_120 : decode cX11_origin 120 = .ok (.iload 7, 2) := by decide +kernel
theorem dX11_origin_122 : decode cX11_origin 122 = .ok (.iconst 2, 1) := by decide +kernel
theorem dX11_origin_123 : decode cX11_origin 123 = .ok (.iload 6, 2) := by decide +kernel
theorem dX11_origin_125 : decode cX11_origin 125 = .ok (.imul, 1) := by decide +kernel
theorem dX11_origin_126 : decode cX11_origin 126 = .ok (.if_icmp .ge 10, 3) := by decide +kernel
theorem dX11_origin_129 : decode cX11_origin 129 = .ok (.iload_n 3, 1) := by decide +kernel
theorem dX11_origin_130 : decode cX11_origin 130 = .ok (.iconst 1, 1) := by decide +kernel
theorem dX11_origin_131 : decode cX11_origin 131 = .ok (.iload 5, 2) := by decide +kernel
theorem dX11_origin_133 : decode cX11_origin 133 = .ok (.ishl, 1) := by decide +kernel
theorem dX11_origin_134 : decode cX11_origin 134 = .ok (.ior, 1) := by decide +kernel
theorem dX11_origin_135 : decode cX11_origin 135 = .ok (.istore_n 3, 1) := by decide +kernel
theorem dX11_origin_136 : decode cX11_origin 136 = .ok (.iload 4, 2) := by decide +kernel
theorem dX11_origin_138 : decode cX11_origin 138 = .ok (.iload 7, 2) := by decide +kernel
theorem dX11_origin_140 : decode cX11_origin 140 = .ok (.iconst 2, 1) := by decide +kernel
theorem dX11_origin_141 : decode cX11_origin 141 = .ok (.iload 6, 2) := by decide +kernel
theorem dX11_origin_143 : decode cX11_origin 143 = .ok (.imul, 1) := by decide +kernel
theorem dX11_origin_144 : decode cX11_origin 144 = .ok (.if_icmp .ge 8, 3) := by decide +kernel
theorem dX11_origin_147 : decode cX11_origin 147 = .ok (.iload 7, 2) := by decide +kernel
theorem dX11_origin_149 : decode cX11_origin 149 = .ok (.goto 7, 3) := by decide +kernel
theorem dX11_origin_152 : decode cX11_origin 152 = .ok (.iconst 2, 1) := by decide +kernel
theorem dX11_origin_153 : decode cX11_origin 153 = .ok (.iload 6, 2) := by decide +kernel
theorem dX11_origin_155 : decode cX11_origin 155 = .ok (.imul, 1) := by decide +kernel
theorem dX11_origin_156 : decode cX11_origin 156 = .ok (.iadd, 1) := by decide +kernel
theorem dX11_origin_157 : decode cX11_origin 157 = .ok (.istore 4, 2) := by decide +kernel
theorem dX11_origin_159 : decode cX11_origin 159 = .ok (.iinc 5 1, 3) := by decide +kernel
theorem dX11_origin_162 : decode cX11_origin 162 = .ok (.goto (-143), 3) := by decide +kernel
theorem dX11_origin_165 : decode cX11_origin 165 = .ok (.iload_n 1, 1) := by decide +kernel
theorem dX11_origin_166 : decode cX11_origin 166 = .ok (.ifCond .ne 7, 3) := by decide +kernel
theorem dX11_origin_169 : decode cX11_origin 169 = .ok (.iload_n 3, 1) := by decide +kernel
theorem dX11_origin_170 : decode cX11_origin 170 = .ok (.goto 5, 3) := by decide +kernel
theorem dX11_origin_173 : decode cX11_origin 173 = .ok (.iload 4, 2) := by decide +kernel
theorem dX11_origin_175 : decode cX11_origin 175 = .ok (.ireturn, 1) := by decide +kernel
theorem dX11_isFalse_0 : decode cX11_isFalse 0 = .ok (.aload_n 0, 1) := by decide +kernel
theorem dX11_isFalse_1 : decode cX11_isFalse 1 = .ok (.aload_n 0, 1) := by decide +kernel
theorem dX11_isFalse_2 : decode cX11_isFalse 2 = .ok (.getfield 111, 3) := by decide +kernel
theorem dX11_isFalse_5 : decode cX11_isFalse 5 = .ok (.iload_n 1, 1) := by decide +kernel
theorem dX11_isFalse_6 : decode cX11_isFalse 6 = .ok (.iaload, 1) := by decide +kernel
theorem dX11_isFalse_7 : decode cX11_isFalse 7 = .ok (.invokevirtual 383, 3) := by decide +kernel
theorem dX11_isFalse_10 : decode cX11_isFalse 10 = .ok (.ifCond .ne 5, 3) := by decide +kernel
theorem dX11_isFalse_13 : decode cX11_isFalse 13 = .ok (.iconst 1, 1) := by decide +kernel
theorem dX11_isFalse_14 : decode cX11_isFalse 14 = .ok (.ireturn, 1) := by decide +kernel
theorem dX11_isFalse_15 : decode cX11_isFalse 15 = .ok (.aload_n 0, 1) := by decide +kernel
theorem dX11_isFalse_16 : decode cX11_isFalse 16 = .ok (.getfield 108, 3) := by decide +kernel
theorem dX11_isFalse_19 : decode cX11_isFalse 19 = .ok (.iload_n 1, 1) := by decide +kernel
theorem dX11_isFalse_20 : decode cX11_isFalse 20 = .ok (.iaload, 1) := by decide +kernel
theorem dX11_isFalse_21 : decode cX11_isFalse 21 = .ok (.aload_n 0, 1) := by decide +kernel
theorem dX11_isFalse_22 : decode cX11_isFalse 22 = .ok (.aload_n 0, 1) := by decide +kernel
theorem dX11_isFalse_23 : decode cX11_isFalse 23 = .ok (.aload_n 0, 1) := by decide +kernel
theorem dX11_isFalse_24 : decode cX11_isFalse 24 = .ok (.getfield 111, 3) := by decide +kernel
theorem dX11_isFalse_27 : decode cX11_isFalse 27 = .ok (.iload_n 1, 1) := by decide +kernel
theorem dX11_isFalse_28 : decode cX11_isFalse 28 = .ok (.iaload, 1) := by decide +kernel
theorem dX11_isFalse_29 : decode cX11_isFalse 29 = .ok (.invokevirtual 392, 3) := by decide +kernel
theorem dX11_isFalse_32 : decode cX11_isFalse 32 = .ok (.invokevirtual 349, 3) := by decide +kernel
theorem dX11_isFalse_35 : decode cX11_isFalse 35 = .ok (.iconst (-1), 1) := by decide +kernel
theorem dX11_isFalse_36 : decode cX11_isFalse 36 = .ok (.ixor, 1) := by decide +kernel
theorem dX11_isFalse_37 : decode cX11_isFalse 37 = .ok (.iand, 1) := by decide +kernel
theorem dX11_isFalse_38 : decode cX11_isFalse 38 = .ok (.ifCond .ne 27, 3) := by decide +kernel
theorem dX11_isFalse_41 : decode cX11_isFalse 41 = .ok (.aload_n 0, 1) := by decide +kernel
theorem dX11_isFalse_42 : decode cX11_isFalse 42 = .ok (.getfield 114, 3) := by decide +kernel
theorem dX11_isFalse_45 : decode cX11_isFalse 45 = .ok (.iload_n 1, 1) := by decide +kernel
theorem dX11_isFalse_46 : decode cX11_isFalse 46 = .ok (.iaload, 1) := by decide +kernel
theorem dX11_isFalse_47 : decode cX11_isFalse 47 = .ok (.aload_n 0, 1) := by decide +kernel
theorem dX11_isFalse_48 : decode cX11_isFalse 48 = .ok (.getfield 77, 3) := by decide +kernel
theorem dX11_isFalse_51 : decode cX11_isFalse 51 = .ok (.iconst 4, 1) := by decide +kernel
theorem dX11_isFalse_52 : decode cX11_isFalse 52 = .ok (.aload_n 0, 1) := by decide +kernel
theorem dX11_isFalse_53 : decode cX11_isFalse 53 = .ok (.getfield 111, 3) := by decide +kernel
theorem dX11_isFalse_56 : decode cX11_isFalse 56 = .ok (.iload_n 1, 1) := by decide +kernel
theorem dX11_isFalse_57 : decode cX11_isFalse 57 = .ok (.iaload, 1) := by decide +kernel
theorem dX11_isFalse_58 : decode cX11_isFalse 58 = .ok (.imul, 1) := by decide +kernel
theorem dX11_isFalse_59 : decode cX11_isFalse 59 = .ok (.iconst 3, 1) := by decide +kernel
theorem dX11_isFalse_60 : decode cX11_isFalse 60 = .ok (.iadd, 1) := by decide +kernel
theorem dX11_isFalse_61 : decode cX11_isFalse 61 = .ok (.iaload, 1) := by decide +kernel
theorem dX11_isFalse_62 : decode cX11_isFalse 62 = .ok (.if_icmp .ge 7, 3) := by decide +kernel
theorem dX11_isFalse_65 : decode cX11_isFalse 65 = .ok (.iconst 1, 1) := by decide +kernel
theorem dX11_isFalse_66 : decode cX11_isFalse 66 = .ok (.goto 4, 3) := by decide +kernel
theorem dX11_isFalse_69 : decode cX11_isFalse 69 = .ok (.iconst 0, 1) := by decide +kernel
theorem dX11_isFalse_70 : decode cX11_isFalse 70 = .ok (.ireturn, 1) := by decide +kernel
theorem dX11_falses_0 : decode cX11_falses 0 = .ok (.aload_n 0, 1) := by decide +kernel
theorem dX11_falses_1 : decode cX11_falses 1 = .ok (.iconst 0, 1) := by decide +kernel
theorem dX11_falses_2 : decode cX11_falses 2 = .ok (.putfield 380, 3) := by decide +kernel
theorem dX11_falses_5 : decode cX11_falses 5 = .ok (.iconst 0, 1) := by decide +kernel
theorem dX11_falses_6 : decode cX11_falses 6 = .ok (.istore_n 2, 1) := by decide +kernel
theorem dX11_falses_7 : decode cX11_falses 7 = .ok (.iconst 0, 1) := by decide +kernel
theorem dX11_falses_8 : decode cX11_falses 8 = .ok (.istore_n 3, 1) := by decide +kernel
theorem dX11_falses_9 : decode cX11_falses 9 = .ok (.iload_n 3, 1) := by decide +kernel
theorem dX11_falses_10 : decode cX11_falses 10 = .ok (.aload_n 0, 1) := by decide +kernel
theorem dX11_falses_11 : decode cX11_falses 11 = .ok (.getfield 377, 3) := by decide +kernel
theorem dX11_falses_14 : decode cX11_falses 14 = .ok (.if_icmp .ge 65, 3) := by decide +kernel
theorem dX11_falses_17 : decode cX11_falses 17 = .ok (.aload_n 0, 1) := by decide +kernel
theorem dX11_falses_18 : decode cX11_falses 18 = .ok (.iload_n 3, 1) := by decide +kernel
theorem dX11_falses_19 : decode cX11_falses 19 = .ok (.iconst 1, 1) := by decide +kernel
theorem dX11_falses_20 : decode cX11_falses 20 = .ok (.iload_n 1, 1) := by decide +kernel
theorem dX11_falses_21 : decode cX11_falses 21 = .ok (.invokevirtual 430, 3) := by decide +kernel
theorem dX11_falses_24 : decode cX11_falses 24 = .ok (.ifCond .eq 49, 3) := by decide +kernel
theorem dX11_falses_27 : decode cX11_falses 27 = .ok (.aload_n 0, 1) := by decide +kernel
theorem dX11_falses_28 : decode cX11_falses 28 = .ok (.iload_n 3, 1) := by decide +kernel
theorem dX11_falses_29 : decode cX11_falses 29 = .ok (.invokevirtual 442, 3) := by decide +kernel
theorem dX11_falses_32 : decode cX11_falses 32 = .ok (.ifCond .ne 6, 3) := by decide +kernel
theorem dX11_falses_35 : decode cX11_falses 35 = .ok (.goto 38, 3) := by decide +kernel
theorem dX11_falses_38 : decode cX11_falses 38 = .ok (.iinc 2 1, 3) := by decide +kernel
theorem dX11_falses_41 : decode cX11_falses 41 = .ok (.aload_n 0, 1) := by decide +kernel
theorem dX11_falses_42 : decode cX11_falses 42 = .ok (.getfield 380, 3) := by decide +kernel
theorem dX11_falses_45 : decode cX11_falses 45 = .ok (.bipush 8, 2) := by decide +kernel
theorem dX11_falses_47 : decode cX11_falses 47 = .ok (.if_icmp .ne 6, 3) := by decide +kernel
theorem dX11_falses_50 : decode cX11_falses 50 = .ok (.goto 23, 3) := by decide +kernel
theorem dX11_falses_53 : decode cX11_falses 53 = .ok (.aload_n 0, 1) := by decide +kernel
theorem dX11_falses_54 : decode cX11_falses 54 = .ok (.getfield 92, 3) := by decide +kernel
theorem dX11_falses_57 : decode cX11_falses 57 = .ok (.aload_n 0, 1) := by decide +kernel
theorem dX11_falses_58 : decode cX11_falses 58 = .ok (.getfield 380, 3) := by decide +kernel
theorem dX11_falses_61 : decode cX11_falses 61 = .ok (.iload_n 3, 1) := by decide +kernel
theorem dX11_falses_62 : decode cX11_falses 62 = .ok (.iastore, 1) := by decide +kernel
theorem dX11_falses_63 : decode cX11_falses 63 = .ok (.aload_n 0, 1) := by decide +kernel
theorem dX11_falses_64 : decode cX11_falses 64 = .ok (.dup, 1) := by decide +kernel
theorem dX11_falses_65 : decode cX11_falses 65 = .ok (.getfield 380, 3) := by decide +kernel
theorem dX11_falses_68 : decode cX11_falses 68 = .ok (.iconst 1, 1) := by decide +kernel
theorem dX11_falses_69 : decode cX11_falses 69 = .ok (.iadd, 1) := by decide +kernel
theorem dX11_falses_70 : decode cX11_falses 70 = .ok (.putfield 380, 3) := by decide +kernel
theorem dX11_falses_73 : decode cX11_falses 73 = .ok (.iinc 3 1, 3) := by decide +kernel
theorem dX11_falses_76 : decode cX11_falses 76 = .ok (.goto (-67), 3) := by decide +kernel
theorem dX11_falses_79 : decode cX11_falses 79 = .ok (.iload_n 2, 1) := by decide +kernel
theorem dX11_falses_80 : decode cX11_falses 80 = .ok (.ireturn, 1) := by decide +kernel
theorem dX11_span_0 : decode cX11_span 0 = .ok (.iload_n 1, 1) := by decide +kernel
theorem dX11_span_1 : decode cX11_span 1 = .ok (.iconst 0, 1) := by decide +kernel
theorem dX11_span_2 : decode cX11_span 2 = .ok (.aload_n 0, 1) := by decide +kernel
theorem dX11_span_3 : decode cX11_span 3 = .ok (.invokevirtual 342, 3) := by decide +kernel
theorem dX11_span_6 : decode cX11_span 6 = .ok (.iconst 1, 1) := by decide +kernel
theorem dX11_span_7 : decode cX11_span 7 = .ok (.isub, 1) := by decide +kernel
theorem dX11_span_8 : decode cX11_span 8 = .ok (.invokestatic 345, 3) := by decide +kernel
theorem dX11_span_11 : decode cX11_span 11 = .ok (.ifCond .eq 12, 3) := by decide +kernel
theorem dX11_span_14 : decode cX11_span 14 = .ok (.iload_n 2, 1) := by decide +kernel
theorem dX11_span_15 : decode cX11_span 15 = .ok (.iconst 0, 1) := by decide +kernel
theorem dX11_span_16 : decode cX11_span 16 = .ok (.iconst 2, 1) := by decide +kernel
theorem dX11_span_17 : decode cX11_span 17 = .ok (.invokestatic 345, 3) := by decide +kernel
theorem dX11_span_20 : decode cX11_span 20 = .ok (.ifCond .ne 5, 3) := by decide +kernel
theorem dX11_span_23 : decode cX11_span 23 = .ok (.iconst (-1), 1) := by decide +kernel
theorem dX11_span_24 : decode cX11_span 24 = .ok (.ireturn, 1) := by decide +kernel
theorem dX11_span_25 : decode cX11_span 25 = .ok (.iconst 0, 1) := by decide +kernel
theorem dX11_span_26 : decode cX11_span 26 = .ok (.istore 4, 2) := by decide +kernel
theorem dX11_span_28 : decode cX11_span 28 = .ok (.sipush 999, 3) := by decide +kernel
theorem dX11_span_31 : decode cX11_span 31 = .ok (.istore 5, 2) := by decide +kernel
theorem dX11_span_33 : decode cX11_span 33 = .ok (.iconst 0, 1) := by decide +kernel
theorem dX11_span_34 : decode cX11_span 34 = .ok (.istore 6, 2) := by decide +kernel
theorem dX11_span_36 : decode cX11_span 36 = .ok (.iload 6, 2) := by decide +kernel
theorem dX11_span_38 : decode cX11_span 38 = .ok (.aload_n 0, 1) := by decide +kernel
theorem dX11_span_39 : decode cX11_span 39 = .ok (.getfield 377, 3) := by decide +kernel
theorem dX11_span_42 : decode cX11_span 42 = .ok (.if_icmp .ge 101, 3) := by decide +kernel
theorem dX11_span_45 : decode cX11_span 45 = .ok (.aload_n 0, 1) := by decide +kernel
theorem dX11_span_46 : decode cX11_span 46 = .ok (.iload 6, 2) := by decide +kernel
theorem dX11_span_48 : decode cX11_span 48 = .ok (.iconst 2, 1) := by decide +kernel
theorem dX11_span_49 : decode cX11_span 49 = .ok (.iload_n 3, 1) := by decide +kernel
theorem dX11_span_50 : decode cX11_span 50 = .ok (.invokevirtual 430, 3) := by decide +kernel
theorem dX11_span_53 : decode cX11_span 53 = .ok (.ifCond .eq 84, 3) := by decide +kernel
theorem dX11_span_56 : decode cX11_span 56 = .ok (.aload_n 0, 1) := by decide +kernel
theorem dX11_span_57 : decode cX11_span 57 = .ok (.getfield 108, 3) := by decide +kernel
theorem dX11_span_60 : decode cX11_span 60 = .ok (.iload 6, 2) := by decide +kernel
theorem dX11_span_62 : decode cX11_span 62 = .ok (.iaload, 1) := by decide +kernel
theorem dX11_span_63 : decode cX11_span 63 = .ok (.iload_n 1, 1) := by decide +kernel
theorem dX11_span_64 : decode cX11_span 64 = .ok (.if_icmp .eq 6, 3) := by decide +kernel
theorem dX11_span_67 : decode cX11_span 67 = .ok (.goto 70, 3) := by decide +kernel
theorem dX11_span_70 : decode cX11_span 70 = .ok (.aload_n 0, 1) := by decide +kernel
theorem dX11_span_71 : decode cX11_span 71 = .ok (.getfield 114, 3) := by decide +kernel
theorem dX11_span_74 : decode cX11_span 74 = .ok (.iload 6, 2) := by decide +kernel
theorem dX11_span_76 : decode cX11_span 76 = .ok (.iaload, 1) := by decide +kernel
theorem dX11_span_77 : decode cX11_span 77 = .ok (.iconst 1, 1) := by decide +kernel
theorem dX11_span_78 : decode cX11_span 78 = .ok (.if_icmp .ne 28, 3) := by decide +kernel
theorem dX11_span_81 : decode cX11_span 81 = .ok (.aload_n 0, 1) := by decide +kernel
theorem dX11_span_82 : decode cX11_span 82 = .ok (.getfield 111, 3) := by decide +kernel
theorem dX11_span_85 : decode cX11_span 85 = .ok (.iload 6, 2) := by decide +kernel
theorem dX11_span_87 : decode cX11_span 87 = .ok (.iaload, 1) := by decide +kernel
theorem dX11_span_88 : decode cX11_span 88 = .ok (.iconst 1, 1) := by decide +kernel
theorem dX11_span_89 : decode cX11_span 89 = .ok (.iadd, 1) := by decide +kernel
theorem dX11_span_90 : decode cX11_span 90 = .ok (.iload 4, 2) := by decide +kernel
theorem dX11_span_92 : decode cX11_span 92 = .ok (.if_icmp .le 14, 3) := by decide +kernel
theorem dX11_span_95 : decode cX11_span 95 = .ok (.aload_n 0, 1) := by decide +kernel
theorem dX11_span_96 : decode cX11_span 96 = .ok (.getfield 111, 3) := by decide +kernel
theorem dX11_span_99 : decode cX11_span 99 = .ok (.iload 6, 2) := by decide +kernel
theorem dX11_span_101 : decode cX11_span 101 = .ok (.iaload, 1) := by decide +kernel
theorem dX11_span_102 : decode cX11_span 102 = .ok (.iconst 1, 1) := by decide +kernel
theorem dX11_span_103 : decode cX11_span 103 = .ok (.iadd, 1) := by decide +kernel
theorem dX11_span_104 : decode cX11_span 104 = .ok (.istore 4, 2) := by decide +kernel
theorem dX11_span_106 : decode cX11_span 106 = .ok (.aload_n 0, 1) := by decide +kernel
theorem dX11_span_107 : decode cX11_span 107 = .ok (.getfield 114, 3) := by decide +kernel
theorem dX11_span_110 : decode cX11_span 110 = .ok (.iload 6, 2) := by decide +kernel
theorem dX11_span_112 : decode cX11_span 112 = .ok (.iaload, 1) := by decide +kernel
theorem dX11_span_113 : decode cX11_span 113 = .ok (.ifCond .ne 24, 3) := by decide +kernel
theorem dX11_span_116 : decode cX11_span 116 = .ok (.aload_n 0, 1) := by decide +kernel
theorem dX11_span_117 : decode cX11_span 117 = .ok (.getfield 111, 3) := by decide +kernel
theorem dX11_span_120 : decode cX11_span 120 = .ok (.iload 6, 2) := by decide +kernel
theorem dX11_span_122 : decode cX11_span 122 = .ok (.iaload, 1) := by decide +kernel
theorem dX11_span_123 : decode cX11_span 123 = .ok (.iload 5, 2) := by decide +kernel
theorem dX11_span_125 : decode cX11_span 125 = .ok (.if_icmp .ge 12, 3) := by decide +kernel
theorem dX11_span_128 : decode cX11_span 128 = .ok (.aload_n 0, 1) := by decide +kernel
theorem dX11_span_129 : decode cX11_span 129 = .ok (.getfield 111, 3) := by decide +kernel
theorem dX11_span_132 : decode cX11_span 132 = .ok (.iload 6, 2) := by decide +kernel
theorem dX11_span_134 : decode cX11_span 134 = .ok (.iaload, 1) := by decide +kernel
theorem dX11_span_135 : decode cX11_span 135 = .ok (.istore 5, 2) := by decide +kernel
theorem dX11_span_137 : decode cX11_span 137 = .ok (.iinc 6 1, 3) := by decide +kernel
theorem dX11_span_140 : decode cX11_span 140 = .ok (.goto (-104), 3) := by decide +kernel
theorem dX11_span_143 : decode cX11_span 143 = .ok (.iload_n 2, 1) := by decide +kernel
theorem dX11_span_144 : decode cX11_span 144 = .ok (.iconst 2, 1) := by decide +kernel
theorem dX11_span_145 : decode cX11_span 145 = .ok (.if_icmp .ne 22, 3) := by decide +kernel
theorem dX11_span_148 : decode cX11_span 148 = .ok (.iload 5, 2) := by decide +kernel
theorem dX11_span_150 : decode cX11_span 150 = .ok (.iload 4, 2) := by decide +kernel
theorem dX11_span_152 : decode cX11_span 152 = .ok (.if_icmp .ge 7, 3) := by decide +kernel
theorem dX11_span_155 : decode cX11_span 155 = .ok (.iconst 0, 1) := by decide +kernel
theorem dX11_span_156 : decode cX11_span 156 = .ok (.goto 10, 3) := by decide +kernel
theorem dX11_span_159 : decode cX11_span 159 = .ok (.iload 5, 2) := by decide +kernel
theorem dX11_span_161 : decode cX11_span 161 = .ok (.iload 4, 2) := by decide +kernel
theorem dX11_span_163 : decode cX11_span 163 = .ok (.isub, 1) := by decide +kernel
theorem dX11_span_164 : decode cX11_span 164 = .ok (.iconst 1, 1) := by decide +kernel
theorem dX11_span_165 : decode cX11_span 165 = .ok (.iadd, 1) := by decide +kernel
theorem dX11_span_166 : decode cX11_span 166 = .ok (.ireturn, 1) := by decide +kernel
theorem dX11_span_167 : decode cX11_span 167 = .ok (.iload 5, 2) := by decide +kernel
theorem dX11_span_169 : decode cX11_span 169 = .ok (.iload 4, 2) := by decide +kernel
theorem dX11_span_171 : decode cX11_span 171 = .ok (.if_icmp .ge 7, 3) := by decide +kernel
theorem dX11_span_174 : decode cX11_span 174 = .ok (.iconst (-1), 1) := by decide +kernel
theorem dX11_span_175 : decode cX11_span 175 = .ok (.goto 14, 3) := by decide +kernel
theorem dX11_span_178 : decode cX11_span 178 = .ok (.iload_n 2, 1) := by decide +kernel
theorem dX11_span_179 : decode cX11_span 179 = .ok (.ifCond .ne 8, 3) := by decide +kernel
theorem dX11_span_182 : decode cX11_span 182 = .ok (.iload 4, 2) := by decide +kernel
theorem dX11_span_184 : decode cX11_span 184 = .ok (.goto 5, 3) := by decide +kernel
theorem dX11_span_187 : decode cX11_span 187 = .ok (.iload 5, 2) := by decide +kernel
theorem dX11_span_189 : decode cX11_span 189 = .ok (.ireturn, 1) := by decide +kernel
theorem dX11_layLinks_0 : decode cX11_layLinks 0 = .ok (.iconst 0, 1) := by decide +kernel
theorem dX11_layLinks_1 : decode cX11_layLinks 1 = .ok (.istore_n 2, 1) := by decide +kernel
theorem dX11_layLinks_2 : decode cX11_layLinks 2 = .ok (.iload_n 2, 1) := by decide +kernel
theorem dX11_layLinks_3 : decode cX11_layLinks 3 = .ok (.bipush 8, 2) := by decide +kernel
theorem dX11_layLinks_5 : decode cX11_layLinks 5 = .ok (.if_icmp .ge 23, 3) := by decide +kernel
theorem dX11_layLinks_8 : decode cX11_layLinks 8 = .ok (.aload_n 0, 1) := by decide +kernel
theorem dX11_layLinks_9 : decode cX11_layLinks 9 = .ok (.getfield 135, 3) := by decide +kernel
theorem dX11_layLinks_12 : decode cX11_layLinks 12 = .ok (.iload_n 2, 1) := by decide +kernel
theorem dX11_layLinks_13 : decode cX11_layLinks 13 = .ok (.iconst 0, 1) := by decide +kernel
theorem dX11_layLinks_14 : decode cX11_layLinks 14 = .ok (.iastore, 1) := by decide +kernel
theorem dX11_layLinks_15 : decode cX11_layLinks 15 = .ok (.aload_n 0, 1) := by decide +kernel
theorem dX11_layLinks_16 : decode cX11_layLinks 16 = .ok (.getfield 138, 3) := by decide +kernel
theorem dX11_layLinks_19 : decode cX11_layLinks 19 = .ok (.iload_n 2, 1) := by decide +kernel
theorem dX11_layLinks_20 : decode cX11_layLinks 20 = .ok (.iload_n 2, 1) := by decide +kernel
theorem dX11_layLinks_21 : decode cX11_layLinks 21 = .ok (.iastore, 1) := by decide +kernel
theorem dX11_layLinks_22 : decode cX11_layLinks 22 = .ok (.iinc 2 1, 3) := by decide +kernel
theorem dX11_layLinks_25 : decode cX11_layLinks 25 = .ok (.goto (-23), 3) := by decide +kernel
theorem dX11_layLinks_28 : decode cX11_layLinks 28 = .ok (.iconst 0, 1) := by decide +kernel
theorem dX11_layLinks_29 : decode cX11_layLinks 29 = .ok (.istore_n 2, 1) := by decide +kernel
theorem dX11_layLinks_30 : decode cX11_layLinks 30 = .ok (.iload_n 2, 1) := by decide +kernel
theorem dX11_layLinks_31 : decode cX11_layLinks 31 = .ok (.aload_n 0, 1) := by decide +kernel
theorem dX11_layLinks_32 : decode cX11_layLinks 32 = .ok (.getfield 377, 3) := by decide +kernel
theorem dX11_layLinks_35 : decode cX11_layLinks 35 = .ok (.if_icmp .ge 166, 3) := by decide +kernel
theorem dX11_layLinks_38 : decode cX11_layLinks 38 = .ok (.aload_n 0, 1) := by decide +kernel
theorem dX11_layLinks_39 : decode cX11_layLinks 39 = .ok (.iload_n 2, 1) := by decide +kernel
theorem dX11_layLinks_40 : decode cX11_layLinks 40 = .ok (.iconst 3, 1) := by decide +kernel
theorem dX11_layLinks_41 : decode cX11_layLinks 41 = .ok (.iload_n 1, 1) := by decide +kernel
theorem dX11_layLinks_42 : decode cX11_layLinks 42 = .ok (.invokevirtual 430, 3) := by decide +kernel
theorem dX11_layLinks_45 : decode cX11_layLinks 45 = .ok (.ifCond .ne 6, 3) := by decide +kernel
theorem dX11_layLinks_48 : decode cX11_layLinks 48 = .ok (.goto 147, 3) := by decide +kernel
theorem dX11_layLinks_51 : decode cX11_layLinks 51 = .ok (.aload_n 0, 1) := by decide +kernel
theorem dX11_layLinks_52 : decode cX11_layLinks 52 = .ok (.getfield 108, 3) := by decide +kernel
theorem dX11_layLinks_55 : decode cX11_layLinks 55 = .ok (.iload_n 2, 1) := by decide +kernel
theorem dX11_layLinks_56 : decode cX11_layLinks 56 = .ok (.iaload, 1) := by decide +kernel
theorem dX11_layLinks_57 : decode cX11_layLinks 57 = .ok (.istore_n 3, 1) := by decide +kernel
theorem dX11_layLinks_58 : decode cX11_layLinks 58 = .ok (.aload_n 0, 1) := by decide +kernel
theorem dX11_layLinks_59 : decode cX11_layLinks 59 = .ok (.getfield 111, 3) := by decide +kernel
theorem dX11_layLinks_62 : decode cX11_layLinks 62 = .ok (.iload_n 2, 1) := by decide +kernel
theorem dX11_layLinks_63 : decode cX11_layLinks 63 = .ok (.iaload, 1) := by decide +kernel
theorem dX11_layLinks_64 : decode cX11_layLinks 64 = .ok (.istore 4, 2) := by decide +kernel
theorem dX11_layLinks_66 : decode cX11_layLinks 66 = .ok (.aload_n 0, 1) := by decide +kernel
theorem dX11_layLinks_67 : decode cX11_layLinks 67 = .ok (.getfield 138, 3) := by decide +kernel
theorem dX11_layLinks_70 : decode cX11_layLinks 70 = .ok (.iload_n 3, 1) := by decide +kernel
theorem dX11_layLinks_71 : decode cX11_layLinks 71 = .ok (.iaload, 1) := by decide +kernel
theorem dX11_layLinks_72 : decode cX11_layLinks 72 = .ok (.aload_n 0, 1) := by decide +kernel
theorem dX11_layLinks_73 : decode cX11_layLinks 73 = .ok (.getfield 138, 3) := by decide +kernel
theorem dX11_layLinks_76 : decode cX11_layLinks 76 = .ok (.iload 4, 2) := by decide +kernel
theorem dX11_layLinks_78 : decode cX11_layLinks 78 = .ok (.iaload, 1) := by decide +kernel
theorem dX11_layLinks_79 : decode cX11_layLinks 79 = .ok (.if_icmp .ne 28, 3) := by decide +kernel
theorem dX11_layLinks_82 : decode cX11_layLinks 82 = .ok (.aload_n 0, 1) := by decide +kernel
theorem dX11_layLinks_83 : decode cX11_layLinks 83 = .ok (.getfield 135, 3) := by decide +kernel
theorem dX11_layLinks_86 : decode cX11_layLinks 86 = .ok (.iload_n 3, 1) := by decide +kernel
theorem dX11_layLinks_87 : decode cX11_layLinks 87 = .ok (.iaload, 1) := by decide +kernel
theorem dX11_layLinks_88 : decode cX11_layLinks 88 = .ok (.aload_n 0, 1) := by decide +kernel
theorem dX11_layLinks_89 : decode cX11_layLinks 89 = .ok (.getfield 135, 3) := by decide +kernel
theorem dX11_layLinks_92 : decode cX11_layLinks 92 = .ok (.iload 4, 2) := by decide +kernel
theorem dX11_layLinks_94 : decode cX11_layLinks 94 = .ok (.iaload, 1) := by decide +kernel
theorem dX11_layLinks_95 : decode cX11_layLinks 95 = .ok (.ixor, 1) := by decide +kernel
theorem dX11_layLinks_96 : decode cX11_layLinks 96 = .ok (.aload_n 0, 1) := by decide +kernel
theorem dX11_layLinks_97 : decode cX11_layLinks 97 = .ok (.getfield 114, 3) := by decide +kernel
theorem dX11_layLinks_100 : decode cX11_layLinks 100 = .ok (.iload_n 2, 1) := by decide +kernel
theorem dX11_layLinks_101 : decode cX11_layLinks 101 = .ok (.iaload, 1) := by decide +kernel
theorem dX11_layLinks_102 : decode cX11_layLinks 102 = .ok (.if_icmp .eq 93, 3) := by decide +kernel
theorem dX11_layLinks_105 : decode cX11_layLinks 105 = .ok (.iconst 0, 1) := by decide +kernel
theorem dX11_layLinks_106 : decode cX11_layLinks 106 = .ok (.ireturn, 1) := by decide +kernel
theorem dX11_layLinks_107 : decode cX11_layLinks 107 = .ok (.aload_n 0, 1) := by decide +kernel
theorem dX11_layLinks_108 : decode cX11_layLinks 108 = .ok (.getfield 138, 3) := by decide +kernel
theorem dX11_layLinks_111 : decode cX11_layLinks 111 = .ok (.iload 4, 2) := by decide +kernel
theorem dX11_layLinks_113 : decode cX11_layLinks 113 = .ok (.iaload, 1) := by decide +kernel
theorem dX11_layLinks_114 : decode cX11_layLinks 114 = .ok (.istore 5, 2) := by decide +kernel
theorem dX11_layLinks_116 : decode cX11_layLinks 116 = .ok (.aload_n 0, 1) := by decide +kernel
theorem dX11_layLinks_117 : decode cX11_layLinks 117 = .ok (.getfield 135, 3) := by decide +kernel
theorem dX11_layLinks_120 : decode cX11_layLinks 120 = .ok (.iload_n 3, 1) := by decide +kernel
theorem dX11_layLinks_121 : decode cX11_layLinks 121 = .ok (.iaload, 1) := by decide +kernel
theorem dX11_layLinks_122 : decode cX11_layLinks 122 = .ok (.aload_n 0, 1) := by decide +kernel
theorem dX11_layLinks_123 : decode cX11_layLinks 123 = .ok (.getfield 135, 3) := by decide +kernel
theorem dX11_layLinks_126 : decode cX11_layLinks 126 = .ok (.iload 4, 2) := by decide +kernel
theorem dX11_layLinks_128 : decode cX11_layLinks 128 = .ok (.iaload, 1) := by decide +kernel
theorem dX11_layLinks_129 : decode cX11_layLinks 129 = .ok (.ixor, 1) := by decide +kernel
theorem dX11_layLinks_130 : decode cX11_layLinks 130 = .ok (.aload_n 0, 1) := by decide +kernel
theorem dX11_layLinks_131 : decode cX11_layLinks 131 = .ok (.getfield 114, 3) := by decide +kernel
theorem dX11_layLinks_134 : decode cX11_layLinks 134 = .ok (.iload_n 2, 1) := by decide +kernel
theorem dX11_layLinks_135 : decode cX11_layLinks 135 = .ok (.iaload, 1) := by decide +kernel
theorem dX11_layLinks_136 : decode cX11_layLinks 136 = .ok (.ixor, 1) := by decide +kernel
theorem dX11_layLinks_137 : decode cX11_layLinks 137 = .ok (.istore 6, 2) := by decide +kernel
theorem dX11_layLinks_139 : decode cX11_layLinks 139 = .ok (.iconst 0, 1) := by decide +kernel
theorem dX11_layLinks_140 : decode cX11_layLinks 140 = .ok (.istore 7, 2) := by decide +kernel
theorem dX11_layLinks_142 : decode cX11_layLinks 142 = .ok (.iload 7, 2) := by decide +kernel
theorem dX11_layLinks_144 : decode cX11_layLinks 144 = .ok (.bipush 8, 2) := by decide +kernel
theorem dX11_layLinks_146 : decode cX11_layLinks 146 = .ok (.if_icmp .ge 49, 3) := by decide +kernel
theorem dX11_layLinks_149 : decode cX11_layLinks 149 = .ok (.aload_n 0, 1) := by decide +kernel
theorem dX11_layLinks_150 : decode cX11_layLinks 150 = .ok (.getfield 138, 3) := by decide +kernel
theorem dX11_layLinks_153 : decode cX11_layLinks 153 = .ok (.iload 7, 2) := by decide +kernel
theorem dX11_layLinks_155 : decode cX11_layLinks 155 = .ok (.iaload, 1) := by decide +kernel
theorem dX11_layLinks_156 : decode cX11_layLinks 156 = .ok (.iload 5, 2) := by decide +kernel
theorem dX11_layLinks_158 : decode cX11_layLinks 158 = .ok (.if_icmp .eq 6, 3) := by decide +kernel
theorem dX11_layLinks_161 : decode cX11_layLinks 161 = .ok (.goto 28, 3) := by decide +kernel
theorem dX11_layLinks_164 : decode cX11_layLinks 164 = .ok (.aload_n 0, 1) := by decide +kernel
theorem dX11_layLinks_165 : decode cX11_layLinks 165 = .ok (.getfield 138, 3) := by decide +kernel
theorem dX11_layLinks_168 : decode cX11_layLinks 168 = .ok (.iload 7, 2) := by decide +kernel
theorem dX11_layLinks_170 : decode cX11_layLinks 170 = .ok (.aload_n 0, 1) := by decide +kernel
theorem dX11_layLinks_171 : decode cX11_layLinks 171 = .ok (.getfield 138, 3) := by decide +kernel
theorem dX11_layLinks_174 : decode cX11_layLinks 174 = .ok (.iload_n 3, 1) := by decide +kernel
theorem dX11_layLinks_175 : decode cX11_layLinks 175 = .ok (.iaload, 1) := by decide +kernel
theorem dX11_layLinks_176 : decode cX11_layLinks 176 = .ok (.iastore, 1) := by decide +kernel
theorem dX11_layLinks_177 : decode cX11_layLinks 177 = .ok (.aload_n 0, 1) := by decide +kernel
theorem dX11_layLinks_178 : decode cX11_layLinks 178 = .ok (.getfield 135, 3) := by decide +kernel
theorem dX11_layLinks_181 : decode cX11_layLinks 181 = .ok (.iload 7, 2) := by decide +kernel
theorem dX11_layLinks_183 : decode cX11_layLinks 183 = .ok (.dup2, 1) := by decide +kernel
theorem dX11_layLinks_184 : decode cX11_layLinks 184 = .ok (.iaload, 1) := by decide +kernel
theorem dX11_layLinks_185 : decode cX11_layLinks 185 = .ok (.iload 6, 2) := by decide +kernel
theorem dX11_layLinks_187 : decode cX11_layLinks 187 = .ok (.ixor, 1) := by decide +kernel
theorem dX11_layLinks_188 : decode cX11_layLinks 188 = .ok (.iastore, 1) := by decide +kernel
theorem dX11_layLinks_189 : decode cX11_layLinks 189 = .ok (.iinc 7 1, 3) := by decide +kernel
theorem dX11_layLinks_192 : decode cX11_layLinks 192 = .ok (.goto (-50), 3) := by decide +kernel
theorem dX11_layLinks_195 : decode cX11_layLinks 195 = .ok (.iinc 2 1, 3) := by decide +kernel
theorem dX11_layLinks_198 : decode cX11_layLinks 198 = .ok (.goto (-168), 3) := by decide +kernel
theorem dX11_layLinks_201 : decode cX11_layLinks 201 = .ok (.iconst 1, 1) := by decide +kernel
theorem dX11_layLinks_202 : decode cX11_layLinks 202 = .ok (.ireturn, 1) := by decide +kernel
theorem dX11_backward_0 : decode cX11_backward 0 = .ok (.iload_n 1, 1) := by decide +kernel
theorem dX11_backward_1 : decode cX11_backward 1 = .ok (.iconst 0, 1) := by decide +kernel
theorem dX11_backward_2 : decode cX11_backward 2 = .ok (.bipush 7, 2) := by decide +kernel
theorem dX11_backward_4 : decode cX11_backward 4 = .ok (.invokestatic 345, 3) := by decide +kernel
theorem dX11_backward_7 : decode cX11_backward 7 = .ok (.ifCond .ne 5, 3) := by decide +kernel
theorem dX11_backward_10 : decode cX11_backward 10 = .ok (.iconst (-1), 1) := by decide +kernel
theorem dX11_backward_11 : decode cX11_backward 11 = .ok (.ireturn, 1) := by decide +kernel
theorem dX11_backward_12 : decode cX11_backward 12 = .ok (.aload_n 0, 1) := by decide +kernel
theorem dX11_backward_13 : decode cX11_backward 13 = .ok (.iload_n 2, 1) := by decide +kernel
theorem dX11_backward_14 : decode cX11_backward 14 = .ok (.invokevirtual 445, 3) := by decide +kernel
theorem dX11_backward_17 : decode cX11_backward 17 = .ok (.ifCond .ne 6, 3) := by decide +kernel
theorem dX11_backward_20 : decode cX11_backward 20 = .ok (.bipush (-2), 2) := by decide +kernel
theorem dX11_backward_22 : decode cX11_backward 22 = .ok (.ireturn, 1) := by decide +kernel
theorem dX11_backward_23 : decode cX11_backward 23 = .ok (.aload_n 0, 1) := by decide +kernel
theorem dX11_backward_24 : decode cX11_backward 24 = .ok (.getfield 138, 3) := by decide +kernel
theorem dX11_backward_27 : decode cX11_backward 27 = .ok (.iload_n 1, 1) := by decide +kernel
theorem dX11_backward_28 : decode cX11_backward 28 = .ok (.iaload, 1) := by decide +kernel
theorem dX11_backward_29 : decode cX11_backward 29 = .ok (.aload_n 0, 1) := by decide +kernel
theorem dX11_backward_30 : decode cX11_backward 30 = .ok (.getfield 138, 3) := by decide +kernel
theorem dX11_backward_33 : decode cX11_backward 33 = .ok (.iconst 0, 1) := by decide +kernel
theorem dX11_backward_34 : decode cX11_backward 34 = .ok (.iaload, 1) := by decide +kernel
theorem dX11_backward_35 : decode cX11_backward 35 = .ok (.if_icmp .ne 19, 3) := by decide +kernel
theorem dX11_backward_38 : decode cX11_backward 38 = .ok (.aload_n 0, 1) := by decide +kernel
theorem dX11_backward_39 : decode cX11_backward 39 = .ok (.getfield 135, 3) := by decide +kernel
theorem dX11_backward_42 : decode cX11_backward 42 = .ok (.iload_n 1, 1) := by decide +kernel
theorem dX11_backward_43 : decode cX11_backward 43 = .ok (.iaload, 1) := by decide +kernel
theorem dX11_backward_44 : decode cX11_backward 44 = .ok (.aload_n 0, 1) := by decide +kernel
theorem dX11_backward_45 : decode cX11_backward 45 = .ok (.getfield 135, 3) := by decide +kernel
theorem dX11_backward_48 : decode cX11_backward 48 = .ok (.iconst 0, 1) := by decide +kernel
theorem dX11_backward_49 : decode cX11_backward 49 = .ok (.iaload, 1) := by decide +kernel
theorem dX11_backward_50 : decode cX11_backward 50 = .ok (.ixor, 1) := by decide +kernel
theorem dX11_backward_51 : decode cX11_backward 51 = .ok (.goto 4, 3) := by decide +kernel
theorem dX11_backward_54 : decode cX11_backward 54 = .ok (.iconst (-1), 1) := by decide +kernel
theorem dX11_backward_55 : decode cX11_backward 55 = .ok (.ireturn, 1) := by decide +kernel
theorem dX11_image_0 : decode cX11_image 0 = .ok (.iload_n 1, 1) := by decide +kernel
theorem dX11_image_1 : decode cX11_image 1 = .ok (.iconst 0, 1) := by decide +kernel
theorem dX11_image_2 : decode cX11_image 2 = .ok (.iconst 2, 1) := by decide +kernel
theorem dX11_image_3 : decode cX11_image 3 = .ok (.invokestatic 345, 3) := by decide +kernel
theorem dX11_image_6 : decode cX11_image 6 = .ok (.ifCond .ne 5, 3) := by decide +kernel
theorem dX11_image_9 : decode cX11_image 9 = .ok (.iconst (-1), 1) := by decide +kernel
theorem dX11_image_10 : decode cX11_image 10 = .ok (.ireturn, 1) := by decide +kernel
theorem dX11_image_11 : decode cX11_image 11 = .ok (.iconst 0, 1) := by decide +kernel
theorem dX11_image_12 : decode cX11_image 12 = .ok (.istore_n 2, 1) := by decide +kernel
theorem dX11_image_13 : decode cX11_image 13 = .ok (.iload_n 2, 1) := by decide +kernel
theorem dX11_image_14 : decode cX11_image 14 = .ok (.sipush 221, 3) := by decide +kernel
theorem dX11_image_17 : decode cX11_image 17 = .ok (.if_icmp .ge 27, 3) := by decide +kernel
theorem dX11_image_20 : decode cX11_image 20 = .ok (.aload_n 0, 1) := by decide +kernel
theorem dX11_image_21 : decode cX11_image 21 = .ok (.getfield 141, 3) := by decide +kernel
theorem dX11_image_24 : decode cX11_image 24 = .ok (.sipush 221, 3) := by decide +kernel
theorem dX11_image_27 : decode cX11_image 27 = .ok (.iload_n 1, 1) := by decide +kernel
theorem dX11_image_28 : decode cX11_image 28 = .ok (.imul, 1) := by decide +kernel
theorem dX11_image_29 : decode cX11_image 29 = .ok (.iload_n 2, 1) := by decide +kernel
theorem dX11_image_30 : decode cX11_image 30 = .ok (.iadd, 1) := by decide +kernel
theorem dX11_image_31 : decode cX11_image 31 = .ok (.aload_n 0, 1) := by decide +kernel
theorem dX11_image_32 : decode cX11_image 32 = .ok (.getfield 77, 3) := by decide +kernel
theorem dX11_image_35 : decode cX11_image 35 = .ok (.iload_n 2, 1) := by decide +kernel
theorem dX11_image_36 : decode cX11_image 36 = .ok (.iaload, 1) := by decide +kernel
theorem dX11_image_37 : decode cX11_image 37 = .ok (.iastore, 1) := by decide +kernel
theorem dX11_image_38 : decode cX11_image 38 = .ok (.iinc 2 1, 3) := by decide +kernel
theorem dX11_image_41 : decode cX11_image 41 = .ok (.goto (-28), 3) := by decide +kernel
theorem dX11_image_44 : decode cX11_image 44 = .ok (.aload_n 0, 1) := by decide +kernel
theorem dX11_image_45 : decode cX11_image 45 = .ok (.getfield 144, 3) := by decide +kernel
theorem dX11_image_48 : decode cX11_image 48 = .ok (.iload_n 1, 1) := by decide +kernel
theorem dX11_image_49 : decode cX11_image 49 = .ok (.iconst 1, 1) := by decide +kernel
theorem dX11_image_50 : decode cX11_image 50 = .ok (.bastore, 1) := by decide +kernel
theorem dX11_image_51 : decode cX11_image 51 = .ok (.aload_n 0, 1) := by decide +kernel
theorem dX11_image_52 : decode cX11_image 52 = .ok (.getfield 77, 3) := by decide +kernel
theorem dX11_image_55 : decode cX11_image 55 = .ok (.sipush 216, 3) := by decide +kernel
theorem dX11_image_58 : decode cX11_image 58 = .ok (.iaload, 1) := by decide +kernel
theorem dX11_image_59 : decode cX11_image 59 = .ok (.ireturn, 1) := by decide +kernel
theorem dX11_back_0 : decode cX11_back 0 = .ok (.iload_n 1, 1) := by decide +kernel
theorem dX11_back_1 : decode cX11_back 1 = .ok (.iconst 0, 1) := by decide +kernel
theorem dX11_back_2 : decode cX11_back 2 = .ok (.iconst 2, 1) := by decide +kernel
theorem dX11_back_3 : decode cX11_back 3 = .ok (.invokestatic 345, 3) := by decide +kernel
theorem dX11_back_6 : decode cX11_back 6 = .ok (.ifCond .eq 12, 3) := by decide +kernel
theorem dX11_back_9 : decode cX11_back 9 = .ok (.aload_n 0, 1) := by decide +kernel
theorem dX11_back_10 : decode cX11_back 10 = .ok (.getfield 144, 3) := by decide +kernel
theorem dX11_back_13 : decode cX11_back 13 = .ok (.iload_n 1, 1) := by decide +kernel
theorem dX11_back_14 : decode cX11_back 14 = .ok (.baload, 1) := by decide +kernel
theorem dX11_back_15 : decode cX11_back 15 = .ok (.ifCond .ne 5, 3) := by decide +kernel
theorem dX11_back_18 : decode cX11_back 18 = .ok (.iconst (-1), 1) := by decide +kernel
theorem dX11_back_19 : decode cX11_back 19 = .ok (.ireturn, 1) := by decide +kernel
theorem dX11_back_20 : decode cX11_back 20 = .ok (.iconst 0, 1) := by decide +kernel
theorem dX11_back_21 : decode cX11_back 21 = .ok (.istore_n 2, 1) := by decide +kernel
theorem dX11_back_22 : decode cX11_back 22 = .ok (.iload_n 2, 1) := by decide +kernel
theorem dX11_back_23 : decode cX11_back 23 = .ok (.sipush 221, 3) := by decide +kernel
theorem dX11_back_26 : decode cX11_back 26 = .ok (.if_icmp .ge 27, 3) := by decide +kernel
theorem dX11_back_29 : decode cX11_back 29 = .ok (.aload_n 0, 1) := by decide +kernel
theorem dX11_back_30 : decode cX11_back 30 = .ok (.getfield 77, 3) := by decide +kernel
theorem dX11_back_33 : decode cX11_back 33 = .ok (.iload_n 2, 1) := by decide +kernel
theorem dX11_back_34 : decode cX11_back 34 = .ok (.aload_n 0, 1) := by decide +kernel
theorem dX11_back_35 : decode cX11_back 35 = .ok (.getfield 141, 3) := by decide +kernel
theorem dX11_back_38 : decode cX11_back 38 = .ok (.sipush 221, 3) := by decide +kernel
theorem dX11_back_41 : decode cX11_back 41 = .ok (.iload_n 1, 1) := by decide +kernel
theorem dX11_back_42 : decode cX11_back 42 = .ok (.imul, 1) := by decide +kernel
theorem dX11_back_43 : decode cX11_back 43 = .ok (.iload_n 2, 1) := by decide +kernel
theorem dX11_back_44 : decode cX11_back 44 = .ok (.iadd, 1) := by decide +kernel
theorem dX11_back_45 : decode cX11_back 45 = .ok (.iaload, 1) := by decide +kernel
theorem dX11_back_46 : decode cX11_back 46 = .ok (.iastore, 1) := by decide +kernel
theorem dX11_back_47 : decode cX11_back 47 = .ok (.iinc 2 1, 3) := by decide +kernel
theorem dX11_back_50 : decode cX11_back 50 = .ok (.goto (-28), 3) := by decide +kernel
theorem dX11_back_53 : decode cX11_back 53 = .ok (.aload_n 0, 1) := by decide +kernel
theorem dX11_back_54 : decode cX11_back 54 = .ok (.iconst 0, 1) := by decide +kernel
theorem dX11_back_55 : decode cX11_back 55 = .ok (.putfield 371, 3) := by decide +kernel
theorem dX11_back_58 : decode cX11_back 58 = .ok (.aload_n 0, 1) := by decide +kernel
theorem dX11_back_59 : decode cX11_back 59 = .ok (.iconst 0, 1) := by decide +kernel
theorem dX11_back_60 : decode cX11_back 60 = .ok (.putfield 374, 3) := by decide +kernel
theorem dX11_back_63 : decode cX11_back 63 = .ok (.aload_n 0, 1) := by decide +kernel
theorem dX11_back_64 : decode cX11_back 64 = .ok (.getfield 77, 3) := by decide +kernel
theorem dX11_back_67 : decode cX11_back 67 = .ok (.sipush 216, 3) := by decide +kernel
theorem dX11_back_70 : decode cX11_back 70 = .ok (.iaload, 1) := by decide +kernel
theorem dX11_back_71 : decode cX11_back 71 = .ok (.ireturn, 1) := by decide +kernel
theorem dX11_about_0 : decode cX11_about 0 = .ok (.iload_n 1, 1) := by decide +kernel
theorem dX11_about_1 : decode cX11_about 1 = .ok (.tableswitch 171 0 13 #[71, 81, 86, 95, 104, 113, 122, 131, 136, 141, 146, 151, 156, 166], 71) := by decide +kernel
theorem dX11_about_72 : decode cX11_about 72 = .ok (.aload_n 0, 1) := by decide +kernel
theorem dX11_about_73 : decode cX11_about 73 = .ok (.getfield 27, 3) := by decide +kernel
theorem dX11_about_76 : decode cX11_about 76 = .ok (.aload_n 0, 1) := by decide +kernel
theorem dX11_about_77 : decode cX11_about 77 = .ok (.getfield 250, 3) := by decide +kernel
theorem dX11_about_80 : decode cX11_about 80 = .ok (.iaload, 1) := by decide +kernel
theorem dX11_about_81 : decode cX11_about 81 = .ok (.ireturn, 1) := by decide +kernel
theorem dX11_about_82 : decode cX11_about 82 = .ok (.aload_n 0, 1) := by decide +kernel
theorem dX11_about_83 : decode cX11_about 83 = .ok (.invokevirtual 342, 3) := by decide +kernel
theorem dX11_about_86 : decode cX11_about 86 = .ok (.ireturn, 1) := by decide +kernel
theorem dX11_about_87 : decode cX11_about 87 = .ok (.aload_n 0, 1) := by decide +kernel
theorem dX11_about_88 : decode cX11_about 88 = .ok (.getfield 77, 3) := by decide +kernel
theorem dX11_about_91 : decode cX11_about 91 = .ok (.sipush 216, 3) := by decide +kernel
theorem dX11_about_94 : decode cX11_about 94 = .ok (.iaload, 1) := by decide +kernel
theorem dX11_about_95 : decode cX11_about 95 = .ok (.ireturn, 1) := by decide +kernel
theorem dX11_about_96 : decode cX11_about 96 = .ok (.aload_n 0, 1) := by decide +kernel
theorem dX11_about_97 : decode cX11_about 97 = .ok (.getfield 77, 3) := by decide +kernel
theorem dX11_about_100 : decode cX11_about 100 = .ok (.sipush 217, 3) := by decide +kernel
theorem dX11_about_103 : decode cX11_about 103 = .ok (.iaload, 1) := by decide +kernel
theorem dX11_about_104 : decode cX11_about 104 = .ok (.ireturn, 1) := by decide +kernel
theorem dX11_about_105 : decode cX11_about 105 = .ok (.aload_n 0, 1) := by decide +kernel
theorem dX11_about_106 : decode cX11_about 106 = .ok (.getfield 77, 3) := by decide +kernel
theorem dX11_about_109 : decode cX11_about 109 = .ok (.sipush 218, 3) := by decide +kernel
theorem dX11_about_112 : decode cX11_about 112 = .ok (.iaload, 1) := by decide +kernel
theorem dX11_about_113 : decode cX11_about 113 = .ok (.ireturn, 1) := by decide +kernel
theorem dX11_about_114 : decode cX11_about 114 = .ok (.aload_n 0, 1) := by decide +kernel
theorem dX11_about_115 : decode cX11_about 115 = .ok (.getfield 77, 3) := by decide +kernel
theorem dX11_about_118 : decode cX11_about 118 = .ok (.sipush 219, 3) := by decide +kernel
theorem dX11_about_121 : decode cX11_about 121 = .ok (.iaload, 1) := by decide +kernel
theorem dX11_about_122 : decode cX11_about 122 = .ok (.ireturn, 1) := by decide +kernel
theorem dX11_about_123 : decode cX11_about 123 = .ok (.aload_n 0, 1) := by decide +kernel
theorem dX11_about_124 : decode cX11_about 124 = .ok (.getfield 77, 3) := by decide +kernel
theorem dX11_about_127 : decode cX11_about 127 = .ok (.sipush 220, 3) := by decide +kernel
theorem dX11_about_130 : decode cX11_about 130 = .ok (.iaload, 1) := by decide +kernel
theorem dX11_about_131 : decode cX11_about 131 = .ok (.ireturn, 1) := by decide +kernel
theorem dX11_about_132 : decode cX11_about 132 = .ok (.aload_n 0, 1) := by decide +kernel
theorem dX11_about_133 : decode cX11_about 133 = .ok (.getfield 371, 3) := by decide +kernel
theorem dX11_about_136 : decode cX11_about 136 = .ok (.ireturn, 1) := by decide +kernel
theorem dX11_about_137 : decode cX11_about 137 = .ok (.aload_n 0, 1) := by decide +kernel
theorem dX11_about_138 : decode cX11_about 138 = .ok (.getfield 374, 3) := by decide +kernel
theorem dX11_about_141 : decode cX11_about 141 = .ok (.ireturn, 1) := by decide +kernel
theorem dX11_about_142 : decode cX11_about 142 = .ok (.aload_n 0, 1) := by decide +kernel
theorem dX11_about_143 : decode cX11_about 143 = .ok (.getfield 377, 3) := by decide +kernel
theorem dX11_about_146 : decode cX11_about 146 = .ok (.ireturn, 1) := by decide +kernel
theorem dX11_about_147 : decode cX11_about 147 = .ok (.aload_n 0, 1) := by decide +kernel
theorem dX11_about_148 : decode cX11_about 148 = .ok (.getfield 420, 3) := by decide +kernel
theorem dX11_about_151 : decode cX11_about 151 = .ok (.ireturn, 1) := by decide +kernel
theorem dX11_about_152 : decode cX11_about 152 = .ok (.aload_n 0, 1) := by decide +kernel
theorem dX11_about_153 : decode cX11_about 153 = .ok (.getfield 247, 3) := by decide +kernel
theorem dX11_about_156 : decode cX11_about 156 = .ok (.ireturn, 1) := by decide +kernel
theorem dX11_about_157 : decode cX11_about 157 = .ok (.aload_n 0, 1) := by decide +kernel
theorem dX11_about_158 : decode cX11_about 158 = .ok (.getfield 30, 3) := by decide +kernel
theorem dX11_about_161 : decode cX11_about 161 = .ok (.aload_n 0, 1) := by decide +kernel
theorem dX11_about_162 : decode cX11_about 162 = .ok (.getfield 250, 3) := by decide +kernel
theorem dX11_about_165 : decode cX11_about 165 = .ok (.iaload, 1) := by decide +kernel
theorem dX11_about_166 : decode cX11_about 166 = .ok (.ireturn, 1) := by decide +kernel
theorem dX11_about_167 : decode cX11_about 167 = .ok (.aload_n 0, 1) := by decide +kernel
theorem dX11_about_168 : decode cX11_about 168 = .ok (.getfield 380, 3) := by decide +kernel
theorem dX11_about_171 : decode cX11_about 171 = .ok (.ireturn, 1) := by decide +kernel
theorem dX11_about_172 : decode cX11_about 172 = .ok (.iconst (-1), 1) := by decide +kernel
theorem dX11_about_173 : decode cX11_about 173 = .ok (.ireturn, 1) := by decide +kernel
theorem dX11_feed_0 : decode cX11_feed 0 = .ok (.aload_n 0, 1) := by decide +kernel
theorem dX11_feed_1 : decode cX11_feed 1 = .ok (.getfield 247, 3) := by decide +kernel
theorem dX11_feed_4 : decode cX11_feed 4 = .ok (.bipush 20, 2) := by decide +kernel
theorem dX11_feed_6 : decode cX11_feed 6 = .ok (.iadd, 1) := by decide +kernel
theorem dX11_feed_7 : decode cX11_feed 7 = .ok (.sipush 1600, 3) := by decide +kernel
theorem dX11_feed_10 : decode cX11_feed 10 = .ok (.if_icmp .le 5, 3) := by decide +kernel
theorem dX11_feed_13 : decode cX11_feed 13 = .ok (.iconst (-1), 1) := by decide +kernel
theorem dX11_feed_14 : decode cX11_feed 14 = .ok (.ireturn, 1) := by decide +kernel
theorem dX11_feed_15 : decode cX11_feed 15 = .ok (.iconst 0, 1) := by decide +kernel
theorem dX11_feed_16 : decode cX11_feed 16 = .ok (.istore 6, 2) := by decide +kernel
theorem dX11_feed_18 : decode cX11_feed 18 = .ok (.iload 6, 2) := by decide +kernel
theorem dX11_feed_20 : decode cX11_feed 20 = .ok (.bipush 20, 2) := by decide +kernel
theorem dX11_feed_22 : decode cX11_feed 22 = .ok (.if_icmp .ge 83, 3) := by decide +kernel
theorem dX11_feed_25 : decode cX11_feed 25 = .ok (.iload 6, 2) := by decide +kernel
theorem dX11_feed_27 : decode cX11_feed 27 = .ok (.iconst 4, 1) := by decide +kernel
theorem dX11_feed_28 : decode cX11_feed 28 = .ok (.if_icmp .ge 7, 3) := by decide +kernel
theorem dX11_feed_31 : decode cX11_feed 31 = .ok (.iload_n 1, 1) := by decide +kernel
theorem dX11_feed_32 : decode cX11_feed 32 = .ok (.goto 39, 3) := by decide +kernel
theorem dX11_feed_35 : decode cX11_feed 35 = .ok (.iload 6, 2) := by decide +kernel
theorem dX11_feed_37 : decode cX11_feed 37 = .ok (.bipush 8, 2) := by decide +kernel
theorem dX11_feed_39 : decode cX11_feed 39 = .ok (.if_icmp .ge 7, 3) := by decide +kernel
theorem dX11_feed_42 : decode cX11_feed 42 = .ok (.iload_n 2, 1) := by decide +kernel
theorem dX11_feed_43 : decode cX11_feed 43 = .ok (.goto 28, 3) := by decide +kernel
theorem dX11_feed_46 : decode cX11_feed 46 = .ok (.iload 6, 2) := by decide +kernel
theorem dX11_feed_48 : decode cX11_feed 48 = .ok (.bipush 12, 2) := by decide +kernel
theorem dX11_feed_50 : decode cX11_feed 50 = .ok (.if_icmp .ge 7, 3) := by decide +kernel
theorem dX11_feed_53 : decode cX11_feed 53 = .ok (.iload_n 3, 1) := by decide +kernel
theorem dX11_feed_54 : decode cX11_feed 54 = .ok (.goto 17, 3) := by decide +kernel
theorem dX11_feed_57 : decode cX11_feed 57 = .ok (.iload 6, 2) := by decide +kernel
theorem dX11_feed_59 : decode cX11_feed 59 = .ok (.bipush 16, 2) := by decide +kernel
theorem dX11_feed_61 : decode cX11_feed 61 = .ok (.if_icmp .ge 8, 3) := by decide +kernel
theorem dX11_feed_64 : decode cX11_feed 64 = .ok (.iload 4, 2) := by decide +kernel
theorem dX11_feed_66 : decode cX11_feed 66 = .ok (.goto 5, 3) := by decide +kernel
theorem dX11_feed_69 : decode cX11_feed 69 = .ok (.iload 5, 2) := by decide +kernel
theorem dX11_feed_71 : decode cX11_feed 71 = .ok (.istore 7, 2) := by decide +kernel
theorem dX11_feed_73 : decode cX11_feed 73 = .ok (.aload_n 0, 1) := by decide +kernel
theorem dX11_feed_74 : decode cX11_feed 74 = .ok (.getfield 7, 3) := by decide +kernel
theorem dX11_feed_77 : decode cX11_feed 77 = .ok (.aload_n 0, 1) := by decide +kernel
theorem dX11_feed_78 : decode cX11_feed 78 = .ok (.getfield 247, 3) := by decide +kernel
theorem dX11_feed_81 : decode cX11_feed 81 = .ok (.iload 6, 2) := by decide +kernel
theorem dX11_feed_83 : decode cX11_feed 83 = .ok (.iadd, 1) := by decide +kernel
theorem dX11_feed_84 : decode cX11_feed 84 = .ok (.iload 7, 2) := by decide +kernel
theorem dX11_feed_86 : decode cX11_feed 86 = .ok (.bipush 24, 2) := by decide +kernel
theorem dX11_feed_88 : decode cX11_feed 88 = .ok (.bipush 8, 2) := by decide +kernel
theorem dX11_feed_90 : decode cX11_feed 90 = .ok (.iload 6, 2) := by decide +kernel
theorem dX11_feed_92 : decode cX11_feed 92 = .ok (.iconst 3, 1) := by decide +kernel
theorem dX11_feed_93 : decode cX11_feed 93 = .ok (.iand, 1) := by decide +kernel
theorem dX11_feed_94 : decode cX11_feed 94 = .ok (.imul, 1) := by decide +kernel
theorem dX11_feed_95 : decode cX11_feed 95 = .ok (.isub, 1) := by decide +kernel
theorem dX11_feed_96 : decode cX11_feed 96 = .ok (.ishr, 1) := by decide +kernel
theorem dX11_feed_97 : decode cX11_feed 97 = .ok (.i2b, 1) := by decide +kernel
theorem dX11_feed_98 : decode cX11_feed 98 = .ok (.bastore, 1) := by decide +kernel
theorem dX11_feed_99 : decode cX11_feed 99 = .ok (.iinc 6 1, 3) := by decide +kernel
theorem dX11_feed_102 : decode cX11_feed 102 = .ok (.goto (-84), 3) := by decide +kernel
theorem dX11_feed_105 : decode cX11_feed 105 = .ok (.aload_n 0, 1) := by decide +kernel
theorem dX11_feed_106 : decode cX11_feed 106 = .ok (.dup, 1) := by decide +kernel
theorem dX11_feed_107 : decode cX11_feed 107 = .ok (.getfield 247, 3) := by decide +kernel
theorem dX11_feed_110 : decode cX11_feed 110 = .ok (.bipush 20, 2) := by decide +kernel
theorem dX11_feed_112 : decode cX11_feed 112 = .ok (.iadd, 1) := by decide +kernel
theorem dX11_feed_113 : decode cX11_feed 113 = .ok (.putfield 247, 3) := by decide +kernel
theorem dX11_feed_116 : decode cX11_feed 116 = .ok (.aload_n 0, 1) := by decide +kernel
theorem dX11_feed_117 : decode cX11_feed 117 = .ok (.getfield 247, 3) := by decide +kernel
theorem dX11_feed_120 : decode cX11_feed 120 = .ok (.ireturn, 1) := by decide +kernel
theorem dX11_end_0 : decode cX11_end 0 = .ok (.iload_n 1, 1) := by decide +kernel
theorem dX11_end_1 : decode cX11_end 1 = .ok (.ifCond .lt 11, 3) := by decide +kernel
theorem dX11_end_4 : decode cX11_end 4 = .ok (.iload_n 1, 1) := by decide +kernel
theorem dX11_end_5 : decode cX11_end 5 = .ok (.aload_n 0, 1) := by decide +kernel
theorem dX11_end_6 : decode cX11_end 6 = .ok (.getfield 247, 3) := by decide +kernel
theorem dX11_end_9 : decode cX11_end 9 = .ok (.if_icmp .le 5, 3) := by decide +kernel
theorem dX11_end_12 : decode cX11_end 12 = .ok (.iconst (-1), 1) := by decide +kernel
theorem dX11_end_13 : decode cX11_end 13 = .ok (.ireturn, 1) := by decide +kernel
theorem dX11_end_14 : decode cX11_end 14 = .ok (.aload_n 0, 1) := by decide +kernel
theorem dX11_end_15 : decode cX11_end 15 = .ok (.iload_n 1, 1) := by decide +kernel
theorem dX11_end_16 : decode cX11_end 16 = .ok (.putfield 247, 3) := by decide +kernel
theorem dX11_end_19 : decode cX11_end 19 = .ok (.iload_n 1, 1) := by decide +kernel
theorem dX11_end_20 : decode cX11_end 20 = .ok (.ireturn, 1) := by decide +kernel
