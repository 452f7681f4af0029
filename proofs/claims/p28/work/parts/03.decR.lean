theorem dX12_within_0 : decode cX12_within 0 = .ok (.lload_n 0, 1) := by decide +kernel
theorem dX12_within_1 : decode cX12_within 1 = .ok (.lload_n 2, 1) := by decide +kernel
theorem dX12_within_2 : decode cX12_within 2 = .ok (.lcmp, 1) := by decide +kernel
theorem dX12_within_3 : decode cX12_within 3 = .ok (.ifCond .lt 14, 3) := by decide +kernel
theorem dX12_within_6 : decode cX12_within 6 = .ok (.lload_n 0, 1) := by decide +kernel
theorem dX12_within_7 : decode cX12_within 7 = .ok (.lload 4, 2) := by decide +kernel
theorem dX12_within_9 : decode cX12_within 9 = .ok (.lcmp, 1) := by decide +kernel
theorem dX12_within_10 : decode cX12_within 10 = .ok (.ifCond .gt 7, 3) := by decide +kernel
theorem dX12_within_13 : decode cX12_within 13 = .ok (.iconst 1, 1) := by decide +kernel
theorem dX12_within_14 : decode cX12_within 14 = .ok (.goto 4, 3) := by decide +kernel
theorem dX12_within_17 : decode cX12_within 17 = .ok (.iconst 0, 1) := by decide +kernel
theorem dX12_within_18 : decode cX12_within 18 = .ok (.ireturn, 1) := by decide +kernel
theorem dX12_init_0 : decode cX12_init 0 = .ok (.aload_n 0, 1) := by decide +kernel
theorem dX12_init_1 : decode cX12_init 1 = .ok (.invokespecial 1, 3) := by decide +kernel
theorem dX12_init_4 : decode cX12_init 4 = .ok (.aload_n 0, 1) := by decide +kernel
theorem dX12_init_5 : decode cX12_init 5 = .ok (.bipush 68, 2) := by decide +kernel
theorem dX12_init_7 : decode cX12_init 7 = .ok (.newarray .int, 2) := by decide +kernel
theorem dX12_init_9 : decode cX12_init 9 = .ok (.putfield 7, 3) := by decide +kernel
theorem dX12_init_12 : decode cX12_init 12 = .ok (.aload_n 0, 1) := by decide +kernel
theorem dX12_init_13 : decode cX12_init 13 = .ok (.bipush 40, 2) := by decide +kernel
theorem dX12_init_15 : decode cX12_init 15 = .ok (.newarray .int, 2) := by decide +kernel
theorem dX12_init_17 : decode cX12_init 17 = .ok (.putfield 13, 3) := by decide +kernel
theorem dX12_init_20 : decode cX12_init 20 = .ok (.aload_n 0, 1) := by decide +kernel
theorem dX12_init_21 : decode cX12_init 21 = .ok (.bipush 40, 2) := by decide +kernel
theorem dX12_init_23 : decode cX12_init 23 = .ok (.newarray .int, 2) := by decide +kernel
theorem dX12_init_25 : decode cX12_init 25 = .ok (.putfield 16, 3) := by decide +kernel
theorem dX12_init_28 : decode cX12_init 28 = .ok (.aload_n 0, 1) := by decide +kernel
theorem dX12_init_29 : decode cX12_init 29 = .ok (.bipush 40, 2) := by decide +kernel
theorem dX12_init_31 : decode cX12_init 31 = .ok (.newarray .int, 2) := by decide +kernel
theorem dX12_init_33 : decode cX12_init 33 = .ok (.putfield 19, 3) := by decide +kernel
theorem dX12_init_36 : decode cX12_init 36 = .ok (.aload_n 0, 1) := by decide +kernel
theorem dX12_init_37 : decode cX12_init 37 = .ok (.iconst 4, 1) := by decide +kernel
theorem dX12_init_38 : decode cX12_init 38 = .ok (.newarray .int, 2) := by decide +kernel
theorem dX12_init_40 : decode cX12_init 40 = .ok (.putfield 22, 3) := by decide +kernel
theorem dX12_init_43 : decode cX12_init 43 = .ok (.aload_n 0, 1) := by decide +kernel
theorem dX12_init_44 : decode cX12_init 44 = .ok (.iconst 4, 1) := by decide +kernel
theorem dX12_init_45 : decode cX12_init 45 = .ok (.newarray .int, 2) := by decide +kernel
theorem dX12_init_47 : decode cX12_init 47 = .ok (.putfield 25, 3) := by decide +kernel
theorem dX12_init_50 : decode cX12_init 50 = .ok (.aload_n 0, 1) := by decide +kernel
theorem dX12_init_51 : decode cX12_init 51 = .ok (.bipush 8, 2) := by decide +kernel
theorem dX12_init_53 : decode cX12_init 53 = .ok (.newarray .int, 2) := by decide +kernel
theorem dX12_init_55 : decode cX12_init 55 = .ok (.putfield 28, 3) := by decide +kernel
theorem dX12_init_58 : decode cX12_init 58 = .ok (.aload_n 0, 1) := by decide +kernel
theorem dX12_init_59 : decode cX12_init 59 = .ok (.bipush 80, 2) := by decide +kernel
theorem dX12_init_61 : decode cX12_init 61 = .ok (.newarray .int, 2) := by decide +kernel
theorem dX12_init_63 : decode cX12_init 63 = .ok (.putfield 31, 3) := by decide +kernel
theorem dX12_init_66 : decode cX12_init 66 = .ok (.aload_n 0, 1) := by decide +kernel
theorem dX12_init_67 : decode cX12_init 67 = .ok (.sipush 160, 3) := by decide +kernel
theorem dX12_init_70 : decode cX12_init 70 = .ok (.newarray .int, 2) := by decide +kernel
theorem dX12_init_72 : decode cX12_init 72 = .ok (.putfield 34, 3) := by decide +kernel
theorem dX12_init_75 : decode cX12_init 75 = .ok (.aload_n 0, 1) := by decide +kernel
theorem dX12_init_76 : decode cX12_init 76 = .ok (.iconst 2, 1) := by decide +kernel
theorem dX12_init_77 : decode cX12_init 77 = .ok (.newarray .int, 2) := by decide +kernel
theorem dX12_init_79 : decode cX12_init 79 = .ok (.putfield 37, 3) := by decide +kernel
theorem dX12_init_82 : decode cX12_init 82 = .ok (.aload_n 0, 1) := by decide +kernel
theorem dX12_init_83 : decode cX12_init 83 = .ok (.bipush 8, 2) := by decide +kernel
theorem dX12_init_85 : decode cX12_init 85 = .ok (.newarray .int, 2) := by decide +kernel
theorem dX12_init_87 : decode cX12_init 87 = .ok (.putfield 40, 3) := by decide +kernel
theorem dX12_init_90 : decode cX12_init 90 = .ok (.aload_n 0, 1) := by decide +kernel
theorem dX12_init_91 : decode cX12_init 91 = .ok (.bipush 8, 2) := by decide +kernel
theorem dX12_init_93 : decode cX12_init 93 = .ok (.newarray .int, 2) := by decide +kernel
theorem dX12_init_95 : decode cX12_init 95 = .ok (.putfield 43, 3) := by decide +kernel
theorem dX12_init_98 : decode cX12_init 98 = .ok (.aload_n 0, 1) := by decide +kernel
theorem dX12_init_99 : decode cX12_init 99 = .ok (.iconst 4, 1) := by decide +kernel
theorem dX12_init_100 : decode cX12_init 100 = .ok (.newarray .int, 2) := by decide +kernel
theorem dX12_init_102 : decode cX12_init 102 = .ok (.putfield 46, 3) := by decide +kernel
theorem dX12_init_105 : decode cX12_init 105 = .ok (.aload_n 0, 1) := by decide +kernel
theorem dX12_init_106 : decode cX12_init 106 = .ok (.iconst 4, 1) := by decide +kernel
theorem dX12_init_107 : decode cX12_init 107 = .ok (.newarray .int, 2) := by decide +kernel
theorem dX12_init_109 : decode cX12_init 109 = .ok (.putfield 49, 3) := by decide +kernel
theorem dX12_init_112 : decode cX12_init 112 = .ok (.aload_n 0, 1) := by decide +kernel
theorem dX12_init_113 : decode cX12_init 113 = .ok (.iconst (-1), 1) := by decide +kernel
theorem dX12_init_114 : decode cX12_init 114 = .ok (.putfield 52, 3) := by decide +kernel
theorem dX12_init_117 : decode cX12_init 117 = .ok (.aload_n 0, 1) := by decide +kernel
theorem dX12_init_118 : decode cX12_init 118 = .ok (.iconst (-1), 1) := by decide +kernel
theorem dX12_init_119 : decode cX12_init 119 = .ok (.putfield 56, 3) := by decide +kernel
theorem dX12_init_122 : decode cX12_init 122 = .ok (.aload_n 0, 1) := by decide +kernel
theorem dX12_init_123 : decode cX12_init 123 = .ok (.bipush 20, 2) := by decide +kernel
theorem dX12_init_125 : decode cX12_init 125 = .ok (.newarray .int, 2) := by decide +kernel
theorem dX12_init_127 : decode cX12_init 127 = .ok (.putfield 59, 3) := by decide +kernel
theorem dX12_init_130 : decode cX12_init 130 = .ok (.aload_n 0, 1) := by decide +kernel
theorem dX12_init_131 : decode cX12_init 131 = .ok (.bipush 20, 2) := by decide +kernel
theorem dX12_init_133 : decode cX12_init 133 = .ok (.newarray .int, 2) := by decide +kernel
theorem dX12_init_135 : decode cX12_init 135 = .ok (.putfield 62, 3) := by decide +kernel
theorem dX12_init_138 : decode cX12_init 138 = .ok (.aload_n 0, 1) := by decide +kernel
theorem dX12_init_139 : decode cX12_init 139 = .ok (.sipush 160, 3) := by decide +kernel
theorem dX12_init_142 : decode cX12_init 142 = .ok (.newarray .int, 2) := by decide +kernel
theorem dX12_init_144 : decode cX12_init 144 = .ok (.putfield 65, 3) := by decide +kernel
theorem dX12_init_147 : decode cX12_init 147 = .ok (.aload_n 0, 1) := by decide +kernel
theorem dX12_init_148 : decode cX12_init 148 = .ok (.bipush 20, 2) := by decide +kernel
theorem dX12_init_150 : decode cX12_init 150 = .ok (.newarray .int, 2) := by decide +kernel
theorem dX12_init_152 : decode cX12_init 152 = .ok (.putfield 68, 3) := by decide +kernel
theorem dX12_init_155 : decode cX12_init 155 = .ok (.aload_n 0, 1) := by decide +kernel
theorem dX12_init_156 : decode cX12_init 156 = .ok (.ldc 71, 2) := by decide +kernel
theorem dX12_init_158 : decode cX12_init 158 = .ok (.newarray .int, 2) := by decide +kernel
theorem dX12_init_160 : decode cX12_init 160 = .ok (.putfield 72, 3) := by decide +kernel
theorem dX12_init_163 : decode cX12_init 163 = .ok (.aload_n 0, 1) := by decide +kernel
theorem dX12_init_164 : decode cX12_init 164 = .ok (.ldc 71, 2) := by decide +kernel
theorem dX12_init_166 : decode cX12_init 166 = .ok (.newarray .int, 2) := by decide +kernel
theorem dX12_init_168 : decode cX12_init 168 = .ok (.putfield 75, 3) := by decide +kernel
theorem dX12_init_171 : decode cX12_init 171 = .ok (.aload_n 0, 1) := by decide +kernel
theorem dX12_init_172 : decode cX12_init 172 = .ok (.ldc 71, 2) := by decide +kernel
theorem dX12_init_174 : decode cX12_init 174 = .ok (.newarray .int, 2) := by decide +kernel
theorem dX12_init_176 : decode cX12_init 176 = .ok (.putfield 78, 3) := by decide +kernel
theorem dX12_init_179 : decode cX12_init 179 = .ok (.aload_n 0, 1) := by decide +kernel
theorem dX12_init_180 : decode cX12_init 180 = .ok (.ldc 71, 2) := by decide +kernel
theorem dX12_init_182 : decode cX12_init 182 = .ok (.newarray .int, 2) := by decide +kernel
theorem dX12_init_184 : decode cX12_init 184 = .ok (.putfield 81, 3) := by decide +kernel
theorem dX12_init_187 : decode cX12_init 187 = .ok (.aload_n 0, 1) := by decide +kernel
theorem dX12_init_188 : decode cX12_init 188 = .ok (.ldc 71, 2) := by decide +kernel
theorem dX12_init_190 : decode cX12_init 190 = .ok (.newarray .int, 2) := by decide +kernel
theorem dX12_init_192 : decode cX12_init 192 = .ok (.putfield 84, 3) := by decide +kernel
theorem dX12_init_195 : decode cX12_init 195 = .ok (.aload_n 0, 1) := by decide +kernel
theorem dX12_init_196 : decode cX12_init 196 = .ok (.iconst 5, 1) := by decide +kernel
theorem dX12_init_197 : decode cX12_init 197 = .ok (.newarray .int, 2) := by decide +kernel
theorem dX12_init_199 : decode cX12_init 199 = .ok (.putfield 87, 3) := by decide +kernel
theorem dX12_init_202 : decode cX12_init 202 = .ok (.aload_n 0, 1) := by decide +kernel
theorem dX12_init_203 : decode cX12_init 203 = .ok (.bipush 12, 2) := by decide +kernel
theorem dX12_init_205 : decode cX12_init 205 = .ok (.newarray .int, 2) := by decide +kernel
theorem dX12_init_207 : decode cX12_init 207 = .ok (.putfield 90, 3) := by decide +kernel
theorem dX12_init_210 : decode cX12_init 210 = .ok (.aload_n 0, 1) := by decide +kernel
theorem dX12_init_211 : decode cX12_init 211 = .ok (.bipush 12, 2) := by decide +kernel
theorem dX12_init_213 : decode cX12_init 213 = .ok (.newarray .int, 2) := by decide +kernel
theorem dX12_init_215 : decode cX12_init 215 = .ok (.putfield 93, 3) := by decide +kernel
theorem dX12_init_218 : decode cX12_init 218 = .ok (.aload_n 0, 1) := by decide +kernel
theorem dX12_init_219 : decode cX12_init 219 = .ok (.bipush 12, 2) := by decide +kernel
theorem dX12_init_221 : decode cX12_init 221 = .ok (.newarray .int, 2) := by decide +kernel
theorem dX12_init_223 : decode cX12_init 223 = .ok (.putfield 96, 3) := by decide +kernel
theorem dX12_init_226 : decode cX12_init 226 = .ok (.aload_n 0, 1) := by decide +kernel
theorem dX12_init_227 : decode cX12_init 227 = .ok (.bipush 12, 2) := by decide +kernel
theorem dX12_init_229 : decode cX12_init 229 = .ok (.newarray .int, 2) := by decide +kernel
theorem dX12_init_231 : decode cX12_init 231 = .ok (.putfield 99, 3) := by decide +kernel
theorem dX12_init_234 : decode cX12_init 234 = .ok (.aload_n 0, 1) := by decide +kernel
theorem dX12_init_235 : decode cX12_init 235 = .ok (.bipush 12, 2) := by decide +kernel
theorem dX12_init_237 : decode cX12_init 237 = .ok (.newarray .int, 2) := by decide +kernel
theorem dX12_init_239 : decode cX12_init 239 = .ok (.putfield 102, 3) := by decide +kernel
theorem dX12_init_242 : decode cX12_init 242 = .ok (.aload_n 0, 1) := by decide +kernel
theorem dX12_init_243 : decode cX12_init 243 = .ok (.bipush 24, 2) := by decide +kernel
theorem dX12_init_245 : decode cX12_init 245 = .ok (.newarray .int, 2) := by decide +kernel
theorem dX12_init_247 : decode cX12_init 247 = .ok (.putfield 105, 3) := by decide +kernel
theorem dX12_init_250 : decode cX12_init 250 = .ok (.aload_n 0, 1) := by decide +kernel
theorem dX12_init_251 : decode cX12_init 251 = .ok (.bipush 6, 2) := by decide +kernel
theorem dX12_init_253 : decode cX12_init 253 = .ok (.newarray .int, 2) := by decide +kernel
theorem dX12_init_255 : decode cX12_init 255 = .ok (.putfield 108, 3) := by decide +kernel
theorem dX12_init_258 : decode cX12_init 258 = .ok (.aload_n 0, 1) := by decide +kernel
theorem dX12_init_259 : decode cX12_init 259 = .ok (.bipush 6, 2) := by decide +kernel
theorem dX12_init_261 : decode cX12_init 261 = .ok (.newarray .int, 2) := by decide +kernel
theorem dX12_init_263 : decode cX12_init 263 = .ok (.putfield 111, 3) := by decide +kernel
theorem dX12_init_266 : decode cX12_init 266 = .ok (.aload_n 0, 1) := by decide +kernel
theorem dX12_init_267 : decode cX12_init 267 = .ok (.sipush 360, 3) := by decide +kernel
theorem dX12_init_270 : decode cX12_init 270 = .ok (.newarray .long, 2) := by decide +kernel
theorem dX12_init_272 : decode cX12_init 272 = .ok (.putfield 114, 3) := by decide +kernel
theorem dX12_init_275 : decode cX12_init 275 = .ok (.aload_n 0, 1) := by decide +kernel
theorem dX12_init_276 : decode cX12_init 276 = .ok (.bipush 60, 2) := by decide +kernel
theorem dX12_init_278 : decode cX12_init 278 = .ok (.newarray .long, 2) := by decide +kernel
theorem dX12_init_280 : decode cX12_init 280 = .ok (.putfield 118, 3) := by decide +kernel
theorem dX12_init_283 : decode cX12_init 283 = .ok (.iconst 0, 1) := by decide +kernel
theorem dX12_init_284 : decode cX12_init 284 = .ok (.istore_n 1, 1) := by decide +kernel
theorem dX12_init_285 : decode cX12_init 285 = .ok (.iload_n 1, 1) := by decide +kernel
theorem dX12_init_286 : decode cX12_init 286 = .ok (.bipush 6, 2) := by decide +kernel
theorem dX12_init_288 : decode cX12_init 288 = .ok (.if_icmp .ge 16, 3) := by decide +kernel
theorem dX12_init_291 : decode cX12_init 291 = .ok (.aload_n 0, 1) := by decide +kernel
theorem dX12_init_292 : decode cX12_init 292 = .ok (.getfield 108, 3) := by decide +kernel
theorem dX12_init_295 : decode cX12_init 295 = .ok (.iload_n 1, 1) := by decide +kernel
theorem dX12_init_296 : decode cX12_init 296 = .ok (.iconst (-1), 1) := by decide +kernel
theorem dX12_init_297 : decode cX12_init 297 = .ok (.iastore, 1) := by decide +kernel
theorem dX12_init_298 : decode cX12_init 298 = .ok (.iinc 1 1, 3) := by decide +kernel
theorem dX12_init_301 : decode cX12_init 301 = .ok (.goto (-16), 3) := by decide +kernel
theorem dX12_init_304 : decode cX12_init 304 = .ok (.iconst 0, 1) := by decide +kernel
theorem dX12_init_305 : decode cX12_init 305 = .ok (.istore_n 1, 1) := by decide +kernel
theorem dX12_init_306 : decode cX12_init 306 = .ok (.iload_n 1, 1) := by decide +kernel
theorem dX12_init_307 : decode cX12_init 307 = .ok (.bipush 16, 2) := by decide +kernel
theorem dX12_init_309 : decode cX12_init 309 = .ok (.if_icmp .ge 17, 3) := by decide +kernel
theorem dX12_init_312 : decode cX12_init 312 = .ok (.aload_n 0, 1) := by decide +kernel
theorem dX12_init_313 : decode cX12_init 313 = .ok (.getfield 7, 3) := by decide +kernel
theorem dX12_init_316 : decode cX12_init 316 = .ok (.iload_n 1, 1) := by decide +kernel
theorem dX12_init_317 : decode cX12_init 317 = .ok (.bipush 100, 2) := by decide +kernel
theorem dX12_init_319 : decode cX12_init 319 = .ok (.iastore, 1) := by decide +kernel
theorem dX12_init_320 : decode cX12_init 320 = .ok (.iinc 1 1, 3) := by decide +kernel
theorem dX12_init_323 : decode cX12_init 323 = .ok (.goto (-17), 3) := by decide +kernel
theorem dX12_init_326 : decode cX12_init 326 = .ok (.aload_n 0, 1) := by decide +kernel
theorem dX12_init_327 : decode cX12_init 327 = .ok (.getfield 37, 3) := by decide +kernel
theorem dX12_init_330 : decode cX12_init 330 = .ok (.iconst 0, 1) := by decide +kernel
theorem dX12_init_331 : decode cX12_init 331 = .ok (.iconst (-1), 1) := by decide +kernel
theorem dX12_init_332 : decode cX12_init 332 = .ok (.iastore, 1) := by decide +kernel
theorem dX12_init_333 : decode cX12_init 333 = .ok (.aload_n 0, 1) := by decide +kernel
theorem dX12_init_334 : decode cX12_init 334 = .ok (.getfield 37, 3) := by decide +kernel
theorem dX12_init_337 : decode cX12_init 337 = .ok (.iconst 1, 1) := by decide +kernel
theorem dX12_init_338 : decode cX12_init 338 = .ok (.iconst (-1), 1) := by decide +kernel
theorem dX12_init_339 : decode cX12_init 339 = .ok (.iastore, 1) := by decide +kernel
theorem dX12_init_340 : decode cX12_init 340 = .ok (.aload_n 0, 1) := by decide +kernel
theorem dX12_init_341 : decode cX12_init 341 = .ok (.iconst 1, 1) := by decide +kernel
theorem dX12_init_342 : decode cX12_init 342 = .ok (.putfield 121, 3) := by decide +kernel
theorem dX12_init_345 : decode cX12_init 345 = .ok (.aload_n 0, 1) := by decide +kernel
theorem dX12_init_346 : decode cX12_init 346 = .ok (.bipush 8, 2) := by decide +kernel
theorem dX12_init_348 : decode cX12_init 348 = .ok (.putfield 124, 3) := by decide +kernel
theorem dX12_init_351 : decode cX12_init 351 = .ok (.return_, 1) := by decide +kernel
theorem dX12_becomes_0 : decode cX12_becomes 0 = .ok (.aload_n 0, 1) := by decide +kernel
theorem dX12_becomes_1 : decode cX12_becomes 1 = .ok (.getfield 7, 3) := by decide +kernel
theorem dX12_becomes_4 : decode cX12_becomes 4 = .ok (.iload_n 1, 1) := by decide +kernel
theorem dX12_becomes_5 : decode cX12_becomes 5 = .ok (.iaload, 1) := by decide +kernel
theorem dX12_becomes_6 : decode cX12_becomes 6 = .ok (.istore_n 3, 1) := by decide +kernel
theorem dX12_becomes_7 : decode cX12_becomes 7 = .ok (.iload_n 3, 1) := by decide +kernel
theorem dX12_becomes_8 : decode cX12_becomes 8 = .ok (.iload_n 2, 1) := by decide +kernel
theorem dX12_becomes_9 : decode cX12_becomes 9 = .ok (.if_icmp .ne 5, 3) := by decide +kernel
theorem dX12_becomes_12 : decode cX12_becomes 12 = .ok (.iload_n 3, 1) := by decide +kernel
theorem dX12_becomes_13 : decode cX12_becomes 13 = .ok (.ireturn, 1) := by decide +kernel
theorem dX12_becomes_14 : decode cX12_becomes 14 = .ok (.aload_n 0, 1) := by decide +kernel
theorem dX12_becomes_15 : decode cX12_becomes 15 = .ok (.getfield 127, 3) := by decide +kernel
theorem dX12_becomes_18 : decode cX12_becomes 18 = .ok (.bipush 40, 2) := by decide +kernel
theorem dX12_becomes_20 : decode cX12_becomes 20 = .ok (.if_icmp .ne 77, 3) := by decide +kernel
theorem dX12_becomes_23 : decode cX12_becomes 23 = .ok (.iconst 1, 1) := by decide +kernel
theorem dX12_becomes_24 : decode cX12_becomes 24 = .ok (.istore 4, 2) := by decide +kernel
theorem dX12_becomes_26 : decode cX12_becomes 26 = .ok (.iload 4, 2) := by decide +kernel
theorem dX12_becomes_28 : decode cX12_becomes 28 = .ok (.bipush 40, 2) := by decide +kernel
theorem dX12_becomes_30 : decode cX12_becomes 30 = .ok (.if_icmp .ge 57, 3) := by decide +kernel
theorem dX12_becomes_33 : decode cX12_becomes 33 = .ok (.aload_n 0, 1) := by decide +kernel
theorem dX12_becomes_34 : decode cX12_becomes 34 = .ok (.getfield 13, 3) := by decide +kernel
theorem dX12_becomes_37 : decode cX12_becomes 37 = .ok (.iload 4, 2) := by decide +kernel
theorem dX12_becomes_39 : decode cX12_becomes 39 = .ok (.iconst 1, 1) := by decide +kernel
theorem dX12_becomes_40 : decode cX12_becomes 40 = .ok (.isub, 1) := by decide +kernel
theorem dX12_becomes_41 : decode cX12_becomes 41 = .ok (.aload_n 0, 1) := by decide +kernel
theorem dX12_becomes_42 : decode cX12_becomes 42 = .ok (.getfield 13, 3) := by decide +kernel
theorem dX12_becomes_45 : decode cX12_becomes 45 = .ok (.iload 4, 2) := by decide +kernel
theorem dX12_becomes_47 : decode cX12_becomes 47 = .ok (.iaload, 1) := by decide +kernel
theorem dX12_becomes_48 : decode cX12_becomes 48 = .ok (.iastore, 1) := by decide +kernel
theorem dX12_becomes_49 : decode cX12_becomes 49 = .ok (.aload_n 0, 1) := by decide +kernel
theorem dX12_becomes_50 : decode cX12_becomes 50 = .ok (.getfield 16, 3) := by decide +kernel
theorem dX12_becomes_53 : decode cX12_becomes 53 = .ok (.iload 4, 2) := by decide +kernel
theorem dX12_becomes_55 : decode cX12_becomes 55 = .ok (.iconst 1, 1) := by decide +kernel
theorem dX12_becomes_56 : decode cX12_becomes 56 = .ok (.isub, 1) := by decide +kernel
theorem dX12_becomes_57 : decode cX12_becomes 57 = .ok (.aload_n 0, 1) := by decide +kernel
theorem dX12_becomes_58 : decode cX12_becomes 58 = .ok (.getfield 16, 3) := by decide +kernel
theorem dX12_becomes_61 : decode cX12_becomes 61 = .ok (.iload 4, 2) := by decide +kernel
theorem dX12_becomes_63 : decode cX12_becomes 63 = .ok (.iaload, 1) := by decide +kernel
theorem dX12_becomes_64 : decode cX12_becomes 64 = .ok (.iastore, 1) := by decide +kernel
theorem dX12_becomes_65 : decode cX12_becomes 65 = .ok (.aload_n 0, 1) := by decide +kernel
theorem dX12_becomes_66 : decode cX12_becomes 66 = .ok (.getfield 19, 3) := by decide +kernel
theorem dX12_becomes_69 : decode cX12_becomes 69 = .ok (.iload 4, 2) := by decide +kernel
theorem dX12_becomes_71 : decode cX12_becomes 71 = .ok (.iconst 1, 1) := by decide +kernel
theorem dX12_becomes_72 : decode cX12_becomes 72 = .ok (.isub, 1) := by decide +kernel
theorem dX12_becomes_73 : decode cX12_becomes 73 = .ok (.aload_n 0, 1) := by decide +kernel
theorem dX12_becomes_74 : decode cX12_becomes 74 = .ok (.getfield 19, 3) := by decide +kernel
theorem dX12_becomes_77 : decode cX12_becomes 77 = .ok (.iload 4, 2) := by decide +kernel
theorem dX12_becomes_79 : decode cX12_becomes 79 = .ok (.iaload, 1) := by decide +kernel
theorem dX12_becomes_80 : decode cX12_becomes 80 = .ok (.iastore, 1) := by decide +kernel
theorem dX12_becomes_81 : decode cX12_becomes 81 = .ok (.iinc 4 1, 3) := by decide +kernel
theorem dX12_becomes_84 : decode cX12_becomes 84 = .ok (.goto (-58), 3) := by decide +kernel
theorem dX12_becomes_87 : decode cX12_becomes 87 = .ok (.aload_n 0, 1) := by decide +kernel
theorem dX12_becomes_88 : decode cX12_becomes 88 = .ok (.dup, 1) := by decide +kernel
theorem dX12_becomes_89 : decode cX12_becomes 89 = .ok (.getfield 127, 3) := by decide +kernel
theorem dX12_becomes_92 : decode cX12_becomes 92 = .ok (.iconst 1, 1) := by decide +kernel
theorem dX12_becomes_93 : decode cX12_becomes 93 = .ok (.isub, 1) := by decide +kernel
theorem dX12_becomes_94 : decode cX12_becomes 94 = .ok (.putfield 127, 3) := by decide +kernel
theorem dX12_becomes_97 : decode cX12_becomes 97 = .ok (.aload_n 0, 1) := by decide +kernel
theorem dX12_becomes_98 : decode cX12_becomes 98 = .ok (.getfield 13, 3) := by decide +kernel
theorem dX12_becomes_101 : decode cX12_becomes 101 = .ok (.aload_n 0, 1) := by decide +kernel
theorem dX12_becomes_102 : decode cX12_becomes 102 = .ok (.getfield 127, 3) := by decide +kernel
theorem dX12_becomes_105 : decode cX12_becomes 105 = .ok (.iload_n 1, 1) := by decide +kernel
theorem dX12_becomes_106 : decode cX12_becomes 106 = .ok (.iastore, 1) := by decide +kernel
theorem dX12_becomes_107 : decode cX12_becomes 107 = .ok (.aload_n 0, 1) := by decide +kernel
theorem dX12_becomes_108 : decode cX12_becomes 108 = .ok (.getfield 16, 3) := by decide +kernel
theorem dX12_becomes_111 : decode cX12_becomes 111 = .ok (.aload_n 0, 1) := by decide +kernel
theorem dX12_becomes_112 : decode cX12_becomes 112 = .ok (.getfield 127, 3) := by decide +kernel
theorem dX12_becomes_115 : decode cX12_becomes 115 = .ok (.iload_n 3, 1) := by decide +kernel
theorem dX12_becomes_116 : decode cX12_becomes 116 = .ok (.iastore, 1) := by decide +kernel
theorem dX12_becomes_117 : decode cX12_becomes 117 = .ok (.aload_n 0, 1) := by decide +kernel
theorem dX12_becomes_118 : decode cX12_becomes 118 = .ok (.getfield 19, 3) := by decide +kernel
theorem dX12_becomes_121 : decode cX12_becomes 121 = .ok (.aload_n 0, 1) := by decide +kernel
theorem dX12_becomes_122 : decode cX12_becomes 122 = .ok (.getfield 127, 3) := by decide +kernel
theorem dX12_becomes_125 : decode cX12_becomes 125 = .ok (.iload_n 2, 1) := by decide +kernel
theorem dX12_becomes_126 : decode cX12_becomes 126 = .ok (.iastore, 1) := by decide +kernel
theorem dX12_becomes_127 : decode cX12_becomes 127 = .ok (.aload_n 0, 1) := by decide +kernel
theorem dX12_becomes_128 : decode cX12_becomes 128 = .ok (.dup, 1) := by decide +kernel
theorem dX12_becomes_129 : decode cX12_becomes 129 = .ok (.getfield 127, 3) := by decide +kernel
theorem dX12_becomes_132 : decode cX12_becomes 132 = .ok (.iconst 1, 1) := by decide +kernel
theorem dX12_becomes_133 : decode cX12_becomes 133 = .ok (.iadd, 1) := by decide +kernel
theorem dX12_becomes_134 : decode cX12_becomes 134 = .ok (.putfield 127, 3) := by decide +kernel
theorem dX12_becomes_137 : decode cX12_becomes 137 = .ok (.aload_n 0, 1) := by decide +kernel
theorem dX12_becomes_138 : decode cX12_becomes 138 = .ok (.aload_n 0, 1) := by decide +kernel
theorem dX12_becomes_139 : decode cX12_becomes 139 = .ok (.getfield 127, 3) := by decide +kernel
theorem dX12_becomes_142 : decode cX12_becomes 142 = .ok (.putfield 130, 3) := by decide +kernel
theorem dX12_becomes_145 : decode cX12_becomes 145 = .ok (.aload_n 0, 1) := by decide +kernel
theorem dX12_becomes_146 : decode cX12_becomes 146 = .ok (.getfield 7, 3) := by decide +kernel
theorem dX12_becomes_149 : decode cX12_becomes 149 = .ok (.iload_n 1, 1) := by decide +kernel
theorem dX12_becomes_150 : decode cX12_becomes 150 = .ok (.iload_n 2, 1) := by decide +kernel
theorem dX12_becomes_151 : decode cX12_becomes 151 = .ok (.iastore, 1) := by decide +kernel
theorem dX12_becomes_152 : decode cX12_becomes 152 = .ok (.iload_n 3, 1) := by decide +kernel
theorem dX12_becomes_153 : decode cX12_becomes 153 = .ok (.ireturn, 1) := by decide +kernel
theorem dX12_undo_0 : decode cX12_undo 0 = .ok (.aload_n 0, 1) := by decide +kernel
theorem dX12_undo_1 : decode cX12_undo 1 = .ok (.getfield 127, 3) := by decide +kernel
theorem dX12_undo_4 : decode cX12_undo 4 = .ok (.ifCond .ne 6, 3) := by decide +kernel
theorem dX12_undo_7 : decode cX12_undo 7 = .ok (.bipush (-5), 2) := by decide +kernel
theorem dX12_undo_9 : decode cX12_undo 9 = .ok (.ireturn, 1) := by decide +kernel
theorem dX12_undo_10 : decode cX12_undo 10 = .ok (.aload_n 0, 1) := by decide +kernel
theorem dX12_undo_11 : decode cX12_undo 11 = .ok (.dup, 1) := by decide +kernel
theorem dX12_undo_12 : decode cX12_undo 12 = .ok (.getfield 127, 3) := by decide +kernel
theorem dX12_undo_15 : decode cX12_undo 15 = .ok (.iconst 1, 1) := by decide +kernel
theorem dX12_undo_16 : decode cX12_undo 16 = .ok (.isub, 1) := by decide +kernel
theorem dX12_undo_17 : decode cX12_undo 17 = .ok (.putfield 127, 3) := by decide +kernel
theorem dX12_undo_20 : decode cX12_undo 20 = .ok (.aload_n 0, 1) := by decide +kernel
theorem dX12_undo_21 : decode cX12_undo 21 = .ok (.getfield 7, 3) := by decide +kernel
theorem dX12_undo_24 : decode cX12_undo 24 = .ok (.aload_n 0, 1) := by decide +kernel
theorem dX12_undo_25 : decode cX12_undo 25 = .ok (.getfield 13, 3) := by decide +kernel
theorem dX12_undo_28 : decode cX12_undo 28 = .ok (.aload_n 0, 1) := by decide +kernel
theorem dX12_undo_29 : decode cX12_undo 29 = .ok (.getfield 127, 3) := by decide +kernel
theorem dX12_undo_32 : decode cX12_undo 32 = .ok (.iaload, 1) := by decide +kernel
theorem dX12_undo_33 : decode cX12_undo 33 = .ok (.aload_n 0, 1) := by decide +kernel
theorem dX12_undo_34 : decode cX12_undo 34 = .ok (.getfield 16, 3) := by decide +kernel
theorem dX12_undo_37 : decode cX12_undo 37 = .ok (.aload_n 0, 1) := by decide +kernel
theorem dX12_undo_38 : decode cX12_undo 38 = .ok (.getfield 127, 3) := by decide +kernel
theorem dX12_undo_41 : decode cX12_undo 41 = .ok (.iaload, 1) := by decide +kernel
theorem dX12_undo_42 : decode cX12_undo 42 = .ok (.iastore, 1) := by decide +kernel
theorem dX12_undo_43 : decode cX12_undo 43 = .ok (.aload_n 0, 1) := by decide +kernel
theorem dX12_undo_44 : decode cX12_undo 44 = .ok (.getfield 127, 3) := by decide +kernel
theorem dX12_undo_47 : decode cX12_undo 47 = .ok (.ireturn, 1) := by decide +kernel
theorem dX12_redo_0 : decode cX12_redo 0 = .ok (.aload_n 0, 1) := by decide +kernel
theorem dX12_redo_1 : decode cX12_redo 1 = .ok (.getfield 127, 3) := by decide +kernel
theorem dX12_redo_4 : decode cX12_redo 4 = .ok (.aload_n 0, 1) := by decide +kernel
theorem dX12_redo_5 : decode cX12_redo 5 = .ok (.getfield 130, 3) := by decide +kernel
theorem dX12_redo_8 : decode cX12_redo 8 = .ok (.if_icmp .ne 6, 3) := by decide +kernel
theorem dX12_redo_11 : decode cX12_redo 11 = .ok (.bipush (-5), 2) := by decide +kernel
theorem dX12_redo_13 : decode cX12_redo 13 = .ok (.ireturn, 1) := by decide +kernel
theorem dX12_redo_14 : decode cX12_redo 14 = .ok (.aload_n 0, 1) := by decide +kernel
theorem dX12_redo_15 : decode cX12_redo 15 = .ok (.getfield 7, 3) := by decide +kernel
theorem dX12_redo_18 : decode cX12_redo 18 = .ok (.aload_n 0, 1) := by decide +kernel
theorem dX12_redo_19 : decode cX12_redo 19 = .ok (.getfield 13, 3) := by decide +kernel
theorem dX12_redo_22 : decode cX12_redo 22 = .ok (.aload_n 0, 1) := by decide +kernel
theorem dX12_redo_23 : decode cX12_redo 23 = .ok (.getfield 127, 3) := by decide +kernel
theorem dX12_redo_26 : decode cX12_redo 26 = .ok (.iaload, 1) := by decide +kernel
theorem dX12_redo_27 : decode cX12_redo 27 = .ok (.aload_n 0, 1) := by decide +kernel
theorem dX12_redo_28 : decode cX12_redo 28 = .ok (.getfield 19, 3) := by decide +kernel
theorem dX12_redo_31 : decode cX12_redo 31 = .ok (.aload_n 0, 1) := by decide +kernel
theorem dX12_redo_32 : decode cX12_redo 32 = .ok (.getfield 127, 3) := by decide +kernel
theorem dX12_redo_35 : decode cX12_redo 35 = .ok (.iaload, 1) := by decide +kernel
theorem dX12_redo_36 : decode cX12_redo 36 = .ok (.iastore, 1) := by decide +kernel
theorem dX12_redo_37 : decode cX12_redo 37 = .ok (.aload_n 0, 1) := by decide +kernel
theorem dX12_redo_38 : decode cX12_redo 38 = .ok (.dup, 1) := by decide +kernel
theorem dX12_redo_39 : decode cX12_redo 39 = .ok (.getfield 127, 3) := by decide +kernel
theorem dX12_redo_42 : decode cX12_redo 42 = .ok (.iconst 1, 1) := by decide +kernel
theorem dX12_redo_43 : decode cX12_redo 43 = .ok (.iadd, 1) := by decide +kernel
theorem dX12_redo_44 : decode cX12_redo 44 = .ok (.putfield 127, 3) := by decide +kernel
theorem dX12_redo_47 : decode cX12_redo 47 = .ok (.aload_n 0, 1) := by decide +kernel
theorem dX12_redo_48 : decode cX12_redo 48 = .ok (.getfield 130, 3) := by decide +kernel
theorem dX12_redo_51 : decode cX12_redo 51 = .ok (.aload_n 0, 1) := by decide +kernel
theorem dX12_redo_52 : decode cX12_redo 52 = .ok (.getfield 127, 3) := by decide +kernel
theorem dX12_redo_55 : decode cX12_redo 55 = .ok (.isub, 1) := by decide +kernel
theorem dX12_redo_56 : decode cX12_redo 56 = .ok (.ireturn, 1) := by decide +kernel
theorem dX12_isBowler_0 : decode cX12_isBowler 0 = .ok (.iload_n 1, 1) := by decide +kernel
theorem dX12_isBowler_1 : decode cX12_isBowler 1 = .ok (.i2l, 1) := by decide +kernel
theorem dX12_isBowler_2 : decode cX12_isBowler 2 = .ok (.lconst 0, 1) := by decide +kernel
theorem dX12_isBowler_3 : decode cX12_isBowler 3 = .ok (.aload_n 0, 1) := by decide +kernel
theorem dX12_isBowler_4 : decode cX12_isBowler 4 = .ok (.getfield 133, 3) := by decide +kernel
theorem dX12_isBowler_7 : decode cX12_isBowler 7 = .ok (.iconst 1, 1) := by decide +kernel
theorem dX12_isBowler_8 : decode cX12_isBowler 8 = .ok (.isub, 1) := by decide +kernel
theorem dX12_isBowler_9 : decode cX12_isBowler 9 = .ok (.i2l, 1) := by decide +kernel
theorem dX12_isBowler_10 : decode cX12_isBowler 10 = .ok (.invokestatic 136, 3) := by decide +kernel
theorem dX12_isBowler_13 : decode cX12_isBowler 13 = .ok (.ireturn, 1) := by decide +kernel
theorem dX12_bowler_0 : decode cX12_bowler 0 = .ok (.iload_n 1, 1) := by decide +kernel
theorem dX12_bowler_1 : decode cX12_bowler 1 = .ok (.i2l, 1) := by decide +kernel
theorem dX12_bowler_2 : decode cX12_bowler 2 = .ok (.lconst 0, 1) := by decide +kernel
theorem dX12_bowler_3 : decode cX12_bowler 3 = .ok (.ldc2_w 140, 3) := by decide +kernel
theorem dX12_bowler_6 : decode cX12_bowler 6 = .ok (.invokestatic 136, 3) := by decide +kernel
theorem dX12_bowler_9 : decode cX12_bowler 9 = .ok (.ifCond .eq 27, 3) := by decide +kernel
theorem dX12_bowler_12 : decode cX12_bowler 12 = .ok (.iload_n 2, 1) := by decide +kernel
theorem dX12_bowler_13 : decode cX12_bowler 13 = .ok (.i2l, 1) := by decide +kernel
theorem dX12_bowler_14 : decode cX12_bowler 14 = .ok (.lconst 0, 1) := by decide +kernel
theorem dX12_bowler_15 : decode cX12_bowler 15 = .ok (.ldc2_w 142, 3) := by decide +kernel
theorem dX12_bowler_18 : decode cX12_bowler 18 = .ok (.invokestatic 136, 3) := by decide +kernel
theorem dX12_bowler_21 : decode cX12_bowler 21 = .ok (.ifCond .eq 15, 3) := by decide +kernel
theorem dX12_bowler_24 : decode cX12_bowler 24 = .ok (.iload_n 3, 1) := by decide +kernel
theorem dX12_bowler_25 : decode cX12_bowler 25 = .ok (.i2l, 1) := by decide +kernel
theorem dX12_bowler_26 : decode cX12_bowler 26 = .ok (.lconst 0, 1) := by decide +kernel
theorem dX12_bowler_27 : decode cX12_bowler 27 = .ok (.ldc2_w 144, 3) := by decide +kernel
theorem dX12_bowler_30 : decode cX12_bowler 30 = .ok (.invokestatic 136, 3) := by decide +kernel
theorem dX12_bowler_33 : decode cX12_bowler 33 = .ok (.ifCond .ne 5, 3) := by decide +kernel
theorem dX12_bowler_36 : decode cX12_bowler 36 = .ok (.iconst (-1), 1) := by decide +kernel
theorem dX12_bowler_37 : decode cX12_bowler 37 = .ok (.ireturn, 1) := by decide +kernel
theorem dX12_bowler_38 : decode cX12_bowler 38 = .ok (.aload_n 0, 1) := by decide +kernel
theorem dX12_bowler_39 : decode cX12_bowler 39 = .ok (.getfield 133, 3) := by decide +kernel
theorem dX12_bowler_42 : decode cX12_bowler 42 = .ok (.iconst 4, 1) := by decide +kernel
theorem dX12_bowler_43 : decode cX12_bowler 43 = .ok (.if_icmp .ne 6, 3) := by decide +kernel
theorem dX12_bowler_46 : decode cX12_bowler 46 = .ok (.bipush (-3), 2) := by decide +kernel
theorem dX12_bowler_48 : decode cX12_bowler 48 = .ok (.ireturn, 1) := by decide +kernel
theorem dX12_bowler_49 : decode cX12_bowler 49 = .ok (.aload_n 0, 1) := by decide +kernel
theorem dX12_bowler_50 : decode cX12_bowler 50 = .ok (.getfield 7, 3) := by decide +kernel
theorem dX12_bowler_53 : decode cX12_bowler 53 = .ok (.bipush 32, 2) := by decide +kernel
theorem dX12_bowler_55 : decode cX12_bowler 55 = .ok (.aload_n 0, 1) := by decide +kernel
theorem dX12_bowler_56 : decode cX12_bowler 56 = .ok (.getfield 133, 3) := by decide +kernel
theorem dX12_bowler_59 : decode cX12_bowler 59 = .ok (.iadd, 1) := by decide +kernel
theorem dX12_bowler_60 : decode cX12_bowler 60 = .ok (.iload_n 1, 1) := by decide +kernel
theorem dX12_bowler_61 : decode cX12_bowler 61 = .ok (.iastore, 1) := by decide +kernel
theorem dX12_bowler_62 : decode cX12_bowler 62 = .ok (.aload_n 0, 1) := by decide +kernel
theorem dX12_bowler_63 : decode cX12_bowler 63 = .ok (.getfield 22, 3) := by decide +kernel
theorem dX12_bowler_66 : decode cX12_bowler 66 = .ok (.aload_n 0, 1) := by decide +kernel
theorem dX12_bowler_67 : decode cX12_bowler 67 = .ok (.getfield 133, 3) := by decide +kernel
theorem dX12_bowler_70 : decode cX12_bowler 70 = .ok (.iload_n 2, 1) := by decide +kernel
theorem dX12_bowler_71 : decode cX12_bowler 71 = .ok (.iastore, 1) := by decide +kernel
theorem dX12_bowler_72 : decode cX12_bowler 72 = .ok (.aload_n 0, 1) := by decide +kernel
theorem dX12_bowler_73 : decode cX12_bowler 73 = .ok (.getfield 25, 3) := by decide +kernel
theorem dX12_bowler_76 : decode cX12_bowler 76 = .ok (.aload_n 0, 1) := by decide +kernel
theorem dX12_bowler_77 : decode cX12_bowler 77 = .ok (.getfield 133, 3) := by decide +kernel
theorem dX12_bowler_80 : decode cX12_bowler 80 = .ok (.iload_n 3, 1) := by decide +kernel
theorem dX12_bowler_81 : decode cX12_bowler 81 = .ok (.iastore, 1) := by decide +kernel
theorem dX12_bowler_82 : decode cX12_bowler 82 = .ok (.aload_n 0, 1) := by decide +kernel
theorem dX12_bowler_83 : decode cX12_bowler 83 = .ok (.dup, 1) := by decide +kernel
theorem dX12_bowler_84 : decode cX12_bowler 84 = .ok (.getfield 133, 3) := by decide +kernel
theorem dX12_bowler_87 : decode cX12_bowler 87 = .ok (.iconst 1, 1) := by decide +kernel
theorem dX12_bowler_88 : decode cX12_bowler 88 = .ok (.iadd, 1) := by decide +kernel
theorem dX12_bowler_89 : decode cX12_bowler 89 = .ok (.putfield 133, 3) := by decide +kernel
theorem dX12_bowler_92 : decode cX12_bowler 92 = .ok (.aload_n 0, 1) := by decide +kernel
theorem dX12_bowler_93 : decode cX12_bowler 93 = .ok (.getfield 133, 3) := by decide +kernel
theorem dX12_bowler_96 : decode cX12_bowler 96 = .ok (.iconst 1, 1) := by decide +kernel
theorem dX12_bowler_97 : decode cX12_bowler 97 = .ok (.isub, 1) := by decide +kernel
theorem dX12_bowler_98 : decode cX12_bowler 98 = .ok (.ireturn, 1) := by decide +kernel
theorem dX12_edge_0 : decode cX12_edge 0 = .ok (.iload_n 1, 1) := by decide +kernel
theorem dX12_edge_1 : decode cX12_edge 1 = .ok (.ifCond .lt 26, 3) := by decide +kernel
theorem dX12_edge_4 : decode cX12_edge 4 = .ok (.aload_n 0, 1) := by decide +kernel
theorem dX12_edge_5 : decode cX12_edge 5 = .ok (.iload_n 1, 1) := by decide +kernel
theorem dX12_edge_6 : decode cX12_edge 6 = .ok (.bipush 10, 2) := by decide +kernel
theorem dX12_edge_8 : decode cX12_edge 8 = .ok (.idiv, 1) := by decide +kernel
theorem dX12_edge_9 : decode cX12_edge 9 = .ok (.invokevirtual 146, 3) := by decide +kernel
theorem dX12_edge_12 : decode cX12_edge 12 = .ok (.ifCond .eq 15, 3) := by decide +kernel
theorem dX12_edge_15 : decode cX12_edge 15 = .ok (.iload_n 2, 1) := by decide +kernel
theorem dX12_edge_16 : decode cX12_edge 16 = .ok (.i2l, 1) := by decide +kernel
theorem dX12_edge_17 : decode cX12_edge 17 = .ok (.lconst 0, 1) := by decide +kernel
theorem dX12_edge_18 : decode cX12_edge 18 = .ok (.ldc2_w 150, 3) := by decide +kernel
theorem dX12_edge_21 : decode cX12_edge 21 = .ok (.invokestatic 136, 3) := by decide +kernel
theorem dX12_edge_24 : decode cX12_edge 24 = .ok (.ifCond .ne 6, 3) := by decide +kernel
theorem dX12_edge_27 : decode cX12_edge 27 = .ok (.ldc 152, 2) := by decide +kernel
theorem dX12_edge_29 : decode cX12_edge 29 = .ok (.ireturn, 1) := by decide +kernel
theorem dX12_edge_30 : decode cX12_edge 30 = .ok (.iload_n 2, 1) := by decide +kernel
theorem dX12_edge_31 : decode cX12_edge 31 = .ok (.iconst 2, 1) := by decide +kernel
theorem dX12_edge_32 : decode cX12_edge 32 = .ok (.if_icmp .ne 33, 3) := by decide +kernel
theorem dX12_edge_35 : decode cX12_edge 35 = .ok (.iload_n 3, 1) := by decide +kernel
theorem dX12_edge_36 : decode cX12_edge 36 = .ok (.i2l, 1) := by decide +kernel
theorem dX12_edge_37 : decode cX12_edge 37 = .ok (.lconst 0, 1) := by decide +kernel
theorem dX12_edge_38 : decode cX12_edge 38 = .ok (.ldc2_w 140, 3) := by decide +kernel
theorem dX12_edge_41 : decode cX12_edge 41 = .ok (.invokestatic 136, 3) := by decide +kernel
theorem dX12_edge_44 : decode cX12_edge 44 = .ok (.ifCond .eq 18, 3) := by decide +kernel
theorem dX12_edge_47 : decode cX12_edge 47 = .ok (.aload_n 0, 1) := by decide +kernel
theorem dX12_edge_48 : decode cX12_edge 48 = .ok (.bipush 32, 2) := by decide +kernel
theorem dX12_edge_50 : decode cX12_edge 50 = .ok (.iload_n 1, 1) := by decide +kernel
theorem dX12_edge_51 : decode cX12_edge 51 = .ok (.bipush 10, 2) := by decide +kernel
theorem dX12_edge_53 : decode cX12_edge 53 = .ok (.idiv, 1) := by decide +kernel
theorem dX12_edge_54 : decode cX12_edge 54 = .ok (.iadd, 1) := by decide +kernel
theorem dX12_edge_55 : decode cX12_edge 55 = .ok (.iload_n 3, 1) := by decide +kernel
theorem dX12_edge_56 : decode cX12_edge 56 = .ok (.invokevirtual 153, 3) := by decide +kernel
theorem dX12_edge_59 : decode cX12_edge 59 = .ok (.goto 5, 3) := by decide +kernel
theorem dX12_edge_62 : decode cX12_edge 62 = .ok (.ldc 152, 2) := by decide +kernel
theorem dX12_edge_64 : decode cX12_edge 64 = .ok (.ireturn, 1) := by decide +kernel
theorem dX12_edge_65 : decode cX12_edge 65 = .ok (.iload_n 1, 1) := by decide +kernel
theorem dX12_edge_66 : decode cX12_edge 66 = .ok (.bipush 10, 2) := by decide +kernel
theorem dX12_edge_68 : decode cX12_edge 68 = .ok (.irem, 1) := by decide +kernel
theorem dX12_edge_69 : decode cX12_edge 69 = .ok (.iconst 4, 1) := by decide +kernel
theorem dX12_edge_70 : decode cX12_edge 70 = .ok (.if_icmp .ge 40, 3) := by decide +kernel
theorem dX12_edge_73 : decode cX12_edge 73 = .ok (.iload_n 2, 1) := by decide +kernel
theorem dX12_edge_74 : decode cX12_edge 74 = .ok (.ifCond .ne 18, 3) := by decide +kernel
theorem dX12_edge_77 : decode cX12_edge 77 = .ok (.iload_n 3, 1) := by decide +kernel
theorem dX12_edge_78 : decode cX12_edge 78 = .ok (.i2l, 1) := by decide +kernel
theorem dX12_edge_79 : decode cX12_edge 79 = .ok (.lconst 0, 1) := by decide +kernel
theorem dX12_edge_80 : decode cX12_edge 80 = .ok (.ldc2_w 157, 3) := by decide +kernel
theorem dX12_edge_83 : decode cX12_edge 83 = .ok (.invokestatic 136, 3) := by decide +kernel
theorem dX12_edge_86 : decode cX12_edge 86 = .ok (.ifCond .eq 24, 3) := by decide +kernel
theorem dX12_edge_89 : decode cX12_edge 89 = .ok (.goto 17, 3) := by decide +kernel
theorem dX12_edge_92 : decode cX12_edge 92 = .ok (.iload_n 3, 1) := by decide +kernel
theorem dX12_edge_93 : decode cX12_edge 93 = .ok (.i2l, 1) := by decide +kernel
theorem dX12_edge_94 : decode cX12_edge 94 = .ok (.ldc2_w 159, 3) := by decide +kernel
theorem dX12_edge_97 : decode cX12_edge 97 = .ok (.ldc2_w 161, 3) := by decide +kernel
theorem dX12_edge_100 : decode cX12_edge 100 = .ok (.invokestatic 136, 3) := by decide +kernel
theorem dX12_edge_103 : decode cX12_edge 103 = .ok (.ifCond .eq 7, 3) := by decide +kernel
theorem dX12_edge_106 : decode cX12_edge 106 = .ok (.iconst 1, 1) := by decide +kernel
theorem dX12_edge_107 : decode cX12_edge 107 = .ok (.goto 4, 3) := by decide +kernel
theorem dX12_edge_110 : decode cX12_edge 110 = .ok (.iconst 0, 1) := by decide +kernel
theorem dX12_edge_111 : decode cX12_edge 111 = .ok (.istore 4, 2) := by decide +kernel
theorem dX12_edge_113 : decode cX12_edge 113 = .ok (.iload 4, 2) := by decide +kernel
theorem dX12_edge_115 : decode cX12_edge 115 = .ok (.ifCond .eq 33, 3) := by decide +kernel
theorem dX12_edge_118 : decode cX12_edge 118 = .ok (.aload_n 0, 1) := by decide +kernel
theorem dX12_edge_119 : decode cX12_edge 119 = .ok (.iload_n 2, 1) := by decide +kernel
theorem dX12_edge_120 : decode cX12_edge 120 = .ok (.ifCond .ne 7, 3) := by decide +kernel
theorem dX12_edge_123 : decode cX12_edge 123 = .ok (.iconst 0, 1) := by decide +kernel
theorem dX12_edge_124 : decode cX12_edge 124 = .ok (.goto 5, 3) := by decide +kernel
theorem dX12_edge_127 : decode cX12_edge 127 = .ok (.bipush 16, 2) := by decide +kernel
theorem dX12_edge_129 : decode cX12_edge 129 = .ok (.iconst 4, 1) := by decide +kernel
theorem dX12_edge_130 : decode cX12_edge 130 = .ok (.iload_n 1, 1) := by decide +kernel
theorem dX12_edge_131 : decode cX12_edge 131 = .ok (.bipush 10, 2) := by decide +kernel
theorem dX12_edge_133 : decode cX12_edge 133 = .ok (.idiv, 1) := by decide +kernel
theorem dX12_edge_134 : decode cX12_edge 134 = .ok (.imul, 1) := by decide +kernel
theorem dX12_edge_135 : decode cX12_edge 135 = .ok (.iadd, 1) := by decide +kernel
theorem dX12_edge_136 : decode cX12_edge 136 = .ok (.iload_n 1, 1) := by decide +kernel
theorem dX12_edge_137 : decode cX12_edge 137 = .ok (.bipush 10, 2) := by decide +kernel
theorem dX12_edge_139 : decode cX12_edge 139 = .ok (.irem, 1) := by decide +kernel
theorem dX12_edge_140 : decode cX12_edge 140 = .ok (.iadd, 1) := by decide +kernel
theorem dX12_edge_141 : decode cX12_edge 141 = .ok (.iload_n 3, 1) := by decide +kernel
theorem dX12_edge_142 : decode cX12_edge 142 = .ok (.invokevirtual 153, 3) := by decide +kernel
theorem dX12_edge_145 : decode cX12_edge 145 = .ok (.goto 5, 3) := by decide +kernel
theorem dX12_edge_148 : decode cX12_edge 148 = .ok (.ldc 152, 2) := by decide +kernel
theorem dX12_edge_150 : decode cX12_edge 150 = .ok (.ireturn, 1) := by decide +kernel
theorem dX12_field_0 : decode cX12_field 0 = .ok (.iload_n 1, 1) := by decide +kernel
theorem dX12_field_1 : decode cX12_field 1 = .ok (.ifCond .lt 68, 3) := by decide +kernel
theorem dX12_field_4 : decode cX12_field 4 = .ok (.iload_n 1, 1) := by decide +kernel
theorem dX12_field_5 : decode cX12_field 5 = .ok (.bipush 10, 2) := by decide +kernel
theorem dX12_field_7 : decode cX12_field 7 = .ok (.idiv, 1) := by decide +kernel
theorem dX12_field_8 : decode cX12_field 8 = .ok (.iconst 4, 1) := by decide +kernel
theorem dX12_field_9 : decode cX12_field 9 = .ok (.if_icmp .ge 60, 3) := by decide +kernel
theorem dX12_field_12 : decode cX12_field 12 = .ok (.iload_n 1, 1) := by decide +kernel
theorem dX12_field_13 : decode cX12_field 13 = .ok (.bipush 10, 2) := by decide +kernel
theorem dX12_field_15 : decode cX12_field 15 = .ok (.irem, 1) := by decide +kernel
theorem dX12_field_16 : decode cX12_field 16 = .ok (.iconst 4, 1) := by decide +kernel
theorem dX12_field_17 : decode cX12_field 17 = .ok (.if_icmp .ge 52, 3) := by decide +kernel
theorem dX12_field_20 : decode cX12_field 20 = .ok (.iload_n 2, 1) := by decide +kernel
theorem dX12_field_21 : decode cX12_field 21 = .ok (.i2l, 1) := by decide +kernel
theorem dX12_field_22 : decode cX12_field 22 = .ok (.lconst 0, 1) := by decide +kernel
theorem dX12_field_23 : decode cX12_field 23 = .ok (.lconst 1, 1) := by decide +kernel
theorem dX12_field_24 : decode cX12_field 24 = .ok (.invokestatic 136, 3) := by decide +kernel
theorem dX12_field_27 : decode cX12_field 27 = .ok (.ifCond .eq 42, 3) := by decide +kernel
theorem dX12_field_30 : decode cX12_field 30 = .ok (.iload_n 2, 1) := by decide +kernel
theorem dX12_field_31 : decode cX12_field 31 = .ok (.ifCond .ne 20, 3) := by decide +kernel
theorem dX12_field_34 : decode cX12_field 34 = .ok (.iload_n 3, 1) := by decide +kernel
theorem dX12_field_35 : decode cX12_field 35 = .ok (.i2l, 1) := by decide +kernel
theorem dX12_field_36 : decode cX12_field 36 = .ok (.ldc2_w 163, 3) := by decide +kernel
theorem dX12_field_39 : decode cX12_field 39 = .ok (.ldc2_w 165, 3) := by decide +kernel
theorem dX12_field_42 : decode cX12_field 42 = .ok (.invokestatic 136, 3) := by decide +kernel
theorem dX12_field_45 : decode cX12_field 45 = .ok (.ifCond .eq 24, 3) := by decide +kernel
theorem dX12_field_48 : decode cX12_field 48 = .ok (.goto 17, 3) := by decide +kernel
theorem dX12_field_51 : decode cX12_field 51 = .ok (.iload_n 3, 1) := by decide +kernel
theorem dX12_field_52 : decode cX12_field 52 = .ok (.i2l, 1) := by decide +kernel
theorem dX12_field_53 : decode cX12_field 53 = .ok (.ldc2_w 159, 3) := by decide +kernel
theorem dX12_field_56 : decode cX12_field 56 = .ok (.ldc2_w 161, 3) := by decide +kernel
theorem dX12_field_59 : decode cX12_field 59 = .ok (.invokestatic 136, 3) := by decide +kernel
theorem dX12_field_62 : decode cX12_field 62 = .ok (.ifCond .eq 7, 3) := by decide +kernel
theorem dX12_field_65 : decode cX12_field 65 = .ok (.iconst 1, 1) := by decide +kernel
theorem dX12_field_66 : decode cX12_field 66 = .ok (.goto 4, 3) := by decide +kernel
theorem dX12_field_69 : decode cX12_field 69 = .ok (.iconst 0, 1) := by decide +kernel
theorem dX12_field_70 : decode cX12_field 70 = .ok (.istore 4, 2) := by decide +kernel
theorem dX12_field_72 : decode cX12_field 72 = .ok (.iload 4, 2) := by decide +kernel
theorem dX12_field_74 : decode cX12_field 74 = .ok (.ifCond .eq 34, 3) := by decide +kernel
theorem dX12_field_77 : decode cX12_field 77 = .ok (.aload_n 0, 1) := by decide +kernel
theorem dX12_field_78 : decode cX12_field 78 = .ok (.iload_n 2, 1) := by decide +kernel
theorem dX12_field_79 : decode cX12_field 79 = .ok (.ifCond .ne 8, 3) := by decide +kernel
theorem dX12_field_82 : decode cX12_field 82 = .ok (.bipush 36, 2) := by decide +kernel
theorem dX12_field_84 : decode cX12_field 84 = .ok (.goto 5, 3) := by decide +kernel
theorem dX12_field_87 : decode cX12_field 87 = .ok (.bipush 52, 2) := by decide +kernel
theorem dX12_field_89 : decode cX12_field 89 = .ok (.iconst 4, 1) := by decide +kernel
theorem dX12_field_90 : decode cX12_field 90 = .ok (.iload_n 1, 1) := by decide +kernel
theorem dX12_field_91 : decode cX12_field 91 = .ok (.bipush 10, 2) := by decide +kernel
theorem dX12_field_93 : decode cX12_field 93 = .ok (.idiv, 1) := by decide +kernel
theorem dX12_field_94 : decode cX12_field 94 = .ok (.imul, 1) := by decide +kernel
theorem dX12_field_95 : decode cX12_field 95 = .ok (.iadd, 1) := by decide +kernel
theorem dX12_field_96 : decode cX12_field 96 = .ok (.iload_n 1, 1) := by decide +kernel
theorem dX12_field_97 : decode cX12_field 97 = .ok (.bipush 10, 2) := by decide +kernel
theorem dX12_field_99 : decode cX12_field 99 = .ok (.irem, 1) := by decide +kernel
theorem dX12_field_100 : decode cX12_field 100 = .ok (.iadd, 1) := by decide +kernel
theorem dX12_field_101 : decode cX12_field 101 = .ok (.iload_n 3, 1) := by decide +kernel
theorem dX12_field_102 : decode cX12_field 102 = .ok (.invokevirtual 153, 3) := by decide +kernel
theorem dX12_field_105 : decode cX12_field 105 = .ok (.goto 5, 3) := by decide +kernel
theorem dX12_field_108 : decode cX12_field 108 = .ok (.ldc 152, 2) := by decide +kernel
theorem dX12_field_110 : decode cX12_field 110 = .ok (.ireturn, 1) := by decide +kernel
theorem dX12_set_0 : decode cX12_set 0 = .ok (.iload_n 1, 1) := by decide +kernel
theorem dX12_set_1 : decode cX12_set 1 = .ok (.i2l, 1) := by decide +kernel
theorem dX12_set_2 : decode cX12_set 2 = .ok (.lconst 0, 1) := by decide +kernel
theorem dX12_set_3 : decode cX12_set 3 = .ok (.ldc2_w 167, 3) := by decide +kernel
theorem dX12_set_6 : decode cX12_set 6 = .ok (.invokestatic 136, 3) := by decide +kernel
theorem dX12_set_9 : decode cX12_set 9 = .ok (.ifCond .ne 5, 3) := by decide +kernel
theorem dX12_set_12 : decode cX12_set 12 = .ok (.iconst (-1), 1) := by decide +kernel
theorem dX12_set_13 : decode cX12_set 13 = .ok (.ireturn, 1) := by decide +kernel
theorem dX12_set_14 : decode cX12_set 14 = .ok (.aload_n 0, 1) := by decide +kernel
theorem dX12_set_15 : decode cX12_set 15 = .ok (.getfield 169, 3) := by decide +kernel
theorem dX12_set_18 : decode cX12_set 18 = .ok (.istore_n 2, 1) := by decide +kernel
theorem dX12_set_19 : decode cX12_set 19 = .ok (.aload_n 0, 1) := by decide +kernel
theorem dX12_set_20 : decode cX12_set 20 = .ok (.iload_n 1, 1) := by decide +kernel
theorem dX12_set_21 : decode cX12_set 21 = .ok (.putfield 169, 3) := by decide +kernel
theorem dX12_set_24 : decode cX12_set 24 = .ok (.iload_n 2, 1) := by decide +kernel
theorem dX12_set_25 : decode cX12_set 25 = .ok (.ireturn, 1) := by decide +kernel
theorem dX12_feed_0 : decode cX12_feed 0 = .ok (.iload_n 1, 1) := by decide +kernel
theorem dX12_feed_1 : decode cX12_feed 1 = .ok (.i2l, 1) := by decide +kernel
theorem dX12_feed_2 : decode cX12_feed 2 = .ok (.lconst 1, 1) := by decide +kernel
theorem dX12_feed_3 : decode cX12_feed 3 = .ok (.ldc2_w 172, 3) := by decide +kernel
theorem dX12_feed_6 : decode cX12_feed 6 = .ok (.invokestatic 136, 3) := by decide +kernel
theorem dX12_feed_9 : decode cX12_feed 9 = .ok (.ifCond .ne 5, 3) := by decide +kernel
theorem dX12_feed_12 : decode cX12_feed 12 = .ok (.iconst (-1), 1) := by decide +kernel
theorem dX12_feed_13 : decode cX12_feed 13 = .ok (.ireturn, 1) := by decide +kernel
theorem dX12_feed_14 : decode cX12_feed 14 = .ok (.aload_n 0, 1) := by decide +kernel
theorem dX12_feed_15 : decode cX12_feed 15 = .ok (.getfield 174, 3) := by decide +kernel
theorem dX12_feed_18 : decode cX12_feed 18 = .ok (.iload_n 1, 1) := by decide +kernel
theorem dX12_feed_19 : decode cX12_feed 19 = .ok (.iadd, 1) := by decide +kernel
theorem dX12_feed_20 : decode cX12_feed 20 = .ok (.bipush 80, 2) := by decide +kernel
theorem dX12_feed_22 : decode cX12_feed 22 = .ok (.if_icmp .le 6, 3) := by decide +kernel
theorem dX12_feed_25 : decode cX12_feed 25 = .ok (.bipush (-3), 2) := by decide +kernel
theorem dX12_feed_27 : decode cX12_feed 27 = .ok (.ireturn, 1) := by decide +kernel
theorem dX12_feed_28 : decode cX12_feed 28 = .ok (.iconst 0, 1) := by decide +kernel
theorem dX12_feed_29 : decode cX12_feed 29 = .ok (.istore_n 3, 1) := by decide +kernel
theorem dX12_feed_30 : decode cX12_feed 30 = .ok (.iload_n 3, 1) := by decide +kernel
theorem dX12_feed_31 : decode cX12_feed 31 = .ok (.iload_n 1, 1) := by decide +kernel
theorem dX12_feed_32 : decode cX12_feed 32 = .ok (.if_icmp .ge 38, 3) := by decide +kernel
theorem dX12_feed_35 : decode cX12_feed 35 = .ok (.aload_n 0, 1) := by decide +kernel
theorem dX12_feed_36 : decode cX12_feed 36 = .ok (.getfield 31, 3) := by decide +kernel
theorem dX12_feed_39 : decode cX12_feed 39 = .ok (.aload_n 0, 1) := by decide +kernel
theorem dX12_feed_40 : decode cX12_feed 40 = .ok (.getfield 174, 3) := by decide +kernel
theorem dX12_feed_43 : decode cX12_feed 43 = .ok (.iload_n 2, 1) := by decide +kernel
theorem dX12_feed_44 : decode cX12_feed 44 = .ok (.bipush 8, 2) := by decide +kernel
theorem dX12_feed_46 : decode cX12_feed 46 = .ok (.iload_n 3, 1) := by decide +kernel
theorem dX12_feed_47 : decode cX12_feed 47 = .ok (.imul, 1) := by decide +kernel
theorem dX12_feed_48 : decode cX12_feed 48 = .ok (.ishr, 1) := by decide +kernel
theorem dX12_feed_49 : decode cX12_feed 49 = .ok (.sipush 255, 3) := by decide +kernel
theorem dX12_feed_52 : decode cX12_feed 52 = .ok (.iand, 1) := by decide +kernel
theorem dX12_feed_53 : decode cX12_feed 53 = .ok (.iastore, 1) := by decide +kernel
theorem dX12_feed_54 : decode cX12_feed 54 = .ok (.aload_n 0, 1) := by decide +kernel
theorem dX12_feed_55 : decode cX12_feed 55 = .ok (.dup, 1) := by decide +kernel
theorem dX12_feed_56 : decode cX12_feed 56 = .ok (.getfield 174, 3) := by decide +kernel
theorem dX12_feed_59 : decode cX12_feed 59 = .ok (.iconst 1, 1) := by decide +kernel
theorem dX12_feed_60 : decode cX12_feed 60 = .ok (.iadd, 1) := by decide +kernel
theorem dX12_feed_61 : decode cX12_feed 61 = .ok (.putfield 174, 3) := by decide +kernel
theorem dX12_feed_64 : decode cX12_feed 64 = .ok (.iinc 3 1, 3) := by decide +kernel
theorem dX12_feed_67 : decode cX12_feed 67 = .ok (.goto (-37), 3) := by decide +kernel
theorem dX12_feed_70 : decode cX12_feed 70 = .ok (.aload_n 0, 1) := by decide +kernel
theorem dX12_feed_71 : decode cX12_feed 71 = .ok (.getfield 174, 3) := by decide +kernel
theorem dX12_feed_74 : decode cX12_feed 74 = .ok (.ireturn, 1) := by decide +kernel
theorem dX12_byteAt_0 : decode cX12_byteAt 0 = .ok (.aload_n 0, 1) := by decide +kernel
theorem dX12_byteAt_1 : decode cX12_byteAt 1 = .ok (.getfield 177, 3) := by decide +kernel
theorem dX12_byteAt_4 : decode cX12_byteAt 4 = .ok (.aload_n 0, 1) := by decide +kernel
theorem dX12_byteAt_5 : decode cX12_byteAt 5 = .ok (.getfield 180, 3) := by decide +kernel
theorem dX12_byteAt_8 : decode cX12_byteAt 8 = .ok (.if_icmp .ge 39, 3) := by decide +kernel
theorem dX12_byteAt_11 : decode cX12_byteAt 11 = .ok (.aload_n 0, 1) := by decide +kernel
theorem dX12_byteAt_12 : decode cX12_byteAt 12 = .ok (.getfield 183, 3) := by decide +kernel
theorem dX12_byteAt_15 : decode cX12_byteAt 15 = .ok (.ifCond .ge 15, 3) := by decide +kernel
theorem dX12_byteAt_18 : decode cX12_byteAt 18 = .ok (.aload_n 0, 1) := by decide +kernel
theorem dX12_byteAt_19 : decode cX12_byteAt 19 = .ok (.getfield 31, 3) := by decide +kernel
theorem dX12_byteAt_22 : decode cX12_byteAt 22 = .ok (.aload_n 0, 1) := by decide +kernel
theorem dX12_byteAt_23 : decode cX12_byteAt 23 = .ok (.getfield 177, 3) := by decide +kernel
theorem dX12_byteAt_26 : decode cX12_byteAt 26 = .ok (.iaload, 1) := by decide +kernel
theorem dX12_byteAt_27 : decode cX12_byteAt 27 = .ok (.goto 21, 3) := by decide +kernel
theorem dX12_byteAt_30 : decode cX12_byteAt 30 = .ok (.aload_n 0, 1) := by decide +kernel
theorem dX12_byteAt_31 : decode cX12_byteAt 31 = .ok (.getfield 34, 3) := by decide +kernel
theorem dX12_byteAt_34 : decode cX12_byteAt 34 = .ok (.aload_n 0, 1) := by decide +kernel
theorem dX12_byteAt_35 : decode cX12_byteAt 35 = .ok (.getfield 183, 3) := by decide +kernel
theorem dX12_byteAt_38 : decode cX12_byteAt 38 = .ok (.aload_n 0, 1) := by decide +kernel
theorem dX12_byteAt_39 : decode cX12_byteAt 39 = .ok (.getfield 177, 3) := by decide +kernel
theorem dX12_byteAt_42 : decode cX12_byteAt 42 = .ok (.iadd, 1) := by decide +kernel
theorem dX12_byteAt_43 : decode cX12_byteAt 43 = .ok (.iaload, 1) := by decide +kernel
theorem dX12_byteAt_44 : decode cX12_byteAt 44 = .ok (.goto 4, 3) := by decide +kernel
theorem dX12_byteAt_47 : decode cX12_byteAt 47 = .ok (.iconst 0, 1) := by decide +kernel
theorem dX12_byteAt_48 : decode cX12_byteAt 48 = .ok (.ireturn, 1) := by decide +kernel
theorem dX12_wrong_0 : decode cX12_wrong 0 = .ok (.aload_n 0, 1) := by decide +kernel
theorem dX12_wrong_1 : decode cX12_wrong 1 = .ok (.aload_n 0, 1) := by decide +kernel
theorem dX12_wrong_2 : decode cX12_wrong 2 = .ok (.getfield 186, 3) := by decide +kernel
theorem dX12_wrong_5 : decode cX12_wrong 5 = .ok (.ifCond .ge 10, 3) := by decide +kernel
theorem dX12_wrong_8 : decode cX12_wrong 8 = .ok (.aload_n 0, 1) := by decide +kernel
theorem dX12_wrong_9 : decode cX12_wrong 9 = .ok (.getfield 177, 3) := by decide +kernel
theorem dX12_wrong_12 : decode cX12_wrong 12 = .ok (.goto 7, 3) := by decide +kernel
theorem dX12_wrong_15 : decode cX12_wrong 15 = .ok (.aload_n 0, 1) := by decide +kernel
theorem dX12_wrong_16 : decode cX12_wrong 16 = .ok (.getfield 186, 3) := by decide +kernel
theorem dX12_wrong_19 : decode cX12_wrong 19 = .ok (.putfield 186, 3) := by decide +kernel
theorem dX12_wrong_22 : decode cX12_wrong 22 = .ok (.iconst 0, 1) := by decide +kernel
theorem dX12_wrong_23 : decode cX12_wrong 23 = .ok (.ireturn, 1) := by decide +kernel
theorem dX12_takes_0 : decode cX12_takes 0 = .ok (.aload_n 0, 1) := by decide +kernel
theorem dX12_takes_1 : decode cX12_takes 1 = .ok (.getfield 186, 3) := by decide +kernel
theorem dX12_takes_4 : decode cX12_takes 4 = .ok (.ifCond .ge 11, 3) := by decide +kernel
theorem dX12_takes_7 : decode cX12_takes 7 = .ok (.aload_n 0, 1) := by decide +kernel
theorem dX12_takes_8 : decode cX12_takes 8 = .ok (.invokevirtual 189, 3) := by decide +kernel
theorem dX12_takes_11 : decode cX12_takes 11 = .ok (.iload_n 1, 1) := by decide +kernel
theorem dX12_takes_12 : decode cX12_takes 12 = .ok (.if_icmp .eq 5, 3) := by decide +kernel
theorem dX12_takes_15 : decode cX12_takes 15 = .ok (.iconst 0, 1) := by decide +kernel
theorem dX12_takes_16 : decode cX12_takes 16 = .ok (.ireturn, 1) := by decide +kernel
theorem dX12_takes_17 : decode cX12_takes 17 = .ok (.aload_n 0, 1) := by decide +kernel
theorem dX12_takes_18 : decode cX12_takes 18 = .ok (.dup, 1) := by decide +kernel
theorem dX12_takes_19 : decode cX12_takes 19 = .ok (.getfield 177, 3) := by decide +kernel
theorem dX12_takes_22 : decode cX12_takes 22 = .ok (.iconst 1, 1) := by decide +kernel
theorem dX12_takes_23 : decode cX12_takes 23 = .ok (.iadd, 1) := by decide +kernel
theorem dX12_takes_24 : decode cX12_takes 24 = .ok (.putfield 177, 3) := by decide +kernel
theorem dX12_takes_27 : decode cX12_takes 27 = .ok (.iconst 1, 1) := by decide +kernel
theorem dX12_takes_28 : decode cX12_takes 28 = .ok (.ireturn, 1) := by decide +kernel
theorem dX12_either_0 : decode cX12_either 0 = .ok (.aload_n 0, 1) := by decide +kernel
theorem dX12_either_1 : decode cX12_either 1 = .ok (.invokevirtual 193, 3) := by decide +kernel
theorem dX12_either_4 : decode cX12_either 4 = .ok (.istore_n 1, 1) := by decide +kernel
theorem dX12_either_5 : decode cX12_either 5 = .ok (.aload_n 0, 1) := by decide +kernel
theorem dX12_either_6 : decode cX12_either 6 = .ok (.bipush 124, 2) := by decide +kernel
theorem dX12_either_8 : decode cX12_either 8 = .ok (.invokevirtual 196, 3) := by decide +kernel
theorem dX12_either_11 : decode cX12_either 11 = .ok (.ifCond .eq 25, 3) := by decide +kernel
theorem dX12_either_14 : decode cX12_either 14 = .ok (.aload_n 0, 1) := by decide +kernel
theorem dX12_either_15 : decode cX12_either 15 = .ok (.invokevirtual 193, 3) := by decide +kernel
theorem dX12_either_18 : decode cX12_either 18 = .ok (.istore_n 2, 1) := by decide +kernel
theorem dX12_either_19 : decode cX12_either 19 = .ok (.iload_n 1, 1) := by decide +kernel
theorem dX12_either_20 : decode cX12_either 20 = .ok (.ifCond .ne 7, 3) := by decide +kernel
theorem dX12_either_23 : decode cX12_either 23 = .ok (.iload_n 2, 1) := by decide +kernel
theorem dX12_either_24 : decode cX12_either 24 = .ok (.ifCond .eq 7, 3) := by decide +kernel
theorem dX12_either_27 : decode cX12_either 27 = .ok (.iconst 1, 1) := by decide +kernel
theorem dX12_either_28 : decode cX12_either 28 = .ok (.goto 4, 3) := by decide +kernel
theorem dX12_either_31 : decode cX12_either 31 = .ok (.iconst 0, 1) := by decide +kernel
theorem dX12_either_32 : decode cX12_either 32 = .ok (.istore_n 1, 1) := by decide +kernel
theorem dX12_either_33 : decode cX12_either 33 = .ok (.goto (-28), 3) := by decide +kernel
theorem dX12_either_36 : decode cX12_either 36 = .ok (.iload_n 1, 1) := by decide +kernel
theorem dX12_either_37 : decode cX12_either 37 = .ok (.ireturn, 1) := by decide +kernel
theorem dX12_both_0 : decode cX12_both 0 = .ok (.aload_n 0, 1) := by decide +kernel
theorem dX12_both_1 : decode cX12_both 1 = .ok (.invokevirtual 199, 3) := by decide +kernel
theorem dX12_both_4 : decode cX12_both 4 = .ok (.istore_n 1, 1) := by decide +kernel
theorem dX12_both_5 : decode cX12_both 5 = .ok (.aload_n 0, 1) := by decide +kernel
theorem dX12_both_6 : decode cX12_both 6 = .ok (.bipush 38, 2) := by decide +kernel
theorem dX12_both_8 : decode cX12_both 8 = .ok (.invokevirtual 196, 3) := by decide +kernel
theorem dX12_both_11 : decode cX12_both 11 = .ok (.ifCond .eq 25, 3) := by decide +kernel
theorem dX12_both_14 : decode cX12_both 14 = .ok (.aload_n 0, 1) := by decide +kernel
theorem dX12_both_15 : decode cX12_both 15 = .ok (.invokevirtual 199, 3) := by decide +kernel
theorem dX12_both_18 : decode cX12_both 18 = .ok (.istore_n 2, 1) := by decide +kernel
theorem dX12_both_19 : decode cX12_both 19 = .ok (.iload_n 1, 1) := by decide +kernel
theorem dX12_both_20 : decode cX12_both 20 = .ok (.ifCond .eq 11, 3) := by decide +kernel
theorem dX12_both_23 : decode cX12_both 23 = .ok (.iload_n 2, 1) := by decide +kernel
theorem dX12_both_24 : decode cX12_both 24 = .ok (.ifCond .eq 7, 3) := by decide +kernel
theorem dX12_both_27 : decode cX12_both 27 = .ok (.iconst 1, 1) := by decide +kernel
theorem dX12_both_28 : decode cX12_both 28 = .ok (.goto 4, 3) := by decide +kernel
theorem dX12_both_31 : decode cX12_both 31 = .ok (.iconst 0, 1) := by decide +kernel
theorem dX12_both_32 : decode cX12_both 32 = .ok (.istore_n 1, 1) := by decide +kernel
theorem dX12_both_33 : decode cX12_both 33 = .ok (.goto (-28), 3) := by decide +kernel
theorem dX12_both_36 : decode cX12_both 36 = .ok (.iload_n 1, 1) := by decide +kernel
theorem dX12_both_37 : decode cX12_both 37 = .ok (.ireturn, 1) := by decide +kernel
theorem dX12_compared_0 : decode cX12_compared 0 = .ok (.aload_n 0, 1) := by decide +kernel
theorem dX12_compared_1 : decode cX12_compared 1 = .ok (.invokevirtual 202, 3) := by decide +kernel
theorem dX12_compared_4 : decode cX12_compared 4 = .ok (.istore_n 1, 1) := by decide +kernel
theorem dX12_compared_5 : decode cX12_compared 5 = .ok (.aload_n 0, 1) := by decide +kernel
theorem dX12_compared_6 : decode cX12_compared 6 = .ok (.invokevirtual 189, 3) := by decide +kernel
theorem dX12_compared_9 : decode cX12_compared 9 = .ok (.istore_n 2, 1) := by decide +kernel
theorem dX12_compared_10 : decode cX12_compared 10 = .ok (.aload_n 0, 1) := by decide +kernel
theorem dX12_compared_11 : decode cX12_compared 11 = .ok (.getfield 186, 3) := by decide +kernel
theorem dX12_compared_14 : decode cX12_compared 14 = .ok (.ifCond .ge 21, 3) := by decide +kernel
theorem dX12_compared_17 : decode cX12_compared 17 = .ok (.iload_n 2, 1) := by decide +kernel
theorem dX12_compared_18 : decode cX12_compared 18 = .ok (.bipush 60, 2) := by decide +kernel
theorem dX12_compared_20 : decode cX12_compared 20 = .ok (.if_icmp .eq 17, 3) := by decide +kernel
theorem dX12_compared_23 : decode cX12_compared 23 = .ok (.iload_n 2, 1) := by decide +kernel
theorem dX12_compared_24 : decode cX12_compared 24 = .ok (.bipush 61, 2) := by decide +kernel
theorem dX12_compared_26 : decode cX12_compared 26 = .ok (.if_icmp .eq 11, 3) := by decide +kernel
theorem dX12_compared_29 : decode cX12_compared 29 = .ok (.iload_n 2, 1) := by decide +kernel
theorem dX12_compared_30 : decode cX12_compared 30 = .ok (.bipush 62, 2) := by decide +kernel
theorem dX12_compared_32 : decode cX12_compared 32 = .ok (.if_icmp .eq 5, 3) := by decide +kernel
theorem dX12_compared_35 : decode cX12_compared 35 = .ok (.iload_n 1, 1) := by decide +kernel
theorem dX12_compared_36 : decode cX12_compared 36 = .ok (.ireturn, 1) := by decide +kernel
theorem dX12_compared_37 : decode cX12_compared 37 = .ok (.aload_n 0, 1) := by decide +kernel
theorem dX12_compared_38 : decode cX12_compared 38 = .ok (.dup, 1) := by decide +kernel
theorem dX12_compared_39 : decode cX12_compared 39 = .ok (.getfield 177, 3) := by decide +kernel
theorem dX12_compared_42 : decode cX12_compared 42 = .ok (.iconst 1, 1) := by decide +kernel
theorem dX12_compared_43 : decode cX12_compared 43 = .ok (.iadd, 1) := by decide +kernel
theorem dX12_compared_44 : decode cX12_compared 44 = .ok (.putfield 177, 3) := by decide +kernel
theorem dX12_compared_47 : decode cX12_compared 47 = .ok (.aload_n 0, 1) := by decide +kernel
theorem dX12_compared_48 : decode cX12_compared 48 = .ok (.invokevirtual 202, 3) := by decide +kernel
theorem dX12_compared_51 : decode cX12_compared 51 = .ok (.istore_n 3, 1) := by decide +kernel
theorem dX12_compared_52 : decode cX12_compared 52 = .ok (.iload_n 2, 1) := by decide +kernel
theorem dX12_compared_53 : decode cX12_compared 53 = .ok (.bipush 60, 2) := by decide +kernel
theorem dX12_compared_55 : decode cX12_compared 55 = .ok (.if_icmp .ne 11, 3) := by decide +kernel
theorem dX12_compared_58 : decode cX12_compared 58 = .ok (.iload_n 1, 1) := by decide +kernel
theorem dX12_compared_59 : decode cX12_compared 59 = .ok (.iload_n 3, 1) := by decide +kernel
theorem dX12_compared_60 : decode cX12_compared 60 = .ok (.if_icmp .ge 29, 3) := by decide +kernel
theorem dX12_compared_63 : decode cX12_compared 63 = .ok (.goto 22, 3) := by decide +kernel
theorem dX12_compared_66 : decode cX12_compared 66 = .ok (.iload_n 2, 1) := by decide +kernel
theorem dX12_compared_67 : decode cX12_compared 67 = .ok (.bipush 61, 2) := by decide +kernel
theorem dX12_compared_69 : decode cX12_compared 69 = .ok (.if_icmp .ne 11, 3) := by decide +kernel
theorem dX12_compared_72 : decode cX12_compared 72 = .ok (.iload_n 1, 1) := by decide +kernel
theorem dX12_compared_73 : decode cX12_compared 73 = .ok (.iload_n 3, 1) := by decide +kernel
theorem dX12_compared_74 : decode cX12_compared 74 = .ok (.if_icmp .ne 15, 3) := by decide +kernel
theorem dX12_compared_77 : decode cX12_compared 77 = .ok (.goto 8, 3) := by decide +kernel
theorem dX12_compared_80 : decode cX12_compared 80 = .ok (.iload_n 1, 1) := by decide +kernel
theorem dX12_compared_81 : decode cX12_compared 81 = .ok (.iload_n 3, 1) := by decide +kernel
theorem dX12_compared_82 : decode cX12_compared 82 = .ok (.if_icmp .le 7, 3) := by decide +kernel
theorem dX12_compared_85 : decode cX12_compared 85 = .ok (.iconst 1, 1) := by decide +kernel
theorem dX12_compared_86 : decode cX12_compared 86 = .ok (.goto 4, 3) := by decide +kernel
theorem dX12_compared_89 : decode cX12_compared 89 = .ok (.iconst 0, 1) := by decide +kernel
theorem dX12_compared_90 : decode cX12_compared 90 = .ok (.ireturn, 1) := by decide +kernel
theorem dX12_sums_0 : decode cX12_sums 0 = .ok (.aload_n 0, 1) := by decide +kernel
theorem dX12_sums_1 : decode cX12_sums 1 = .ok (.invokevirtual 205, 3) := by decide +kernel
theorem dX12_sums_4 : decode cX12_sums 4 = .ok (.istore_n 1, 1) := by decide +kernel
theorem dX12_sums_5 : decode cX12_sums 5 = .ok (.aload_n 0, 1) := by decide +kernel
theorem dX12_sums_6 : decode cX12_sums 6 = .ok (.getfield 186, 3) := by decide +kernel
theorem dX12_sums_9 : decode cX12_sums 9 = .ok (.ifCond .ge 68, 3) := by decide +kernel
theorem dX12_sums_12 : decode cX12_sums 12 = .ok (.aload_n 0, 1) := by decide +kernel
theorem dX12_sums_13 : decode cX12_sums 13 = .ok (.invokevirtual 189, 3) := by decide +kernel
theorem dX12_sums_16 : decode cX12_sums 16 = .ok (.bipush 43, 2) := by decide +kernel
theorem dX12_sums_18 : decode cX12_sums 18 = .ok (.if_icmp .eq 12, 3) := by decide +kernel
theorem dX12_sums_21 : decode cX12_sums 21 = .ok (.aload_n 0, 1) := by decide +kernel
theorem dX12_sums_22 : decode cX12_sums 22 = .ok (.invokevirtual 189, 3) := by decide +kernel
theorem dX12_sums_25 : decode cX12_sums 25 = .ok (.bipush 45, 2) := by decide +kernel
theorem dX12_sums_27 : decode cX12_sums 27 = .ok (.if_icmp .ne 50, 3) := by decide +kernel
theorem dX12_sums_30 : decode cX12_sums 30 = .ok (.aload_n 0, 1) := by decide +kernel
theorem dX12_sums_31 : decode cX12_sums 31 = .ok (.invokevirtual 189, 3) := by decide +kernel
theorem dX12_sums_34 : decode cX12_sums 34 = .ok (.bipush 43, 2) := by decide +kernel
theorem dX12_sums_36 : decode cX12_sums 36 = .ok (.if_icmp .ne 7, 3) := by decide +kernel
theorem dX12_sums_39 : decode cX12_sums 39 = .ok (.iconst 1, 1) := by decide +kernel
theorem dX12_sums_40 : decode cX12_sums 40 = .ok (.goto 4, 3) := by decide +kernel
theorem dX12_sums_43 : decode cX12_sums 43 = .ok (.iconst 0, 1) := by decide +kernel
theorem dX12_sums_44 : decode cX12_sums 44 = .ok (.istore_n 2, 1) := by decide +kernel
theorem dX12_sums_45 : decode cX12_sums 45 = .ok (.aload_n 0, 1) := by decide +kernel
theorem dX12_sums_46 : decode cX12_sums 46 = .ok (.dup, 1) := by decide +kernel
theorem dX12_sums_47 : decode cX12_sums 47 = .ok (.getfield 177, 3) := by decide +kernel
theorem dX12_sums_50 : decode cX12_sums 50 = .ok (.iconst 1, 1) := by decide +kernel
theorem dX12_sums_51 : decode cX12_sums 51 = .ok (.iadd, 1) := by decide +kernel
theorem dX12_sums_52 : decode cX12_sums 52 = .ok (.putfield 177, 3) := by decide +kernel
theorem dX12_sums_55 : decode cX12_sums 55 = .ok (.aload_n 0, 1) := by decide +kernel
theorem dX12_sums_56 : decode cX12_sums 56 = .ok (.invokevirtual 205, 3) := by decide +kernel
theorem dX12_sums_59 : decode cX12_sums 59 = .ok (.istore_n 3, 1) := by decide +kernel
theorem dX12_sums_60 : decode cX12_sums 60 = .ok (.iload_n 2, 1) := by decide +kernel
theorem dX12_sums_61 : decode cX12_sums 61 = .ok (.ifCond .eq 9, 3) := by decide +kernel
theorem dX12_sums_64 : decode cX12_sums 64 = .ok (.iload_n 1, 1) := by decide +kernel
theorem dX12_sums_65 : decode cX12_sums 65 = .ok (.iload_n 3, 1) := by decide +kernel
theorem dX12_sums_66 : decode cX12_sums 66 = .ok (.iadd, 1) := by decide +kernel
theorem dX12_sums_67 : decode cX12_sums 67 = .ok (.goto 6, 3) := by decide +kernel
theorem dX12_sums_70 : decode cX12_sums 70 = .ok (.iload_n 1, 1) := by decide +kernel
theorem dX12_sums_71 : decode cX12_sums 71 = .ok (.iload_n 3, 1) := by decide +kernel
theorem dX12_sums_72 : decode cX12_sums 72 = .ok (.isub, 1) := by decide +kernel
theorem dX12_sums_73 : decode cX12_sums 73 = .ok (.istore_n 1, 1) := by decide +kernel
theorem dX12_sums_74 : decode cX12_sums 74 = .ok (.goto (-69), 3) := by decide +kernel
theorem dX12_sums_77 : decode cX12_sums 77 = .ok (.iload_n 1, 1) := by decide +kernel
theorem dX12_sums_78 : decode cX12_sums 78 = .ok (.ireturn, 1) := by decide +kernel
theorem dX12_product_0 : decode cX12_product 0 = .ok (.aload_n 0, 1) := by decide +kernel
theorem dX12_product_1 : decode cX12_product 1 = .ok (.invokevirtual 208, 3) := by decide +kernel
theorem dX12_product_4 : decode cX12_product 4 = .ok (.istore_n 1, 1) := by decide +kernel
theorem dX12_product_5 : decode cX12_product 5 = .ok (.aload_n 0, 1) := by decide +kernel
theorem dX12_product_6 : decode cX12_product 6 = .ok (.invokevirtual 189, 3) := by decide +kernel
theorem dX12_product_9 : decode cX12_product 9 = .ok (.istore_n 2, 1) := by decide +kernel
theorem dX12_product_10 : decode cX12_product 10 = .ok (.aload_n 0, 1) := by decide +kernel
theorem dX12_product_11 : decode cX12_product 11 = .ok (.getfield 186, 3) := by decide +kernel
theorem dX12_product_14 : decode cX12_product 14 = .ok (.ifCond .ge 80, 3) := by decide +kernel
theorem dX12_product_17 : decode cX12_product 17 = .ok (.iload_n 2, 1) := by decide +kernel
theorem dX12_product_18 : decode cX12_product 18 = .ok (.bipush 42, 2) := by decide +kernel
theorem dX12_product_20 : decode cX12_product 20 = .ok (.if_icmp .eq 15, 3) := by decide +kernel
theorem dX12_product_23 : decode cX12_product 23 = .ok (.iload_n 2, 1) := by decide +kernel
theorem dX12_product_24 : decode cX12_product 24 = .ok (.bipush 47, 2) := by decide +kernel
theorem dX12_product_26 : decode cX12_product 26 = .ok (.if_icmp .eq 9, 3) := by decide +kernel
theorem dX12_product_29 : decode cX12_product 29 = .ok (.iload_n 2, 1) := by decide +kernel
theorem dX12_product_30 : decode cX12_product 30 = .ok (.bipush 37, 2) := by decide +kernel
theorem dX12_product_32 : decode cX12_product 32 = .ok (.if_icmp .ne 62, 3) := by decide +kernel
theorem dX12_product_35 : decode cX12_product 35 = .ok (.aload_n 0, 1) := by decide +kernel
theorem dX12_product_36 : decode cX12_product 36 = .ok (.dup, 1) := by decide +kernel
theorem dX12_product_37 : decode cX12_product 37 = .ok (.getfield 177, 3) := by decide +kernel
theorem dX12_product_40 : decode cX12_product 40 = .ok (.iconst 1, 1) := by decide +kernel
theorem dX12_product_41 : decode cX12_product 41 = .ok (.iadd, 1) := by decide +kernel
theorem dX12_product_42 : decode cX12_product 42 = .ok (.putfield 177, 3) := by decide +kernel
theorem dX12_product_45 : decode cX12_product 45 = .ok (.aload_n 0, 1) := by decide +kernel
theorem dX12_product_46 : decode cX12_product 46 = .ok (.invokevirtual 208, 3) := by decide +kernel
theorem dX12_product_49 : decode cX12_product 49 = .ok (.istore_n 3, 1) := by decide +kernel
theorem dX12_product_50 : decode cX12_product 50 = .ok (.iload_n 2, 1) := by decide +kernel
theorem dX12_product_51 : decode cX12_product 51 = .ok (.bipush 42, 2) := by decide +kernel
theorem dX12_product_53 : decode cX12_product 53 = .ok (.if_icmp .ne 9, 3) := by decide +kernel
theorem dX12_product_56 : decode cX12_product 56 = .ok (.iload_n 1, 1) := by decide +kernel
theorem dX12_product_57 : decode cX12_product 57 = .ok (.iload_n 3, 1) := by decide +kernel
theorem dX12_product_58 : decode cX12_product 58 = .ok (.imul, 1) := by decide +kernel
theorem dX12_product_59 : decode cX12_product 59 = .ok (.goto 26, 3) := by decide +kernel
theorem dX12_product_62 : decode cX12_product 62 = .ok (.iload_n 3, 1) := by decide +kernel
theorem dX12_product_63 : decode cX12_product 63 = .ok (.ifCond .ne 7, 3) := by decide +kernel
theorem dX12_product_66 : decode cX12_product 66 = .ok (.iconst 0, 1) := by decide +kernel
theorem dX12_product_67 : decode cX12_product 67 = .ok (.goto 18, 3) := by decide +kernel
theorem dX12_product_70 : decode cX12_product 70 = .ok (.iload_n 2, 1) := by decide +kernel
theorem dX12_product_71 : decode cX12_product 71 = .ok (.bipush 47, 2) := by decide +kernel
theorem dX12_product_73 : decode cX12_product 73 = .ok (.if_icmp .ne 9, 3) := by decide +kernel
theorem dX12_product_76 : decode cX12_product 76 = .ok (.iload_n 1, 1) := by decide +kernel
theorem dX12_product_77 : decode cX12_product 77 = .ok (.iload_n 3, 1) := by decide +kernel
theorem dX12_product_78 : decode cX12_product 78 = .ok (.idiv, 1) := by decide +kernel
theorem dX12_product_79 : decode cX12_product 79 = .ok (.goto 6, 3) := by decide +kernel
theorem dX12_product_82 : decode cX12_product 82 = .ok (.iload_n 1, 1) := by decide +kernel
theorem dX12_product_83 : decode cX12_product 83 = .ok (.iload_n 3, 1) := by decide +kernel
theorem dX12_product_84 : decode cX12_product 84 = .ok (.irem, 1) := by decide +kernel
theorem dX12_product_85 : decode cX12_product 85 = .ok (.istore_n 1, 1) := by decide +kernel
theorem dX12_product_86 : decode cX12_product 86 = .ok (.aload_n 0, 1) := by decide +kernel
theorem dX12_product_87 : decode cX12_product 87 = .ok (.invokevirtual 189, 3) := by decide +kernel
theorem dX12_product_90 : decode cX12_product 90 = .ok (.istore_n 2, 1) := by decide +kernel
theorem dX12_product_91 : decode cX12_product 91 = .ok (.goto (-81), 3) := by decide +kernel
theorem dX12_product_94 : decode cX12_product 94 = .ok (.iload_n 1, 1) := by decide +kernel
theorem dX12_product_95 : decode cX12_product 95 = .ok (.ireturn, 1) := by decide +kernel
theorem dX12_nameOf_0 : decode cX12_nameOf 0 = .ok (.iload_n 0, 1) := by decide +kernel
theorem dX12_nameOf_1 : decode cX12_nameOf 1 = .ok (.tableswitch 121 98 119 #[109, 121, 121, 121, 121, 121, 121, 121, 121, 118, 113, 121, 121, 103, 115, 121, 121, 107, 111, 121, 121, 105], 103) := by decide +kernel
theorem dX12_nameOf_104 : decode cX12_nameOf 104 = .ok (.iconst 0, 1) := by decide +kernel
theorem dX12_nameOf_105 : decode cX12_nameOf 105 = .ok (.ireturn, 1) := by decide +kernel
theorem dX12_nameOf_106 : decode cX12_nameOf 106 = .ok (.iconst 1, 1) := by decide +kernel
theorem dX12_nameOf_107 : decode cX12_nameOf 107 = .ok (.ireturn, 1) := by decide +kernel
theorem dX12_nameOf_108 : decode cX12_nameOf 108 = .ok (.iconst 2, 1) := by decide +kernel
theorem dX12_nameOf_109 : decode cX12_nameOf 109 = .ok (.ireturn, 1) := by decide +kernel
theorem dX12_nameOf_110 : decode cX12_nameOf 110 = .ok (.iconst 3, 1) := by decide +kernel
theorem dX12_nameOf_111 : decode cX12_nameOf 111 = .ok (.ireturn, 1) := by decide +kernel
theorem dX12_nameOf_112 : decode cX12_nameOf 112 = .ok (.iconst 4, 1) := by decide +kernel
theorem dX12_nameOf_113 : decode cX12_nameOf 113 = .ok (.ireturn, 1) := by decide +kernel
theorem dX12_nameOf_114 : decode cX12_nameOf 114 = .ok (.iconst 5, 1) := by decide +kernel
theorem dX12_nameOf_115 : decode cX12_nameOf 115 = .ok (.ireturn, 1) := by decide +kernel
theorem dX12_nameOf_116 : decode cX12_nameOf 116 = .ok (.bipush 6, 2) := by decide +kernel
theorem dX12_nameOf_118 : decode cX12_nameOf 118 = .ok (.ireturn, 1) := by decide +kernel
theorem dX12_nameOf_119 : decode cX12_nameOf 119 = .ok (.bipush 7, 2) := by decide +kernel
theorem dX12_nameOf_121 : decode cX12_nameOf 121 = .ok (.ireturn, 1) := by decide +kernel
theorem dX12_nameOf_122 : decode cX12_nameOf 122 = .ok (.iconst (-1), 1) := by decide +kernel
theorem dX12_nameOf_123 : decode cX12_nameOf 123 = .ok (.ireturn, 1) := by decide +kernel
theorem dX12_one_0 : decode cX12_one 0 = .ok (.aload_n 0, 1) := by decide +kernel
theorem dX12_one_1 : decode cX12_one 1 = .ok (.getfield 186, 3) := by decide +kernel
theorem dX12_one_4 : decode cX12_one 4 = .ok (.ifCond .lt 5, 3) := by decide +kernel
theorem dX12_one_7 : decode cX12_one 7 = .ok (.iconst 0, 1) := by decide +kernel
theorem dX12_one_8 : decode cX12_one 8 = .ok (.ireturn, 1) := by decide +kernel
theorem dX12_one_9 : decode cX12_one 9 = .ok (.aload_n 0, 1) := by decide +kernel
theorem dX12_one_10 : decode cX12_one 10 = .ok (.invokevirtual 189, 3) := by decide +kernel
theorem dX12_one_13 : decode cX12_one 13 = .ok (.istore_n 1, 1) := by decide +kernel
theorem dX12_one_14 : decode cX12_one 14 = .ok (.iload_n 1, 1) := by decide +kernel
theorem dX12_one_15 : decode cX12_one 15 = .ok (.bipush 33, 2) := by decide +kernel
theorem dX12_one_17 : decode cX12_one 17 = .ok (.if_icmp .eq 15, 3) := by decide +kernel
theorem dX12_one_20 : decode cX12_one 20 = .ok (.iload_n 1, 1) := by decide +kernel
theorem dX12_one_21 : decode cX12_one 21 = .ok (.bipush 45, 2) := by decide +kernel
theorem dX12_one_23 : decode cX12_one 23 = .ok (.if_icmp .eq 9, 3) := by decide +kernel
theorem dX12_one_26 : decode cX12_one 26 = .ok (.iload_n 1, 1) := by decide +kernel
theorem dX12_one_27 : decode cX12_one 27 = .ok (.bipush 40, 2) := by decide +kernel
theorem dX12_one_29 : decode cX12_one 29 = .ok (.if_icmp .ne 116, 3) := by decide +kernel
theorem dX12_one_32 : decode cX12_one 32 = .ok (.aload_n 0, 1) := by decide +kernel
theorem dX12_one_33 : decode cX12_one 33 = .ok (.getfield 211, 3) := by decide +kernel
theorem dX12_one_36 : decode cX12_one 36 = .ok (.bipush 6, 2) := by decide +kernel
theorem dX12_one_38 : decode cX12_one 38 = .ok (.if_icmp .ne 8, 3) := by decide +kernel
theorem dX12_one_41 : decode cX12_one 41 = .ok (.aload_n 0, 1) := by decide +kernel
theorem dX12_one_42 : decode cX12_one 42 = .ok (.invokevirtual 214, 3) := by decide +kernel
theorem dX12_one_45 : decode cX12_one 45 = .ok (.ireturn, 1) := by decide +kernel
theorem dX12_one_46 : decode cX12_one 46 = .ok (.aload_n 0, 1) := by decide +kernel
theorem dX12_one_47 : decode cX12_one 47 = .ok (.dup, 1) := by decide +kernel
theorem dX12_one_48 : decode cX12_one 48 = .ok (.getfield 211, 3) := by decide +kernel
theorem dX12_one_51 : decode cX12_one 51 = .ok (.iconst 1, 1) := by decide +kernel
theorem dX12_one_52 : decode cX12_one 52 = .ok (.iadd, 1) := by decide +kernel
theorem dX12_one_53 : decode cX12_one 53 = .ok (.putfield 211, 3) := by decide +kernel
theorem dX12_one_56 : decode cX12_one 56 = .ok (.aload_n 0, 1) := by decide +kernel
theorem dX12_one_57 : decode cX12_one 57 = .ok (.dup, 1) := by decide +kernel
theorem dX12_one_58 : decode cX12_one 58 = .ok (.getfield 177, 3) := by decide +kernel
theorem dX12_one_61 : decode cX12_one 61 = .ok (.iconst 1, 1) := by decide +kernel
theorem dX12_one_62 : decode cX12_one 62 = .ok (.iadd, 1) := by decide +kernel
theorem dX12_one_63 : decode cX12_one 63 = .ok (.putfield 177, 3) := by decide +kernel
theorem dX12_one_66 : decode cX12_one 66 = .ok (.iload_n 1, 1) := by decide +kernel
theorem dX12_one_67 : decode cX12_one 67 = .ok (.bipush 40, 2) := by decide +kernel
theorem dX12_one_69 : decode cX12_one 69 = .ok (.if_icmp .ne 10, 3) := by decide +kernel
theorem dX12_one_72 : decode cX12_one 72 = .ok (.aload_n 0, 1) := by decide +kernel
theorem dX12_one_73 : decode cX12_one 73 = .ok (.invokevirtual 217, 3) := by decide +kernel
theorem dX12_one_76 : decode cX12_one 76 = .ok (.goto 7, 3) := by decide +kernel
theorem dX12_one_79 : decode cX12_one 79 = .ok (.aload_n 0, 1) := by decide +kernel
theorem dX12_one_80 : decode cX12_one 80 = .ok (.invokevirtual 208, 3) := by decide +kernel
theorem dX12_one_83 : decode cX12_one 83 = .ok (.istore_n 2, 1) := by decide +kernel
theorem dX12_one_84 : decode cX12_one 84 = .ok (.iload_n 1, 1) := by decide +kernel
theorem dX12_one_85 : decode cX12_one 85 = .ok (.bipush 40, 2) := by decide +kernel
theorem dX12_one_87 : decode cX12_one 87 = .ok (.if_icmp .ne 17, 3) := by decide +kernel
theorem dX12_one_90 : decode cX12_one 90 = .ok (.aload_n 0, 1) := by decide +kernel
theorem dX12_one_91 : decode cX12_one 91 = .ok (.bipush 41, 2) := by decide +kernel
theorem dX12_one_93 : decode cX12_one 93 = .ok (.invokevirtual 196, 3) := by decide +kernel
theorem dX12_one_96 : decode cX12_one 96 = .ok (.ifCond .ne 8, 3) := by decide +kernel
theorem dX12_one_99 : decode cX12_one 99 = .ok (.aload_n 0, 1) := by decide +kernel
theorem dX12_one_100 : decode cX12_one 100 = .ok (.invokevirtual 214, 3) := by decide +kernel
theorem dX12_one_103 : decode cX12_one 103 = .ok (.ireturn, 1) := by decide +kernel
theorem dX12_one_104 : decode cX12_one 104 = .ok (.aload_n 0, 1) := by decide +kernel
theorem dX12_one_105 : decode cX12_one 105 = .ok (.dup, 1) := by decide +kernel
theorem dX12_one_106 : decode cX12_one 106 = .ok (.getfield 211, 3) := by decide +kernel
theorem dX12_one_109 : decode cX12_one 109 = .ok (.iconst 1, 1) := by decide +kernel
theorem dX12_one_110 : decode cX12_one 110 = .ok (.isub, 1) := by decide +kernel
theorem dX12_one_111 : decode cX12_one 111 = .ok (.putfield 211, 3) := by decide +kernel
theorem dX12_one_114 : decode cX12_one 114 = .ok (.iload_n 1, 1) := by decide +kernel
theorem dX12_one_115 : decode cX12_one 115 = .ok (.bipush 40, 2) := by decide +kernel
theorem dX12_one_117 : decode cX12_one 117 = .ok (.if_icmp .ne 7, 3) := by decide +kernel
theorem dX12_one_120 : decode cX12_one 120 = .ok (.iload_n 2, 1) := by decide +kernel
theorem dX12_one_121 : decode cX12_one 121 = .ok (.goto 23, 3) := by decide +kernel
theorem dX12_one_124 : decode cX12_one 124 = .ok (.iload_n 1, 1) := by decide +kernel
theorem dX12_one_125 : decode cX12_one 125 = .ok (.bipush 45, 2) := by decide +kernel
theorem dX12_one_127 : decode cX12_one 127 = .ok (.if_icmp .ne 8, 3) := by decide +kernel
theorem dX12_one_130 : decode cX12_one 130 = .ok (.iload_n 2, 1) := by decide +kernel
theorem dX12_one_131 : decode cX12_one 131 = .ok (.ineg, 1) := by decide +kernel
theorem dX12_one_132 : decode cX12_one 132 = .ok (.goto 12, 3) := by decide +kernel
theorem dX12_one_135 : decode cX12_one 135 = .ok (.iload_n 2, 1) := by decide +kernel
theorem dX12_one_136 : decode cX12_one 136 = .ok (.ifCond .ne 7, 3) := by decide +kernel
theorem dX12_one_139 : decode cX12_one 139 = .ok (.iconst 1, 1) := by decide +kernel
theorem dX12_one_140 : decode cX12_one 140 = .ok (.goto 4, 3) := by decide +kernel
theorem dX12_one_143 : decode cX12_one 143 = .ok (.iconst 0, 1) := by decide +kernel
theorem dX12_one_144 : decode cX12_one 144 = .ok (.ireturn, 1) := by decide +kernel
theorem dX12_one_145 : decode cX12_one 145 = .ok (.iload_n 1, 1) := by decide +kernel
theorem dX12_one_146 : decode cX12_one 146 = .ok (.invokestatic 220, 3) := by decide +kernel
theorem dX12_one_149 : decode cX12_one 149 = .ok (.istore_n 2, 1) := by decide +kernel
theorem dX12_one_150 : decode cX12_one 150 = .ok (.iload_n 2, 1) := by decide +kernel
theorem dX12_one_151 : decode cX12_one 151 = .ok (.ifCond .lt 20, 3) := by decide +kernel
theorem dX12_one_154 : decode cX12_one 154 = .ok (.aload_n 0, 1) := by decide +kernel
theorem dX12_one_155 : decode cX12_one 155 = .ok (.dup, 1) := by decide +kernel
theorem dX12_one_156 : decode cX12_one 156 = .ok (.getfield 177, 3) := by decide +kernel
theorem dX12_one_159 : decode cX12_one 159 = .ok (.iconst 1, 1) := by decide +kernel
theorem dX12_one_160 : decode cX12_one 160 = .ok (.iadd, 1) := by decide +kernel
theorem dX12_one_161 : decode cX12_one 161 = .ok (.putfield 177, 3) := by decide +kernel
theorem dX12_one_164 : decode cX12_one 164 = .ok (.aload_n 0, 1) := by decide +kernel
theorem dX12_one_165 : decode cX12_one 165 = .ok (.getfield 40, 3) := by decide +kernel
theorem dX12_one_168 : decode cX12_one 168 = .ok (.iload_n 2, 1) := by decide +kernel
theorem dX12_one_169 : decode cX12_one 169 = .ok (.iaload, 1) := by decide +kernel
theorem dX12_one_170 : decode cX12_one 170 = .ok (.ireturn, 1) := by decide +kernel
theorem dX12_one_171 : decode cX12_one 171 = .ok (.iconst 0, 1) := by decide +kernel
theorem dX12_one_172 : decode cX12_one 172 = .ok (.istore_n 3, 1) := by decide +kernel
theorem dX12_one_173 : decode cX12_one 173 = .ok (.iconst 0, 1) := by decide +kernel
theorem dX12_one_174 : decode cX12_one 174 = .ok (.istore 4, 2) := by decide +kernel
theorem dX12_one_176 : decode cX12_one 176 = .ok (.iload 4, 2) := by decide +kernel
theorem dX12_one_178 : decode cX12_one 178 = .ok (.iconst 4, 1) := by decide +kernel
theorem dX12_one_179 : decode cX12_one 179 = .ok (.if_icmp .ge 50, 3) := by decide +kernel
theorem dX12_one_182 : decode cX12_one 182 = .ok (.aload_n 0, 1) := by decide +kernel
theorem dX12_one_183 : decode cX12_one 183 = .ok (.invokevirtual 189, 3) := by decide +kernel
theorem dX12_one_186 : decode cX12_one 186 = .ok (.bipush 48, 2) := by decide +kernel
theorem dX12_one_188 : decode cX12_one 188 = .ok (.if_icmp .lt 41, 3) := by decide +kernel
theorem dX12_one_191 : decode cX12_one 191 = .ok (.aload_n 0, 1) := by decide +kernel
theorem dX12_one_192 : decode cX12_one 192 = .ok (.invokevirtual 189, 3) := by decide +kernel
theorem dX12_one_195 : decode cX12_one 195 = .ok (.bipush 57, 2) := by decide +kernel
theorem dX12_one_197 : decode cX12_one 197 = .ok (.if_icmp .gt 32, 3) := by decide +kernel
theorem dX12_one_200 : decode cX12_one 200 = .ok (.bipush 10, 2) := by decide +kernel
theorem dX12_one_202 : decode cX12_one 202 = .ok (.iload_n 3, 1) := by decide +kernel
theorem dX12_one_203 : decode cX12_one 203 = .ok (.imul, 1) := by decide +kernel
theorem dX12_one_204 : decode cX12_one 204 = .ok (.aload_n 0, 1) := by decide +kernel
theorem dX12_one_205 : decode cX12_one 205 = .ok (.invokevirtual 189, 3) := by decide +kernel
theorem dX12_one_208 : decode cX12_one 208 = .ok (.iadd, 1) := by decide +kernel
theorem dX12_one_209 : decode cX12_one 209 = .ok (.bipush 48, 2) := by decide +kernel
theorem dX12_one_211 : decode cX12_one 211 = .ok (.isub, 1) := by decide +kernel
theorem dX12_one_212 : decode cX12_one 212 = .ok (.istore_n 3, 1) := by decide +kernel
theorem dX12_one_213 : decode cX12_one 213 = .ok (.iinc 4 1, 3) := by decide +kernel
theorem dX12_one_216 : decode cX12_one 216 = .ok (.aload_n 0, 1) := by decide +kernel
theorem dX12_one_217 : decode cX12_one 217 = .ok (.dup, 1) := by decide +kernel
theorem dX12_one_218 : decode cX12_one 218 = .ok (.getfield 177, 3) := by decide +kernel
theorem dX12_one_221 : decode cX12_one 221 = .ok (.iconst 1, 1) := by decide +kernel
theorem dX12_one_222 : decode cX12_one 222 = .ok (.iadd, 1) := by decide +kernel
theorem dX12_one_223 : decode cX12_one 223 = .ok (.putfield 177, 3) := by decide +kernel
theorem dX12_one_226 : decode cX12_one 226 = .ok (.goto (-50), 3) := by decide +kernel
theorem dX12_one_229 : decode cX12_one 229 = .ok (.iload 4, 2) := by decide +kernel
theorem dX12_one_231 : decode cX12_one 231 = .ok (.ifCond .ne 10, 3) := by decide +kernel
theorem dX12_one_234 : decode cX12_one 234 = .ok (.aload_n 0, 1) := by decide +kernel
theorem dX12_one_235 : decode cX12_one 235 = .ok (.invokevirtual 214, 3) := by decide +kernel
theorem dX12_one_238 : decode cX12_one 238 = .ok (.goto 4, 3) := by decide +kernel
theorem dX12_one_241 : decode cX12_one 241 = .ok (.iload_n 3, 1) := by decide +kernel
theorem dX12_one_242 : decode cX12_one 242 = .ok (.ireturn, 1) := by decide +kernel
theorem dX12_workOut_0 : decode cX12_workOut 0 = .ok (.aload_n 0, 1) := by decide +kernel
theorem dX12_workOut_1 : decode cX12_workOut 1 = .ok (.iload_n 1, 1) := by decide +kernel
theorem dX12_workOut_2 : decode cX12_workOut 2 = .ok (.putfield 183, 3) := by decide +kernel
theorem dX12_workOut_5 : decode cX12_workOut 5 = .ok (.aload_n 0, 1) := by decide +kernel
theorem dX12_workOut_6 : decode cX12_workOut 6 = .ok (.iconst 0, 1) := by decide +kernel
theorem dX12_workOut_7 : decode cX12_workOut 7 = .ok (.putfield 177, 3) := by decide +kernel
theorem dX12_workOut_10 : decode cX12_workOut 10 = .ok (.aload_n 0, 1) := by decide +kernel
theorem dX12_workOut_11 : decode cX12_workOut 11 = .ok (.iload_n 2, 1) := by decide +kernel
theorem dX12_workOut_12 : decode cX12_workOut 12 = .ok (.putfield 180, 3) := by decide +kernel
theorem dX12_workOut_15 : decode cX12_workOut 15 = .ok (.aload_n 0, 1) := by decide +kernel
theorem dX12_workOut_16 : decode cX12_workOut 16 = .ok (.iconst (-1), 1) := by decide +kernel
theorem dX12_workOut_17 : decode cX12_workOut 17 = .ok (.putfield 186, 3) := by decide +kernel
theorem dX12_workOut_20 : decode cX12_workOut 20 = .ok (.aload_n 0, 1) := by decide +kernel
theorem dX12_workOut_21 : decode cX12_workOut 21 = .ok (.iconst 0, 1) := by decide +kernel
theorem dX12_workOut_22 : decode cX12_workOut 22 = .ok (.putfield 211, 3) := by decide +kernel
theorem dX12_workOut_25 : decode cX12_workOut 25 = .ok (.iconst 0, 1) := by decide +kernel
theorem dX12_workOut_26 : decode cX12_workOut 26 = .ok (.istore_n 3, 1) := by decide +kernel
theorem dX12_workOut_27 : decode cX12_workOut 27 = .ok (.iconst 0, 1) := by decide +kernel
theorem dX12_workOut_28 : decode cX12_workOut 28 = .ok (.istore 4, 2) := by decide +kernel
theorem dX12_workOut_30 : decode cX12_workOut 30 = .ok (.iconst 1, 1) := by decide +kernel
theorem dX12_workOut_31 : decode cX12_workOut 31 = .ok (.istore 5, 2) := by decide +kernel
theorem dX12_workOut_33 : decode cX12_workOut 33 = .ok (.iload 5, 2) := by decide +kernel
theorem dX12_workOut_35 : decode cX12_workOut 35 = .ok (.ifCond .eq 72, 3) := by decide +kernel
theorem dX12_workOut_38 : decode cX12_workOut 38 = .ok (.aload_n 0, 1) := by decide +kernel
theorem dX12_workOut_39 : decode cX12_workOut 39 = .ok (.invokevirtual 217, 3) := by decide +kernel
theorem dX12_workOut_42 : decode cX12_workOut 42 = .ok (.istore 6, 2) := by decide +kernel
theorem dX12_workOut_44 : decode cX12_workOut 44 = .ok (.iconst 1, 1) := by decide +kernel
theorem dX12_workOut_45 : decode cX12_workOut 45 = .ok (.istore 7, 2) := by decide +kernel
theorem dX12_workOut_47 : decode cX12_workOut 47 = .ok (.aload_n 0, 1) := by decide +kernel
theorem dX12_workOut_48 : decode cX12_workOut 48 = .ok (.bipush 63, 2) := by decide +kernel
theorem dX12_workOut_50 : decode cX12_workOut 50 = .ok (.invokevirtual 196, 3) := by decide +kernel
theorem dX12_workOut_53 : decode cX12_workOut 53 = .ok (.ifCond .eq 21, 3) := by decide +kernel
theorem dX12_workOut_56 : decode cX12_workOut 56 = .ok (.iload 6, 2) := by decide +kernel
theorem dX12_workOut_58 : decode cX12_workOut 58 = .ok (.ifCond .eq 7, 3) := by decide +kernel
theorem dX12_workOut_61 : decode cX12_workOut 61 = .ok (.iconst 1, 1) := by decide +kernel
theorem dX12_workOut_62 : decode cX12_workOut 62 = .ok (.goto 4, 3) := by decide +kernel
theorem dX12_workOut_65 : decode cX12_workOut 65 = .ok (.iconst 0, 1) := by decide +kernel
theorem dX12_workOut_66 : decode cX12_workOut 66 = .ok (.istore 7, 2) := by decide +kernel
theorem dX12_workOut_68 : decode cX12_workOut 68 = .ok (.aload_n 0, 1) := by decide +kernel
theorem dX12_workOut_69 : decode cX12_workOut 69 = .ok (.invokevirtual 217, 3) := by decide +kernel
theorem dX12_workOut_72 : decode cX12_workOut 72 = .ok (.istore 6, 2) := by decide +kernel
theorem dX12_workOut_74 : decode cX12_workOut 74 = .ok (.aload_n 0, 1) := by decide +kernel
theorem dX12_workOut_75 : decode cX12_workOut 75 = .ok (.getfield 186, 3) := by decide +kernel
theorem dX12_workOut_78 : decode cX12_workOut 78 = .ok (.ifCond .ge 18, 3) := by decide +kernel
theorem dX12_workOut_81 : decode cX12_workOut 81 = .ok (.iload 7, 2) := by decide +kernel
theorem dX12_workOut_83 : decode cX12_workOut 83 = .ok (.ifCond .eq 13, 3) := by decide +kernel
theorem dX12_workOut_86 : decode cX12_workOut 86 = .ok (.iload_n 3, 1) := by decide +kernel
theorem dX12_workOut_87 : decode cX12_workOut 87 = .ok (.ifCond .ne 9, 3) := by decide +kernel
theorem dX12_workOut_90 : decode cX12_workOut 90 = .ok (.iconst 1, 1) := by decide +kernel
theorem dX12_workOut_91 : decode cX12_workOut 91 = .ok (.istore_n 3, 1) := by decide +kernel
theorem dX12_workOut_92 : decode cX12_workOut 92 = .ok (.iload 6, 2) := by decide +kernel
theorem dX12_workOut_94 : decode cX12_workOut 94 = .ok (.istore 4, 2) := by decide +kernel
theorem dX12_workOut_96 : decode cX12_workOut 96 = .ok (.aload_n 0, 1) := by decide +kernel
theorem dX12_workOut_97 : decode cX12_workOut 97 = .ok (.bipush 59, 2) := by decide +kernel
theorem dX12_workOut_99 : decode cX12_workOut 99 = .ok (.invokevirtual 196, 3) := by decide +kernel
theorem dX12_workOut_102 : decode cX12_workOut 102 = .ok (.istore 5, 2) := by decide +kernel
theorem dX12_workOut_104 : decode cX12_workOut 104 = .ok (.goto (-71), 3) := by decide +kernel
theorem dX12_workOut_107 : decode cX12_workOut 107 = .ok (.aload_n 0, 1) := by decide +kernel
theorem dX12_workOut_108 : decode cX12_workOut 108 = .ok (.getfield 186, 3) := by decide +kernel
theorem dX12_workOut_111 : decode cX12_workOut 111 = .ok (.ifCond .ge 19, 3) := by decide +kernel
theorem dX12_workOut_114 : decode cX12_workOut 114 = .ok (.aload_n 0, 1) := by decide +kernel
theorem dX12_workOut_115 : decode cX12_workOut 115 = .ok (.getfield 177, 3) := by decide +kernel
theorem dX12_workOut_118 : decode cX12_workOut 118 = .ok (.aload_n 0, 1) := by decide +kernel
theorem dX12_workOut_119 : decode cX12_workOut 119 = .ok (.getfield 180, 3) := by decide +kernel
theorem dX12_workOut_122 : decode cX12_workOut 122 = .ok (.if_icmp .ge 8, 3) := by decide +kernel
theorem dX12_workOut_125 : decode cX12_workOut 125 = .ok (.aload_n 0, 1) := by decide +kernel
theorem dX12_workOut_126 : decode cX12_workOut 126 = .ok (.invokevirtual 214, 3) := by decide +kernel
theorem dX12_workOut_129 : decode cX12_workOut 129 = .ok (.ireturn, 1) := by decide +kernel
theorem dX12_workOut_130 : decode cX12_workOut 130 = .ok (.iload 4, 2) := by decide +kernel
theorem dX12_workOut_132 : decode cX12_workOut 132 = .ok (.ireturn, 1) := by decide +kernel
theorem dX12_text_0 : decode cX12_text 0 = .ok (.iload_n 1, 1) := by decide +kernel
theorem dX12_text_1 : decode cX12_text 1 = .ok (.i2l, 1) := by decide +kernel
theorem dX12_text_2 : decode cX12_text 2 = .ok (.lconst 0, 1) := by decide +kernel
theorem dX12_text_3 : decode cX12_text 3 = .ok (.lconst 1, 1) := by decide +kernel
theorem dX12_text_4 : decode cX12_text 4 = .ok (.invokestatic 136, 3) := by decide +kernel
theorem dX12_text_7 : decode cX12_text 7 = .ok (.ifCond .ne 5, 3) := by decide +kernel
theorem dX12_text_10 : decode cX12_text 10 = .ok (.iconst (-1), 1) := by decide +kernel
theorem dX12_text_11 : decode cX12_text 11 = .ok (.ireturn, 1) := by decide +kernel
theorem dX12_text_12 : decode cX12_text 12 = .ok (.aload_n 0, 1) := by decide +kernel
theorem dX12_text_13 : decode cX12_text 13 = .ok (.iconst (-1), 1) := by decide +kernel
theorem dX12_text_14 : decode cX12_text 14 = .ok (.aload_n 0, 1) := by decide +kernel
theorem dX12_text_15 : decode cX12_text 15 = .ok (.getfield 174, 3) := by decide +kernel
theorem dX12_text_18 : decode cX12_text 18 = .ok (.invokevirtual 224, 3) := by decide +kernel
theorem dX12_text_21 : decode cX12_text 21 = .ok (.istore_n 2, 1) := by decide +kernel
theorem dX12_text_22 : decode cX12_text 22 = .ok (.aload_n 0, 1) := by decide +kernel
theorem dX12_text_23 : decode cX12_text 23 = .ok (.getfield 174, 3) := by decide +kernel
theorem dX12_text_26 : decode cX12_text 26 = .ok (.istore_n 3, 1) := by decide +kernel
theorem dX12_text_27 : decode cX12_text 27 = .ok (.aload_n 0, 1) := by decide +kernel
theorem dX12_text_28 : decode cX12_text 28 = .ok (.iconst 0, 1) := by decide +kernel
theorem dX12_text_29 : decode cX12_text 29 = .ok (.putfield 174, 3) := by decide +kernel
theorem dX12_text_32 : decode cX12_text 32 = .ok (.aload_n 0, 1) := by decide +kernel
theorem dX12_text_33 : decode cX12_text 33 = .ok (.getfield 186, 3) := by decide +kernel
theorem dX12_text_36 : decode cX12_text 36 = .ok (.ifCond .lt 11, 3) := by decide +kernel
theorem dX12_text_39 : decode cX12_text 39 = .ok (.bipush (-100), 2) := by decide +kernel
theorem dX12_text_41 : decode cX12_text 41 = .ok (.aload_n 0, 1) := by decide +kernel
theorem dX12_text_42 : decode cX12_text 42 = .ok (.getfield 186, 3) := by decide +kernel
theorem dX12_text_45 : decode cX12_text 45 = .ok (.isub, 1) := by decide +kernel
theorem dX12_text_46 : decode cX12_text 46 = .ok (.ireturn, 1) := by decide +kernel
theorem dX12_text_47 : decode cX12_text 47 = .ok (.iconst 0, 1) := by decide +kernel
theorem dX12_text_48 : decode cX12_text 48 = .ok (.istore 4, 2) := by decide +kernel
theorem dX12_text_50 : decode cX12_text 50 = .ok (.iload 4, 2) := by decide +kernel
theorem dX12_text_52 : decode cX12_text 52 = .ok (.iload_n 3, 1) := by decide +kernel
theorem dX12_text_53 : decode cX12_text 53 = .ok (.if_icmp .ge 28, 3) := by decide +kernel
theorem dX12_text_56 : decode cX12_text 56 = .ok (.aload_n 0, 1) := by decide +kernel
theorem dX12_text_57 : decode cX12_text 57 = .ok (.getfield 34, 3) := by decide +kernel
theorem dX12_text_60 : decode cX12_text 60 = .ok (.bipush 80, 2) := by decide +kernel
theorem dX12_text_62 : decode cX12_text 62 = .ok (.iload_n 1, 1) := by decide +kernel
theorem dX12_text_63 : decode cX12_text 63 = .ok (.imul, 1) := by decide +kernel
theorem dX12_text_64 : decode cX12_text 64 = .ok (.iload 4, 2) := by decide +kernel
theorem dX12_text_66 : decode cX12_text 66 = .ok (.iadd, 1) := by decide +kernel
theorem dX12_text_67 : decode cX12_text 67 = .ok (.aload_n 0, 1) := by decide +kernel
theorem dX12_text_68 : decode cX12_text 68 = .ok (.getfield 31, 3) := by decide +kernel
theorem dX12_text_71 : decode cX12_text 71 = .ok (.iload 4, 2) := by decide +kernel
theorem dX12_text_73 : decode cX12_text 73 = .ok (.iaload, 1) := by decide +kernel
theorem dX12_text_74 : decode cX12_text 74 = .ok (.iastore, 1) := by decide +kernel
theorem dX12_text_75 : decode cX12_text 75 = .ok (.iinc 4 1, 3) := by decide +kernel
theorem dX12_text_78 : decode cX12_text 78 = .ok (.goto (-28), 3) := by decide +kernel
theorem dX12_text_81 : decode cX12_text 81 = .ok (.aload_n 0, 1) := by decide +kernel
theorem dX12_text_82 : decode cX12_text 82 = .ok (.getfield 37, 3) := by decide +kernel
theorem dX12_text_85 : decode cX12_text 85 = .ok (.iload_n 1, 1) := by decide +kernel
theorem dX12_text_86 : decode cX12_text 86 = .ok (.iload_n 3, 1) := by decide +kernel
theorem dX12_text_87 : decode cX12_text 87 = .ok (.iastore, 1) := by decide +kernel
theorem dX12_text_88 : decode cX12_text 88 = .ok (.iconst 1, 1) := by decide +kernel
theorem dX12_text_89 : decode cX12_text 89 = .ok (.ireturn, 1) := by decide +kernel
theorem dX12_numberRead_0 : decode cX12_numberRead 0 = .ok (.aload_n 0, 1) := by decide +kernel
theorem dX12_numberRead_1 : decode cX12_numberRead 1 = .ok (.getfield 177, 3) := by decide +kernel
theorem dX12_numberRead_4 : decode cX12_numberRead 4 = .ok (.istore 4, 2) := by decide +kernel
theorem dX12_numberRead_6 : decode cX12_numberRead 6 = .ok (.iconst 0, 1) := by decide +kernel
theorem dX12_numberRead_7 : decode cX12_numberRead 7 = .ok (.istore 5, 2) := by decide +kernel
theorem dX12_numberRead_9 : decode cX12_numberRead 9 = .ok (.aload_n 0, 1) := by decide +kernel
theorem dX12_numberRead_10 : decode cX12_numberRead 10 = .ok (.getfield 186, 3) := by decide +kernel
theorem dX12_numberRead_13 : decode cX12_numberRead 13 = .ok (.ifCond .ge 60, 3) := by decide +kernel
theorem dX12_numberRead_16 : decode cX12_numberRead 16 = .ok (.aload_n 0, 1) := by decide +kernel
theorem dX12_numberRead_17 : decode cX12_numberRead 17 = .ok (.getfield 177, 3) := by decide +kernel
theorem dX12_numberRead_20 : decode cX12_numberRead 20 = .ok (.iload 4, 2) := by decide +kernel
theorem dX12_numberRead_22 : decode cX12_numberRead 22 = .ok (.iload_n 1, 1) := by decide +kernel
theorem dX12_numberRead_23 : decode cX12_numberRead 23 = .ok (.iadd, 1) := by decide +kernel
theorem dX12_numberRead_24 : decode cX12_numberRead 24 = .ok (.if_icmp .ge 49, 3) := by decide +kernel
theorem dX12_numberRead_27 : decode cX12_numberRead 27 = .ok (.aload_n 0, 1) := by decide +kernel
theorem dX12_numberRead_28 : decode cX12_numberRead 28 = .ok (.invokevirtual 189, 3) := by decide +kernel
theorem dX12_numberRead_31 : decode cX12_numberRead 31 = .ok (.bipush 48, 2) := by decide +kernel
theorem dX12_numberRead_33 : decode cX12_numberRead 33 = .ok (.if_icmp .lt 40, 3) := by decide +kernel
theorem dX12_numberRead_36 : decode cX12_numberRead 36 = .ok (.aload_n 0, 1) := by decide +kernel
theorem dX12_numberRead_37 : decode cX12_numberRead 37 = .ok (.invokevirtual 189, 3) := by decide +kernel
theorem dX12_numberRead_40 : decode cX12_numberRead 40 = .ok (.bipush 57, 2) := by decide +kernel
theorem dX12_numberRead_42 : decode cX12_numberRead 42 = .ok (.if_icmp .gt 31, 3) := by decide +kernel
theorem dX12_numberRead_45 : decode cX12_numberRead 45 = .ok (.bipush 10, 2) := by decide +kernel
theorem dX12_numberRead_47 : decode cX12_numberRead 47 = .ok (.iload 5, 2) := by decide +kernel
theorem dX12_numberRead_49 : decode cX12_numberRead 49 = .ok (.imul, 1) := by decide +kernel
theorem dX12_numberRead_50 : decode cX12_numberRead 50 = .ok (.aload_n 0, 1) := by decide +kernel
theorem dX12_numberRead_51 : decode cX12_numberRead 51 = .ok (.invokevirtual 189, 3) := by decide +kernel
theorem dX12_numberRead_54 : decode cX12_numberRead 54 = .ok (.iadd, 1) := by decide +kernel
theorem dX12_numberRead_55 : decode cX12_numberRead 55 = .ok (.bipush 48, 2) := by decide +kernel
theorem dX12_numberRead_57 : decode cX12_numberRead 57 = .ok (.isub, 1) := by decide +kernel
theorem dX12_numberRead_58 : decode cX12_numberRead 58 = .ok (.istore 5, 2) := by decide +kernel
theorem dX12_numberRead_60 : decode cX12_numberRead 60 = .ok (.aload_n 0, 1) := by decide +kernel
theorem dX12_numberRead_61 : decode cX12_numberRead 61 = .ok (.dup, 1) := by decide +kernel
theorem dX12_numberRead_62 : decode cX12_numberRead 62 = .ok (.getfield 177, 3) := by decide +kernel
theorem dX12_numberRead_65 : decode cX12_numberRead 65 = .ok (.iconst 1, 1) := by decide +kernel
theorem dX12_numberRead_66 : decode cX12_numberRead 66 = .ok (.iadd, 1) := by decide +kernel
theorem dX12_numberRead_67 : decode cX12_numberRead 67 = .ok (.putfield 177, 3) := by decide +kernel
theorem dX12_numberRead_70 : decode cX12_numberRead 70 = .ok (.goto (-61), 3) := by decide +kernel
theorem dX12_numberRead_73 : decode cX12_numberRead 73 = .ok (.aload_n 0, 1) := by decide +kernel
theorem dX12_numberRead_74 : decode cX12_numberRead 74 = .ok (.getfield 186, 3) := by decide +kernel
theorem dX12_numberRead_77 : decode cX12_numberRead 77 = .ok (.ifCond .ge 36, 3) := by decide +kernel
theorem dX12_numberRead_80 : decode cX12_numberRead 80 = .ok (.aload_n 0, 1) := by decide +kernel
theorem dX12_numberRead_81 : decode cX12_numberRead 81 = .ok (.getfield 177, 3) := by decide +kernel
theorem dX12_numberRead_84 : decode cX12_numberRead 84 = .ok (.iload 4, 2) := by decide +kernel
theorem dX12_numberRead_86 : decode cX12_numberRead 86 = .ok (.if_icmp .le 27, 3) := by decide +kernel
theorem dX12_numberRead_89 : decode cX12_numberRead 89 = .ok (.iload 5, 2) := by decide +kernel
theorem dX12_numberRead_91 : decode cX12_numberRead 91 = .ok (.i2l, 1) := by decide +kernel
theorem dX12_numberRead_92 : decode cX12_numberRead 92 = .ok (.iload_n 2, 1) := by decide +kernel
theorem dX12_numberRead_93 : decode cX12_numberRead 93 = .ok (.i2l, 1) := by decide +kernel
theorem dX12_numberRead_94 : decode cX12_numberRead 94 = .ok (.iload_n 3, 1) := by decide +kernel
theorem dX12_numberRead_95 : decode cX12_numberRead 95 = .ok (.i2l, 1) := by decide +kernel
theorem dX12_numberRead_96 : decode cX12_numberRead 96 = .ok (.invokestatic 136, 3) := by decide +kernel
theorem dX12_numberRead_99 : decode cX12_numberRead 99 = .ok (.ifCond .ne 14, 3) := by decide +kernel
theorem dX12_numberRead_102 : decode cX12_numberRead 102 = .ok (.aload_n 0, 1) := by decide +kernel
theorem dX12_numberRead_103 : decode cX12_numberRead 103 = .ok (.iload 4, 2) := by decide +kernel
theorem dX12_numberRead_105 : decode cX12_numberRead 105 = .ok (.putfield 177, 3) := by decide +kernel
theorem dX12_numberRead_108 : decode cX12_numberRead 108 = .ok (.aload_n 0, 1) := by decide +kernel
theorem dX12_numberRead_109 : decode cX12_numberRead 109 = .ok (.invokevirtual 214, 3) := by decide +kernel
theorem dX12_numberRead_112 : decode cX12_numberRead 112 = .ok (.ireturn, 1) := by decide +kernel
theorem dX12_numberRead_113 : decode cX12_numberRead 113 = .ok (.aload_n 0, 1) := by decide +kernel
theorem dX12_numberRead_114 : decode cX12_numberRead 114 = .ok (.getfield 177, 3) := by decide +kernel
theorem dX12_numberRead_117 : decode cX12_numberRead 117 = .ok (.iload 4, 2) := by decide +kernel
theorem dX12_numberRead_119 : decode cX12_numberRead 119 = .ok (.if_icmp .ne 10, 3) := by decide +kernel
theorem dX12_numberRead_122 : decode cX12_numberRead 122 = .ok (.aload_n 0, 1) := by decide +kernel
theorem dX12_numberRead_123 : decode cX12_numberRead 123 = .ok (.invokevirtual 214, 3) := by decide +kernel
theorem dX12_numberRead_126 : decode cX12_numberRead 126 = .ok (.goto 5, 3) := by decide +kernel
theorem dX12_numberRead_129 : decode cX12_numberRead 129 = .ok (.iload 5, 2) := by decide +kernel
theorem dX12_numberRead_131 : decode cX12_numberRead 131 = .ok (.ireturn, 1) := by decide +kernel
theorem dX12_order_0 : decode cX12_order 0 = .ok (.aload_n 0, 1) := by decide +kernel
theorem dX12_order_1 : decode cX12_order 1 = .ok (.iconst (-1), 1) := by decide +kernel
theorem dX12_order_2 : decode cX12_order 2 = .ok (.putfield 183, 3) := by decide +kernel
theorem dX12_order_5 : decode cX12_order 5 = .ok (.aload_n 0, 1) := by decide +kernel
theorem dX12_order_6 : decode cX12_order 6 = .ok (.iconst 0, 1) := by decide +kernel
theorem dX12_order_7 : decode cX12_order 7 = .ok (.putfield 177, 3) := by decide +kernel
theorem dX12_order_10 : decode cX12_order 10 = .ok (.aload_n 0, 1) := by decide +kernel
theorem dX12_order_11 : decode cX12_order 11 = .ok (.aload_n 0, 1) := by decide +kernel
theorem dX12_order_12 : decode cX12_order 12 = .ok (.getfield 174, 3) := by decide +kernel
theorem dX12_order_15 : decode cX12_order 15 = .ok (.putfield 180, 3) := by decide +kernel
theorem dX12_order_18 : decode cX12_order 18 = .ok (.aload_n 0, 1) := by decide +kernel
theorem dX12_order_19 : decode cX12_order 19 = .ok (.iconst (-1), 1) := by decide +kernel
theorem dX12_order_20 : decode cX12_order 20 = .ok (.putfield 186, 3) := by decide +kernel
theorem dX12_order_23 : decode cX12_order 23 = .ok (.iconst 0, 1) := by decide +kernel
theorem dX12_order_24 : decode cX12_order 24 = .ok (.istore_n 1, 1) := by decide +kernel
theorem dX12_order_25 : decode cX12_order 25 = .ok (.iload_n 1, 1) := by decide +kernel
theorem dX12_order_26 : decode cX12_order 26 = .ok (.bipush 8, 2) := by decide +kernel
theorem dX12_order_28 : decode cX12_order 28 = .ok (.if_icmp .ge 50, 3) := by decide +kernel
theorem dX12_order_31 : decode cX12_order 31 = .ok (.aload_n 0, 1) := by decide +kernel
theorem dX12_order_32 : decode cX12_order 32 = .ok (.invokevirtual 189, 3) := by decide +kernel
theorem dX12_order_35 : decode cX12_order 35 = .ok (.bipush 48, 2) := by decide +kernel
theorem dX12_order_37 : decode cX12_order 37 = .ok (.if_icmp .lt 41, 3) := by decide +kernel
theorem dX12_order_40 : decode cX12_order 40 = .ok (.aload_n 0, 1) := by decide +kernel
theorem dX12_order_41 : decode cX12_order 41 = .ok (.invokevirtual 189, 3) := by decide +kernel
theorem dX12_order_44 : decode cX12_order 44 = .ok (.bipush 51, 2) := by decide +kernel
theorem dX12_order_46 : decode cX12_order 46 = .ok (.if_icmp .gt 32, 3) := by decide +kernel
theorem dX12_order_49 : decode cX12_order 49 = .ok (.aload_n 0, 1) := by decide +kernel
theorem dX12_order_50 : decode cX12_order 50 = .ok (.getfield 43, 3) := by decide +kernel
theorem dX12_order_53 : decode cX12_order 53 = .ok (.iload_n 1, 1) := by decide +kernel
theorem dX12_order_54 : decode cX12_order 54 = .ok (.aload_n 0, 1) := by decide +kernel
theorem dX12_order_55 : decode cX12_order 55 = .ok (.invokevirtual 189, 3) := by decide +kernel
theorem dX12_order_58 : decode cX12_order 58 = .ok (.bipush 48, 2) := by decide +kernel
theorem dX12_order_60 : decode cX12_order 60 = .ok (.isub, 1) := by decide +kernel
theorem dX12_order_61 : decode cX12_order 61 = .ok (.iastore, 1) := by decide +kernel
theorem dX12_order_62 : decode cX12_order 62 = .ok (.aload_n 0, 1) := by decide +kernel
theorem dX12_order_63 : decode cX12_order 63 = .ok (.dup, 1) := by decide +kernel
theorem dX12_order_64 : decode cX12_order 64 = .ok (.getfield 177, 3) := by decide +kernel
theorem dX12_order_67 : decode cX12_order 67 = .ok (.iconst 1, 1) := by decide +kernel
theorem dX12_order_68 : decode cX12_order 68 = .ok (.iadd, 1) := by decide +kernel
theorem dX12_order_69 : decode cX12_order 69 = .ok (.putfield 177, 3) := by decide +kernel
theorem dX12_order_72 : decode cX12_order 72 = .ok (.iinc 1 1, 3) := by decide +kernel
theorem dX12_order_75 : decode cX12_order 75 = .ok (.goto (-50), 3) := by decide +kernel
theorem dX12_order_78 : decode cX12_order 78 = .ok (.iload_n 1, 1) := by decide +kernel
theorem dX12_order_79 : decode cX12_order 79 = .ok (.ifCond .ne 8, 3) := by decide +kernel
theorem dX12_order_82 : decode cX12_order 82 = .ok (.aload_n 0, 1) := by decide +kernel
theorem dX12_order_83 : decode cX12_order 83 = .ok (.invokevirtual 214, 3) := by decide +kernel
theorem dX12_order_86 : decode cX12_order 86 = .ok (.istore_n 2, 1) := by decide +kernel
theorem dX12_order_87 : decode cX12_order 87 = .ok (.aload_n 0, 1) := by decide +kernel
theorem dX12_order_88 : decode cX12_order 88 = .ok (.bipush 58, 2) := by decide +kernel
theorem dX12_order_90 : decode cX12_order 90 = .ok (.invokevirtual 196, 3) := by decide +kernel
theorem dX12_order_93 : decode cX12_order 93 = .ok (.ifCond .eq 14, 3) := by decide +kernel
theorem dX12_order_96 : decode cX12_order 96 = .ok (.aload_n 0, 1) := by decide +kernel
theorem dX12_order_97 : decode cX12_order 97 = .ok (.iconst 2, 1) := by decide +kernel
theorem dX12_order_98 : decode cX12_order 98 = .ok (.iconst 1, 1) := by decide +kernel
theorem dX12_order_99 : decode cX12_order 99 = .ok (.bipush 12, 2) := by decide +kernel
theorem dX12_order_101 : decode cX12_order 101 = .ok (.invokevirtual 227, 3) := by decide +kernel
theorem dX12_order_104 : decode cX12_order 104 = .ok (.goto 5, 3) := by decide +kernel
theorem dX12_order_107 : decode cX12_order 107 = .ok (.bipush 8, 2) := by decide +kernel
theorem dX12_order_109 : decode cX12_order 109 = .ok (.istore_n 2, 1) := by decide +kernel
theorem dX12_order_110 : decode cX12_order 110 = .ok (.aload_n 0, 1) := by decide +kernel
theorem dX12_order_111 : decode cX12_order 111 = .ok (.bipush 114, 2) := by decide +kernel
theorem dX12_order_113 : decode cX12_order 113 = .ok (.invokevirtual 196, 3) := by decide +kernel
theorem dX12_order_116 : decode cX12_order 116 = .ok (.ifCond .eq 15, 3) := by decide +kernel
theorem dX12_order_119 : decode cX12_order 119 = .ok (.aload_n 0, 1) := by decide +kernel
theorem dX12_order_120 : decode cX12_order 120 = .ok (.iconst 3, 1) := by decide +kernel
theorem dX12_order_121 : decode cX12_order 121 = .ok (.iconst 0, 1) := by decide +kernel
theorem dX12_order_122 : decode cX12_order 122 = .ok (.sipush 999, 3) := by decide +kernel
theorem dX12_order_125 : decode cX12_order 125 = .ok (.invokevirtual 227, 3) := by decide +kernel
theorem dX12_order_128 : decode cX12_order 128 = .ok (.goto 4, 3) := by decide +kernel
theorem dX12_order_131 : decode cX12_order 131 = .ok (.iconst 0, 1) := by decide +kernel
theorem dX12_order_132 : decode cX12_order 132 = .ok (.istore_n 3, 1) := by decide +kernel
theorem dX12_order_133 : decode cX12_order 133 = .ok (.aload_n 0, 1) := by decide +kernel
theorem dX12_order_134 : decode cX12_order 134 = .ok (.getfield 186, 3) := by decide +kernel
theorem dX12_order_137 : decode cX12_order 137 = .ok (.ifCond .ge 20, 3) := by decide +kernel
theorem dX12_order_140 : decode cX12_order 140 = .ok (.aload_n 0, 1) := by decide +kernel
theorem dX12_order_141 : decode cX12_order 141 = .ok (.getfield 177, 3) := by decide +kernel
theorem dX12_order_144 : decode cX12_order 144 = .ok (.aload_n 0, 1) := by decide +kernel
theorem dX12_order_145 : decode cX12_order 145 = .ok (.getfield 180, 3) := by decide +kernel
theorem dX12_order_148 : decode cX12_order 148 = .ok (.if_icmp .ge 9, 3) := by decide +kernel
theorem dX12_order_151 : decode cX12_order 151 = .ok (.aload_n 0, 1) := by decide +kernel
theorem dX12_order_152 : decode cX12_order 152 = .ok (.invokevirtual 214, 3) := by decide +kernel
theorem dX12_order_155 : decode cX12_order 155 = .ok (.istore 4, 2) := by decide +kernel
theorem dX12_order_157 : decode cX12_order 157 = .ok (.aload_n 0, 1) := by decide +kernel
theorem dX12_order_158 : decode cX12_order 158 = .ok (.iconst 0, 1) := by decide +kernel
theorem dX12_order_159 : decode cX12_order 159 = .ok (.putfield 174, 3) := by decide +kernel
theorem dX12_order_162 : decode cX12_order 162 = .ok (.aload_n 0, 1) := by decide +kernel
theorem dX12_order_163 : decode cX12_order 163 = .ok (.getfield 186, 3) := by decide +kernel
theorem dX12_order_166 : decode cX12_order 166 = .ok (.ifCond .lt 11, 3) := by decide +kernel
theorem dX12_order_169 : decode cX12_order 169 = .ok (.bipush (-100), 2) := by decide +kernel
theorem dX12_order_171 : decode cX12_order 171 = .ok (.aload_n 0, 1) := by decide +kernel
theorem dX12_order_172 : decode cX12_order 172 = .ok (.getfield 186, 3) := by decide +kernel
theorem dX12_order_175 : decode cX12_order 175 = .ok (.isub, 1) := by decide +kernel
theorem dX12_order_176 : decode cX12_order 176 = .ok (.ireturn, 1) := by decide +kernel
theorem dX12_order_177 : decode cX12_order 177 = .ok (.aload_n 0, 1) := by decide +kernel
theorem dX12_order_178 : decode cX12_order 178 = .ok (.iload_n 1, 1) := by decide +kernel
theorem dX12_order_179 : decode cX12_order 179 = .ok (.putfield 121, 3) := by decide +kernel
theorem dX12_order_182 : decode cX12_order 182 = .ok (.aload_n 0, 1) := by decide +kernel
theorem dX12_order_183 : decode cX12_order 183 = .ok (.iload_n 2, 1) := by decide +kernel
theorem dX12_order_184 : decode cX12_order 184 = .ok (.putfield 124, 3) := by decide +kernel
theorem dX12_order_187 : decode cX12_order 187 = .ok (.aload_n 0, 1) := by decide +kernel
theorem dX12_order_188 : decode cX12_order 188 = .ok (.iload_n 3, 1) := by decide +kernel
theorem dX12_order_189 : decode cX12_order 189 = .ok (.putfield 231, 3) := by decide +kernel
theorem dX12_order_192 : decode cX12_order 192 = .ok (.iconst 0, 1) := by decide +kernel
theorem dX12_order_193 : decode cX12_order 193 = .ok (.istore 4, 2) := by decide +kernel
theorem dX12_order_195 : decode cX12_order 195 = .ok (.iload 4, 2) := by decide +kernel
theorem dX12_order_197 : decode cX12_order 197 = .ok (.iload_n 1, 1) := by decide +kernel
theorem dX12_order_198 : decode cX12_order 198 = .ok (.if_icmp .ge 23, 3) := by decide +kernel
theorem dX12_order_201 : decode cX12_order 201 = .ok (.aload_n 0, 1) := by decide +kernel
theorem dX12_order_202 : decode cX12_order 202 = .ok (.getfield 28, 3) := by decide +kernel
theorem dX12_order_205 : decode cX12_order 205 = .ok (.iload 4, 2) := by decide +kernel
theorem dX12_order_207 : decode cX12_order 207 = .ok (.aload_n 0, 1) := by decide +kernel
theorem dX12_order_208 : decode cX12_order 208 = .ok (.getfield 43, 3) := by decide +kernel
theorem dX12_order_211 : decode cX12_order 211 = .ok (.iload 4, 2) := by decide +kernel
theorem dX12_order_213 : decode cX12_order 213 = .ok (.iaload, 1) := by decide +kernel
theorem dX12_order_214 : decode cX12_order 214 = .ok (.iastore, 1) := by decide +kernel
theorem dX12_order_215 : decode cX12_order 215 = .ok (.iinc 4 1, 3) := by decide +kernel
theorem dX12_order_218 : decode cX12_order 218 = .ok (.goto (-23), 3) := by decide +kernel
theorem dX12_order_221 : decode cX12_order 221 = .ok (.aload_n 0, 1) := by decide +kernel
theorem dX12_order_222 : decode cX12_order 222 = .ok (.iconst 0, 1) := by decide +kernel
theorem dX12_order_223 : decode cX12_order 223 = .ok (.putfield 234, 3) := by decide +kernel
theorem dX12_order_226 : decode cX12_order 226 = .ok (.aload_n 0, 1) := by decide +kernel
theorem dX12_order_227 : decode cX12_order 227 = .ok (.getfield 121, 3) := by decide +kernel
theorem dX12_order_230 : decode cX12_order 230 = .ok (.ireturn, 1) := by decide +kernel
theorem dX12_of_0 : decode cX12_of 0 = .ok (.iload_n 1, 1) := by decide +kernel
theorem dX12_of_1 : decode cX12_of 1 = .ok (.bipush 10, 2) := by decide +kernel
theorem dX12_of_3 : decode cX12_of 3 = .ok (.isub, 1) := by decide +kernel
theorem dX12_of_4 : decode cX12_of 4 = .ok (.i2l, 1) := by decide +kernel
theorem dX12_of_5 : decode cX12_of 5 = .ok (.lconst 0, 1) := by decide +kernel
theorem dX12_of_6 : decode cX12_of 6 = .ok (.aload_n 0, 1) := by decide +kernel
theorem dX12_of_7 : decode cX12_of 7 = .ok (.getfield 121, 3) := by decide +kernel
theorem dX12_of_10 : decode cX12_of 10 = .ok (.iconst 1, 1) := by decide +kernel
theorem dX12_of_11 : decode cX12_of 11 = .ok (.isub, 1) := by decide +kernel
theorem dX12_of_12 : decode cX12_of 12 = .ok (.i2l, 1) := by decide +kernel
theorem dX12_of_13 : decode cX12_of 13 = .ok (.invokestatic 136, 3) := by decide +kernel
theorem dX12_of_16 : decode cX12_of 16 = .ok (.ifCond .eq 13, 3) := by decide +kernel
theorem dX12_of_19 : decode cX12_of 19 = .ok (.aload_n 0, 1) := by decide +kernel
theorem dX12_of_20 : decode cX12_of 20 = .ok (.getfield 28, 3) := by decide +kernel
theorem dX12_of_23 : decode cX12_of 23 = .ok (.iload_n 1, 1) := by decide +kernel
theorem dX12_of_24 : decode cX12_of 24 = .ok (.bipush 10, 2) := by decide +kernel
theorem dX12_of_26 : decode cX12_of 26 = .ok (.isub, 1) := by decide +kernel
theorem dX12_of_27 : decode cX12_of 27 = .ok (.iaload, 1) := by decide +kernel
theorem dX12_of_28 : decode cX12_of 28 = .ok (.ireturn, 1) := by decide +kernel
theorem dX12_of_29 : decode cX12_of 29 = .ok (.iload_n 1, 1) := by decide +kernel
theorem dX12_of_30 : decode cX12_of 30 = .ok (.tableswitch 41 0 2 #[26, 31, 36], 26) := by decide +kernel
theorem dX12_of_56 : decode cX12_of 56 = .ok (.aload_n 0, 1) := by decide +kernel
theorem dX12_of_57 : decode cX12_of 57 = .ok (.getfield 121, 3) := by decide +kernel
theorem dX12_of_60 : decode cX12_of 60 = .ok (.ireturn, 1) := by decide +kernel
theorem dX12_of_61 : decode cX12_of 61 = .ok (.aload_n 0, 1) := by decide +kernel
theorem dX12_of_62 : decode cX12_of 62 = .ok (.getfield 124, 3) := by decide +kernel
theorem dX12_of_65 : decode cX12_of 65 = .ok (.ireturn, 1) := by decide +kernel
theorem dX12_of_66 : decode cX12_of 66 = .ok (.aload_n 0, 1) := by decide +kernel
theorem dX12_of_67 : decode cX12_of 67 = .ok (.getfield 231, 3) := by decide +kernel
theorem dX12_of_70 : decode cX12_of 70 = .ok (.ireturn, 1) := by decide +kernel
theorem dX12_of_71 : decode cX12_of 71 = .ok (.iconst (-1), 1) := by decide +kernel
theorem dX12_of_72 : decode cX12_of 72 = .ok (.ireturn, 1) := by decide +kernel
theorem dX12_begin_0 : decode cX12_begin 0 = .ok (.aload_n 0, 1) := by decide +kernel
theorem dX12_begin_1 : decode cX12_begin 1 = .ok (.iconst 0, 1) := by decide +kernel
theorem dX12_begin_2 : decode cX12_begin 2 = .ok (.putfield 237, 3) := by decide +kernel
theorem dX12_begin_5 : decode cX12_begin 5 = .ok (.aload_n 0, 1) := by decide +kernel
theorem dX12_begin_6 : decode cX12_begin 6 = .ok (.iconst 0, 1) := by decide +kernel
theorem dX12_begin_7 : decode cX12_begin 7 = .ok (.putfield 240, 3) := by decide +kernel
theorem dX12_begin_10 : decode cX12_begin 10 = .ok (.aload_n 0, 1) := by decide +kernel
theorem dX12_begin_11 : decode cX12_begin 11 = .ok (.iconst (-1), 1) := by decide +kernel
theorem dX12_begin_12 : decode cX12_begin 12 = .ok (.putfield 243, 3) := by decide +kernel
theorem dX12_begin_15 : decode cX12_begin 15 = .ok (.iconst 0, 1) := by decide +kernel
theorem dX12_begin_16 : decode cX12_begin 16 = .ok (.istore_n 1, 1) := by decide +kernel
theorem dX12_begin_17 : decode cX12_begin 17 = .ok (.iload_n 1, 1) := by decide +kernel
theorem dX12_begin_18 : decode cX12_begin 18 = .ok (.iconst 4, 1) := by decide +kernel
theorem dX12_begin_19 : decode cX12_begin 19 = .ok (.if_icmp .ge 23, 3) := by decide +kernel
theorem dX12_begin_22 : decode cX12_begin 22 = .ok (.aload_n 0, 1) := by decide +kernel
theorem dX12_begin_23 : decode cX12_begin 23 = .ok (.getfield 46, 3) := by decide +kernel
theorem dX12_begin_26 : decode cX12_begin 26 = .ok (.iload_n 1, 1) := by decide +kernel
theorem dX12_begin_27 : decode cX12_begin 27 = .ok (.iconst 0, 1) := by decide +kernel
theorem dX12_begin_28 : decode cX12_begin 28 = .ok (.iastore, 1) := by decide +kernel
theorem dX12_begin_29 : decode cX12_begin 29 = .ok (.aload_n 0, 1) := by decide +kernel
theorem dX12_begin_30 : decode cX12_begin 30 = .ok (.getfield 49, 3) := by decide +kernel
theorem dX12_begin_33 : decode cX12_begin 33 = .ok (.iload_n 1, 1) := by decide +kernel
theorem dX12_begin_34 : decode cX12_begin 34 = .ok (.iconst 0, 1) := by decide +kernel
theorem dX12_begin_35 : decode cX12_begin 35 = .ok (.iastore, 1) := by decide +kernel
theorem dX12_begin_36 : decode cX12_begin 36 = .ok (.iinc 1 1, 3) := by decide +kernel
theorem dX12_begin_39 : decode cX12_begin 39 = .ok (.goto (-22), 3) := by decide +kernel
theorem dX12_begin_42 : decode cX12_begin 42 = .ok (.return_, 1) := by decide +kernel
theorem dX12_leftOf_0 : decode cX12_leftOf 0 = .ok (.iload_n 1, 1) := by decide +kernel
theorem dX12_leftOf_1 : decode cX12_leftOf 1 = .ok (.aload_n 0, 1) := by decide +kernel
theorem dX12_leftOf_2 : decode cX12_leftOf 2 = .ok (.getfield 52, 3) := by decide +kernel
theorem dX12_leftOf_5 : decode cX12_leftOf 5 = .ok (.if_icmp .ne 7, 3) := by decide +kernel
theorem dX12_leftOf_8 : decode cX12_leftOf 8 = .ok (.iconst 0, 1) := by decide +kernel
theorem dX12_leftOf_9 : decode cX12_leftOf 9 = .ok (.goto 26, 3) := by decide +kernel
theorem dX12_leftOf_12 : decode cX12_leftOf 12 = .ok (.aload_n 0, 1) := by decide +kernel
theorem dX12_leftOf_13 : decode cX12_leftOf 13 = .ok (.getfield 7, 3) := by decide +kernel
theorem dX12_leftOf_16 : decode cX12_leftOf 16 = .ok (.bipush 32, 2) := by decide +kernel
theorem dX12_leftOf_18 : decode cX12_leftOf 18 = .ok (.iload_n 1, 1) := by decide +kernel
theorem dX12_leftOf_19 : decode cX12_leftOf 19 = .ok (.iadd, 1) := by decide +kernel
theorem dX12_leftOf_20 : decode cX12_leftOf 20 = .ok (.iaload, 1) := by decide +kernel
theorem dX12_leftOf_21 : decode cX12_leftOf 21 = .ok (.iload_n 1, 1) := by decide +kernel
theorem dX12_leftOf_22 : decode cX12_leftOf 22 = .ok (.aload_n 0, 1) := by decide +kernel
theorem dX12_leftOf_23 : decode cX12_leftOf 23 = .ok (.getfield 56, 3) := by decide +kernel
theorem dX12_leftOf_26 : decode cX12_leftOf 26 = .ok (.if_icmp .ne 7, 3) := by decide +kernel
theorem dX12_leftOf_29 : decode cX12_leftOf 29 = .ok (.iconst 1, 1) := by decide +kernel
theorem dX12_leftOf_30 : decode cX12_leftOf 30 = .ok (.goto 4, 3) := by decide +kernel
theorem dX12_leftOf_33 : decode cX12_leftOf 33 = .ok (.iconst 0, 1) := by decide +kernel
theorem dX12_leftOf_34 : decode cX12_leftOf 34 = .ok (.iadd, 1) := by decide +kernel
theorem dX12_leftOf_35 : decode cX12_leftOf 35 = .ok (.aload_n 0, 1) := by decide +kernel
theorem dX12_leftOf_36 : decode cX12_leftOf 36 = .ok (.getfield 49, 3) := by decide +kernel
theorem dX12_leftOf_39 : decode cX12_leftOf 39 = .ok (.iload_n 1, 1) := by decide +kernel
theorem dX12_leftOf_40 : decode cX12_leftOf 40 = .ok (.iaload, 1) := by decide +kernel
theorem dX12_leftOf_41 : decode cX12_leftOf 41 = .ok (.isub, 1) := by decide +kernel
theorem dX12_leftOf_42 : decode cX12_leftOf 42 = .ok (.ireturn, 1) := by decide +kernel
theorem dX12_mayBowl_0 : decode cX12_mayBowl 0 = .ok (.iload_n 1, 1) := by decide +kernel
theorem dX12_mayBowl_1 : decode cX12_mayBowl 1 = .ok (.aload_n 0, 1) := by decide +kernel
theorem dX12_mayBowl_2 : decode cX12_mayBowl 2 = .ok (.getfield 243, 3) := by decide +kernel
theorem dX12_mayBowl_5 : decode cX12_mayBowl 5 = .ok (.if_icmp .eq 15, 3) := by decide +kernel
theorem dX12_mayBowl_8 : decode cX12_mayBowl 8 = .ok (.aload_n 0, 1) := by decide +kernel
theorem dX12_mayBowl_9 : decode cX12_mayBowl 9 = .ok (.iload_n 1, 1) := by decide +kernel
theorem dX12_mayBowl_10 : decode cX12_mayBowl 10 = .ok (.invokevirtual 246, 3) := by decide +kernel
theorem dX12_mayBowl_13 : decode cX12_mayBowl 13 = .ok (.ifCond .le 7, 3) := by decide +kernel
theorem dX12_mayBowl_16 : decode cX12_mayBowl 16 = .ok (.iconst 1, 1) := by decide +kernel
theorem dX12_mayBowl_17 : decode cX12_mayBowl 17 = .ok (.goto 4, 3) := by decide +kernel
theorem dX12_mayBowl_20 : decode cX12_mayBowl 20 = .ok (.iconst 0, 1) := by decide +kernel
theorem dX12_mayBowl_21 : decode cX12_mayBowl 21 = .ok (.ireturn, 1) := by decide +kernel
theorem dX12_isEnded_0 : decode cX12_isEnded 0 = .ok (.aload_n 0, 1) := by decide +kernel
theorem dX12_isEnded_1 : decode cX12_isEnded 1 = .ok (.getfield 237, 3) := by decide +kernel
theorem dX12_isEnded_4 : decode cX12_isEnded 4 = .ok (.aload_n 0, 1) := by decide +kernel
theorem dX12_isEnded_5 : decode cX12_isEnded 5 = .ok (.getfield 121, 3) := by decide +kernel
theorem dX12_isEnded_8 : decode cX12_isEnded 8 = .ok (.if_icmp .eq 14, 3) := by decide +kernel
theorem dX12_isEnded_11 : decode cX12_isEnded 11 = .ok (.aload_n 0, 1) := by decide +kernel
theorem dX12_isEnded_12 : decode cX12_isEnded 12 = .ok (.getfield 240, 3) := by decide +kernel
theorem dX12_isEnded_15 : decode cX12_isEnded 15 = .ok (.aload_n 0, 1) := by decide +kernel
theorem dX12_isEnded_16 : decode cX12_isEnded 16 = .ok (.getfield 124, 3) := by decide +kernel
theorem dX12_isEnded_19 : decode cX12_isEnded 19 = .ok (.if_icmp .ne 5, 3) := by decide +kernel
theorem dX12_isEnded_22 : decode cX12_isEnded 22 = .ok (.iconst 1, 1) := by decide +kernel
theorem dX12_isEnded_23 : decode cX12_isEnded 23 = .ok (.ireturn, 1) := by decide +kernel
theorem dX12_isEnded_24 : decode cX12_isEnded 24 = .ok (.iconst 0, 1) := by decide +kernel
theorem dX12_isEnded_25 : decode cX12_isEnded 25 = .ok (.istore_n 1, 1) := by decide +kernel
theorem dX12_isEnded_26 : decode cX12_isEnded 26 = .ok (.iload_n 1, 1) := by decide +kernel
theorem dX12_isEnded_27 : decode cX12_isEnded 27 = .ok (.aload_n 0, 1) := by decide +kernel
theorem dX12_isEnded_28 : decode cX12_isEnded 28 = .ok (.getfield 133, 3) := by decide +kernel
theorem dX12_isEnded_31 : decode cX12_isEnded 31 = .ok (.if_icmp .ge 19, 3) := by decide +kernel
theorem dX12_isEnded_34 : decode cX12_isEnded 34 = .ok (.aload_n 0, 1) := by decide +kernel
theorem dX12_isEnded_35 : decode cX12_isEnded 35 = .ok (.iload_n 1, 1) := by decide +kernel
theorem dX12_isEnded_36 : decode cX12_isEnded 36 = .ok (.invokevirtual 249, 3) := by decide +kernel
theorem dX12_isEnded_39 : decode cX12_isEnded 39 = .ok (.ifCond .eq 5, 3) := by decide +kernel
theorem dX12_isEnded_42 : decode cX12_isEnded 42 = .ok (.iconst 0, 1) := by decide +kernel
theorem dX12_isEnded_43 : decode cX12_isEnded 43 = .ok (.ireturn, 1) := by decide +kernel
theorem dX12_isEnded_44 : decode cX12_isEnded 44 = .ok (.iinc 1 1, 3) := by decide +kernel
theorem dX12_isEnded_47 : decode cX12_isEnded 47 = .ok (.goto (-21), 3) := by decide +kernel
theorem dX12_isEnded_50 : decode cX12_isEnded 50 = .ok (.iconst 1, 1) := by decide +kernel
theorem dX12_isEnded_51 : decode cX12_isEnded 51 = .ok (.ireturn, 1) := by decide +kernel
theorem dX12_textGives_0 : decode cX12_textGives 0 = .ok (.aload_n 0, 1) := by decide +kernel
theorem dX12_textGives_1 : decode cX12_textGives 1 = .ok (.getfield 40, 3) := by decide +kernel
theorem dX12_textGives_4 : decode cX12_textGives 4 = .ok (.iconst 0, 1) := by decide +kernel
theorem dX12_textGives_5 : decode cX12_textGives 5 = .ok (.aload_n 0, 1) := by decide +kernel
theorem dX12_textGives_6 : decode cX12_textGives 6 = .ok (.getfield 240, 3) := by decide +kernel
theorem dX12_textGives_9 : decode cX12_textGives 9 = .ok (.iastore, 1) := by decide +kernel
theorem dX12_textGives_10 : decode cX12_textGives 10 = .ok (.aload_n 0, 1) := by decide +kernel
theorem dX12_textGives_11 : decode cX12_textGives 11 = .ok (.getfield 40, 3) := by decide +kernel
theorem dX12_textGives_14 : decode cX12_textGives 14 = .ok (.iconst 1, 1) := by decide +kernel
theorem dX12_textGives_15 : decode cX12_textGives 15 = .ok (.aload_n 0, 1) := by decide +kernel
theorem dX12_textGives_16 : decode cX12_textGives 16 = .ok (.getfield 237, 3) := by decide +kernel
theorem dX12_textGives_19 : decode cX12_textGives 19 = .ok (.iastore, 1) := by decide +kernel
theorem dX12_textGives_20 : decode cX12_textGives 20 = .ok (.aload_n 0, 1) := by decide +kernel
theorem dX12_textGives_21 : decode cX12_textGives 21 = .ok (.getfield 40, 3) := by decide +kernel
theorem dX12_textGives_24 : decode cX12_textGives 24 = .ok (.iconst 2, 1) := by decide +kernel
theorem dX12_textGives_25 : decode cX12_textGives 25 = .ok (.iload_n 3, 1) := by decide +kernel
theorem dX12_textGives_26 : decode cX12_textGives 26 = .ok (.iastore, 1) := by decide +kernel
theorem dX12_textGives_27 : decode cX12_textGives 27 = .ok (.aload_n 0, 1) := by decide +kernel
theorem dX12_textGives_28 : decode cX12_textGives 28 = .ok (.getfield 40, 3) := by decide +kernel
theorem dX12_textGives_31 : decode cX12_textGives 31 = .ok (.iconst 3, 1) := by decide +kernel
theorem dX12_textGives_32 : decode cX12_textGives 32 = .ok (.iload_n 2, 1) := by decide +kernel
theorem dX12_textGives_33 : decode cX12_textGives 33 = .ok (.iastore, 1) := by decide +kernel
theorem dX12_textGives_34 : decode cX12_textGives 34 = .ok (.aload_n 0, 1) := by decide +kernel
theorem dX12_textGives_35 : decode cX12_textGives 35 = .ok (.getfield 40, 3) := by decide +kernel
theorem dX12_textGives_38 : decode cX12_textGives 38 = .ok (.iconst 4, 1) := by decide +kernel
theorem dX12_textGives_39 : decode cX12_textGives 39 = .ok (.aload_n 0, 1) := by decide +kernel
theorem dX12_textGives_40 : decode cX12_textGives 40 = .ok (.getfield 46, 3) := by decide +kernel
theorem dX12_textGives_43 : decode cX12_textGives 43 = .ok (.iload_n 2, 1) := by decide +kernel
theorem dX12_textGives_44 : decode cX12_textGives 44 = .ok (.iaload, 1) := by decide +kernel
theorem dX12_textGives_45 : decode cX12_textGives 45 = .ok (.iastore, 1) := by decide +kernel
theorem dX12_textGives_46 : decode cX12_textGives 46 = .ok (.aload_n 0, 1) := by decide +kernel
theorem dX12_textGives_47 : decode cX12_textGives 47 = .ok (.getfield 40, 3) := by decide +kernel
theorem dX12_textGives_50 : decode cX12_textGives 50 = .ok (.iconst 5, 1) := by decide +kernel
theorem dX12_textGives_51 : decode cX12_textGives 51 = .ok (.aload_n 0, 1) := by decide +kernel
theorem dX12_textGives_52 : decode cX12_textGives 52 = .ok (.iload_n 2, 1) := by decide +kernel
theorem dX12_textGives_53 : decode cX12_textGives 53 = .ok (.invokevirtual 246, 3) := by decide +kernel
theorem dX12_textGives_56 : decode cX12_textGives 56 = .ok (.iastore, 1) := by decide +kernel
theorem dX12_textGives_57 : decode cX12_textGives 57 = .ok (.aload_n 0, 1) := by decide +kernel
theorem dX12_textGives_58 : decode cX12_textGives 58 = .ok (.getfield 40, 3) := by decide +kernel
theorem dX12_textGives_61 : decode cX12_textGives 61 = .ok (.bipush 6, 2) := by decide +kernel
theorem dX12_textGives_63 : decode cX12_textGives 63 = .ok (.iload 4, 2) := by decide +kernel
theorem dX12_textGives_65 : decode cX12_textGives 65 = .ok (.iastore, 1) := by decide +kernel
theorem dX12_textGives_66 : decode cX12_textGives 66 = .ok (.aload_n 0, 1) := by decide +kernel
theorem dX12_textGives_67 : decode cX12_textGives 67 = .ok (.getfield 40, 3) := by decide +kernel
theorem dX12_textGives_70 : decode cX12_textGives 70 = .ok (.bipush 7, 2) := by decide +kernel
theorem dX12_textGives_72 : decode cX12_textGives 72 = .ok (.iload 5, 2) := by decide +kernel
theorem dX12_textGives_74 : decode cX12_textGives 74 = .ok (.iastore, 1) := by decide +kernel
theorem dX12_textGives_75 : decode cX12_textGives 75 = .ok (.aload_n 0, 1) := by decide +kernel
theorem dX12_textGives_76 : decode cX12_textGives 76 = .ok (.bipush 80, 2) := by decide +kernel
theorem dX12_textGives_78 : decode cX12_textGives 78 = .ok (.iload_n 1, 1) := by decide +kernel
theorem dX12_textGives_79 : decode cX12_textGives 79 = .ok (.imul, 1) := by decide +kernel
theorem dX12_textGives_80 : decode cX12_textGives 80 = .ok (.aload_n 0, 1) := by decide +kernel
theorem dX12_textGives_81 : decode cX12_textGives 81 = .ok (.getfield 37, 3) := by decide +kernel
theorem dX12_textGives_84 : decode cX12_textGives 84 = .ok (.iload_n 1, 1) := by decide +kernel
theorem dX12_textGives_85 : decode cX12_textGives 85 = .ok (.iaload, 1) := by decide +kernel
theorem dX12_textGives_86 : decode cX12_textGives 86 = .ok (.invokevirtual 224, 3) := by decide +kernel
theorem dX12_textGives_89 : decode cX12_textGives 89 = .ok (.ireturn, 1) := by decide +kernel
theorem dX12_outBy_0 : decode cX12_outBy 0 = .ok (.bipush 100, 2) := by decide +kernel
theorem dX12_outBy_2 : decode cX12_outBy 2 = .ok (.aload_n 0, 1) := by decide +kernel
theorem dX12_outBy_3 : decode cX12_outBy 3 = .ok (.getfield 22, 3) := by decide +kernel
theorem dX12_outBy_6 : decode cX12_outBy 6 = .ok (.iload_n 1, 1) := by decide +kernel
theorem dX12_outBy_7 : decode cX12_outBy 7 = .ok (.iaload, 1) := by decide +kernel
theorem dX12_outBy_8 : decode cX12_outBy 8 = .ok (.aload_n 0, 1) := by decide +kernel
theorem dX12_outBy_9 : decode cX12_outBy 9 = .ok (.getfield 46, 3) := by decide +kernel
theorem dX12_outBy_12 : decode cX12_outBy 12 = .ok (.iload_n 1, 1) := by decide +kernel
theorem dX12_outBy_13 : decode cX12_outBy 13 = .ok (.iaload, 1) := by decide +kernel
theorem dX12_outBy_14 : decode cX12_outBy 14 = .ok (.imul, 1) := by decide +kernel
theorem dX12_outBy_15 : decode cX12_outBy 15 = .ok (.isub, 1) := by decide +kernel
theorem dX12_outBy_16 : decode cX12_outBy 16 = .ok (.istore_n 3, 1) := by decide +kernel
theorem dX12_outBy_17 : decode cX12_outBy 17 = .ok (.aload_n 0, 1) := by decide +kernel
theorem dX12_outBy_18 : decode cX12_outBy 18 = .ok (.getfield 7, 3) := by decide +kernel
theorem dX12_outBy_21 : decode cX12_outBy 21 = .ok (.iconst 4, 1) := by decide +kernel
theorem dX12_outBy_22 : decode cX12_outBy 22 = .ok (.iload_n 1, 1) := by decide +kernel
theorem dX12_outBy_23 : decode cX12_outBy 23 = .ok (.imul, 1) := by decide +kernel
theorem dX12_outBy_24 : decode cX12_outBy 24 = .ok (.iload_n 2, 1) := by decide +kernel
theorem dX12_outBy_25 : decode cX12_outBy 25 = .ok (.iadd, 1) := by decide +kernel
theorem dX12_outBy_26 : decode cX12_outBy 26 = .ok (.iaload, 1) := by decide +kernel
theorem dX12_outBy_27 : decode cX12_outBy 27 = .ok (.aload_n 0, 1) := by decide +kernel
theorem dX12_outBy_28 : decode cX12_outBy 28 = .ok (.getfield 7, 3) := by decide +kernel
theorem dX12_outBy_31 : decode cX12_outBy 31 = .ok (.bipush 36, 2) := by decide +kernel
theorem dX12_outBy_33 : decode cX12_outBy 33 = .ok (.iconst 4, 1) := by decide +kernel
theorem dX12_outBy_34 : decode cX12_outBy 34 = .ok (.aload_n 0, 1) := by decide +kernel
theorem dX12_outBy_35 : decode cX12_outBy 35 = .ok (.getfield 169, 3) := by decide +kernel
theorem dX12_outBy_38 : decode cX12_outBy 38 = .ok (.imul, 1) := by decide +kernel
theorem dX12_outBy_39 : decode cX12_outBy 39 = .ok (.iadd, 1) := by decide +kernel
theorem dX12_outBy_40 : decode cX12_outBy 40 = .ok (.iload_n 2, 1) := by decide +kernel
theorem dX12_outBy_41 : decode cX12_outBy 41 = .ok (.iadd, 1) := by decide +kernel
theorem dX12_outBy_42 : decode cX12_outBy 42 = .ok (.iaload, 1) := by decide +kernel
theorem dX12_outBy_43 : decode cX12_outBy 43 = .ok (.iadd, 1) := by decide +kernel
theorem dX12_outBy_44 : decode cX12_outBy 44 = .ok (.iload_n 3, 1) := by decide +kernel
theorem dX12_outBy_45 : decode cX12_outBy 45 = .ok (.ifCond .ge 7, 3) := by decide +kernel
theorem dX12_outBy_48 : decode cX12_outBy 48 = .ok (.iconst 0, 1) := by decide +kernel
theorem dX12_outBy_49 : decode cX12_outBy 49 = .ok (.goto 4, 3) := by decide +kernel
theorem dX12_outBy_52 : decode cX12_outBy 52 = .ok (.iload_n 3, 1) := by decide +kernel
theorem dX12_outBy_53 : decode cX12_outBy 53 = .ok (.imul, 1) := by decide +kernel
theorem dX12_outBy_54 : decode cX12_outBy 54 = .ok (.bipush 100, 2) := by decide +kernel
theorem dX12_outBy_56 : decode cX12_outBy 56 = .ok (.idiv, 1) := by decide +kernel
theorem dX12_outBy_57 : decode cX12_outBy 57 = .ok (.istore 4, 2) := by decide +kernel
theorem dX12_outBy_59 : decode cX12_outBy 59 = .ok (.iload 4, 2) := by decide +kernel
theorem dX12_outBy_61 : decode cX12_outBy 61 = .ok (.aload_n 0, 1) := by decide +kernel
theorem dX12_outBy_62 : decode cX12_outBy 62 = .ok (.getfield 37, 3) := by decide +kernel
theorem dX12_outBy_65 : decode cX12_outBy 65 = .ok (.iconst 1, 1) := by decide +kernel
theorem dX12_outBy_66 : decode cX12_outBy 66 = .ok (.iaload, 1) := by decide +kernel
theorem dX12_outBy_67 : decode cX12_outBy 67 = .ok (.ifCond .ge 7, 3) := by decide +kernel
theorem dX12_outBy_70 : decode cX12_outBy 70 = .ok (.iconst 0, 1) := by decide +kernel
theorem dX12_outBy_71 : decode cX12_outBy 71 = .ok (.goto 12, 3) := by decide +kernel
theorem dX12_outBy_74 : decode cX12_outBy 74 = .ok (.aload_n 0, 1) := by decide +kernel
theorem dX12_outBy_75 : decode cX12_outBy 75 = .ok (.iconst 1, 1) := by decide +kernel
theorem dX12_outBy_76 : decode cX12_outBy 76 = .ok (.iload_n 1, 1) := by decide +kernel
theorem dX12_outBy_77 : decode cX12_outBy 77 = .ok (.iload_n 2, 1) := by decide +kernel
theorem dX12_outBy_78 : decode cX12_outBy 78 = .ok (.iconst 0, 1) := by decide +kernel
theorem dX12_outBy_79 : decode cX12_outBy 79 = .ok (.iconst 0, 1) := by decide +kernel
theorem dX12_outBy_80 : decode cX12_outBy 80 = .ok (.invokevirtual 252, 3) := by decide +kernel
theorem dX12_outBy_83 : decode cX12_outBy 83 = .ok (.iadd, 1) := by decide +kernel
theorem dX12_outBy_84 : decode cX12_outBy 84 = .ok (.istore 4, 2) := by decide +kernel
theorem dX12_outBy_86 : decode cX12_outBy 86 = .ok (.iload 4, 2) := by decide +kernel
theorem dX12_outBy_88 : decode cX12_outBy 88 = .ok (.ifCond .ge 7, 3) := by decide +kernel
theorem dX12_outBy_91 : decode cX12_outBy 91 = .ok (.iconst 0, 1) := by decide +kernel
theorem dX12_outBy_92 : decode cX12_outBy 92 = .ok (.goto 19, 3) := by decide +kernel
theorem dX12_outBy_95 : decode cX12_outBy 95 = .ok (.iload 4, 2) := by decide +kernel
theorem dX12_outBy_97 : decode cX12_outBy 97 = .ok (.sipush 1000, 3) := by decide +kernel
theorem dX12_outBy_100 : decode cX12_outBy 100 = .ok (.if_icmp .le 9, 3) := by decide +kernel
theorem dX12_outBy_103 : decode cX12_outBy 103 = .ok (.sipush 1000, 3) := by decide +kernel
theorem dX12_outBy_106 : decode cX12_outBy 106 = .ok (.goto 5, 3) := by decide +kernel
theorem dX12_outBy_109 : decode cX12_outBy 109 = .ok (.iload 4, 2) := by decide +kernel
theorem dX12_outBy_111 : decode cX12_outBy 111 = .ok (.ireturn, 1) := by decide +kernel
theorem dX12_runsBy_0 : decode cX12_runsBy 0 = .ok (.aload_n 0, 1) := by decide +kernel
theorem dX12_runsBy_1 : decode cX12_runsBy 1 = .ok (.getfield 25, 3) := by decide +kernel
theorem dX12_runsBy_4 : decode cX12_runsBy 4 = .ok (.iload_n 1, 1) := by decide +kernel
theorem dX12_runsBy_5 : decode cX12_runsBy 5 = .ok (.iaload, 1) := by decide +kernel
theorem dX12_runsBy_6 : decode cX12_runsBy 6 = .ok (.aload_n 0, 1) := by decide +kernel
theorem dX12_runsBy_7 : decode cX12_runsBy 7 = .ok (.getfield 7, 3) := by decide +kernel
theorem dX12_runsBy_10 : decode cX12_runsBy 10 = .ok (.bipush 16, 2) := by decide +kernel
theorem dX12_runsBy_12 : decode cX12_runsBy 12 = .ok (.iconst 4, 1) := by decide +kernel
theorem dX12_runsBy_13 : decode cX12_runsBy 13 = .ok (.iload_n 1, 1) := by decide +kernel
theorem dX12_runsBy_14 : decode cX12_runsBy 14 = .ok (.imul, 1) := by decide +kernel
theorem dX12_runsBy_15 : decode cX12_runsBy 15 = .ok (.iadd, 1) := by decide +kernel
theorem dX12_runsBy_16 : decode cX12_runsBy 16 = .ok (.iload_n 2, 1) := by decide +kernel
theorem dX12_runsBy_17 : decode cX12_runsBy 17 = .ok (.iadd, 1) := by decide +kernel
theorem dX12_runsBy_18 : decode cX12_runsBy 18 = .ok (.iaload, 1) := by decide +kernel
theorem dX12_runsBy_19 : decode cX12_runsBy 19 = .ok (.iadd, 1) := by decide +kernel
theorem dX12_runsBy_20 : decode cX12_runsBy 20 = .ok (.aload_n 0, 1) := by decide +kernel
theorem dX12_runsBy_21 : decode cX12_runsBy 21 = .ok (.getfield 7, 3) := by decide +kernel
theorem dX12_runsBy_24 : decode cX12_runsBy 24 = .ok (.bipush 52, 2) := by decide +kernel
theorem dX12_runsBy_26 : decode cX12_runsBy 26 = .ok (.iconst 4, 1) := by decide +kernel
theorem dX12_runsBy_27 : decode cX12_runsBy 27 = .ok (.aload_n 0, 1) := by decide +kernel
theorem dX12_runsBy_28 : decode cX12_runsBy 28 = .ok (.getfield 169, 3) := by decide +kernel
theorem dX12_runsBy_31 : decode cX12_runsBy 31 = .ok (.imul, 1) := by decide +kernel
theorem dX12_runsBy_32 : decode cX12_runsBy 32 = .ok (.iadd, 1) := by decide +kernel
theorem dX12_runsBy_33 : decode cX12_runsBy 33 = .ok (.iload_n 2, 1) := by decide +kernel
theorem dX12_runsBy_34 : decode cX12_runsBy 34 = .ok (.iadd, 1) := by decide +kernel
theorem dX12_runsBy_35 : decode cX12_runsBy 35 = .ok (.iaload, 1) := by decide +kernel
theorem dX12_runsBy_36 : decode cX12_runsBy 36 = .ok (.iadd, 1) := by decide +kernel
theorem dX12_runsBy_37 : decode cX12_runsBy 37 = .ok (.aload_n 0, 1) := by decide +kernel
theorem dX12_runsBy_38 : decode cX12_runsBy 38 = .ok (.getfield 46, 3) := by decide +kernel
theorem dX12_runsBy_41 : decode cX12_runsBy 41 = .ok (.iload_n 1, 1) := by decide +kernel
theorem dX12_runsBy_42 : decode cX12_runsBy 42 = .ok (.iaload, 1) := by decide +kernel
theorem dX12_runsBy_43 : decode cX12_runsBy 43 = .ok (.iadd, 1) := by decide +kernel
theorem dX12_runsBy_44 : decode cX12_runsBy 44 = .ok (.istore_n 3, 1) := by decide +kernel
theorem dX12_runsBy_45 : decode cX12_runsBy 45 = .ok (.iload_n 3, 1) := by decide +kernel
theorem dX12_runsBy_46 : decode cX12_runsBy 46 = .ok (.ifCond .ge 7, 3) := by decide +kernel
theorem dX12_runsBy_49 : decode cX12_runsBy 49 = .ok (.iconst 0, 1) := by decide +kernel
theorem dX12_runsBy_50 : decode cX12_runsBy 50 = .ok (.goto 4, 3) := by decide +kernel
theorem dX12_runsBy_53 : decode cX12_runsBy 53 = .ok (.iload_n 3, 1) := by decide +kernel
theorem dX12_runsBy_54 : decode cX12_runsBy 54 = .ok (.ireturn, 1) := by decide +kernel
theorem dX12_goes_0 : decode cX12_goes 0 = .ok (.aload_n 0, 1) := by decide +kernel
theorem dX12_goes_1 : decode cX12_goes 1 = .ok (.getfield 243, 3) := by decide +kernel
theorem dX12_goes_4 : decode cX12_goes 4 = .ok (.iconst 1, 1) := by decide +kernel
theorem dX12_goes_5 : decode cX12_goes 5 = .ok (.iadd, 1) := by decide +kernel
theorem dX12_goes_6 : decode cX12_goes 6 = .ok (.istore_n 3, 1) := by decide +kernel
theorem dX12_goes_7 : decode cX12_goes 7 = .ok (.iconst 0, 1) := by decide +kernel
theorem dX12_goes_8 : decode cX12_goes 8 = .ok (.istore 4, 2) := by decide +kernel
theorem dX12_goes_10 : decode cX12_goes 10 = .ok (.iload 4, 2) := by decide +kernel
theorem dX12_goes_12 : decode cX12_goes 12 = .ok (.aload_n 0, 1) := by decide +kernel
theorem dX12_goes_13 : decode cX12_goes 13 = .ok (.getfield 133, 3) := by decide +kernel
theorem dX12_goes_16 : decode cX12_goes 16 = .ok (.if_icmp .ge 84, 3) := by decide +kernel
theorem dX12_goes_19 : decode cX12_goes 19 = .ok (.iconst 4, 1) := by decide +kernel
theorem dX12_goes_20 : decode cX12_goes 20 = .ok (.iload_n 3, 1) := by decide +kernel
theorem dX12_goes_21 : decode cX12_goes 21 = .ok (.imul, 1) := by decide +kernel
theorem dX12_goes_22 : decode cX12_goes 22 = .ok (.aload_n 0, 1) := by decide +kernel
theorem dX12_goes_23 : decode cX12_goes 23 = .ok (.getfield 46, 3) := by decide +kernel
theorem dX12_goes_26 : decode cX12_goes 26 = .ok (.iload 4, 2) := by decide +kernel
theorem dX12_goes_28 : decode cX12_goes 28 = .ok (.iaload, 1) := by decide +kernel
theorem dX12_goes_29 : decode cX12_goes 29 = .ok (.iadd, 1) := by decide +kernel
theorem dX12_goes_30 : decode cX12_goes 30 = .ok (.istore_n 3, 1) := by decide +kernel
theorem dX12_goes_31 : decode cX12_goes 31 = .ok (.aload_n 0, 1) := by decide +kernel
theorem dX12_goes_32 : decode cX12_goes 32 = .ok (.getfield 46, 3) := by decide +kernel
theorem dX12_goes_35 : decode cX12_goes 35 = .ok (.iload 4, 2) := by decide +kernel
theorem dX12_goes_37 : decode cX12_goes 37 = .ok (.iload 4, 2) := by decide +kernel
theorem dX12_goes_39 : decode cX12_goes 39 = .ok (.iload_n 1, 1) := by decide +kernel
theorem dX12_goes_40 : decode cX12_goes 40 = .ok (.if_icmp .ne 30, 3) := by decide +kernel
theorem dX12_goes_43 : decode cX12_goes 43 = .ok (.aload_n 0, 1) := by decide +kernel
theorem dX12_goes_44 : decode cX12_goes 44 = .ok (.getfield 46, 3) := by decide +kernel
theorem dX12_goes_47 : decode cX12_goes 47 = .ok (.iload 4, 2) := by decide +kernel
theorem dX12_goes_49 : decode cX12_goes 49 = .ok (.iaload, 1) := by decide +kernel
theorem dX12_goes_50 : decode cX12_goes 50 = .ok (.iconst 3, 1) := by decide +kernel
theorem dX12_goes_51 : decode cX12_goes 51 = .ok (.if_icmp .ge 15, 3) := by decide +kernel
theorem dX12_goes_54 : decode cX12_goes 54 = .ok (.aload_n 0, 1) := by decide +kernel
theorem dX12_goes_55 : decode cX12_goes 55 = .ok (.getfield 46, 3) := by decide +kernel
theorem dX12_goes_58 : decode cX12_goes 58 = .ok (.iload 4, 2) := by decide +kernel
theorem dX12_goes_60 : decode cX12_goes 60 = .ok (.iaload, 1) := by decide +kernel
theorem dX12_goes_61 : decode cX12_goes 61 = .ok (.iconst 1, 1) := by decide +kernel
theorem dX12_goes_62 : decode cX12_goes 62 = .ok (.iadd, 1) := by decide +kernel
theorem dX12_goes_63 : decode cX12_goes 63 = .ok (.goto 30, 3) := by decide +kernel
theorem dX12_goes_66 : decode cX12_goes 66 = .ok (.iconst 3, 1) := by decide +kernel
theorem dX12_goes_67 : decode cX12_goes 67 = .ok (.goto 26, 3) := by decide +kernel
theorem dX12_goes_70 : decode cX12_goes 70 = .ok (.aload_n 0, 1) := by decide +kernel
theorem dX12_goes_71 : decode cX12_goes 71 = .ok (.getfield 46, 3) := by decide +kernel
theorem dX12_goes_74 : decode cX12_goes 74 = .ok (.iload 4, 2) := by decide +kernel
theorem dX12_goes_76 : decode cX12_goes 76 = .ok (.iaload, 1) := by decide +kernel
theorem dX12_goes_77 : decode cX12_goes 77 = .ok (.ifCond .le 15, 3) := by decide +kernel
theorem dX12_goes_80 : decode cX12_goes 80 = .ok (.aload_n 0, 1) := by decide +kernel
theorem dX12_goes_81 : decode cX12_goes 81 = .ok (.getfield 46, 3) := by decide +kernel
theorem dX12_goes_84 : decode cX12_goes 84 = .ok (.iload 4, 2) := by decide +kernel
theorem dX12_goes_86 : decode cX12_goes 86 = .ok (.iaload, 1) := by decide +kernel
theorem dX12_goes_87 : decode cX12_goes 87 = .ok (.iconst 1, 1) := by decide +kernel
theorem dX12_goes_88 : decode cX12_goes 88 = .ok (.isub, 1) := by decide +kernel
theorem dX12_goes_89 : decode cX12_goes 89 = .ok (.goto 4, 3) := by decide +kernel
theorem dX12_goes_92 : decode cX12_goes 92 = .ok (.iconst 0, 1) := by decide +kernel
theorem dX12_goes_93 : decode cX12_goes 93 = .ok (.iastore, 1) := by decide +kernel
theorem dX12_goes_94 : decode cX12_goes 94 = .ok (.iinc 4 1, 3) := by decide +kernel
theorem dX12_goes_97 : decode cX12_goes 97 = .ok (.goto (-87), 3) := by decide +kernel
theorem dX12_goes_100 : decode cX12_goes 100 = .ok (.aload_n 0, 1) := by decide +kernel
theorem dX12_goes_101 : decode cX12_goes 101 = .ok (.getfield 49, 3) := by decide +kernel
theorem dX12_goes_104 : decode cX12_goes 104 = .ok (.iload_n 1, 1) := by decide +kernel
theorem dX12_goes_105 : decode cX12_goes 105 = .ok (.dup2, 1) := by decide +kernel
theorem dX12_goes_106 : decode cX12_goes 106 = .ok (.iaload, 1) := by decide +kernel
theorem dX12_goes_107 : decode cX12_goes 107 = .ok (.iconst 1, 1) := by decide +kernel
theorem dX12_goes_108 : decode cX12_goes 108 = .ok (.iadd, 1) := by decide +kernel
theorem dX12_goes_109 : decode cX12_goes 109 = .ok (.iastore, 1) := by decide +kernel
theorem dX12_goes_110 : decode cX12_goes 110 = .ok (.aload_n 0, 1) := by decide +kernel
theorem dX12_goes_111 : decode cX12_goes 111 = .ok (.iload_n 1, 1) := by decide +kernel
theorem dX12_goes_112 : decode cX12_goes 112 = .ok (.putfield 243, 3) := by decide +kernel
theorem dX12_goes_115 : decode cX12_goes 115 = .ok (.aload_n 0, 1) := by decide +kernel
theorem dX12_goes_116 : decode cX12_goes 116 = .ok (.dup, 1) := by decide +kernel
theorem dX12_goes_117 : decode cX12_goes 117 = .ok (.getfield 240, 3) := by decide +kernel
theorem dX12_goes_120 : decode cX12_goes 120 = .ok (.iconst 1, 1) := by decide +kernel
theorem dX12_goes_121 : decode cX12_goes 121 = .ok (.iadd, 1) := by decide +kernel
theorem dX12_goes_122 : decode cX12_goes 122 = .ok (.putfield 240, 3) := by decide +kernel
theorem dX12_goes_125 : decode cX12_goes 125 = .ok (.aload_n 0, 1) := by decide +kernel
theorem dX12_goes_126 : decode cX12_goes 126 = .ok (.dup, 1) := by decide +kernel
theorem dX12_goes_127 : decode cX12_goes 127 = .ok (.getfield 237, 3) := by decide +kernel
theorem dX12_goes_130 : decode cX12_goes 130 = .ok (.iload_n 2, 1) := by decide +kernel
theorem dX12_goes_131 : decode cX12_goes 131 = .ok (.ifCond .eq 7, 3) := by decide +kernel
theorem dX12_goes_134 : decode cX12_goes 134 = .ok (.iconst 1, 1) := by decide +kernel
theorem dX12_goes_135 : decode cX12_goes 135 = .ok (.goto 4, 3) := by decide +kernel
theorem dX12_goes_138 : decode cX12_goes 138 = .ok (.iconst 0, 1) := by decide +kernel
theorem dX12_goes_139 : decode cX12_goes 139 = .ok (.iadd, 1) := by decide +kernel
theorem dX12_goes_140 : decode cX12_goes 140 = .ok (.putfield 237, 3) := by decide +kernel
theorem dX12_goes_143 : decode cX12_goes 143 = .ok (.iload_n 3, 1) := by decide +kernel
theorem dX12_goes_144 : decode cX12_goes 144 = .ok (.ireturn, 1) := by decide +kernel
theorem dX12_goesBack_0 : decode cX12_goesBack 0 = .ok (.iload_n 3, 1) := by decide +kernel
theorem dX12_goesBack_1 : decode cX12_goesBack 1 = .ok (.istore 4, 2) := by decide +kernel
theorem dX12_goesBack_3 : decode cX12_goesBack 3 = .ok (.aload_n 0, 1) := by decide +kernel
theorem dX12_goesBack_4 : decode cX12_goesBack 4 = .ok (.getfield 133, 3) := by decide +kernel
theorem dX12_goesBack_7 : decode cX12_goesBack 7 = .ok (.iconst 1, 1) := by decide +kernel
theorem dX12_goesBack_8 : decode cX12_goesBack 8 = .ok (.isub, 1) := by decide +kernel
theorem dX12_goesBack_9 : decode cX12_goesBack 9 = .ok (.istore 5, 2) := by decide +kernel
theorem dX12_goesBack_11 : decode cX12_goesBack 11 = .ok (.iload 5, 2) := by decide +kernel
theorem dX12_goesBack_13 : decode cX12_goesBack 13 = .ok (.ifCond .lt 26, 3) := by decide +kernel
theorem dX12_goesBack_16 : decode cX12_goesBack 16 = .ok (.aload_n 0, 1) := by decide +kernel
theorem dX12_goesBack_17 : decode cX12_goesBack 17 = .ok (.getfield 46, 3) := by decide +kernel
theorem dX12_goesBack_20 : decode cX12_goesBack 20 = .ok (.iload 5, 2) := by decide +kernel
theorem dX12_goesBack_22 : decode cX12_goesBack 22 = .ok (.iload 4, 2) := by decide +kernel
theorem dX12_goesBack_24 : decode cX12_goesBack 24 = .ok (.iconst 4, 1) := by decide +kernel
theorem dX12_goesBack_25 : decode cX12_goesBack 25 = .ok (.irem, 1) := by decide +kernel
theorem dX12_goesBack_26 : decode cX12_goesBack 26 = .ok (.iastore, 1) := by decide +kernel
theorem dX12_goesBack_27 : decode cX12_goesBack 27 = .ok (.iload 4, 2) := by decide +kernel
theorem dX12_goesBack_29 : decode cX12_goesBack 29 = .ok (.iconst 4, 1) := by decide +kernel
theorem dX12_goesBack_30 : decode cX12_goesBack 30 = .ok (.idiv, 1) := by decide +kernel
theorem dX12_goesBack_31 : decode cX12_goesBack 31 = .ok (.istore 4, 2) := by decide +kernel
theorem dX12_goesBack_33 : decode cX12_goesBack 33 = .ok (.iinc 5 (-1), 3) := by decide +kernel
theorem dX12_goesBack_36 : decode cX12_goesBack 36 = .ok (.goto (-25), 3) := by decide +kernel
theorem dX12_goesBack_39 : decode cX12_goesBack 39 = .ok (.aload_n 0, 1) := by decide +kernel
theorem dX12_goesBack_40 : decode cX12_goesBack 40 = .ok (.iload 4, 2) := by decide +kernel
theorem dX12_goesBack_42 : decode cX12_goesBack 42 = .ok (.iconst 1, 1) := by decide +kernel
theorem dX12_goesBack_43 : decode cX12_goesBack 43 = .ok (.isub, 1) := by decide +kernel
theorem dX12_goesBack_44 : decode cX12_goesBack 44 = .ok (.putfield 243, 3) := by decide +kernel
theorem dX12_goesBack_47 : decode cX12_goesBack 47 = .ok (.aload_n 0, 1) := by decide +kernel
theorem dX12_goesBack_48 : decode cX12_goesBack 48 = .ok (.getfield 49, 3) := by decide +kernel
theorem dX12_goesBack_51 : decode cX12_goesBack 51 = .ok (.iload_n 1, 1) := by decide +kernel
theorem dX12_goesBack_52 : decode cX12_goesBack 52 = .ok (.dup2, 1) := by decide +kernel
theorem dX12_goesBack_53 : decode cX12_goesBack 53 = .ok (.iaload, 1) := by decide +kernel
theorem dX12_goesBack_54 : decode cX12_goesBack 54 = .ok (.iconst 1, 1) := by decide +kernel
theorem dX12_goesBack_55 : decode cX12_goesBack 55 = .ok (.isub, 1) := by decide +kernel
theorem dX12_goesBack_56 : decode cX12_goesBack 56 = .ok (.iastore, 1) := by decide +kernel
theorem dX12_goesBack_57 : decode cX12_goesBack 57 = .ok (.aload_n 0, 1) := by decide +kernel
theorem dX12_goesBack_58 : decode cX12_goesBack 58 = .ok (.dup, 1) := by decide +kernel
theorem dX12_goesBack_59 : decode cX12_goesBack 59 = .ok (.getfield 240, 3) := by decide +kernel
theorem dX12_goesBack_62 : decode cX12_goesBack 62 = .ok (.iconst 1, 1) := by decide +kernel
theorem dX12_goesBack_63 : decode cX12_goesBack 63 = .ok (.isub, 1) := by decide +kernel
theorem dX12_goesBack_64 : decode cX12_goesBack 64 = .ok (.putfield 240, 3) := by decide +kernel
theorem dX12_goesBack_67 : decode cX12_goesBack 67 = .ok (.aload_n 0, 1) := by decide +kernel
theorem dX12_goesBack_68 : decode cX12_goesBack 68 = .ok (.dup, 1) := by decide +kernel
theorem dX12_goesBack_69 : decode cX12_goesBack 69 = .ok (.getfield 237, 3) := by decide +kernel
theorem dX12_goesBack_72 : decode cX12_goesBack 72 = .ok (.iload_n 2, 1) := by decide +kernel
theorem dX12_goesBack_73 : decode cX12_goesBack 73 = .ok (.ifCond .eq 7, 3) := by decide +kernel
theorem dX12_goesBack_76 : decode cX12_goesBack 76 = .ok (.iconst 1, 1) := by decide +kernel
theorem dX12_goesBack_77 : decode cX12_goesBack 77 = .ok (.goto 4, 3) := by decide +kernel
theorem dX12_goesBack_80 : decode cX12_goesBack 80 = .ok (.iconst 0, 1) := by decide +kernel
theorem dX12_goesBack_81 : decode cX12_goesBack 81 = .ok (.isub, 1) := by decide +kernel
theorem dX12_goesBack_82 : decode cX12_goesBack 82 = .ok (.putfield 237, 3) := by decide +kernel
theorem dX12_goesBack_85 : decode cX12_goesBack 85 = .ok (.return_, 1) := by decide +kernel
theorem dX12_over_0 : decode cX12_over 0 = .ok (.iload_n 1, 1) := by decide +kernel
theorem dX12_over_1 : decode cX12_over 1 = .ok (.ifCond .lt 69, 3) := by decide +kernel
theorem dX12_over_4 : decode cX12_over 4 = .ok (.aload_n 0, 1) := by decide +kernel
theorem dX12_over_5 : decode cX12_over 5 = .ok (.iload_n 1, 1) := by decide +kernel
theorem dX12_over_6 : decode cX12_over 6 = .ok (.bipush 100, 2) := by decide +kernel
theorem dX12_over_8 : decode cX12_over 8 = .ok (.idiv, 1) := by decide +kernel
theorem dX12_over_9 : decode cX12_over 9 = .ok (.invokevirtual 146, 3) := by decide +kernel
theorem dX12_over_12 : decode cX12_over 12 = .ok (.ifCond .eq 58, 3) := by decide +kernel
theorem dX12_over_15 : decode cX12_over 15 = .ok (.iload_n 1, 1) := by decide +kernel
theorem dX12_over_16 : decode cX12_over 16 = .ok (.bipush 10, 2) := by decide +kernel
theorem dX12_over_18 : decode cX12_over 18 = .ok (.idiv, 1) := by decide +kernel
theorem dX12_over_19 : decode cX12_over 19 = .ok (.bipush 10, 2) := by decide +kernel
theorem dX12_over_21 : decode cX12_over 21 = .ok (.irem, 1) := by decide +kernel
theorem dX12_over_22 : decode cX12_over 22 = .ok (.iconst 4, 1) := by decide +kernel
theorem dX12_over_23 : decode cX12_over 23 = .ok (.if_icmp .ge 47, 3) := by decide +kernel
theorem dX12_over_26 : decode cX12_over 26 = .ok (.iload_n 1, 1) := by decide +kernel
theorem dX12_over_27 : decode cX12_over 27 = .ok (.bipush 10, 2) := by decide +kernel
theorem dX12_over_29 : decode cX12_over 29 = .ok (.irem, 1) := by decide +kernel
theorem dX12_over_30 : decode cX12_over 30 = .ok (.iconst 3, 1) := by decide +kernel
theorem dX12_over_31 : decode cX12_over 31 = .ok (.if_icmp .gt 39, 3) := by decide +kernel
theorem dX12_over_34 : decode cX12_over 34 = .ok (.iload_n 2, 1) := by decide +kernel
theorem dX12_over_35 : decode cX12_over 35 = .ok (.ifCond .lt 35, 3) := by decide +kernel
theorem dX12_over_38 : decode cX12_over 38 = .ok (.iload_n 2, 1) := by decide +kernel
theorem dX12_over_39 : decode cX12_over 39 = .ok (.bipush 10, 2) := by decide +kernel
theorem dX12_over_41 : decode cX12_over 41 = .ok (.idiv, 1) := by decide +kernel
theorem dX12_over_42 : decode cX12_over 42 = .ok (.bipush 12, 2) := by decide +kernel
theorem dX12_over_44 : decode cX12_over 44 = .ok (.if_icmp .gt 26, 3) := by decide +kernel
theorem dX12_over_47 : decode cX12_over 47 = .ok (.iload_n 2, 1) := by decide +kernel
theorem dX12_over_48 : decode cX12_over 48 = .ok (.bipush 10, 2) := by decide +kernel
theorem dX12_over_50 : decode cX12_over 50 = .ok (.irem, 1) := by decide +kernel
theorem dX12_over_51 : decode cX12_over 51 = .ok (.bipush 8, 2) := by decide +kernel
theorem dX12_over_53 : decode cX12_over 53 = .ok (.if_icmp .gt 17, 3) := by decide +kernel
theorem dX12_over_56 : decode cX12_over 56 = .ok (.iload_n 3, 1) := by decide +kernel
theorem dX12_over_57 : decode cX12_over 57 = .ok (.i2l, 1) := by decide +kernel
theorem dX12_over_58 : decode cX12_over 58 = .ok (.lconst 0, 1) := by decide +kernel
theorem dX12_over_59 : decode cX12_over 59 = .ok (.lconst 1, 1) := by decide +kernel
theorem dX12_over_60 : decode cX12_over 60 = .ok (.invokestatic 136, 3) := by decide +kernel
theorem dX12_over_63 : decode cX12_over 63 = .ok (.ifCond .eq 7, 3) := by decide +kernel
theorem dX12_over_66 : decode cX12_over 66 = .ok (.iconst 1, 1) := by decide +kernel
theorem dX12_over_67 : decode cX12_over 67 = .ok (.goto 4, 3) := by decide +kernel
theorem dX12_over_70 : decode cX12_over 70 = .ok (.iconst 0, 1) := by decide +kernel
theorem dX12_over_71 : decode cX12_over 71 = .ok (.istore 4, 2) := by decide +kernel
theorem dX12_over_73 : decode cX12_over 73 = .ok (.iload 4, 2) := by decide +kernel
theorem dX12_over_75 : decode cX12_over 75 = .ok (.ifCond .ne 5, 3) := by decide +kernel
theorem dX12_over_78 : decode cX12_over 78 = .ok (.iconst (-1), 1) := by decide +kernel
theorem dX12_over_79 : decode cX12_over 79 = .ok (.ireturn, 1) := by decide +kernel
theorem dX12_over_80 : decode cX12_over 80 = .ok (.aload_n 0, 1) := by decide +kernel
theorem dX12_over_81 : decode cX12_over 81 = .ok (.invokevirtual 256, 3) := by decide +kernel
theorem dX12_over_84 : decode cX12_over 84 = .ok (.iload_n 1, 1) := by decide +kernel
theorem dX12_over_85 : decode cX12_over 85 = .ok (.bipush 100, 2) := by decide +kernel
theorem dX12_over_87 : decode cX12_over 87 = .ok (.idiv, 1) := by decide +kernel
theorem dX12_over_88 : decode cX12_over 88 = .ok (.istore 5, 2) := by decide +kernel
theorem dX12_over_90 : decode cX12_over 90 = .ok (.aload_n 0, 1) := by decide +kernel
theorem dX12_over_91 : decode cX12_over 91 = .ok (.getfield 46, 3) := by decide +kernel
theorem dX12_over_94 : decode cX12_over 94 = .ok (.iload 5, 2) := by decide +kernel
theorem dX12_over_96 : decode cX12_over 96 = .ok (.iload_n 1, 1) := by decide +kernel
theorem dX12_over_97 : decode cX12_over 97 = .ok (.bipush 10, 2) := by decide +kernel
theorem dX12_over_99 : decode cX12_over 99 = .ok (.irem, 1) := by decide +kernel
theorem dX12_over_100 : decode cX12_over 100 = .ok (.iastore, 1) := by decide +kernel
theorem dX12_over_101 : decode cX12_over 101 = .ok (.aload_n 0, 1) := by decide +kernel
theorem dX12_over_102 : decode cX12_over 102 = .ok (.iload_n 2, 1) := by decide +kernel
theorem dX12_over_103 : decode cX12_over 103 = .ok (.bipush 10, 2) := by decide +kernel
theorem dX12_over_105 : decode cX12_over 105 = .ok (.idiv, 1) := by decide +kernel
theorem dX12_over_106 : decode cX12_over 106 = .ok (.putfield 240, 3) := by decide +kernel
theorem dX12_over_109 : decode cX12_over 109 = .ok (.aload_n 0, 1) := by decide +kernel
theorem dX12_over_110 : decode cX12_over 110 = .ok (.iload_n 2, 1) := by decide +kernel
theorem dX12_over_111 : decode cX12_over 111 = .ok (.bipush 10, 2) := by decide +kernel
theorem dX12_over_113 : decode cX12_over 113 = .ok (.irem, 1) := by decide +kernel
theorem dX12_over_114 : decode cX12_over 114 = .ok (.putfield 237, 3) := by decide +kernel
theorem dX12_over_117 : decode cX12_over 117 = .ok (.iload_n 3, 1) := by decide +kernel
theorem dX12_over_118 : decode cX12_over 118 = .ok (.ifCond .ne 19, 3) := by decide +kernel
theorem dX12_over_121 : decode cX12_over 121 = .ok (.aload_n 0, 1) := by decide +kernel
theorem dX12_over_122 : decode cX12_over 122 = .ok (.iload 5, 2) := by decide +kernel
theorem dX12_over_124 : decode cX12_over 124 = .ok (.iload_n 1, 1) := by decide +kernel
theorem dX12_over_125 : decode cX12_over 125 = .ok (.bipush 10, 2) := by decide +kernel
theorem dX12_over_127 : decode cX12_over 127 = .ok (.idiv, 1) := by decide +kernel
theorem dX12_over_128 : decode cX12_over 128 = .ok (.bipush 10, 2) := by decide +kernel
theorem dX12_over_130 : decode cX12_over 130 = .ok (.irem, 1) := by decide +kernel
theorem dX12_over_131 : decode cX12_over 131 = .ok (.invokevirtual 259, 3) := by decide +kernel
theorem dX12_over_134 : decode cX12_over 134 = .ok (.goto 16, 3) := by decide +kernel
theorem dX12_over_137 : decode cX12_over 137 = .ok (.aload_n 0, 1) := by decide +kernel
theorem dX12_over_138 : decode cX12_over 138 = .ok (.iload 5, 2) := by decide +kernel
theorem dX12_over_140 : decode cX12_over 140 = .ok (.iload_n 1, 1) := by decide +kernel
theorem dX12_over_141 : decode cX12_over 141 = .ok (.bipush 10, 2) := by decide +kernel
theorem dX12_over_143 : decode cX12_over 143 = .ok (.idiv, 1) := by decide +kernel
theorem dX12_over_144 : decode cX12_over 144 = .ok (.bipush 10, 2) := by decide +kernel
theorem dX12_over_146 : decode cX12_over 146 = .ok (.irem, 1) := by decide +kernel
theorem dX12_over_147 : decode cX12_over 147 = .ok (.invokevirtual 262, 3) := by decide +kernel
theorem dX12_over_150 : decode cX12_over 150 = .ok (.ireturn, 1) := by decide +kernel
theorem dX12_isRule_0 : decode cX12_isRule 0 = .ok (.iload_n 1, 1) := by decide +kernel
theorem dX12_isRule_1 : decode cX12_isRule 1 = .ok (.i2l, 1) := by decide +kernel
theorem dX12_isRule_2 : decode cX12_isRule 2 = .ok (.lconst 0, 1) := by decide +kernel
theorem dX12_isRule_3 : decode cX12_isRule 3 = .ok (.aload_n 0, 1) := by decide +kernel
theorem dX12_isRule_4 : decode cX12_isRule 4 = .ok (.getfield 265, 3) := by decide +kernel
theorem dX12_isRule_7 : decode cX12_isRule 7 = .ok (.iconst 1, 1) := by decide +kernel
theorem dX12_isRule_8 : decode cX12_isRule 8 = .ok (.isub, 1) := by decide +kernel
theorem dX12_isRule_9 : decode cX12_isRule 9 = .ok (.i2l, 1) := by decide +kernel
theorem dX12_isRule_10 : decode cX12_isRule 10 = .ok (.invokestatic 136, 3) := by decide +kernel
theorem dX12_isRule_13 : decode cX12_isRule 13 = .ok (.ireturn, 1) := by decide +kernel
theorem dX12_kindOf_0 : decode cX12_kindOf 0 = .ok (.aload_n 0, 1) := by decide +kernel
theorem dX12_kindOf_1 : decode cX12_kindOf 1 = .ok (.getfield 59, 3) := by decide +kernel
theorem dX12_kindOf_4 : decode cX12_kindOf 4 = .ok (.iload_n 1, 1) := by decide +kernel
theorem dX12_kindOf_5 : decode cX12_kindOf 5 = .ok (.iaload, 1) := by decide +kernel
theorem dX12_kindOf_6 : decode cX12_kindOf 6 = .ok (.ireturn, 1) := by decide +kernel
theorem dX12_rule_0 : decode cX12_rule 0 = .ok (.iload_n 1, 1) := by decide +kernel
theorem dX12_rule_1 : decode cX12_rule 1 = .ok (.i2l, 1) := by decide +kernel
theorem dX12_rule_2 : decode cX12_rule 2 = .ok (.lconst 0, 1) := by decide +kernel
theorem dX12_rule_3 : decode cX12_rule 3 = .ok (.ldc2_w 268, 3) := by decide +kernel
theorem dX12_rule_6 : decode cX12_rule 6 = .ok (.invokestatic 136, 3) := by decide +kernel
theorem dX12_rule_9 : decode cX12_rule 9 = .ok (.ifCond .eq 27, 3) := by decide +kernel
theorem dX12_rule_12 : decode cX12_rule 12 = .ok (.iload_n 2, 1) := by decide +kernel
theorem dX12_rule_13 : decode cX12_rule 13 = .ok (.i2l, 1) := by decide +kernel
theorem dX12_rule_14 : decode cX12_rule 14 = .ok (.lconst 0, 1) := by decide +kernel
theorem dX12_rule_15 : decode cX12_rule 15 = .ok (.ldc2_w 270, 3) := by decide +kernel
theorem dX12_rule_18 : decode cX12_rule 18 = .ok (.invokestatic 136, 3) := by decide +kernel
theorem dX12_rule_21 : decode cX12_rule 21 = .ok (.ifCond .eq 15, 3) := by decide +kernel
theorem dX12_rule_24 : decode cX12_rule 24 = .ok (.iload_n 3, 1) := by decide +kernel
theorem dX12_rule_25 : decode cX12_rule 25 = .ok (.i2l, 1) := by decide +kernel
theorem dX12_rule_26 : decode cX12_rule 26 = .ok (.lconst 0, 1) := by decide +kernel
theorem dX12_rule_27 : decode cX12_rule 27 = .ok (.ldc2_w 272, 3) := by decide +kernel
theorem dX12_rule_30 : decode cX12_rule 30 = .ok (.invokestatic 136, 3) := by decide +kernel
theorem dX12_rule_33 : decode cX12_rule 33 = .ok (.ifCond .ne 5, 3) := by decide +kernel
theorem dX12_rule_36 : decode cX12_rule 36 = .ok (.iconst (-1), 1) := by decide +kernel
theorem dX12_rule_37 : decode cX12_rule 37 = .ok (.ireturn, 1) := by decide +kernel
theorem dX12_rule_38 : decode cX12_rule 38 = .ok (.iconst 0, 1) := by decide +kernel
theorem dX12_rule_39 : decode cX12_rule 39 = .ok (.istore 4, 2) := by decide +kernel
theorem dX12_rule_41 : decode cX12_rule 41 = .ok (.iload_n 2, 1) := by decide +kernel
theorem dX12_rule_42 : decode cX12_rule 42 = .ok (.istore 5, 2) := by decide +kernel
theorem dX12_rule_44 : decode cX12_rule 44 = .ok (.iload 5, 2) := by decide +kernel
theorem dX12_rule_46 : decode cX12_rule 46 = .ok (.ifCond .le 34, 3) := by decide +kernel
theorem dX12_rule_49 : decode cX12_rule 49 = .ok (.iload 5, 2) := by decide +kernel
theorem dX12_rule_51 : decode cX12_rule 51 = .ok (.bipush 10, 2) := by decide +kernel
theorem dX12_rule_53 : decode cX12_rule 53 = .ok (.irem, 1) := by decide +kernel
theorem dX12_rule_54 : decode cX12_rule 54 = .ok (.i2l, 1) := by decide +kernel
theorem dX12_rule_55 : decode cX12_rule 55 = .ok (.lconst 1, 1) := by decide +kernel
theorem dX12_rule_56 : decode cX12_rule 56 = .ok (.ldc2_w 172, 3) := by decide +kernel
theorem dX12_rule_59 : decode cX12_rule 59 = .ok (.invokestatic 136, 3) := by decide +kernel
theorem dX12_rule_62 : decode cX12_rule 62 = .ok (.ifCond .ne 5, 3) := by decide +kernel
theorem dX12_rule_65 : decode cX12_rule 65 = .ok (.iconst (-1), 1) := by decide +kernel
theorem dX12_rule_66 : decode cX12_rule 66 = .ok (.ireturn, 1) := by decide +kernel
theorem dX12_rule_67 : decode cX12_rule 67 = .ok (.iinc 4 1, 3) := by decide +kernel
theorem dX12_rule_70 : decode cX12_rule 70 = .ok (.iload 5, 2) := by decide +kernel
theorem dX12_rule_72 : decode cX12_rule 72 = .ok (.bipush 10, 2) := by decide +kernel
theorem dX12_rule_74 : decode cX12_rule 74 = .ok (.idiv, 1) := by decide +kernel
theorem dX12_rule_75 : decode cX12_rule 75 = .ok (.istore 5, 2) := by decide +kernel
theorem dX12_rule_77 : decode cX12_rule 77 = .ok (.goto (-33), 3) := by decide +kernel
theorem dX12_rule_80 : decode cX12_rule 80 = .ok (.aload_n 0, 1) := by decide +kernel
theorem dX12_rule_81 : decode cX12_rule 81 = .ok (.getfield 265, 3) := by decide +kernel
theorem dX12_rule_84 : decode cX12_rule 84 = .ok (.bipush 20, 2) := by decide +kernel
theorem dX12_rule_86 : decode cX12_rule 86 = .ok (.if_icmp .ne 6, 3) := by decide +kernel
theorem dX12_rule_89 : decode cX12_rule 89 = .ok (.bipush (-3), 2) := by decide +kernel
theorem dX12_rule_91 : decode cX12_rule 91 = .ok (.ireturn, 1) := by decide +kernel
theorem dX12_rule_92 : decode cX12_rule 92 = .ok (.iload_n 2, 1) := by decide +kernel
theorem dX12_rule_93 : decode cX12_rule 93 = .ok (.istore 5, 2) := by decide +kernel
theorem dX12_rule_95 : decode cX12_rule 95 = .ok (.iload 4, 2) := by decide +kernel
theorem dX12_rule_97 : decode cX12_rule 97 = .ok (.iconst 1, 1) := by decide +kernel
theorem dX12_rule_98 : decode cX12_rule 98 = .ok (.isub, 1) := by decide +kernel
theorem dX12_rule_99 : decode cX12_rule 99 = .ok (.istore 6, 2) := by decide +kernel
theorem dX12_rule_101 : decode cX12_rule 101 = .ok (.iload 6, 2) := by decide +kernel
theorem dX12_rule_103 : decode cX12_rule 103 = .ok (.ifCond .lt 38, 3) := by decide +kernel
theorem dX12_rule_106 : decode cX12_rule 106 = .ok (.aload_n 0, 1) := by decide +kernel
theorem dX12_rule_107 : decode cX12_rule 107 = .ok (.getfield 65, 3) := by decide +kernel
theorem dX12_rule_110 : decode cX12_rule 110 = .ok (.bipush 8, 2) := by decide +kernel
theorem dX12_rule_112 : decode cX12_rule 112 = .ok (.aload_n 0, 1) := by decide +kernel
theorem dX12_rule_113 : decode cX12_rule 113 = .ok (.getfield 265, 3) := by decide +kernel
theorem dX12_rule_116 : decode cX12_rule 116 = .ok (.imul, 1) := by decide +kernel
theorem dX12_rule_117 : decode cX12_rule 117 = .ok (.iload 6, 2) := by decide +kernel
theorem dX12_rule_119 : decode cX12_rule 119 = .ok (.iadd, 1) := by decide +kernel
theorem dX12_rule_120 : decode cX12_rule 120 = .ok (.iload 5, 2) := by decide +kernel
theorem dX12_rule_122 : decode cX12_rule 122 = .ok (.bipush 10, 2) := by decide +kernel
theorem dX12_rule_124 : decode cX12_rule 124 = .ok (.irem, 1) := by decide +kernel
theorem dX12_rule_125 : decode cX12_rule 125 = .ok (.iconst 1, 1) := by decide +kernel
theorem dX12_rule_126 : decode cX12_rule 126 = .ok (.isub, 1) := by decide +kernel
theorem dX12_rule_127 : decode cX12_rule 127 = .ok (.iastore, 1) := by decide +kernel
theorem dX12_rule_128 : decode cX12_rule 128 = .ok (.iload 5, 2) := by decide +kernel
theorem dX12_rule_130 : decode cX12_rule 130 = .ok (.bipush 10, 2) := by decide +kernel
theorem dX12_rule_132 : decode cX12_rule 132 = .ok (.idiv, 1) := by decide +kernel
theorem dX12_rule_133 : decode cX12_rule 133 = .ok (.istore 5, 2) := by decide +kernel
theorem dX12_rule_135 : decode cX12_rule 135 = .ok (.iinc 6 (-1), 3) := by decide +kernel
theorem dX12_rule_138 : decode cX12_rule 138 = .ok (.goto (-37), 3) := by decide +kernel
theorem dX12_rule_141 : decode cX12_rule 141 = .ok (.aload_n 0, 1) := by decide +kernel
theorem dX12_rule_142 : decode cX12_rule 142 = .ok (.getfield 59, 3) := by decide +kernel
theorem dX12_rule_145 : decode cX12_rule 145 = .ok (.aload_n 0, 1) := by decide +kernel
theorem dX12_rule_146 : decode cX12_rule 146 = .ok (.getfield 265, 3) := by decide +kernel
theorem dX12_rule_149 : decode cX12_rule 149 = .ok (.iload_n 1, 1) := by decide +kernel
theorem dX12_rule_150 : decode cX12_rule 150 = .ok (.iastore, 1) := by decide +kernel
theorem dX12_rule_151 : decode cX12_rule 151 = .ok (.aload_n 0, 1) := by decide +kernel
theorem dX12_rule_152 : decode cX12_rule 152 = .ok (.getfield 62, 3) := by decide +kernel
theorem dX12_rule_155 : decode cX12_rule 155 = .ok (.aload_n 0, 1) := by decide +kernel
theorem dX12_rule_156 : decode cX12_rule 156 = .ok (.getfield 265, 3) := by decide +kernel
theorem dX12_rule_159 : decode cX12_rule 159 = .ok (.iload 4, 2) := by decide +kernel
theorem dX12_rule_161 : decode cX12_rule 161 = .ok (.iastore, 1) := by decide +kernel
theorem dX12_rule_162 : decode cX12_rule 162 = .ok (.aload_n 0, 1) := by decide +kernel
theorem dX12_rule_163 : decode cX12_rule 163 = .ok (.getfield 68, 3) := by decide +kernel
theorem dX12_rule_166 : decode cX12_rule 166 = .ok (.aload_n 0, 1) := by decide +kernel
theorem dX12_rule_167 : decode cX12_rule 167 = .ok (.getfield 265, 3) := by decide +kernel
theorem dX12_rule_170 : decode cX12_rule 170 = .ok (.iload_n 3, 1) := by decide +kernel
theorem dX12_rule_171 : decode cX12_rule 171 = .ok (.iastore, 1) := by decide +kernel
theorem dX12_rule_172 : decode cX12_rule 172 = .ok (.aload_n 0, 1) := by decide +kernel
theorem dX12_rule_173 : decode cX12_rule 173 = .ok (.dup, 1) := by decide +kernel
theorem dX12_rule_174 : decode cX12_rule 174 = .ok (.getfield 265, 3) := by decide +kernel
theorem dX12_rule_177 : decode cX12_rule 177 = .ok (.iconst 1, 1) := by decide +kernel
theorem dX12_rule_178 : decode cX12_rule 178 = .ok (.iadd, 1) := by decide +kernel
theorem dX12_rule_179 : decode cX12_rule 179 = .ok (.putfield 265, 3) := by decide +kernel
theorem dX12_rule_182 : decode cX12_rule 182 = .ok (.aload_n 0, 1) := by decide +kernel
theorem dX12_rule_183 : decode cX12_rule 183 = .ok (.getfield 265, 3) := by decide +kernel
theorem dX12_rule_186 : decode cX12_rule 186 = .ok (.iconst 1, 1) := by decide +kernel
theorem dX12_rule_187 : decode cX12_rule 187 = .ok (.isub, 1) := by decide +kernel
theorem dX12_rule_188 : decode cX12_rule 188 = .ok (.ireturn, 1) := by decide +kernel
theorem dX12_leastBut_0 : decode cX12_leastBut 0 = .ok (.iconst 0, 1) := by decide +kernel
theorem dX12_leastBut_1 : decode cX12_leastBut 1 = .ok (.istore_n 2, 1) := by decide +kernel
theorem dX12_leastBut_2 : decode cX12_leastBut 2 = .ok (.iload_n 2, 1) := by decide +kernel
theorem dX12_leastBut_3 : decode cX12_leastBut 3 = .ok (.aload_n 0, 1) := by decide +kernel
theorem dX12_leastBut_4 : decode cX12_leastBut 4 = .ok (.getfield 133, 3) := by decide +kernel
theorem dX12_leastBut_7 : decode cX12_leastBut 7 = .ok (.if_icmp .ge 24, 3) := by decide +kernel
theorem dX12_leastBut_10 : decode cX12_leastBut 10 = .ok (.iload_n 2, 1) := by decide +kernel
theorem dX12_leastBut_11 : decode cX12_leastBut 11 = .ok (.iload_n 1, 1) := by decide +kernel
theorem dX12_leastBut_12 : decode cX12_leastBut 12 = .ok (.if_icmp .eq 13, 3) := by decide +kernel
theorem dX12_leastBut_15 : decode cX12_leastBut 15 = .ok (.aload_n 0, 1) := by decide +kernel
theorem dX12_leastBut_16 : decode cX12_leastBut 16 = .ok (.iload_n 2, 1) := by decide +kernel
theorem dX12_leastBut_17 : decode cX12_leastBut 17 = .ok (.invokevirtual 249, 3) := by decide +kernel
theorem dX12_leastBut_20 : decode cX12_leastBut 20 = .ok (.ifCond .eq 5, 3) := by decide +kernel
theorem dX12_leastBut_23 : decode cX12_leastBut 23 = .ok (.iload_n 2, 1) := by decide +kernel
theorem dX12_leastBut_24 : decode cX12_leastBut 24 = .ok (.ireturn, 1) := by decide +kernel
theorem dX12_leastBut_25 : decode cX12_leastBut 25 = .ok (.iinc 2 1, 3) := by decide +kernel
theorem dX12_leastBut_28 : decode cX12_leastBut 28 = .ok (.goto (-26), 3) := by decide +kernel
theorem dX12_leastBut_31 : decode cX12_leastBut 31 = .ok (.iconst (-1), 1) := by decide +kernel
theorem dX12_leastBut_32 : decode cX12_leastBut 32 = .ok (.ireturn, 1) := by decide +kernel
theorem dX12_turnOf_0 : decode cX12_turnOf 0 = .ok (.aload_n 0, 1) := by decide +kernel
theorem dX12_turnOf_1 : decode cX12_turnOf 1 = .ok (.getfield 62, 3) := by decide +kernel
theorem dX12_turnOf_4 : decode cX12_turnOf 4 = .ok (.iload_n 1, 1) := by decide +kernel
theorem dX12_turnOf_5 : decode cX12_turnOf 5 = .ok (.iaload, 1) := by decide +kernel
theorem dX12_turnOf_6 : decode cX12_turnOf 6 = .ok (.ifCond .ne 9, 3) := by decide +kernel
theorem dX12_turnOf_9 : decode cX12_turnOf 9 = .ok (.aload_n 0, 1) := by decide +kernel
theorem dX12_turnOf_10 : decode cX12_turnOf 10 = .ok (.iload_n 2, 1) := by decide +kernel
theorem dX12_turnOf_11 : decode cX12_turnOf 11 = .ok (.invokevirtual 274, 3) := by decide +kernel
theorem dX12_turnOf_14 : decode cX12_turnOf 14 = .ok (.ireturn, 1) := by decide +kernel
theorem dX12_turnOf_15 : decode cX12_turnOf 15 = .ok (.aload_n 0, 1) := by decide +kernel
theorem dX12_turnOf_16 : decode cX12_turnOf 16 = .ok (.getfield 65, 3) := by decide +kernel
theorem dX12_turnOf_19 : decode cX12_turnOf 19 = .ok (.bipush 8, 2) := by decide +kernel
theorem dX12_turnOf_21 : decode cX12_turnOf 21 = .ok (.iload_n 1, 1) := by decide +kernel
theorem dX12_turnOf_22 : decode cX12_turnOf 22 = .ok (.imul, 1) := by decide +kernel
theorem dX12_turnOf_23 : decode cX12_turnOf 23 = .ok (.aload_n 0, 1) := by decide +kernel
theorem dX12_turnOf_24 : decode cX12_turnOf 24 = .ok (.getfield 240, 3) := by decide +kernel
theorem dX12_turnOf_27 : decode cX12_turnOf 27 = .ok (.aload_n 0, 1) := by decide +kernel
theorem dX12_turnOf_28 : decode cX12_turnOf 28 = .ok (.getfield 62, 3) := by decide +kernel
theorem dX12_turnOf_31 : decode cX12_turnOf 31 = .ok (.iload_n 1, 1) := by decide +kernel
theorem dX12_turnOf_32 : decode cX12_turnOf 32 = .ok (.iaload, 1) := by decide +kernel
theorem dX12_turnOf_33 : decode cX12_turnOf 33 = .ok (.irem, 1) := by decide +kernel
theorem dX12_turnOf_34 : decode cX12_turnOf 34 = .ok (.iadd, 1) := by decide +kernel
theorem dX12_turnOf_35 : decode cX12_turnOf 35 = .ok (.iaload, 1) := by decide +kernel
theorem dX12_turnOf_36 : decode cX12_turnOf 36 = .ok (.istore_n 3, 1) := by decide +kernel
theorem dX12_turnOf_37 : decode cX12_turnOf 37 = .ok (.iload_n 3, 1) := by decide +kernel
theorem dX12_turnOf_38 : decode cX12_turnOf 38 = .ok (.aload_n 0, 1) := by decide +kernel
theorem dX12_turnOf_39 : decode cX12_turnOf 39 = .ok (.getfield 133, 3) := by decide +kernel
theorem dX12_turnOf_42 : decode cX12_turnOf 42 = .ok (.if_icmp .ge 20, 3) := by decide +kernel
theorem dX12_turnOf_45 : decode cX12_turnOf 45 = .ok (.iload_n 3, 1) := by decide +kernel
theorem dX12_turnOf_46 : decode cX12_turnOf 46 = .ok (.iload_n 2, 1) := by decide +kernel
theorem dX12_turnOf_47 : decode cX12_turnOf 47 = .ok (.if_icmp .eq 15, 3) := by decide +kernel
theorem dX12_turnOf_50 : decode cX12_turnOf 50 = .ok (.aload_n 0, 1) := by decide +kernel
theorem dX12_turnOf_51 : decode cX12_turnOf 51 = .ok (.iload_n 3, 1) := by decide +kernel
theorem dX12_turnOf_52 : decode cX12_turnOf 52 = .ok (.invokevirtual 249, 3) := by decide +kernel
theorem dX12_turnOf_55 : decode cX12_turnOf 55 = .ok (.ifCond .eq 7, 3) := by decide +kernel
theorem dX12_turnOf_58 : decode cX12_turnOf 58 = .ok (.iload_n 3, 1) := by decide +kernel
theorem dX12_turnOf_59 : decode cX12_turnOf 59 = .ok (.goto 8, 3) := by decide +kernel
theorem dX12_turnOf_62 : decode cX12_turnOf 62 = .ok (.aload_n 0, 1) := by decide +kernel
theorem dX12_turnOf_63 : decode cX12_turnOf 63 = .ok (.iload_n 2, 1) := by decide +kernel
theorem dX12_turnOf_64 : decode cX12_turnOf 64 = .ok (.invokevirtual 274, 3) := by decide +kernel
theorem dX12_turnOf_67 : decode cX12_turnOf 67 = .ok (.ireturn, 1) := by decide +kernel
theorem dX12_worthBy_0 : decode cX12_worthBy 0 = .ok (.aload_n 0, 1) := by decide +kernel
theorem dX12_worthBy_1 : decode cX12_worthBy 1 = .ok (.getfield 28, 3) := by decide +kernel
theorem dX12_worthBy_4 : decode cX12_worthBy 4 = .ok (.aload_n 0, 1) := by decide +kernel
theorem dX12_worthBy_5 : decode cX12_worthBy 5 = .ok (.getfield 237, 3) := by decide +kernel
theorem dX12_worthBy_8 : decode cX12_worthBy 8 = .ok (.iaload, 1) := by decide +kernel
theorem dX12_worthBy_9 : decode cX12_worthBy 9 = .ok (.istore_n 3, 1) := by decide +kernel
theorem dX12_worthBy_10 : decode cX12_worthBy 10 = .ok (.aload_n 0, 1) := by decide +kernel
theorem dX12_worthBy_11 : decode cX12_worthBy 11 = .ok (.getfield 59, 3) := by decide +kernel
theorem dX12_worthBy_14 : decode cX12_worthBy 14 = .ok (.iload_n 1, 1) := by decide +kernel
theorem dX12_worthBy_15 : decode cX12_worthBy 15 = .ok (.iaload, 1) := by decide +kernel
theorem dX12_worthBy_16 : decode cX12_worthBy 16 = .ok (.iconst 3, 1) := by decide +kernel
theorem dX12_worthBy_17 : decode cX12_worthBy 17 = .ok (.if_icmp .ne 21, 3) := by decide +kernel
theorem dX12_worthBy_20 : decode cX12_worthBy 20 = .ok (.sipush 1000, 3) := by decide +kernel
theorem dX12_worthBy_23 : decode cX12_worthBy 23 = .ok (.aload_n 0, 1) := by decide +kernel
theorem dX12_worthBy_24 : decode cX12_worthBy 24 = .ok (.iload_n 2, 1) := by decide +kernel
theorem dX12_worthBy_25 : decode cX12_worthBy 25 = .ok (.iload_n 3, 1) := by decide +kernel
theorem dX12_worthBy_26 : decode cX12_worthBy 26 = .ok (.invokevirtual 262, 3) := by decide +kernel
theorem dX12_worthBy_29 : decode cX12_worthBy 29 = .ok (.imul, 1) := by decide +kernel
theorem dX12_worthBy_30 : decode cX12_worthBy 30 = .ok (.aload_n 0, 1) := by decide +kernel
theorem dX12_worthBy_31 : decode cX12_worthBy 31 = .ok (.iload_n 2, 1) := by decide +kernel
theorem dX12_worthBy_32 : decode cX12_worthBy 32 = .ok (.iload_n 3, 1) := by decide +kernel
theorem dX12_worthBy_33 : decode cX12_worthBy 33 = .ok (.invokevirtual 259, 3) := by decide +kernel
theorem dX12_worthBy_36 : decode cX12_worthBy 36 = .ok (.isub, 1) := by decide +kernel
theorem dX12_worthBy_37 : decode cX12_worthBy 37 = .ok (.ireturn, 1) := by decide +kernel
theorem dX12_worthBy_38 : decode cX12_worthBy 38 = .ok (.aload_n 0, 1) := by decide +kernel
theorem dX12_worthBy_39 : decode cX12_worthBy 39 = .ok (.getfield 59, 3) := by decide +kernel
theorem dX12_worthBy_42 : decode cX12_worthBy 42 = .ok (.iload_n 1, 1) := by decide +kernel
theorem dX12_worthBy_43 : decode cX12_worthBy 43 = .ok (.iaload, 1) := by decide +kernel
theorem dX12_worthBy_44 : decode cX12_worthBy 44 = .ok (.iconst 5, 1) := by decide +kernel
theorem dX12_worthBy_45 : decode cX12_worthBy 45 = .ok (.if_icmp .ne 11, 3) := by decide +kernel
theorem dX12_worthBy_48 : decode cX12_worthBy 48 = .ok (.aload_n 0, 1) := by decide +kernel
theorem dX12_worthBy_49 : decode cX12_worthBy 49 = .ok (.iload_n 2, 1) := by decide +kernel
theorem dX12_worthBy_50 : decode cX12_worthBy 50 = .ok (.iload_n 3, 1) := by decide +kernel
theorem dX12_worthBy_51 : decode cX12_worthBy 51 = .ok (.invokevirtual 259, 3) := by decide +kernel
theorem dX12_worthBy_54 : decode cX12_worthBy 54 = .ok (.ineg, 1) := by decide +kernel
theorem dX12_worthBy_55 : decode cX12_worthBy 55 = .ok (.ireturn, 1) := by decide +kernel
theorem dX12_worthBy_56 : decode cX12_worthBy 56 = .ok (.iconst 0, 1) := by decide +kernel
theorem dX12_worthBy_57 : decode cX12_worthBy 57 = .ok (.ireturn, 1) := by decide +kernel
theorem dX12_putsOn_0 : decode cX12_putsOn 0 = .ok (.aload_n 0, 1) := by decide +kernel
theorem dX12_putsOn_1 : decode cX12_putsOn 1 = .ok (.getfield 59, 3) := by decide +kernel
theorem dX12_putsOn_4 : decode cX12_putsOn 4 = .ok (.iload_n 1, 1) := by decide +kernel
theorem dX12_putsOn_5 : decode cX12_putsOn 5 = .ok (.iaload, 1) := by decide +kernel
theorem dX12_putsOn_6 : decode cX12_putsOn 6 = .ok (.iconst 1, 1) := by decide +kernel
theorem dX12_putsOn_7 : decode cX12_putsOn 7 = .ok (.if_icmp .ne 10, 3) := by decide +kernel
theorem dX12_putsOn_10 : decode cX12_putsOn 10 = .ok (.aload_n 0, 1) := by decide +kernel
theorem dX12_putsOn_11 : decode cX12_putsOn 11 = .ok (.iload_n 1, 1) := by decide +kernel
theorem dX12_putsOn_12 : decode cX12_putsOn 12 = .ok (.iconst (-1), 1) := by decide +kernel
theorem dX12_putsOn_13 : decode cX12_putsOn 13 = .ok (.invokevirtual 277, 3) := by decide +kernel
theorem dX12_putsOn_16 : decode cX12_putsOn 16 = .ok (.ireturn, 1) := by decide +kernel
theorem dX12_putsOn_17 : decode cX12_putsOn 17 = .ok (.aload_n 0, 1) := by decide +kernel
theorem dX12_putsOn_18 : decode cX12_putsOn 18 = .ok (.getfield 59, 3) := by decide +kernel
theorem dX12_putsOn_21 : decode cX12_putsOn 21 = .ok (.iload_n 1, 1) := by decide +kernel
theorem dX12_putsOn_22 : decode cX12_putsOn 22 = .ok (.iaload, 1) := by decide +kernel
theorem dX12_putsOn_23 : decode cX12_putsOn 23 = .ok (.iconst 4, 1) := by decide +kernel
theorem dX12_putsOn_24 : decode cX12_putsOn 24 = .ok (.if_icmp .ne 62, 3) := by decide +kernel
theorem dX12_putsOn_27 : decode cX12_putsOn 27 = .ok (.aload_n 0, 1) := by decide +kernel
theorem dX12_putsOn_28 : decode cX12_putsOn 28 = .ok (.getfield 62, 3) := by decide +kernel
theorem dX12_putsOn_31 : decode cX12_putsOn 31 = .ok (.iload_n 1, 1) := by decide +kernel
theorem dX12_putsOn_32 : decode cX12_putsOn 32 = .ok (.iaload, 1) := by decide +kernel
theorem dX12_putsOn_33 : decode cX12_putsOn 33 = .ok (.ifCond .le 28, 3) := by decide +kernel
theorem dX12_putsOn_36 : decode cX12_putsOn 36 = .ok (.aload_n 0, 1) := by decide +kernel
theorem dX12_putsOn_37 : decode cX12_putsOn 37 = .ok (.getfield 240, 3) := by decide +kernel
theorem dX12_putsOn_40 : decode cX12_putsOn 40 = .ok (.aload_n 0, 1) := by decide +kernel
theorem dX12_putsOn_41 : decode cX12_putsOn 41 = .ok (.getfield 68, 3) := by decide +kernel
theorem dX12_putsOn_44 : decode cX12_putsOn 44 = .ok (.iload_n 1, 1) := by decide +kernel
theorem dX12_putsOn_45 : decode cX12_putsOn 45 = .ok (.iaload, 1) := by decide +kernel
theorem dX12_putsOn_46 : decode cX12_putsOn 46 = .ok (.if_icmp .ge 15, 3) := by decide +kernel
theorem dX12_putsOn_49 : decode cX12_putsOn 49 = .ok (.aload_n 0, 1) := by decide +kernel
theorem dX12_putsOn_50 : decode cX12_putsOn 50 = .ok (.getfield 65, 3) := by decide +kernel
theorem dX12_putsOn_53 : decode cX12_putsOn 53 = .ok (.bipush 8, 2) := by decide +kernel
theorem dX12_putsOn_55 : decode cX12_putsOn 55 = .ok (.iload_n 1, 1) := by decide +kernel
theorem dX12_putsOn_56 : decode cX12_putsOn 56 = .ok (.imul, 1) := by decide +kernel
theorem dX12_putsOn_57 : decode cX12_putsOn 57 = .ok (.iaload, 1) := by decide +kernel
theorem dX12_putsOn_58 : decode cX12_putsOn 58 = .ok (.goto 4, 3) := by decide +kernel
theorem dX12_putsOn_61 : decode cX12_putsOn 61 = .ok (.iconst (-1), 1) := by decide +kernel
theorem dX12_putsOn_62 : decode cX12_putsOn 62 = .ok (.istore_n 2, 1) := by decide +kernel
theorem dX12_putsOn_63 : decode cX12_putsOn 63 = .ok (.aload_n 0, 1) := by decide +kernel
theorem dX12_putsOn_64 : decode cX12_putsOn 64 = .ok (.iload_n 1, 1) := by decide +kernel
theorem dX12_putsOn_65 : decode cX12_putsOn 65 = .ok (.iload_n 2, 1) := by decide +kernel
theorem dX12_putsOn_66 : decode cX12_putsOn 66 = .ok (.ifCond .lt 15, 3) := by decide +kernel
theorem dX12_putsOn_69 : decode cX12_putsOn 69 = .ok (.aload_n 0, 1) := by decide +kernel
theorem dX12_putsOn_70 : decode cX12_putsOn 70 = .ok (.iload_n 2, 1) := by decide +kernel
theorem dX12_putsOn_71 : decode cX12_putsOn 71 = .ok (.invokevirtual 274, 3) := by decide +kernel
theorem dX12_putsOn_74 : decode cX12_putsOn 74 = .ok (.ifCond .lt 7, 3) := by decide +kernel
theorem dX12_putsOn_77 : decode cX12_putsOn 77 = .ok (.iload_n 2, 1) := by decide +kernel
theorem dX12_putsOn_78 : decode cX12_putsOn 78 = .ok (.goto 4, 3) := by decide +kernel
theorem dX12_putsOn_81 : decode cX12_putsOn 81 = .ok (.iconst (-1), 1) := by decide +kernel
theorem dX12_putsOn_82 : decode cX12_putsOn 82 = .ok (.invokevirtual 277, 3) := by decide +kernel
theorem dX12_putsOn_85 : decode cX12_putsOn 85 = .ok (.ireturn, 1) := by decide +kernel
theorem dX12_putsOn_86 : decode cX12_putsOn 86 = .ok (.aload_n 0, 1) := by decide +kernel
theorem dX12_putsOn_87 : decode cX12_putsOn 87 = .ok (.getfield 59, 3) := by decide +kernel
theorem dX12_putsOn_90 : decode cX12_putsOn 90 = .ok (.iload_n 1, 1) := by decide +kernel
theorem dX12_putsOn_91 : decode cX12_putsOn 91 = .ok (.iaload, 1) := by decide +kernel
theorem dX12_putsOn_92 : decode cX12_putsOn 92 = .ok (.iconst 2, 1) := by decide +kernel
theorem dX12_putsOn_93 : decode cX12_putsOn 93 = .ok (.if_icmp .ne 13, 3) := by decide +kernel
theorem dX12_putsOn_96 : decode cX12_putsOn 96 = .ok (.aload_n 0, 1) := by decide +kernel
theorem dX12_putsOn_97 : decode cX12_putsOn 97 = .ok (.invokevirtual 280, 3) := by decide +kernel
theorem dX12_putsOn_100 : decode cX12_putsOn 100 = .ok (.istore_n 2, 1) := by decide +kernel
theorem dX12_putsOn_101 : decode cX12_putsOn 101 = .ok (.aload_n 0, 1) := by decide +kernel
theorem dX12_putsOn_102 : decode cX12_putsOn 102 = .ok (.getfield 283, 3) := by decide +kernel
theorem dX12_putsOn_105 : decode cX12_putsOn 105 = .ok (.ireturn, 1) := by decide +kernel
theorem dX12_putsOn_106 : decode cX12_putsOn 106 = .ok (.iconst (-1), 1) := by decide +kernel
theorem dX12_putsOn_107 : decode cX12_putsOn 107 = .ok (.istore_n 2, 1) := by decide +kernel
theorem dX12_putsOn_108 : decode cX12_putsOn 108 = .ok (.iconst 0, 1) := by decide +kernel
theorem dX12_putsOn_109 : decode cX12_putsOn 109 = .ok (.istore_n 3, 1) := by decide +kernel
theorem dX12_putsOn_110 : decode cX12_putsOn 110 = .ok (.iconst 0, 1) := by decide +kernel
theorem dX12_putsOn_111 : decode cX12_putsOn 111 = .ok (.istore 4, 2) := by decide +kernel
theorem dX12_putsOn_113 : decode cX12_putsOn 113 = .ok (.iload 4, 2) := by decide +kernel
theorem dX12_putsOn_115 : decode cX12_putsOn 115 = .ok (.aload_n 0, 1) := by decide +kernel
theorem dX12_putsOn_116 : decode cX12_putsOn 116 = .ok (.getfield 133, 3) := by decide +kernel
theorem dX12_putsOn_119 : decode cX12_putsOn 119 = .ok (.if_icmp .ge 136, 3) := by decide +kernel
theorem dX12_putsOn_122 : decode cX12_putsOn 122 = .ok (.aload_n 0, 1) := by decide +kernel
theorem dX12_putsOn_123 : decode cX12_putsOn 123 = .ok (.iload 4, 2) := by decide +kernel
theorem dX12_putsOn_125 : decode cX12_putsOn 125 = .ok (.invokevirtual 249, 3) := by decide +kernel
theorem dX12_putsOn_128 : decode cX12_putsOn 128 = .ok (.ifCond .ne 6, 3) := by decide +kernel
theorem dX12_putsOn_131 : decode cX12_putsOn 131 = .ok (.goto 118, 3) := by decide +kernel
theorem dX12_putsOn_134 : decode cX12_putsOn 134 = .ok (.aload_n 0, 1) := by decide +kernel
theorem dX12_putsOn_135 : decode cX12_putsOn 135 = .ok (.getfield 59, 3) := by decide +kernel
theorem dX12_putsOn_138 : decode cX12_putsOn 138 = .ok (.iload_n 1, 1) := by decide +kernel
theorem dX12_putsOn_139 : decode cX12_putsOn 139 = .ok (.iaload, 1) := by decide +kernel
theorem dX12_putsOn_140 : decode cX12_putsOn 140 = .ok (.bipush 6, 2) := by decide +kernel
theorem dX12_putsOn_142 : decode cX12_putsOn 142 = .ok (.if_icmp .ne 7, 3) := by decide +kernel
theorem dX12_putsOn_145 : decode cX12_putsOn 145 = .ok (.iconst 1, 1) := by decide +kernel
theorem dX12_putsOn_146 : decode cX12_putsOn 146 = .ok (.goto 4, 3) := by decide +kernel
theorem dX12_putsOn_149 : decode cX12_putsOn 149 = .ok (.iconst 0, 1) := by decide +kernel
theorem dX12_putsOn_150 : decode cX12_putsOn 150 = .ok (.istore 5, 2) := by decide +kernel
theorem dX12_putsOn_152 : decode cX12_putsOn 152 = .ok (.iload 5, 2) := by decide +kernel
theorem dX12_putsOn_154 : decode cX12_putsOn 154 = .ok (.ifCond .ne 13, 3) := by decide +kernel
theorem dX12_putsOn_157 : decode cX12_putsOn 157 = .ok (.aload_n 0, 1) := by decide +kernel
theorem dX12_putsOn_158 : decode cX12_putsOn 158 = .ok (.iload_n 1, 1) := by decide +kernel
theorem dX12_putsOn_159 : decode cX12_putsOn 159 = .ok (.iload 4, 2) := by decide +kernel
theorem dX12_putsOn_161 : decode cX12_putsOn 161 = .ok (.invokevirtual 286, 3) := by decide +kernel
theorem dX12_putsOn_164 : decode cX12_putsOn 164 = .ok (.goto 53, 3) := by decide +kernel
theorem dX12_putsOn_167 : decode cX12_putsOn 167 = .ok (.aload_n 0, 1) := by decide +kernel
theorem dX12_putsOn_168 : decode cX12_putsOn 168 = .ok (.getfield 37, 3) := by decide +kernel
theorem dX12_putsOn_171 : decode cX12_putsOn 171 = .ok (.iconst 0, 1) := by decide +kernel
theorem dX12_putsOn_172 : decode cX12_putsOn 172 = .ok (.iaload, 1) := by decide +kernel
theorem dX12_putsOn_173 : decode cX12_putsOn 173 = .ok (.ifCond .ge 7, 3) := by decide +kernel
theorem dX12_putsOn_176 : decode cX12_putsOn 176 = .ok (.iconst 0, 1) := by decide +kernel
theorem dX12_putsOn_177 : decode cX12_putsOn 177 = .ok (.goto 40, 3) := by decide +kernel
theorem dX12_putsOn_180 : decode cX12_putsOn 180 = .ok (.aload_n 0, 1) := by decide +kernel
theorem dX12_putsOn_181 : decode cX12_putsOn 181 = .ok (.iconst 0, 1) := by decide +kernel
theorem dX12_putsOn_182 : decode cX12_putsOn 182 = .ok (.iload 4, 2) := by decide +kernel
theorem dX12_putsOn_184 : decode cX12_putsOn 184 = .ok (.aload_n 0, 1) := by decide +kernel
theorem dX12_putsOn_185 : decode cX12_putsOn 185 = .ok (.getfield 28, 3) := by decide +kernel
theorem dX12_putsOn_188 : decode cX12_putsOn 188 = .ok (.aload_n 0, 1) := by decide +kernel
theorem dX12_putsOn_189 : decode cX12_putsOn 189 = .ok (.getfield 237, 3) := by decide +kernel
theorem dX12_putsOn_192 : decode cX12_putsOn 192 = .ok (.iaload, 1) := by decide +kernel
theorem dX12_putsOn_193 : decode cX12_putsOn 193 = .ok (.aload_n 0, 1) := by decide +kernel
theorem dX12_putsOn_194 : decode cX12_putsOn 194 = .ok (.iload 4, 2) := by decide +kernel
theorem dX12_putsOn_196 : decode cX12_putsOn 196 = .ok (.aload_n 0, 1) := by decide +kernel
theorem dX12_putsOn_197 : decode cX12_putsOn 197 = .ok (.getfield 28, 3) := by decide +kernel
theorem dX12_putsOn_200 : decode cX12_putsOn 200 = .ok (.aload_n 0, 1) := by decide +kernel
theorem dX12_putsOn_201 : decode cX12_putsOn 201 = .ok (.getfield 237, 3) := by decide +kernel
theorem dX12_putsOn_204 : decode cX12_putsOn 204 = .ok (.iaload, 1) := by decide +kernel
theorem dX12_putsOn_205 : decode cX12_putsOn 205 = .ok (.invokevirtual 259, 3) := by decide +kernel
theorem dX12_putsOn_208 : decode cX12_putsOn 208 = .ok (.aload_n 0, 1) := by decide +kernel
theorem dX12_putsOn_209 : decode cX12_putsOn 209 = .ok (.getfield 68, 3) := by decide +kernel
theorem dX12_putsOn_212 : decode cX12_putsOn 212 = .ok (.iload_n 1, 1) := by decide +kernel
theorem dX12_putsOn_213 : decode cX12_putsOn 213 = .ok (.iaload, 1) := by decide +kernel
theorem dX12_putsOn_214 : decode cX12_putsOn 214 = .ok (.invokevirtual 252, 3) := by decide +kernel
theorem dX12_putsOn_217 : decode cX12_putsOn 217 = .ok (.istore 6, 2) := by decide +kernel
theorem dX12_putsOn_219 : decode cX12_putsOn 219 = .ok (.iload_n 2, 1) := by decide +kernel
theorem dX12_putsOn_220 : decode cX12_putsOn 220 = .ok (.ifCond .lt 23, 3) := by decide +kernel
theorem dX12_putsOn_223 : decode cX12_putsOn 223 = .ok (.iload 5, 2) := by decide +kernel
theorem dX12_putsOn_225 : decode cX12_putsOn 225 = .ok (.ifCond .eq 12, 3) := by decide +kernel
theorem dX12_putsOn_228 : decode cX12_putsOn 228 = .ok (.iload 6, 2) := by decide +kernel
theorem dX12_putsOn_230 : decode cX12_putsOn 230 = .ok (.iload_n 3, 1) := by decide +kernel
theorem dX12_putsOn_231 : decode cX12_putsOn 231 = .ok (.if_icmp .le 18, 3) := by decide +kernel
theorem dX12_putsOn_234 : decode cX12_putsOn 234 = .ok (.goto 9, 3) := by decide +kernel
theorem dX12_putsOn_237 : decode cX12_putsOn 237 = .ok (.iload 6, 2) := by decide +kernel
theorem dX12_putsOn_239 : decode cX12_putsOn 239 = .ok (.iload_n 3, 1) := by decide +kernel
theorem dX12_putsOn_240 : decode cX12_putsOn 240 = .ok (.if_icmp .ge 9, 3) := by decide +kernel
theorem dX12_putsOn_243 : decode cX12_putsOn 243 = .ok (.iload 4, 2) := by decide +kernel
theorem dX12_putsOn_245 : decode cX12_putsOn 245 = .ok (.istore_n 2, 1) := by decide +kernel
theorem dX12_putsOn_246 : decode cX12_putsOn 246 = .ok (.iload 6, 2) := by decide +kernel
theorem dX12_putsOn_248 : decode cX12_putsOn 248 = .ok (.istore_n 3, 1) := by decide +kernel
theorem dX12_putsOn_249 : decode cX12_putsOn 249 = .ok (.iinc 4 1, 3) := by decide +kernel
theorem dX12_putsOn_252 : decode cX12_putsOn 252 = .ok (.goto (-139), 3) := by decide +kernel
theorem dX12_putsOn_255 : decode cX12_putsOn 255 = .ok (.iload_n 2, 1) := by decide +kernel
theorem dX12_putsOn_256 : decode cX12_putsOn 256 = .ok (.ireturn, 1) := by decide +kernel
theorem dX12_mixed_0 : decode cX12_mixed 0 = .ok (.iload_n 2, 1) := by decide +kernel
theorem dX12_mixed_1 : decode cX12_mixed 1 = .ok (.i2l, 1) := by decide +kernel
theorem dX12_mixed_2 : decode cX12_mixed 2 = .ok (.iload_n 0, 1) := by decide +kernel
theorem dX12_mixed_3 : decode cX12_mixed 3 = .ok (.i2l, 1) := by decide +kernel
theorem dX12_mixed_4 : decode cX12_mixed 4 = .ok (.lmul, 1) := by decide +kernel
theorem dX12_mixed_5 : decode cX12_mixed 5 = .ok (.sipush 1000, 3) := by decide +kernel
theorem dX12_mixed_8 : decode cX12_mixed 8 = .ok (.iload_n 2, 1) := by decide +kernel
theorem dX12_mixed_9 : decode cX12_mixed 9 = .ok (.isub, 1) := by decide +kernel
theorem dX12_mixed_10 : decode cX12_mixed 10 = .ok (.i2l, 1) := by decide +kernel
theorem dX12_mixed_11 : decode cX12_mixed 11 = .ok (.iload_n 1, 1) := by decide +kernel
theorem dX12_mixed_12 : decode cX12_mixed 12 = .ok (.i2l, 1) := by decide +kernel
theorem dX12_mixed_13 : decode cX12_mixed 13 = .ok (.lmul, 1) := by decide +kernel
theorem dX12_mixed_14 : decode cX12_mixed 14 = .ok (.ladd, 1) := by decide +kernel
theorem dX12_mixed_15 : decode cX12_mixed 15 = .ok (.ldc2_w 289, 3) := by decide +kernel
theorem dX12_mixed_18 : decode cX12_mixed 18 = .ok (.ldiv, 1) := by decide +kernel
theorem dX12_mixed_19 : decode cX12_mixed 19 = .ok (.l2i, 1) := by decide +kernel
theorem dX12_mixed_20 : decode cX12_mixed 20 = .ok (.ireturn, 1) := by decide +kernel
theorem dX12_forgets_0 : decode cX12_forgets 0 = .ok (.aload_n 0, 1) := by decide +kernel
theorem dX12_forgets_1 : decode cX12_forgets 1 = .ok (.dup, 1) := by decide +kernel
theorem dX12_forgets_2 : decode cX12_forgets 2 = .ok (.getfield 291, 3) := by decide +kernel
theorem dX12_forgets_5 : decode cX12_forgets 5 = .ok (.iconst 1, 1) := by decide +kernel
theorem dX12_forgets_6 : decode cX12_forgets 6 = .ok (.iadd, 1) := by decide +kernel
theorem dX12_forgets_7 : decode cX12_forgets 7 = .ok (.putfield 291, 3) := by decide +kernel
theorem dX12_forgets_10 : decode cX12_forgets 10 = .ok (.return_, 1) := by decide +kernel
theorem dX12_spot_0 : decode cX12_spot 0 = .ok (.iload_n 1, 1) := by decide +kernel
theorem dX12_spot_1 : decode cX12_spot 1 = .ok (.bipush 31, 2) := by decide +kernel
theorem dX12_spot_3 : decode cX12_spot 3 = .ok (.imul, 1) := by decide +kernel
theorem dX12_spot_4 : decode cX12_spot 4 = .ok (.iload_n 2, 1) := by decide +kernel
theorem dX12_spot_5 : decode cX12_spot 5 = .ok (.iadd, 1) := by decide +kernel
theorem dX12_spot_6 : decode cX12_spot 6 = .ok (.ldc_w 294, 3) := by decide +kernel
theorem dX12_spot_9 : decode cX12_spot 9 = .ok (.imul, 1) := by decide +kernel
theorem dX12_spot_10 : decode cX12_spot 10 = .ok (.ldc_w 295, 3) := by decide +kernel
theorem dX12_spot_13 : decode cX12_spot 13 = .ok (.iand, 1) := by decide +kernel
theorem dX12_spot_14 : decode cX12_spot 14 = .ok (.istore_n 3, 1) := by decide +kernel
theorem dX12_spot_15 : decode cX12_spot 15 = .ok (.iconst 0, 1) := by decide +kernel
theorem dX12_spot_16 : decode cX12_spot 16 = .ok (.istore 4, 2) := by decide +kernel
theorem dX12_spot_18 : decode cX12_spot 18 = .ok (.iload 4, 2) := by decide +kernel
theorem dX12_spot_20 : decode cX12_spot 20 = .ok (.ldc 71, 2) := by decide +kernel
theorem dX12_spot_22 : decode cX12_spot 22 = .ok (.if_icmp .ge 52, 3) := by decide +kernel
theorem dX12_spot_25 : decode cX12_spot 25 = .ok (.aload_n 0, 1) := by decide +kernel
theorem dX12_spot_26 : decode cX12_spot 26 = .ok (.getfield 84, 3) := by decide +kernel
theorem dX12_spot_29 : decode cX12_spot 29 = .ok (.iload_n 3, 1) := by decide +kernel
theorem dX12_spot_30 : decode cX12_spot 30 = .ok (.iaload, 1) := by decide +kernel
theorem dX12_spot_31 : decode cX12_spot 31 = .ok (.aload_n 0, 1) := by decide +kernel
theorem dX12_spot_32 : decode cX12_spot 32 = .ok (.getfield 291, 3) := by decide +kernel
theorem dX12_spot_35 : decode cX12_spot 35 = .ok (.if_icmp .ne 23, 3) := by decide +kernel
theorem dX12_spot_38 : decode cX12_spot 38 = .ok (.aload_n 0, 1) := by decide +kernel
theorem dX12_spot_39 : decode cX12_spot 39 = .ok (.getfield 72, 3) := by decide +kernel
theorem dX12_spot_42 : decode cX12_spot 42 = .ok (.iload_n 3, 1) := by decide +kernel
theorem dX12_spot_43 : decode cX12_spot 43 = .ok (.iaload, 1) := by decide +kernel
theorem dX12_spot_44 : decode cX12_spot 44 = .ok (.iload_n 1, 1) := by decide +kernel
theorem dX12_spot_45 : decode cX12_spot 45 = .ok (.if_icmp .ne 15, 3) := by decide +kernel
theorem dX12_spot_48 : decode cX12_spot 48 = .ok (.aload_n 0, 1) := by decide +kernel
theorem dX12_spot_49 : decode cX12_spot 49 = .ok (.getfield 75, 3) := by decide +kernel
theorem dX12_spot_52 : decode cX12_spot 52 = .ok (.iload_n 3, 1) := by decide +kernel
theorem dX12_spot_53 : decode cX12_spot 53 = .ok (.iaload, 1) := by decide +kernel
theorem dX12_spot_54 : decode cX12_spot 54 = .ok (.iload_n 2, 1) := by decide +kernel
theorem dX12_spot_55 : decode cX12_spot 55 = .ok (.if_icmp .ne 5, 3) := by decide +kernel
theorem dX12_spot_58 : decode cX12_spot 58 = .ok (.iload_n 3, 1) := by decide +kernel
theorem dX12_spot_59 : decode cX12_spot 59 = .ok (.ireturn, 1) := by decide +kernel
theorem dX12_spot_60 : decode cX12_spot 60 = .ok (.iload_n 3, 1) := by decide +kernel
theorem dX12_spot_61 : decode cX12_spot 61 = .ok (.iconst 1, 1) := by decide +kernel
theorem dX12_spot_62 : decode cX12_spot 62 = .ok (.iadd, 1) := by decide +kernel
theorem dX12_spot_63 : decode cX12_spot 63 = .ok (.ldc_w 295, 3) := by decide +kernel
theorem dX12_spot_66 : decode cX12_spot 66 = .ok (.iand, 1) := by decide +kernel
theorem dX12_spot_67 : decode cX12_spot 67 = .ok (.istore_n 3, 1) := by decide +kernel
theorem dX12_spot_68 : decode cX12_spot 68 = .ok (.iinc 4 1, 3) := by decide +kernel
theorem dX12_spot_71 : decode cX12_spot 71 = .ok (.goto (-53), 3) := by decide +kernel
theorem dX12_spot_74 : decode cX12_spot 74 = .ok (.iconst (-1), 1) := by decide +kernel
theorem dX12_spot_75 : decode cX12_spot 75 = .ok (.ireturn, 1) := by decide +kernel
theorem dX12_stateNumber_0 : decode cX12_stateNumber 0 = .ok (.aload_n 0, 1) := by decide +kernel
theorem dX12_stateNumber_1 : decode cX12_stateNumber 1 = .ok (.getfield 243, 3) := by decide +kernel
theorem dX12_stateNumber_4 : decode cX12_stateNumber 4 = .ok (.iconst 1, 1) := by decide +kernel
theorem dX12_stateNumber_5 : decode cX12_stateNumber 5 = .ok (.iadd, 1) := by decide +kernel
theorem dX12_stateNumber_6 : decode cX12_stateNumber 6 = .ok (.istore_n 1, 1) := by decide +kernel
theorem dX12_stateNumber_7 : decode cX12_stateNumber 7 = .ok (.iconst 0, 1) := by decide +kernel
theorem dX12_stateNumber_8 : decode cX12_stateNumber 8 = .ok (.istore_n 2, 1) := by decide +kernel
theorem dX12_stateNumber_9 : decode cX12_stateNumber 9 = .ok (.iload_n 2, 1) := by decide +kernel
theorem dX12_stateNumber_10 : decode cX12_stateNumber 10 = .ok (.aload_n 0, 1) := by decide +kernel
theorem dX12_stateNumber_11 : decode cX12_stateNumber 11 = .ok (.getfield 133, 3) := by decide +kernel
theorem dX12_stateNumber_14 : decode cX12_stateNumber 14 = .ok (.if_icmp .ge 20, 3) := by decide +kernel
theorem dX12_stateNumber_17 : decode cX12_stateNumber 17 = .ok (.iconst 4, 1) := by decide +kernel
theorem dX12_stateNumber_18 : decode cX12_stateNumber 18 = .ok (.iload_n 1, 1) := by decide +kernel
theorem dX12_stateNumber_19 : decode cX12_stateNumber 19 = .ok (.imul, 1) := by decide +kernel
theorem dX12_stateNumber_20 : decode cX12_stateNumber 20 = .ok (.aload_n 0, 1) := by decide +kernel
theorem dX12_stateNumber_21 : decode cX12_stateNumber 21 = .ok (.getfield 46, 3) := by decide +kernel
theorem dX12_stateNumber_24 : decode cX12_stateNumber 24 = .ok (.iload_n 2, 1) := by decide +kernel
theorem dX12_stateNumber_25 : decode cX12_stateNumber 25 = .ok (.iaload, 1) := by decide +kernel
theorem dX12_stateNumber_26 : decode cX12_stateNumber 26 = .ok (.iadd, 1) := by decide +kernel
theorem dX12_stateNumber_27 : decode cX12_stateNumber 27 = .ok (.istore_n 1, 1) := by decide +kernel
theorem dX12_stateNumber_28 : decode cX12_stateNumber 28 = .ok (.iinc 2 1, 3) := by decide +kernel
theorem dX12_stateNumber_31 : decode cX12_stateNumber 31 = .ok (.goto (-22), 3) := by decide +kernel
theorem dX12_stateNumber_34 : decode cX12_stateNumber 34 = .ok (.iconst 0, 1) := by decide +kernel
theorem dX12_stateNumber_35 : decode cX12_stateNumber 35 = .ok (.istore_n 2, 1) := by decide +kernel
theorem dX12_stateNumber_36 : decode cX12_stateNumber 36 = .ok (.iload_n 2, 1) := by decide +kernel
theorem dX12_stateNumber_37 : decode cX12_stateNumber 37 = .ok (.aload_n 0, 1) := by decide +kernel
theorem dX12_stateNumber_38 : decode cX12_stateNumber 38 = .ok (.getfield 133, 3) := by decide +kernel
theorem dX12_stateNumber_41 : decode cX12_stateNumber 41 = .ok (.if_icmp .ge 37, 3) := by decide +kernel
theorem dX12_stateNumber_44 : decode cX12_stateNumber 44 = .ok (.bipush 9, 2) := by decide +kernel
theorem dX12_stateNumber_46 : decode cX12_stateNumber 46 = .ok (.iload_n 1, 1) := by decide +kernel
theorem dX12_stateNumber_47 : decode cX12_stateNumber 47 = .ok (.imul, 1) := by decide +kernel
theorem dX12_stateNumber_48 : decode cX12_stateNumber 48 = .ok (.aload_n 0, 1) := by decide +kernel
theorem dX12_stateNumber_49 : decode cX12_stateNumber 49 = .ok (.getfield 49, 3) := by decide +kernel
theorem dX12_stateNumber_52 : decode cX12_stateNumber 52 = .ok (.iload_n 2, 1) := by decide +kernel
theorem dX12_stateNumber_53 : decode cX12_stateNumber 53 = .ok (.iaload, 1) := by decide +kernel
theorem dX12_stateNumber_54 : decode cX12_stateNumber 54 = .ok (.bipush 8, 2) := by decide +kernel
theorem dX12_stateNumber_56 : decode cX12_stateNumber 56 = .ok (.if_icmp .le 8, 3) := by decide +kernel
theorem dX12_stateNumber_59 : decode cX12_stateNumber 59 = .ok (.bipush 8, 2) := by decide +kernel
theorem dX12_stateNumber_61 : decode cX12_stateNumber 61 = .ok (.goto 9, 3) := by decide +kernel
theorem dX12_stateNumber_64 : decode cX12_stateNumber 64 = .ok (.aload_n 0, 1) := by decide +kernel
theorem dX12_stateNumber_65 : decode cX12_stateNumber 65 = .ok (.getfield 49, 3) := by decide +kernel
theorem dX12_stateNumber_68 : decode cX12_stateNumber 68 = .ok (.iload_n 2, 1) := by decide +kernel
theorem dX12_stateNumber_69 : decode cX12_stateNumber 69 = .ok (.iaload, 1) := by decide +kernel
theorem dX12_stateNumber_70 : decode cX12_stateNumber 70 = .ok (.iadd, 1) := by decide +kernel
theorem dX12_stateNumber_71 : decode cX12_stateNumber 71 = .ok (.istore_n 1, 1) := by decide +kernel
theorem dX12_stateNumber_72 : decode cX12_stateNumber 72 = .ok (.iinc 2 1, 3) := by decide +kernel
theorem dX12_stateNumber_75 : decode cX12_stateNumber 75 = .ok (.goto (-39), 3) := by decide +kernel
theorem dX12_stateNumber_78 : decode cX12_stateNumber 78 = .ok (.iload_n 1, 1) := by decide +kernel
theorem dX12_stateNumber_79 : decode cX12_stateNumber 79 = .ok (.ireturn, 1) := by decide +kernel
theorem dX12_meanWith_0 : decode cX12_meanWith 0 = .ok (.aload_n 0, 1) := by decide +kernel
theorem dX12_meanWith_1 : decode cX12_meanWith 1 = .ok (.getfield 28, 3) := by decide +kernel
theorem dX12_meanWith_4 : decode cX12_meanWith 4 = .ok (.aload_n 0, 1) := by decide +kernel
theorem dX12_meanWith_5 : decode cX12_meanWith 5 = .ok (.getfield 237, 3) := by decide +kernel
theorem dX12_meanWith_8 : decode cX12_meanWith 8 = .ok (.iaload, 1) := by decide +kernel
theorem dX12_meanWith_9 : decode cX12_meanWith 9 = .ok (.istore_n 2, 1) := by decide +kernel
theorem dX12_meanWith_10 : decode cX12_meanWith 10 = .ok (.aload_n 0, 1) := by decide +kernel
theorem dX12_meanWith_11 : decode cX12_meanWith 11 = .ok (.iload_n 1, 1) := by decide +kernel
theorem dX12_meanWith_12 : decode cX12_meanWith 12 = .ok (.iload_n 2, 1) := by decide +kernel
theorem dX12_meanWith_13 : decode cX12_meanWith 13 = .ok (.invokevirtual 259, 3) := by decide +kernel
theorem dX12_meanWith_16 : decode cX12_meanWith 16 = .ok (.istore_n 3, 1) := by decide +kernel
theorem dX12_meanWith_17 : decode cX12_meanWith 17 = .ok (.sipush 1000, 3) := by decide +kernel
theorem dX12_meanWith_20 : decode cX12_meanWith 20 = .ok (.aload_n 0, 1) := by decide +kernel
theorem dX12_meanWith_21 : decode cX12_meanWith 21 = .ok (.iload_n 1, 1) := by decide +kernel
theorem dX12_meanWith_22 : decode cX12_meanWith 22 = .ok (.iload_n 2, 1) := by decide +kernel
theorem dX12_meanWith_23 : decode cX12_meanWith 23 = .ok (.invokevirtual 262, 3) := by decide +kernel
theorem dX12_meanWith_26 : decode cX12_meanWith 26 = .ok (.imul, 1) := by decide +kernel
theorem dX12_meanWith_27 : decode cX12_meanWith 27 = .ok (.istore 4, 2) := by decide +kernel
theorem dX12_meanWith_29 : decode cX12_meanWith 29 = .ok (.aload_n 0, 1) := by decide +kernel
theorem dX12_meanWith_30 : decode cX12_meanWith 30 = .ok (.iload_n 1, 1) := by decide +kernel
theorem dX12_meanWith_31 : decode cX12_meanWith 31 = .ok (.iconst 1, 1) := by decide +kernel
theorem dX12_meanWith_32 : decode cX12_meanWith 32 = .ok (.invokevirtual 296, 3) := by decide +kernel
theorem dX12_meanWith_35 : decode cX12_meanWith 35 = .ok (.istore 5, 2) := by decide +kernel
theorem dX12_meanWith_37 : decode cX12_meanWith 37 = .ok (.aload_n 0, 1) := by decide +kernel
theorem dX12_meanWith_38 : decode cX12_meanWith 38 = .ok (.invokevirtual 280, 3) := by decide +kernel
theorem dX12_meanWith_41 : decode cX12_meanWith 41 = .ok (.istore 6, 2) := by decide +kernel
theorem dX12_meanWith_43 : decode cX12_meanWith 43 = .ok (.aload_n 0, 1) := by decide +kernel
theorem dX12_meanWith_44 : decode cX12_meanWith 44 = .ok (.iload_n 1, 1) := by decide +kernel
theorem dX12_meanWith_45 : decode cX12_meanWith 45 = .ok (.iconst 1, 1) := by decide +kernel
theorem dX12_meanWith_46 : decode cX12_meanWith 46 = .ok (.iload 5, 2) := by decide +kernel
theorem dX12_meanWith_48 : decode cX12_meanWith 48 = .ok (.invokevirtual 300, 3) := by decide +kernel
theorem dX12_meanWith_51 : decode cX12_meanWith 51 = .ok (.aload_n 0, 1) := by decide +kernel
theorem dX12_meanWith_52 : decode cX12_meanWith 52 = .ok (.iload_n 1, 1) := by decide +kernel
theorem dX12_meanWith_53 : decode cX12_meanWith 53 = .ok (.iconst 0, 1) := by decide +kernel
theorem dX12_meanWith_54 : decode cX12_meanWith 54 = .ok (.invokevirtual 296, 3) := by decide +kernel
theorem dX12_meanWith_57 : decode cX12_meanWith 57 = .ok (.istore 5, 2) := by decide +kernel
theorem dX12_meanWith_59 : decode cX12_meanWith 59 = .ok (.aload_n 0, 1) := by decide +kernel
theorem dX12_meanWith_60 : decode cX12_meanWith 60 = .ok (.invokevirtual 280, 3) := by decide +kernel
theorem dX12_meanWith_63 : decode cX12_meanWith 63 = .ok (.istore 7, 2) := by decide +kernel
theorem dX12_meanWith_65 : decode cX12_meanWith 65 = .ok (.aload_n 0, 1) := by decide +kernel
theorem dX12_meanWith_66 : decode cX12_meanWith 66 = .ok (.iload_n 1, 1) := by decide +kernel
theorem dX12_meanWith_67 : decode cX12_meanWith 67 = .ok (.iconst 0, 1) := by decide +kernel
theorem dX12_meanWith_68 : decode cX12_meanWith 68 = .ok (.iload 5, 2) := by decide +kernel
theorem dX12_meanWith_70 : decode cX12_meanWith 70 = .ok (.invokevirtual 300, 3) := by decide +kernel
theorem dX12_meanWith_73 : decode cX12_meanWith 73 = .ok (.iload 4, 2) := by decide +kernel
theorem dX12_meanWith_75 : decode cX12_meanWith 75 = .ok (.sipush 1000, 3) := by decide +kernel
theorem dX12_meanWith_78 : decode cX12_meanWith 78 = .ok (.aload_n 0, 1) := by decide +kernel
theorem dX12_meanWith_79 : decode cX12_meanWith 79 = .ok (.getfield 231, 3) := by decide +kernel
theorem dX12_meanWith_82 : decode cX12_meanWith 82 = .ok (.isub, 1) := by decide +kernel
theorem dX12_meanWith_83 : decode cX12_meanWith 83 = .ok (.i2l, 1) := by decide +kernel
theorem dX12_meanWith_84 : decode cX12_meanWith 84 = .ok (.iload 6, 2) := by decide +kernel
theorem dX12_meanWith_86 : decode cX12_meanWith 86 = .ok (.iload 7, 2) := by decide +kernel
theorem dX12_meanWith_88 : decode cX12_meanWith 88 = .ok (.iload_n 3, 1) := by decide +kernel
theorem dX12_meanWith_89 : decode cX12_meanWith 89 = .ok (.invokestatic 304, 3) := by decide +kernel
theorem dX12_meanWith_92 : decode cX12_meanWith 92 = .ok (.i2l, 1) := by decide +kernel
theorem dX12_meanWith_93 : decode cX12_meanWith 93 = .ok (.lmul, 1) := by decide +kernel
theorem dX12_meanWith_94 : decode cX12_meanWith 94 = .ok (.ldc2_w 289, 3) := by decide +kernel
theorem dX12_meanWith_97 : decode cX12_meanWith 97 = .ok (.ldiv, 1) := by decide +kernel
theorem dX12_meanWith_98 : decode cX12_meanWith 98 = .ok (.l2i, 1) := by decide +kernel
theorem dX12_meanWith_99 : decode cX12_meanWith 99 = .ok (.iadd, 1) := by decide +kernel
theorem dX12_meanWith_100 : decode cX12_meanWith 100 = .ok (.ireturn, 1) := by decide +kernel
theorem dX12_bestFrom_0 : decode cX12_bestFrom 0 = .ok (.aload_n 0, 1) := by decide +kernel
theorem dX12_bestFrom_1 : decode cX12_bestFrom 1 = .ok (.invokevirtual 307, 3) := by decide +kernel
theorem dX12_bestFrom_4 : decode cX12_bestFrom 4 = .ok (.ifCond .eq 11, 3) := by decide +kernel
theorem dX12_bestFrom_7 : decode cX12_bestFrom 7 = .ok (.aload_n 0, 1) := by decide +kernel
theorem dX12_bestFrom_8 : decode cX12_bestFrom 8 = .ok (.bipush (-2), 2) := by decide +kernel
theorem dX12_bestFrom_10 : decode cX12_bestFrom 10 = .ok (.putfield 283, 3) := by decide +kernel
theorem dX12_bestFrom_13 : decode cX12_bestFrom 13 = .ok (.iconst 0, 1) := by decide +kernel
theorem dX12_bestFrom_14 : decode cX12_bestFrom 14 = .ok (.ireturn, 1) := by decide +kernel
theorem dX12_bestFrom_15 : decode cX12_bestFrom 15 = .ok (.aload_n 0, 1) := by decide +kernel
theorem dX12_bestFrom_16 : decode cX12_bestFrom 16 = .ok (.invokevirtual 311, 3) := by decide +kernel
theorem dX12_bestFrom_19 : decode cX12_bestFrom 19 = .ok (.istore_n 1, 1) := by decide +kernel
theorem dX12_bestFrom_20 : decode cX12_bestFrom 20 = .ok (.bipush 16, 2) := by decide +kernel
theorem dX12_bestFrom_22 : decode cX12_bestFrom 22 = .ok (.aload_n 0, 1) := by decide +kernel
theorem dX12_bestFrom_23 : decode cX12_bestFrom 23 = .ok (.getfield 240, 3) := by decide +kernel
theorem dX12_bestFrom_26 : decode cX12_bestFrom 26 = .ok (.imul, 1) := by decide +kernel
theorem dX12_bestFrom_27 : decode cX12_bestFrom 27 = .ok (.aload_n 0, 1) := by decide +kernel
theorem dX12_bestFrom_28 : decode cX12_bestFrom 28 = .ok (.getfield 237, 3) := by decide +kernel
theorem dX12_bestFrom_31 : decode cX12_bestFrom 31 = .ok (.iadd, 1) := by decide +kernel
theorem dX12_bestFrom_32 : decode cX12_bestFrom 32 = .ok (.istore_n 2, 1) := by decide +kernel
theorem dX12_bestFrom_33 : decode cX12_bestFrom 33 = .ok (.aload_n 0, 1) := by decide +kernel
theorem dX12_bestFrom_34 : decode cX12_bestFrom 34 = .ok (.iload_n 1, 1) := by decide +kernel
theorem dX12_bestFrom_35 : decode cX12_bestFrom 35 = .ok (.iload_n 2, 1) := by decide +kernel
theorem dX12_bestFrom_36 : decode cX12_bestFrom 36 = .ok (.invokevirtual 314, 3) := by decide +kernel
theorem dX12_bestFrom_39 : decode cX12_bestFrom 39 = .ok (.istore_n 3, 1) := by decide +kernel
theorem dX12_bestFrom_40 : decode cX12_bestFrom 40 = .ok (.iload_n 3, 1) := by decide +kernel
theorem dX12_bestFrom_41 : decode cX12_bestFrom 41 = .ok (.ifCond .lt 33, 3) := by decide +kernel
theorem dX12_bestFrom_44 : decode cX12_bestFrom 44 = .ok (.aload_n 0, 1) := by decide +kernel
theorem dX12_bestFrom_45 : decode cX12_bestFrom 45 = .ok (.getfield 84, 3) := by decide +kernel
theorem dX12_bestFrom_48 : decode cX12_bestFrom 48 = .ok (.iload_n 3, 1) := by decide +kernel
theorem dX12_bestFrom_49 : decode cX12_bestFrom 49 = .ok (.iaload, 1) := by decide +kernel
theorem dX12_bestFrom_50 : decode cX12_bestFrom 50 = .ok (.aload_n 0, 1) := by decide +kernel
theorem dX12_bestFrom_51 : decode cX12_bestFrom 51 = .ok (.getfield 291, 3) := by decide +kernel
theorem dX12_bestFrom_54 : decode cX12_bestFrom 54 = .ok (.if_icmp .ne 20, 3) := by decide +kernel
theorem dX12_bestFrom_57 : decode cX12_bestFrom 57 = .ok (.aload_n 0, 1) := by decide +kernel
theorem dX12_bestFrom_58 : decode cX12_bestFrom 58 = .ok (.aload_n 0, 1) := by decide +kernel
theorem dX12_bestFrom_59 : decode cX12_bestFrom 59 = .ok (.getfield 81, 3) := by decide +kernel
theorem dX12_bestFrom_62 : decode cX12_bestFrom 62 = .ok (.iload_n 3, 1) := by decide +kernel
theorem dX12_bestFrom_63 : decode cX12_bestFrom 63 = .ok (.iaload, 1) := by decide +kernel
theorem dX12_bestFrom_64 : decode cX12_bestFrom 64 = .ok (.putfield 283, 3) := by decide +kernel
theorem dX12_bestFrom_67 : decode cX12_bestFrom 67 = .ok (.aload_n 0, 1) := by decide +kernel
theorem dX12_bestFrom_68 : decode cX12_bestFrom 68 = .ok (.getfield 78, 3) := by decide +kernel
theorem dX12_bestFrom_71 : decode cX12_bestFrom 71 = .ok (.iload_n 3, 1) := by decide +kernel
theorem dX12_bestFrom_72 : decode cX12_bestFrom 72 = .ok (.iaload, 1) := by decide +kernel
theorem dX12_bestFrom_73 : decode cX12_bestFrom 73 = .ok (.ireturn, 1) := by decide +kernel
theorem dX12_bestFrom_74 : decode cX12_bestFrom 74 = .ok (.iconst (-1), 1) := by decide +kernel
theorem dX12_bestFrom_75 : decode cX12_bestFrom 75 = .ok (.istore 4, 2) := by decide +kernel
theorem dX12_bestFrom_77 : decode cX12_bestFrom 77 = .ok (.ldc_w 317, 3) := by decide +kernel
theorem dX12_bestFrom_80 : decode cX12_bestFrom 80 = .ok (.istore 5, 2) := by decide +kernel
theorem dX12_bestFrom_82 : decode cX12_bestFrom 82 = .ok (.iconst 0, 1) := by decide +kernel
theorem dX12_bestFrom_83 : decode cX12_bestFrom 83 = .ok (.istore 6, 2) := by decide +kernel
theorem dX12_bestFrom_85 : decode cX12_bestFrom 85 = .ok (.iload 6, 2) := by decide +kernel
theorem dX12_bestFrom_87 : decode cX12_bestFrom 87 = .ok (.aload_n 0, 1) := by decide +kernel
theorem dX12_bestFrom_88 : decode cX12_bestFrom 88 = .ok (.getfield 133, 3) := by decide +kernel
theorem dX12_bestFrom_91 : decode cX12_bestFrom 91 = .ok (.if_icmp .ge 44, 3) := by decide +kernel
theorem dX12_bestFrom_94 : decode cX12_bestFrom 94 = .ok (.aload_n 0, 1) := by decide +kernel
theorem dX12_bestFrom_95 : decode cX12_bestFrom 95 = .ok (.iload 6, 2) := by decide +kernel
theorem dX12_bestFrom_97 : decode cX12_bestFrom 97 = .ok (.invokevirtual 249, 3) := by decide +kernel
theorem dX12_bestFrom_100 : decode cX12_bestFrom 100 = .ok (.ifCond .ne 6, 3) := by decide +kernel
theorem dX12_bestFrom_103 : decode cX12_bestFrom 103 = .ok (.goto 26, 3) := by decide +kernel
theorem dX12_bestFrom_106 : decode cX12_bestFrom 106 = .ok (.aload_n 0, 1) := by decide +kernel
theorem dX12_bestFrom_107 : decode cX12_bestFrom 107 = .ok (.iload 6, 2) := by decide +kernel
theorem dX12_bestFrom_109 : decode cX12_bestFrom 109 = .ok (.invokevirtual 318, 3) := by decide +kernel
theorem dX12_bestFrom_112 : decode cX12_bestFrom 112 = .ok (.istore 7, 2) := by decide +kernel
theorem dX12_bestFrom_114 : decode cX12_bestFrom 114 = .ok (.iload 7, 2) := by decide +kernel
theorem dX12_bestFrom_116 : decode cX12_bestFrom 116 = .ok (.iload 5, 2) := by decide +kernel
theorem dX12_bestFrom_118 : decode cX12_bestFrom 118 = .ok (.if_icmp .ge 11, 3) := by decide +kernel
theorem dX12_bestFrom_121 : decode cX12_bestFrom 121 = .ok (.iload 7, 2) := by decide +kernel
theorem dX12_bestFrom_123 : decode cX12_bestFrom 123 = .ok (.istore 5, 2) := by decide +kernel
theorem dX12_bestFrom_125 : decode cX12_bestFrom 125 = .ok (.iload 6, 2) := by decide +kernel
theorem dX12_bestFrom_127 : decode cX12_bestFrom 127 = .ok (.istore 4, 2) := by decide +kernel
theorem dX12_bestFrom_129 : decode cX12_bestFrom 129 = .ok (.iinc 6 1, 3) := by decide +kernel
theorem dX12_bestFrom_132 : decode cX12_bestFrom 132 = .ok (.goto (-47), 3) := by decide +kernel
theorem dX12_bestFrom_135 : decode cX12_bestFrom 135 = .ok (.aload_n 0, 1) := by decide +kernel
theorem dX12_bestFrom_136 : decode cX12_bestFrom 136 = .ok (.iload_n 1, 1) := by decide +kernel
theorem dX12_bestFrom_137 : decode cX12_bestFrom 137 = .ok (.iload_n 2, 1) := by decide +kernel
theorem dX12_bestFrom_138 : decode cX12_bestFrom 138 = .ok (.invokevirtual 314, 3) := by decide +kernel
theorem dX12_bestFrom_141 : decode cX12_bestFrom 141 = .ok (.istore_n 3, 1) := by decide +kernel
theorem dX12_bestFrom_142 : decode cX12_bestFrom 142 = .ok (.iload_n 3, 1) := by decide +kernel
theorem dX12_bestFrom_143 : decode cX12_bestFrom 143 = .ok (.ifCond .lt 43, 3) := by decide +kernel
theorem dX12_bestFrom_146 : decode cX12_bestFrom 146 = .ok (.aload_n 0, 1) := by decide +kernel
theorem dX12_bestFrom_147 : decode cX12_bestFrom 147 = .ok (.getfield 84, 3) := by decide +kernel
theorem dX12_bestFrom_150 : decode cX12_bestFrom 150 = .ok (.iload_n 3, 1) := by decide +kernel
theorem dX12_bestFrom_151 : decode cX12_bestFrom 151 = .ok (.aload_n 0, 1) := by decide +kernel
theorem dX12_bestFrom_152 : decode cX12_bestFrom 152 = .ok (.getfield 291, 3) := by decide +kernel
theorem dX12_bestFrom_155 : decode cX12_bestFrom 155 = .ok (.iastore, 1) := by decide +kernel
theorem dX12_bestFrom_156 : decode cX12_bestFrom 156 = .ok (.aload_n 0, 1) := by decide +kernel
theorem dX12_bestFrom_157 : decode cX12_bestFrom 157 = .ok (.getfield 72, 3) := by decide +kernel
theorem dX12_bestFrom_160 : decode cX12_bestFrom 160 = .ok (.iload_n 3, 1) := by decide +kernel
theorem dX12_bestFrom_161 : decode cX12_bestFrom 161 = .ok (.iload_n 1, 1) := by decide +kernel
theorem dX12_bestFrom_162 : decode cX12_bestFrom 162 = .ok (.iastore, 1) := by decide +kernel
theorem dX12_bestFrom_163 : decode cX12_bestFrom 163 = .ok (.aload_n 0, 1) := by decide +kernel
theorem dX12_bestFrom_164 : decode cX12_bestFrom 164 = .ok (.getfield 75, 3) := by decide +kernel
theorem dX12_bestFrom_167 : decode cX12_bestFrom 167 = .ok (.iload_n 3, 1) := by decide +kernel
theorem dX12_bestFrom_168 : decode cX12_bestFrom 168 = .ok (.iload_n 2, 1) := by decide +kernel
theorem dX12_bestFrom_169 : decode cX12_bestFrom 169 = .ok (.iastore, 1) := by decide +kernel
theorem dX12_bestFrom_170 : decode cX12_bestFrom 170 = .ok (.aload_n 0, 1) := by decide +kernel
theorem dX12_bestFrom_171 : decode cX12_bestFrom 171 = .ok (.getfield 78, 3) := by decide +kernel
theorem dX12_bestFrom_174 : decode cX12_bestFrom 174 = .ok (.iload_n 3, 1) := by decide +kernel
theorem dX12_bestFrom_175 : decode cX12_bestFrom 175 = .ok (.iload 5, 2) := by decide +kernel
theorem dX12_bestFrom_177 : decode cX12_bestFrom 177 = .ok (.iastore, 1) := by decide +kernel
theorem dX12_bestFrom_178 : decode cX12_bestFrom 178 = .ok (.aload_n 0, 1) := by decide +kernel
theorem dX12_bestFrom_179 : decode cX12_bestFrom 179 = .ok (.getfield 81, 3) := by decide +kernel
theorem dX12_bestFrom_182 : decode cX12_bestFrom 182 = .ok (.iload_n 3, 1) := by decide +kernel
theorem dX12_bestFrom_183 : decode cX12_bestFrom 183 = .ok (.iload 4, 2) := by decide +kernel
theorem dX12_bestFrom_185 : decode cX12_bestFrom 185 = .ok (.iastore, 1) := by decide +kernel
theorem dX12_bestFrom_186 : decode cX12_bestFrom 186 = .ok (.aload_n 0, 1) := by decide +kernel
theorem dX12_bestFrom_187 : decode cX12_bestFrom 187 = .ok (.iload 4, 2) := by decide +kernel
theorem dX12_bestFrom_189 : decode cX12_bestFrom 189 = .ok (.putfield 283, 3) := by decide +kernel
theorem dX12_bestFrom_192 : decode cX12_bestFrom 192 = .ok (.iload 5, 2) := by decide +kernel
theorem dX12_bestFrom_194 : decode cX12_bestFrom 194 = .ok (.ireturn, 1) := by decide +kernel
theorem dX12_meanFrom_0 : decode cX12_meanFrom 0 = .ok (.aload_n 0, 1) := by decide +kernel
theorem dX12_meanFrom_1 : decode cX12_meanFrom 1 = .ok (.invokevirtual 307, 3) := by decide +kernel
theorem dX12_meanFrom_4 : decode cX12_meanFrom 4 = .ok (.ifCond .eq 5, 3) := by decide +kernel
theorem dX12_meanFrom_7 : decode cX12_meanFrom 7 = .ok (.iconst 0, 1) := by decide +kernel
theorem dX12_meanFrom_8 : decode cX12_meanFrom 8 = .ok (.ireturn, 1) := by decide +kernel
theorem dX12_meanFrom_9 : decode cX12_meanFrom 9 = .ok (.aload_n 0, 1) := by decide +kernel
theorem dX12_meanFrom_10 : decode cX12_meanFrom 10 = .ok (.iload_n 1, 1) := by decide +kernel
theorem dX12_meanFrom_11 : decode cX12_meanFrom 11 = .ok (.invokevirtual 321, 3) := by decide +kernel
theorem dX12_meanFrom_14 : decode cX12_meanFrom 14 = .ok (.istore_n 2, 1) := by decide +kernel
theorem dX12_meanFrom_15 : decode cX12_meanFrom 15 = .ok (.aload_n 0, 1) := by decide +kernel
theorem dX12_meanFrom_16 : decode cX12_meanFrom 16 = .ok (.getfield 28, 3) := by decide +kernel
theorem dX12_meanFrom_19 : decode cX12_meanFrom 19 = .ok (.aload_n 0, 1) := by decide +kernel
theorem dX12_meanFrom_20 : decode cX12_meanFrom 20 = .ok (.getfield 237, 3) := by decide +kernel
theorem dX12_meanFrom_23 : decode cX12_meanFrom 23 = .ok (.iaload, 1) := by decide +kernel
theorem dX12_meanFrom_24 : decode cX12_meanFrom 24 = .ok (.istore_n 3, 1) := by decide +kernel
theorem dX12_meanFrom_25 : decode cX12_meanFrom 25 = .ok (.aload_n 0, 1) := by decide +kernel
theorem dX12_meanFrom_26 : decode cX12_meanFrom 26 = .ok (.iload_n 2, 1) := by decide +kernel
theorem dX12_meanFrom_27 : decode cX12_meanFrom 27 = .ok (.iload_n 3, 1) := by decide +kernel
theorem dX12_meanFrom_28 : decode cX12_meanFrom 28 = .ok (.invokevirtual 259, 3) := by decide +kernel
theorem dX12_meanFrom_31 : decode cX12_meanFrom 31 = .ok (.istore 4, 2) := by decide +kernel
theorem dX12_meanFrom_33 : decode cX12_meanFrom 33 = .ok (.sipush 1000, 3) := by decide +kernel
theorem dX12_meanFrom_36 : decode cX12_meanFrom 36 = .ok (.aload_n 0, 1) := by decide +kernel
theorem dX12_meanFrom_37 : decode cX12_meanFrom 37 = .ok (.iload_n 2, 1) := by decide +kernel
theorem dX12_meanFrom_38 : decode cX12_meanFrom 38 = .ok (.iload_n 3, 1) := by decide +kernel
theorem dX12_meanFrom_39 : decode cX12_meanFrom 39 = .ok (.invokevirtual 262, 3) := by decide +kernel
theorem dX12_meanFrom_42 : decode cX12_meanFrom 42 = .ok (.imul, 1) := by decide +kernel
theorem dX12_meanFrom_43 : decode cX12_meanFrom 43 = .ok (.istore 5, 2) := by decide +kernel
theorem dX12_meanFrom_45 : decode cX12_meanFrom 45 = .ok (.aload_n 0, 1) := by decide +kernel
theorem dX12_meanFrom_46 : decode cX12_meanFrom 46 = .ok (.iload_n 2, 1) := by decide +kernel
theorem dX12_meanFrom_47 : decode cX12_meanFrom 47 = .ok (.iconst 1, 1) := by decide +kernel
theorem dX12_meanFrom_48 : decode cX12_meanFrom 48 = .ok (.invokevirtual 296, 3) := by decide +kernel
theorem dX12_meanFrom_51 : decode cX12_meanFrom 51 = .ok (.istore 6, 2) := by decide +kernel
theorem dX12_meanFrom_53 : decode cX12_meanFrom 53 = .ok (.aload_n 0, 1) := by decide +kernel
theorem dX12_meanFrom_54 : decode cX12_meanFrom 54 = .ok (.iload_n 1, 1) := by decide +kernel
theorem dX12_meanFrom_55 : decode cX12_meanFrom 55 = .ok (.invokevirtual 324, 3) := by decide +kernel
theorem dX12_meanFrom_58 : decode cX12_meanFrom 58 = .ok (.istore 7, 2) := by decide +kernel
theorem dX12_meanFrom_60 : decode cX12_meanFrom 60 = .ok (.aload_n 0, 1) := by decide +kernel
theorem dX12_meanFrom_61 : decode cX12_meanFrom 61 = .ok (.iload_n 2, 1) := by decide +kernel
theorem dX12_meanFrom_62 : decode cX12_meanFrom 62 = .ok (.iconst 1, 1) := by decide +kernel
theorem dX12_meanFrom_63 : decode cX12_meanFrom 63 = .ok (.iload 6, 2) := by decide +kernel
theorem dX12_meanFrom_65 : decode cX12_meanFrom 65 = .ok (.invokevirtual 300, 3) := by decide +kernel
theorem dX12_meanFrom_68 : decode cX12_meanFrom 68 = .ok (.aload_n 0, 1) := by decide +kernel
theorem dX12_meanFrom_69 : decode cX12_meanFrom 69 = .ok (.iload_n 2, 1) := by decide +kernel
theorem dX12_meanFrom_70 : decode cX12_meanFrom 70 = .ok (.iconst 0, 1) := by decide +kernel
theorem dX12_meanFrom_71 : decode cX12_meanFrom 71 = .ok (.invokevirtual 296, 3) := by decide +kernel
theorem dX12_meanFrom_74 : decode cX12_meanFrom 74 = .ok (.istore 6, 2) := by decide +kernel
theorem dX12_meanFrom_76 : decode cX12_meanFrom 76 = .ok (.aload_n 0, 1) := by decide +kernel
theorem dX12_meanFrom_77 : decode cX12_meanFrom 77 = .ok (.iload_n 1, 1) := by decide +kernel
theorem dX12_meanFrom_78 : decode cX12_meanFrom 78 = .ok (.invokevirtual 324, 3) := by decide +kernel
theorem dX12_meanFrom_81 : decode cX12_meanFrom 81 = .ok (.istore 8, 2) := by decide +kernel
theorem dX12_meanFrom_83 : decode cX12_meanFrom 83 = .ok (.aload_n 0, 1) := by decide +kernel
theorem dX12_meanFrom_84 : decode cX12_meanFrom 84 = .ok (.iload_n 2, 1) := by decide +kernel
theorem dX12_meanFrom_85 : decode cX12_meanFrom 85 = .ok (.iconst 0, 1) := by decide +kernel
theorem dX12_meanFrom_86 : decode cX12_meanFrom 86 = .ok (.iload 6, 2) := by decide +kernel
theorem dX12_meanFrom_88 : decode cX12_meanFrom 88 = .ok (.invokevirtual 300, 3) := by decide +kernel
theorem dX12_meanFrom_91 : decode cX12_meanFrom 91 = .ok (.iload 5, 2) := by decide +kernel
theorem dX12_meanFrom_93 : decode cX12_meanFrom 93 = .ok (.sipush 1000, 3) := by decide +kernel
theorem dX12_meanFrom_96 : decode cX12_meanFrom 96 = .ok (.aload_n 0, 1) := by decide +kernel
theorem dX12_meanFrom_97 : decode cX12_meanFrom 97 = .ok (.getfield 231, 3) := by decide +kernel
theorem dX12_meanFrom_100 : decode cX12_meanFrom 100 = .ok (.isub, 1) := by decide +kernel
theorem dX12_meanFrom_101 : decode cX12_meanFrom 101 = .ok (.i2l, 1) := by decide +kernel
theorem dX12_meanFrom_102 : decode cX12_meanFrom 102 = .ok (.iload 7, 2) := by decide +kernel
theorem dX12_meanFrom_104 : decode cX12_meanFrom 104 = .ok (.iload 8, 2) := by decide +kernel
theorem dX12_meanFrom_106 : decode cX12_meanFrom 106 = .ok (.iload 4, 2) := by decide +kernel
theorem dX12_meanFrom_108 : decode cX12_meanFrom 108 = .ok (.invokestatic 304, 3) := by decide +kernel
theorem dX12_meanFrom_111 : decode cX12_meanFrom 111 = .ok (.i2l, 1) := by decide +kernel
theorem dX12_meanFrom_112 : decode cX12_meanFrom 112 = .ok (.lmul, 1) := by decide +kernel
theorem dX12_meanFrom_113 : decode cX12_meanFrom 113 = .ok (.ldc2_w 289, 3) := by decide +kernel
theorem dX12_meanFrom_116 : decode cX12_meanFrom 116 = .ok (.ldiv, 1) := by decide +kernel
theorem dX12_meanFrom_117 : decode cX12_meanFrom 117 = .ok (.l2i, 1) := by decide +kernel
theorem dX12_meanFrom_118 : decode cX12_meanFrom 118 = .ok (.iadd, 1) := by decide +kernel
theorem dX12_meanFrom_119 : decode cX12_meanFrom 119 = .ok (.ireturn, 1) := by decide +kernel
theorem dX12_likelyFrom_0 : decode cX12_likelyFrom 0 = .ok (.aload_n 0, 1) := by decide +kernel
theorem dX12_likelyFrom_1 : decode cX12_likelyFrom 1 = .ok (.invokevirtual 307, 3) := by decide +kernel
theorem dX12_likelyFrom_4 : decode cX12_likelyFrom 4 = .ok (.ifCond .eq 15, 3) := by decide +kernel
theorem dX12_likelyFrom_7 : decode cX12_likelyFrom 7 = .ok (.iload_n 2, 1) := by decide +kernel
theorem dX12_likelyFrom_8 : decode cX12_likelyFrom 8 = .ok (.ifCond .le 9, 3) := by decide +kernel
theorem dX12_likelyFrom_11 : decode cX12_likelyFrom 11 = .ok (.ldc_w 327, 3) := by decide +kernel
theorem dX12_likelyFrom_14 : decode cX12_likelyFrom 14 = .ok (.goto 4, 3) := by decide +kernel
theorem dX12_likelyFrom_17 : decode cX12_likelyFrom 17 = .ok (.iconst 0, 1) := by decide +kernel
theorem dX12_likelyFrom_18 : decode cX12_likelyFrom 18 = .ok (.ireturn, 1) := by decide +kernel
theorem dX12_likelyFrom_19 : decode cX12_likelyFrom 19 = .ok (.aload_n 0, 1) := by decide +kernel
theorem dX12_likelyFrom_20 : decode cX12_likelyFrom 20 = .ok (.iload_n 1, 1) := by decide +kernel
theorem dX12_likelyFrom_21 : decode cX12_likelyFrom 21 = .ok (.invokevirtual 321, 3) := by decide +kernel
theorem dX12_likelyFrom_24 : decode cX12_likelyFrom 24 = .ok (.istore_n 3, 1) := by decide +kernel
theorem dX12_likelyFrom_25 : decode cX12_likelyFrom 25 = .ok (.aload_n 0, 1) := by decide +kernel
theorem dX12_likelyFrom_26 : decode cX12_likelyFrom 26 = .ok (.getfield 28, 3) := by decide +kernel
theorem dX12_likelyFrom_29 : decode cX12_likelyFrom 29 = .ok (.aload_n 0, 1) := by decide +kernel
theorem dX12_likelyFrom_30 : decode cX12_likelyFrom 30 = .ok (.getfield 237, 3) := by decide +kernel
theorem dX12_likelyFrom_33 : decode cX12_likelyFrom 33 = .ok (.iaload, 1) := by decide +kernel
theorem dX12_likelyFrom_34 : decode cX12_likelyFrom 34 = .ok (.istore 4, 2) := by decide +kernel
theorem dX12_likelyFrom_36 : decode cX12_likelyFrom 36 = .ok (.aload_n 0, 1) := by decide +kernel
theorem dX12_likelyFrom_37 : decode cX12_likelyFrom 37 = .ok (.iload_n 3, 1) := by decide +kernel
theorem dX12_likelyFrom_38 : decode cX12_likelyFrom 38 = .ok (.iload 4, 2) := by decide +kernel
theorem dX12_likelyFrom_40 : decode cX12_likelyFrom 40 = .ok (.invokevirtual 259, 3) := by decide +kernel
theorem dX12_likelyFrom_43 : decode cX12_likelyFrom 43 = .ok (.istore 5, 2) := by decide +kernel
theorem dX12_likelyFrom_45 : decode cX12_likelyFrom 45 = .ok (.iload_n 2, 1) := by decide +kernel
theorem dX12_likelyFrom_46 : decode cX12_likelyFrom 46 = .ok (.aload_n 0, 1) := by decide +kernel
theorem dX12_likelyFrom_47 : decode cX12_likelyFrom 47 = .ok (.iload_n 3, 1) := by decide +kernel
theorem dX12_likelyFrom_48 : decode cX12_likelyFrom 48 = .ok (.iload 4, 2) := by decide +kernel
theorem dX12_likelyFrom_50 : decode cX12_likelyFrom 50 = .ok (.invokevirtual 262, 3) := by decide +kernel
theorem dX12_likelyFrom_53 : decode cX12_likelyFrom 53 = .ok (.isub, 1) := by decide +kernel
theorem dX12_likelyFrom_54 : decode cX12_likelyFrom 54 = .ok (.istore 6, 2) := by decide +kernel
theorem dX12_likelyFrom_56 : decode cX12_likelyFrom 56 = .ok (.aload_n 0, 1) := by decide +kernel
theorem dX12_likelyFrom_57 : decode cX12_likelyFrom 57 = .ok (.iload_n 3, 1) := by decide +kernel
theorem dX12_likelyFrom_58 : decode cX12_likelyFrom 58 = .ok (.iconst 1, 1) := by decide +kernel
theorem dX12_likelyFrom_59 : decode cX12_likelyFrom 59 = .ok (.invokevirtual 296, 3) := by decide +kernel
theorem dX12_likelyFrom_62 : decode cX12_likelyFrom 62 = .ok (.istore 7, 2) := by decide +kernel
theorem dX12_likelyFrom_64 : decode cX12_likelyFrom 64 = .ok (.aload_n 0, 1) := by decide +kernel
theorem dX12_likelyFrom_65 : decode cX12_likelyFrom 65 = .ok (.iload_n 1, 1) := by decide +kernel
theorem dX12_likelyFrom_66 : decode cX12_likelyFrom 66 = .ok (.iload 6, 2) := by decide +kernel
theorem dX12_likelyFrom_68 : decode cX12_likelyFrom 68 = .ok (.invokevirtual 328, 3) := by decide +kernel
theorem dX12_likelyFrom_71 : decode cX12_likelyFrom 71 = .ok (.istore 8, 2) := by decide +kernel
theorem dX12_likelyFrom_73 : decode cX12_likelyFrom 73 = .ok (.aload_n 0, 1) := by decide +kernel
theorem dX12_likelyFrom_74 : decode cX12_likelyFrom 74 = .ok (.iload_n 3, 1) := by decide +kernel
theorem dX12_likelyFrom_75 : decode cX12_likelyFrom 75 = .ok (.iconst 1, 1) := by decide +kernel
theorem dX12_likelyFrom_76 : decode cX12_likelyFrom 76 = .ok (.iload 7, 2) := by decide +kernel
theorem dX12_likelyFrom_78 : decode cX12_likelyFrom 78 = .ok (.invokevirtual 300, 3) := by decide +kernel
theorem dX12_likelyFrom_81 : decode cX12_likelyFrom 81 = .ok (.aload_n 0, 1) := by decide +kernel
theorem dX12_likelyFrom_82 : decode cX12_likelyFrom 82 = .ok (.iload_n 3, 1) := by decide +kernel
theorem dX12_likelyFrom_83 : decode cX12_likelyFrom 83 = .ok (.iconst 0, 1) := by decide +kernel
theorem dX12_likelyFrom_84 : decode cX12_likelyFrom 84 = .ok (.invokevirtual 296, 3) := by decide +kernel
theorem dX12_likelyFrom_87 : decode cX12_likelyFrom 87 = .ok (.istore 7, 2) := by decide +kernel
theorem dX12_likelyFrom_89 : decode cX12_likelyFrom 89 = .ok (.aload_n 0, 1) := by decide +kernel
theorem dX12_likelyFrom_90 : decode cX12_likelyFrom 90 = .ok (.iload_n 1, 1) := by decide +kernel
theorem dX12_likelyFrom_91 : decode cX12_likelyFrom 91 = .ok (.iload 6, 2) := by decide +kernel
theorem dX12_likelyFrom_93 : decode cX12_likelyFrom 93 = .ok (.invokevirtual 328, 3) := by decide +kernel
theorem dX12_likelyFrom_96 : decode cX12_likelyFrom 96 = .ok (.istore 9, 2) := by decide +kernel
theorem dX12_likelyFrom_98 : decode cX12_likelyFrom 98 = .ok (.aload_n 0, 1) := by decide +kernel
theorem dX12_likelyFrom_99 : decode cX12_likelyFrom 99 = .ok (.iload_n 3, 1) := by decide +kernel
theorem dX12_likelyFrom_100 : decode cX12_likelyFrom 100 = .ok (.iconst 0, 1) := by decide +kernel
theorem dX12_likelyFrom_101 : decode cX12_likelyFrom 101 = .ok (.iload 7, 2) := by decide +kernel
theorem dX12_likelyFrom_103 : decode cX12_likelyFrom 103 = .ok (.invokevirtual 300, 3) := by decide +kernel
theorem dX12_likelyFrom_106 : decode cX12_likelyFrom 106 = .ok (.iload 6, 2) := by decide +kernel
theorem dX12_likelyFrom_108 : decode cX12_likelyFrom 108 = .ok (.ifCond .le 9, 3) := by decide +kernel
theorem dX12_likelyFrom_111 : decode cX12_likelyFrom 111 = .ok (.ldc_w 327, 3) := by decide +kernel
theorem dX12_likelyFrom_114 : decode cX12_likelyFrom 114 = .ok (.goto 4, 3) := by decide +kernel
theorem dX12_likelyFrom_117 : decode cX12_likelyFrom 117 = .ok (.iconst 0, 1) := by decide +kernel
theorem dX12_likelyFrom_118 : decode cX12_likelyFrom 118 = .ok (.iload 8, 2) := by decide +kernel
theorem dX12_likelyFrom_120 : decode cX12_likelyFrom 120 = .ok (.iload 9, 2) := by decide +kernel
theorem dX12_likelyFrom_122 : decode cX12_likelyFrom 122 = .ok (.iload 5, 2) := by decide +kernel
theorem dX12_likelyFrom_124 : decode cX12_likelyFrom 124 = .ok (.invokestatic 304, 3) := by decide +kernel
theorem dX12_likelyFrom_127 : decode cX12_likelyFrom 127 = .ok (.aload_n 0, 1) := by decide +kernel
theorem dX12_likelyFrom_128 : decode cX12_likelyFrom 128 = .ok (.getfield 231, 3) := by decide +kernel
theorem dX12_likelyFrom_131 : decode cX12_likelyFrom 131 = .ok (.invokestatic 304, 3) := by decide +kernel
theorem dX12_likelyFrom_134 : decode cX12_likelyFrom 134 = .ok (.ireturn, 1) := by decide +kernel
theorem dX12_isBig_0 : decode cX12_isBig 0 = .ok (.aload_n 0, 1) := by decide +kernel
theorem dX12_isBig_1 : decode cX12_isBig 1 = .ok (.getfield 124, 3) := by decide +kernel
theorem dX12_isBig_4 : decode cX12_isBig 4 = .ok (.aload_n 0, 1) := by decide +kernel
theorem dX12_isBig_5 : decode cX12_isBig 5 = .ok (.getfield 240, 3) := by decide +kernel
theorem dX12_isBig_8 : decode cX12_isBig 8 = .ok (.isub, 1) := by decide +kernel
theorem dX12_isBig_9 : decode cX12_isBig 9 = .ok (.bipush 8, 2) := by decide +kernel
theorem dX12_isBig_11 : decode cX12_isBig 11 = .ok (.if_icmp .le 7, 3) := by decide +kernel
theorem dX12_isBig_14 : decode cX12_isBig 14 = .ok (.iconst 1, 1) := by decide +kernel
theorem dX12_isBig_15 : decode cX12_isBig 15 = .ok (.goto 4, 3) := by decide +kernel
theorem dX12_isBig_18 : decode cX12_isBig 18 = .ok (.iconst 0, 1) := by decide +kernel
theorem dX12_isBig_19 : decode cX12_isBig 19 = .ok (.ireturn, 1) := by decide +kernel
theorem dX12_puts_0 : decode cX12_puts 0 = .ok (.aload_n 0, 1) := by decide +kernel
theorem dX12_puts_1 : decode cX12_puts 1 = .ok (.iload_n 1, 1) := by decide +kernel
theorem dX12_puts_2 : decode cX12_puts 2 = .ok (.invokevirtual 331, 3) := by decide +kernel
theorem dX12_puts_5 : decode cX12_puts 5 = .ok (.ifCond .ne 5, 3) := by decide +kernel
theorem dX12_puts_8 : decode cX12_puts 8 = .ok (.iconst (-1), 1) := by decide +kernel
theorem dX12_puts_9 : decode cX12_puts 9 = .ok (.ireturn, 1) := by decide +kernel
theorem dX12_puts_10 : decode cX12_puts 10 = .ok (.aload_n 0, 1) := by decide +kernel
theorem dX12_puts_11 : decode cX12_puts 11 = .ok (.aload_n 0, 1) := by decide +kernel
theorem dX12_puts_12 : decode cX12_puts 12 = .ok (.getfield 234, 3) := by decide +kernel
theorem dX12_puts_15 : decode cX12_puts 15 = .ok (.invokevirtual 334, 3) := by decide +kernel
theorem dX12_puts_18 : decode cX12_puts 18 = .ok (.aload_n 0, 1) := by decide +kernel
theorem dX12_puts_19 : decode cX12_puts 19 = .ok (.getfield 59, 3) := by decide +kernel
theorem dX12_puts_22 : decode cX12_puts 22 = .ok (.iload_n 1, 1) := by decide +kernel
theorem dX12_puts_23 : decode cX12_puts 23 = .ok (.iaload, 1) := by decide +kernel
theorem dX12_puts_24 : decode cX12_puts 24 = .ok (.iconst 2, 1) := by decide +kernel
theorem dX12_puts_25 : decode cX12_puts 25 = .ok (.if_icmp .ne 13, 3) := by decide +kernel
theorem dX12_puts_28 : decode cX12_puts 28 = .ok (.aload_n 0, 1) := by decide +kernel
theorem dX12_puts_29 : decode cX12_puts 29 = .ok (.invokevirtual 338, 3) := by decide +kernel
theorem dX12_puts_32 : decode cX12_puts 32 = .ok (.ifCond .eq 6, 3) := by decide +kernel
theorem dX12_puts_35 : decode cX12_puts 35 = .ok (.bipush (-4), 2) := by decide +kernel
theorem dX12_puts_37 : decode cX12_puts 37 = .ok (.ireturn, 1) := by decide +kernel
theorem dX12_puts_38 : decode cX12_puts 38 = .ok (.aload_n 0, 1) := by decide +kernel
theorem dX12_puts_39 : decode cX12_puts 39 = .ok (.invokevirtual 307, 3) := by decide +kernel
theorem dX12_puts_42 : decode cX12_puts 42 = .ok (.ifCond .eq 6, 3) := by decide +kernel
theorem dX12_puts_45 : decode cX12_puts 45 = .ok (.bipush (-2), 2) := by decide +kernel
theorem dX12_puts_47 : decode cX12_puts 47 = .ok (.ireturn, 1) := by decide +kernel
theorem dX12_puts_48 : decode cX12_puts 48 = .ok (.aload_n 0, 1) := by decide +kernel
theorem dX12_puts_49 : decode cX12_puts 49 = .ok (.invokevirtual 341, 3) := by decide +kernel
theorem dX12_puts_52 : decode cX12_puts 52 = .ok (.aload_n 0, 1) := by decide +kernel
theorem dX12_puts_53 : decode cX12_puts 53 = .ok (.iload_n 1, 1) := by decide +kernel
theorem dX12_puts_54 : decode cX12_puts 54 = .ok (.invokevirtual 321, 3) := by decide +kernel
theorem dX12_puts_57 : decode cX12_puts 57 = .ok (.ireturn, 1) := by decide +kernel
theorem dX12_mean_0 : decode cX12_mean 0 = .ok (.aload_n 0, 1) := by decide +kernel
theorem dX12_mean_1 : decode cX12_mean 1 = .ok (.iload_n 1, 1) := by decide +kernel
theorem dX12_mean_2 : decode cX12_mean 2 = .ok (.invokevirtual 331, 3) := by decide +kernel
theorem dX12_mean_5 : decode cX12_mean 5 = .ok (.ifCond .ne 5, 3) := by decide +kernel
theorem dX12_mean_8 : decode cX12_mean 8 = .ok (.iconst (-1), 1) := by decide +kernel
theorem dX12_mean_9 : decode cX12_mean 9 = .ok (.ireturn, 1) := by decide +kernel
theorem dX12_mean_10 : decode cX12_mean 10 = .ok (.aload_n 0, 1) := by decide +kernel
theorem dX12_mean_11 : decode cX12_mean 11 = .ok (.getfield 124, 3) := by decide +kernel
theorem dX12_mean_14 : decode cX12_mean 14 = .ok (.bipush 8, 2) := by decide +kernel
theorem dX12_mean_16 : decode cX12_mean 16 = .ok (.if_icmp .le 6, 3) := by decide +kernel
theorem dX12_mean_19 : decode cX12_mean 19 = .ok (.bipush (-4), 2) := by decide +kernel
theorem dX12_mean_21 : decode cX12_mean 21 = .ok (.ireturn, 1) := by decide +kernel
theorem dX12_mean_22 : decode cX12_mean 22 = .ok (.aload_n 0, 1) := by decide +kernel
theorem dX12_mean_23 : decode cX12_mean 23 = .ok (.invokevirtual 256, 3) := by decide +kernel
theorem dX12_mean_26 : decode cX12_mean 26 = .ok (.aload_n 0, 1) := by decide +kernel
theorem dX12_mean_27 : decode cX12_mean 27 = .ok (.invokevirtual 341, 3) := by decide +kernel
theorem dX12_mean_30 : decode cX12_mean 30 = .ok (.aload_n 0, 1) := by decide +kernel
theorem dX12_mean_31 : decode cX12_mean 31 = .ok (.iload_n 1, 1) := by decide +kernel
theorem dX12_mean_32 : decode cX12_mean 32 = .ok (.invokevirtual 324, 3) := by decide +kernel
theorem dX12_mean_35 : decode cX12_mean 35 = .ok (.ireturn, 1) := by decide +kernel
theorem dX12_likely_0 : decode cX12_likely 0 = .ok (.aload_n 0, 1) := by decide +kernel
theorem dX12_likely_1 : decode cX12_likely 1 = .ok (.iload_n 1, 1) := by decide +kernel
theorem dX12_likely_2 : decode cX12_likely 2 = .ok (.invokevirtual 331, 3) := by decide +kernel
theorem dX12_likely_5 : decode cX12_likely 5 = .ok (.ifCond .eq 15, 3) := by decide +kernel
theorem dX12_likely_8 : decode cX12_likely 8 = .ok (.iload_n 2, 1) := by decide +kernel
theorem dX12_likely_9 : decode cX12_likely 9 = .ok (.i2l, 1) := by decide +kernel
theorem dX12_likely_10 : decode cX12_likely 10 = .ok (.lconst 0, 1) := by decide +kernel
theorem dX12_likely_11 : decode cX12_likely 11 = .ok (.ldc2_w 344, 3) := by decide +kernel
theorem dX12_likely_14 : decode cX12_likely 14 = .ok (.invokestatic 136, 3) := by decide +kernel
theorem dX12_likely_17 : decode cX12_likely 17 = .ok (.ifCond .ne 5, 3) := by decide +kernel
theorem dX12_likely_20 : decode cX12_likely 20 = .ok (.iconst (-1), 1) := by decide +kernel
theorem dX12_likely_21 : decode cX12_likely 21 = .ok (.ireturn, 1) := by decide +kernel
theorem dX12_likely_22 : decode cX12_likely 22 = .ok (.aload_n 0, 1) := by decide +kernel
theorem dX12_likely_23 : decode cX12_likely 23 = .ok (.getfield 124, 3) := by decide +kernel
theorem dX12_likely_26 : decode cX12_likely 26 = .ok (.bipush 8, 2) := by decide +kernel
theorem dX12_likely_28 : decode cX12_likely 28 = .ok (.if_icmp .le 6, 3) := by decide +kernel
theorem dX12_likely_31 : decode cX12_likely 31 = .ok (.bipush (-4), 2) := by decide +kernel
theorem dX12_likely_33 : decode cX12_likely 33 = .ok (.ireturn, 1) := by decide +kernel
theorem dX12_likely_34 : decode cX12_likely 34 = .ok (.aload_n 0, 1) := by decide +kernel
theorem dX12_likely_35 : decode cX12_likely 35 = .ok (.invokevirtual 256, 3) := by decide +kernel
theorem dX12_likely_38 : decode cX12_likely 38 = .ok (.aload_n 0, 1) := by decide +kernel
theorem dX12_likely_39 : decode cX12_likely 39 = .ok (.invokevirtual 341, 3) := by decide +kernel
theorem dX12_likely_42 : decode cX12_likely 42 = .ok (.aload_n 0, 1) := by decide +kernel
theorem dX12_likely_43 : decode cX12_likely 43 = .ok (.iload_n 1, 1) := by decide +kernel
theorem dX12_likely_44 : decode cX12_likely 44 = .ok (.iload_n 2, 1) := by decide +kernel
theorem dX12_likely_45 : decode cX12_likely 45 = .ok (.invokevirtual 328, 3) := by decide +kernel
theorem dX12_likely_48 : decode cX12_likely 48 = .ok (.ireturn, 1) := by decide +kernel
theorem dX12_best_0 : decode cX12_best 0 = .ok (.iload_n 1, 1) := by decide +kernel
theorem dX12_best_1 : decode cX12_best 1 = .ok (.i2l, 1) := by decide +kernel
theorem dX12_best_2 : decode cX12_best 2 = .ok (.lconst 0, 1) := by decide +kernel
theorem dX12_best_3 : decode cX12_best 3 = .ok (.lconst 1, 1) := by decide +kernel
theorem dX12_best_4 : decode cX12_best 4 = .ok (.invokestatic 136, 3) := by decide +kernel
theorem dX12_best_7 : decode cX12_best 7 = .ok (.ifCond .ne 5, 3) := by decide +kernel
theorem dX12_best_10 : decode cX12_best 10 = .ok (.iconst (-1), 1) := by decide +kernel
theorem dX12_best_11 : decode cX12_best 11 = .ok (.ireturn, 1) := by decide +kernel
theorem dX12_best_12 : decode cX12_best 12 = .ok (.aload_n 0, 1) := by decide +kernel
theorem dX12_best_13 : decode cX12_best 13 = .ok (.aload_n 0, 1) := by decide +kernel
theorem dX12_best_14 : decode cX12_best 14 = .ok (.getfield 234, 3) := by decide +kernel
theorem dX12_best_17 : decode cX12_best 17 = .ok (.invokevirtual 334, 3) := by decide +kernel
theorem dX12_best_20 : decode cX12_best 20 = .ok (.aload_n 0, 1) := by decide +kernel
theorem dX12_best_21 : decode cX12_best 21 = .ok (.invokevirtual 338, 3) := by decide +kernel
theorem dX12_best_24 : decode cX12_best 24 = .ok (.ifCond .eq 6, 3) := by decide +kernel
theorem dX12_best_27 : decode cX12_best 27 = .ok (.bipush (-4), 2) := by decide +kernel
theorem dX12_best_29 : decode cX12_best 29 = .ok (.ireturn, 1) := by decide +kernel
theorem dX12_best_30 : decode cX12_best 30 = .ok (.aload_n 0, 1) := by decide +kernel
theorem dX12_best_31 : decode cX12_best 31 = .ok (.invokevirtual 341, 3) := by decide +kernel
theorem dX12_best_34 : decode cX12_best 34 = .ok (.aload_n 0, 1) := by decide +kernel
theorem dX12_best_35 : decode cX12_best 35 = .ok (.invokevirtual 280, 3) := by decide +kernel
theorem dX12_best_38 : decode cX12_best 38 = .ok (.istore_n 2, 1) := by decide +kernel
theorem dX12_best_39 : decode cX12_best 39 = .ok (.iload_n 1, 1) := by decide +kernel
theorem dX12_best_40 : decode cX12_best 40 = .ok (.ifCond .ne 7, 3) := by decide +kernel
theorem dX12_best_43 : decode cX12_best 43 = .ok (.iload_n 2, 1) := by decide +kernel
theorem dX12_best_44 : decode cX12_best 44 = .ok (.goto 7, 3) := by decide +kernel
theorem dX12_best_47 : decode cX12_best 47 = .ok (.aload_n 0, 1) := by decide +kernel
theorem dX12_best_48 : decode cX12_best 48 = .ok (.getfield 283, 3) := by decide +kernel
theorem dX12_best_51 : decode cX12_best 51 = .ok (.ireturn, 1) := by decide +kernel
theorem dX12_bestNow_0 : decode cX12_bestNow 0 = .ok (.aload_n 0, 1) := by decide +kernel
theorem dX12_bestNow_1 : decode cX12_bestNow 1 = .ok (.invokevirtual 256, 3) := by decide +kernel
theorem dX12_bestNow_4 : decode cX12_bestNow 4 = .ok (.aload_n 0, 1) := by decide +kernel
theorem dX12_bestNow_5 : decode cX12_bestNow 5 = .ok (.invokevirtual 341, 3) := by decide +kernel
theorem dX12_bestNow_8 : decode cX12_bestNow 8 = .ok (.aload_n 0, 1) := by decide +kernel
theorem dX12_bestNow_9 : decode cX12_bestNow 9 = .ok (.invokevirtual 280, 3) := by decide +kernel
theorem dX12_bestNow_12 : decode cX12_bestNow 12 = .ok (.ireturn, 1) := by decide +kernel
theorem dX12_worth_0 : decode cX12_worth 0 = .ok (.aload_n 0, 1) := by decide +kernel
theorem dX12_worth_1 : decode cX12_worth 1 = .ok (.iload_n 1, 1) := by decide +kernel
theorem dX12_worth_2 : decode cX12_worth 2 = .ok (.invokevirtual 146, 3) := by decide +kernel
theorem dX12_worth_5 : decode cX12_worth 5 = .ok (.ifCond .eq 22, 3) := by decide +kernel
theorem dX12_worth_8 : decode cX12_worth 8 = .ok (.iload_n 2, 1) := by decide +kernel
theorem dX12_worth_9 : decode cX12_worth 9 = .ok (.i2l, 1) := by decide +kernel
theorem dX12_worth_10 : decode cX12_worth 10 = .ok (.lconst 0, 1) := by decide +kernel
theorem dX12_worth_11 : decode cX12_worth 11 = .ok (.lconst 1, 1) := by decide +kernel
theorem dX12_worth_12 : decode cX12_worth 12 = .ok (.invokestatic 136, 3) := by decide +kernel
theorem dX12_worth_15 : decode cX12_worth 15 = .ok (.ifCond .eq 12, 3) := by decide +kernel
theorem dX12_worth_18 : decode cX12_worth 18 = .ok (.aload_n 0, 1) := by decide +kernel
theorem dX12_worth_19 : decode cX12_worth 19 = .ok (.getfield 124, 3) := by decide +kernel
theorem dX12_worth_22 : decode cX12_worth 22 = .ok (.bipush 8, 2) := by decide +kernel
theorem dX12_worth_24 : decode cX12_worth 24 = .ok (.if_icmp .le 6, 3) := by decide +kernel
theorem dX12_worth_27 : decode cX12_worth 27 = .ok (.ldc 152, 2) := by decide +kernel
theorem dX12_worth_29 : decode cX12_worth 29 = .ok (.ireturn, 1) := by decide +kernel
theorem dX12_worth_30 : decode cX12_worth 30 = .ok (.aload_n 0, 1) := by decide +kernel
theorem dX12_worth_31 : decode cX12_worth 31 = .ok (.invokevirtual 346, 3) := by decide +kernel
theorem dX12_worth_34 : decode cX12_worth 34 = .ok (.istore_n 3, 1) := by decide +kernel
theorem dX12_worth_35 : decode cX12_worth 35 = .ok (.iload_n 2, 1) := by decide +kernel
theorem dX12_worth_36 : decode cX12_worth 36 = .ok (.ifCond .ne 11, 3) := by decide +kernel
theorem dX12_worth_39 : decode cX12_worth 39 = .ok (.aload_n 0, 1) := by decide +kernel
theorem dX12_worth_40 : decode cX12_worth 40 = .ok (.iload_n 1, 1) := by decide +kernel
theorem dX12_worth_41 : decode cX12_worth 41 = .ok (.putfield 52, 3) := by decide +kernel
theorem dX12_worth_44 : decode cX12_worth 44 = .ok (.goto 8, 3) := by decide +kernel
theorem dX12_worth_47 : decode cX12_worth 47 = .ok (.aload_n 0, 1) := by decide +kernel
theorem dX12_worth_48 : decode cX12_worth 48 = .ok (.iload_n 1, 1) := by decide +kernel
theorem dX12_worth_49 : decode cX12_worth 49 = .ok (.putfield 56, 3) := by decide +kernel
theorem dX12_worth_52 : decode cX12_worth 52 = .ok (.aload_n 0, 1) := by decide +kernel
theorem dX12_worth_53 : decode cX12_worth 53 = .ok (.invokevirtual 346, 3) := by decide +kernel
theorem dX12_worth_56 : decode cX12_worth 56 = .ok (.istore 4, 2) := by decide +kernel
theorem dX12_worth_58 : decode cX12_worth 58 = .ok (.aload_n 0, 1) := by decide +kernel
theorem dX12_worth_59 : decode cX12_worth 59 = .ok (.iconst (-1), 1) := by decide +kernel
theorem dX12_worth_60 : decode cX12_worth 60 = .ok (.putfield 52, 3) := by decide +kernel
theorem dX12_worth_63 : decode cX12_worth 63 = .ok (.aload_n 0, 1) := by decide +kernel
theorem dX12_worth_64 : decode cX12_worth 64 = .ok (.iconst (-1), 1) := by decide +kernel
theorem dX12_worth_65 : decode cX12_worth 65 = .ok (.putfield 56, 3) := by decide +kernel
theorem dX12_worth_68 : decode cX12_worth 68 = .ok (.iload_n 2, 1) := by decide +kernel
theorem dX12_worth_69 : decode cX12_worth 69 = .ok (.ifCond .ne 10, 3) := by decide +kernel
theorem dX12_worth_72 : decode cX12_worth 72 = .ok (.iload 4, 2) := by decide +kernel
theorem dX12_worth_74 : decode cX12_worth 74 = .ok (.iload_n 3, 1) := by decide +kernel
theorem dX12_worth_75 : decode cX12_worth 75 = .ok (.isub, 1) := by decide +kernel
theorem dX12_worth_76 : decode cX12_worth 76 = .ok (.goto 7, 3) := by decide +kernel
theorem dX12_worth_79 : decode cX12_worth 79 = .ok (.iload_n 3, 1) := by decide +kernel
theorem dX12_worth_80 : decode cX12_worth 80 = .ok (.iload 4, 2) := by decide +kernel
theorem dX12_worth_82 : decode cX12_worth 82 = .ok (.isub, 1) := by decide +kernel
theorem dX12_worth_83 : decode cX12_worth 83 = .ok (.ireturn, 1) := by decide +kernel
theorem dX12_fielded_0 : decode cX12_fielded 0 = .ok (.iload_n 2, 1) := by decide +kernel
theorem dX12_fielded_1 : decode cX12_fielded 1 = .ok (.i2l, 1) := by decide +kernel
theorem dX12_fielded_2 : decode cX12_fielded 2 = .ok (.lconst 0, 1) := by decide +kernel
theorem dX12_fielded_3 : decode cX12_fielded 3 = .ok (.lconst 1, 1) := by decide +kernel
theorem dX12_fielded_4 : decode cX12_fielded 4 = .ok (.invokestatic 136, 3) := by decide +kernel
theorem dX12_fielded_7 : decode cX12_fielded 7 = .ok (.ifCond .eq 19, 3) := by decide +kernel
theorem dX12_fielded_10 : decode cX12_fielded 10 = .ok (.iload_n 2, 1) := by decide +kernel
theorem dX12_fielded_11 : decode cX12_fielded 11 = .ok (.ifCond .ne 17, 3) := by decide +kernel
theorem dX12_fielded_14 : decode cX12_fielded 14 = .ok (.iload_n 1, 1) := by decide +kernel
theorem dX12_fielded_15 : decode cX12_fielded 15 = .ok (.i2l, 1) := by decide +kernel
theorem dX12_fielded_16 : decode cX12_fielded 16 = .ok (.lconst 0, 1) := by decide +kernel
theorem dX12_fielded_17 : decode cX12_fielded 17 = .ok (.ldc2_w 167, 3) := by decide +kernel
theorem dX12_fielded_20 : decode cX12_fielded 20 = .ok (.invokestatic 136, 3) := by decide +kernel
theorem dX12_fielded_23 : decode cX12_fielded 23 = .ok (.ifCond .ne 5, 3) := by decide +kernel
theorem dX12_fielded_26 : decode cX12_fielded 26 = .ok (.iconst (-1), 1) := by decide +kernel
theorem dX12_fielded_27 : decode cX12_fielded 27 = .ok (.ireturn, 1) := by decide +kernel
theorem dX12_fielded_28 : decode cX12_fielded 28 = .ok (.aload_n 0, 1) := by decide +kernel
theorem dX12_fielded_29 : decode cX12_fielded 29 = .ok (.getfield 124, 3) := by decide +kernel
theorem dX12_fielded_32 : decode cX12_fielded 32 = .ok (.bipush 8, 2) := by decide +kernel
theorem dX12_fielded_34 : decode cX12_fielded 34 = .ok (.if_icmp .le 6, 3) := by decide +kernel
theorem dX12_fielded_37 : decode cX12_fielded 37 = .ok (.bipush (-4), 2) := by decide +kernel
theorem dX12_fielded_39 : decode cX12_fielded 39 = .ok (.ireturn, 1) := by decide +kernel
theorem dX12_fielded_40 : decode cX12_fielded 40 = .ok (.aload_n 0, 1) := by decide +kernel
theorem dX12_fielded_41 : decode cX12_fielded 41 = .ok (.getfield 169, 3) := by decide +kernel
theorem dX12_fielded_44 : decode cX12_fielded 44 = .ok (.istore_n 3, 1) := by decide +kernel
theorem dX12_fielded_45 : decode cX12_fielded 45 = .ok (.iconst 0, 1) := by decide +kernel
theorem dX12_fielded_46 : decode cX12_fielded 46 = .ok (.istore 4, 2) := by decide +kernel
theorem dX12_fielded_48 : decode cX12_fielded 48 = .ok (.ldc_w 317, 3) := by decide +kernel
theorem dX12_fielded_51 : decode cX12_fielded 51 = .ok (.istore 5, 2) := by decide +kernel
theorem dX12_fielded_53 : decode cX12_fielded 53 = .ok (.iconst 0, 1) := by decide +kernel
theorem dX12_fielded_54 : decode cX12_fielded 54 = .ok (.istore 6, 2) := by decide +kernel
theorem dX12_fielded_56 : decode cX12_fielded 56 = .ok (.iconst 0, 1) := by decide +kernel
theorem dX12_fielded_57 : decode cX12_fielded 57 = .ok (.istore 7, 2) := by decide +kernel
theorem dX12_fielded_59 : decode cX12_fielded 59 = .ok (.iload 7, 2) := by decide +kernel
theorem dX12_fielded_61 : decode cX12_fielded 61 = .ok (.iconst 4, 1) := by decide +kernel
theorem dX12_fielded_62 : decode cX12_fielded 62 = .ok (.if_icmp .ge 67, 3) := by decide +kernel
theorem dX12_fielded_65 : decode cX12_fielded 65 = .ok (.aload_n 0, 1) := by decide +kernel
theorem dX12_fielded_66 : decode cX12_fielded 66 = .ok (.iload 7, 2) := by decide +kernel
theorem dX12_fielded_68 : decode cX12_fielded 68 = .ok (.putfield 169, 3) := by decide +kernel
theorem dX12_fielded_71 : decode cX12_fielded 71 = .ok (.iload_n 2, 1) := by decide +kernel
theorem dX12_fielded_72 : decode cX12_fielded 72 = .ok (.ifCond .ne 15, 3) := by decide +kernel
theorem dX12_fielded_75 : decode cX12_fielded 75 = .ok (.iload 7, 2) := by decide +kernel
theorem dX12_fielded_77 : decode cX12_fielded 77 = .ok (.iload_n 1, 1) := by decide +kernel
theorem dX12_fielded_78 : decode cX12_fielded 78 = .ok (.if_icmp .eq 9, 3) := by decide +kernel
theorem dX12_fielded_81 : decode cX12_fielded 81 = .ok (.ldc_w 317, 3) := by decide +kernel
theorem dX12_fielded_84 : decode cX12_fielded 84 = .ok (.goto 7, 3) := by decide +kernel
theorem dX12_fielded_87 : decode cX12_fielded 87 = .ok (.aload_n 0, 1) := by decide +kernel
theorem dX12_fielded_88 : decode cX12_fielded 88 = .ok (.invokevirtual 346, 3) := by decide +kernel
theorem dX12_fielded_91 : decode cX12_fielded 91 = .ok (.istore 8, 2) := by decide +kernel
theorem dX12_fielded_93 : decode cX12_fielded 93 = .ok (.iload 7, 2) := by decide +kernel
theorem dX12_fielded_95 : decode cX12_fielded 95 = .ok (.iload_n 1, 1) := by decide +kernel
theorem dX12_fielded_96 : decode cX12_fielded 96 = .ok (.if_icmp .ne 8, 3) := by decide +kernel
theorem dX12_fielded_99 : decode cX12_fielded 99 = .ok (.iload 8, 2) := by decide +kernel
theorem dX12_fielded_101 : decode cX12_fielded 101 = .ok (.goto 5, 3) := by decide +kernel
theorem dX12_fielded_104 : decode cX12_fielded 104 = .ok (.iload 6, 2) := by decide +kernel
theorem dX12_fielded_106 : decode cX12_fielded 106 = .ok (.istore 6, 2) := by decide +kernel
theorem dX12_fielded_108 : decode cX12_fielded 108 = .ok (.iload 8, 2) := by decide +kernel
theorem dX12_fielded_110 : decode cX12_fielded 110 = .ok (.iload 5, 2) := by decide +kernel
theorem dX12_fielded_112 : decode cX12_fielded 112 = .ok (.if_icmp .ge 11, 3) := by decide +kernel
theorem dX12_fielded_115 : decode cX12_fielded 115 = .ok (.iload 7, 2) := by decide +kernel
theorem dX12_fielded_117 : decode cX12_fielded 117 = .ok (.istore 4, 2) := by decide +kernel
theorem dX12_fielded_119 : decode cX12_fielded 119 = .ok (.iload 8, 2) := by decide +kernel
theorem dX12_fielded_121 : decode cX12_fielded 121 = .ok (.istore 5, 2) := by decide +kernel
theorem dX12_fielded_123 : decode cX12_fielded 123 = .ok (.iinc 7 1, 3) := by decide +kernel
theorem dX12_fielded_126 : decode cX12_fielded 126 = .ok (.goto (-67), 3) := by decide +kernel
theorem dX12_fielded_129 : decode cX12_fielded 129 = .ok (.aload_n 0, 1) := by decide +kernel
theorem dX12_fielded_130 : decode cX12_fielded 130 = .ok (.iload_n 3, 1) := by decide +kernel
theorem dX12_fielded_131 : decode cX12_fielded 131 = .ok (.putfield 169, 3) := by decide +kernel
theorem dX12_fielded_134 : decode cX12_fielded 134 = .ok (.iload_n 2, 1) := by decide +kernel
theorem dX12_fielded_135 : decode cX12_fielded 135 = .ok (.ifCond .ne 8, 3) := by decide +kernel
theorem dX12_fielded_138 : decode cX12_fielded 138 = .ok (.iload 6, 2) := by decide +kernel
theorem dX12_fielded_140 : decode cX12_fielded 140 = .ok (.goto 5, 3) := by decide +kernel
theorem dX12_fielded_143 : decode cX12_fielded 143 = .ok (.iload 4, 2) := by decide +kernel
theorem dX12_fielded_145 : decode cX12_fielded 145 = .ok (.ireturn, 1) := by decide +kernel
theorem dX12_kept_0 : decode cX12_kept 0 = .ok (.aload_n 0, 1) := by decide +kernel
theorem dX12_kept_1 : decode cX12_kept 1 = .ok (.iload_n 1, 1) := by decide +kernel
theorem dX12_kept_2 : decode cX12_kept 2 = .ok (.invokevirtual 146, 3) := by decide +kernel
theorem dX12_kept_5 : decode cX12_kept 5 = .ok (.ifCond .ne 5, 3) := by decide +kernel
theorem dX12_kept_8 : decode cX12_kept 8 = .ok (.iconst (-1), 1) := by decide +kernel
theorem dX12_kept_9 : decode cX12_kept 9 = .ok (.ireturn, 1) := by decide +kernel
theorem dX12_kept_10 : decode cX12_kept 10 = .ok (.aload_n 0, 1) := by decide +kernel
theorem dX12_kept_11 : decode cX12_kept 11 = .ok (.getfield 124, 3) := by decide +kernel
theorem dX12_kept_14 : decode cX12_kept 14 = .ok (.bipush 8, 2) := by decide +kernel
theorem dX12_kept_16 : decode cX12_kept 16 = .ok (.if_icmp .le 6, 3) := by decide +kernel
theorem dX12_kept_19 : decode cX12_kept 19 = .ok (.bipush (-4), 2) := by decide +kernel
theorem dX12_kept_21 : decode cX12_kept 21 = .ok (.ireturn, 1) := by decide +kernel
theorem dX12_kept_22 : decode cX12_kept 22 = .ok (.aload_n 0, 1) := by decide +kernel
theorem dX12_kept_23 : decode cX12_kept 23 = .ok (.invokevirtual 256, 3) := by decide +kernel
theorem dX12_kept_26 : decode cX12_kept 26 = .ok (.aload_n 0, 1) := by decide +kernel
theorem dX12_kept_27 : decode cX12_kept 27 = .ok (.invokevirtual 341, 3) := by decide +kernel
theorem dX12_kept_30 : decode cX12_kept 30 = .ok (.aload_n 0, 1) := by decide +kernel
theorem dX12_kept_31 : decode cX12_kept 31 = .ok (.invokevirtual 307, 3) := by decide +kernel
theorem dX12_kept_34 : decode cX12_kept 34 = .ok (.ifCond .ne 34, 3) := by decide +kernel
theorem dX12_kept_37 : decode cX12_kept 37 = .ok (.aload_n 0, 1) := by decide +kernel
theorem dX12_kept_38 : decode cX12_kept 38 = .ok (.invokevirtual 280, 3) := by decide +kernel
theorem dX12_kept_41 : decode cX12_kept 41 = .ok (.istore_n 2, 1) := by decide +kernel
theorem dX12_kept_42 : decode cX12_kept 42 = .ok (.aload_n 0, 1) := by decide +kernel
theorem dX12_kept_43 : decode cX12_kept 43 = .ok (.getfield 283, 3) := by decide +kernel
theorem dX12_kept_46 : decode cX12_kept 46 = .ok (.iload_n 1, 1) := by decide +kernel
theorem dX12_kept_47 : decode cX12_kept 47 = .ok (.if_icmp .ne 8, 3) := by decide +kernel
theorem dX12_kept_50 : decode cX12_kept 50 = .ok (.aload_n 0, 1) := by decide +kernel
theorem dX12_kept_51 : decode cX12_kept 51 = .ok (.getfield 240, 3) := by decide +kernel
theorem dX12_kept_54 : decode cX12_kept 54 = .ok (.ireturn, 1) := by decide +kernel
theorem dX12_kept_55 : decode cX12_kept 55 = .ok (.aload_n 0, 1) := by decide +kernel
theorem dX12_kept_56 : decode cX12_kept 56 = .ok (.aload_n 0, 1) := by decide +kernel
theorem dX12_kept_57 : decode cX12_kept 57 = .ok (.getfield 283, 3) := by decide +kernel
theorem dX12_kept_60 : decode cX12_kept 60 = .ok (.iconst 0, 1) := by decide +kernel
theorem dX12_kept_61 : decode cX12_kept 61 = .ok (.invokevirtual 296, 3) := by decide +kernel
theorem dX12_kept_64 : decode cX12_kept 64 = .ok (.istore_n 3, 1) := by decide +kernel
theorem dX12_kept_65 : decode cX12_kept 65 = .ok (.goto (-35), 3) := by decide +kernel
theorem dX12_kept_68 : decode cX12_kept 68 = .ok (.bipush (-2), 2) := by decide +kernel
theorem dX12_kept_70 : decode cX12_kept 70 = .ok (.ireturn, 1) := by decide +kernel
theorem dX12_orders_0 : decode cX12_orders 0 = .ok (.iload_n 1, 1) := by decide +kernel
theorem dX12_orders_1 : decode cX12_orders 1 = .ok (.aload_n 0, 1) := by decide +kernel
theorem dX12_orders_2 : decode cX12_orders 2 = .ok (.getfield 121, 3) := by decide +kernel
theorem dX12_orders_5 : decode cX12_orders 5 = .ok (.if_icmp .ne 30, 3) := by decide +kernel
theorem dX12_orders_8 : decode cX12_orders 8 = .ok (.aload_n 0, 1) := by decide +kernel
theorem dX12_orders_9 : decode cX12_orders 9 = .ok (.invokevirtual 346, 3) := by decide +kernel
theorem dX12_orders_12 : decode cX12_orders 12 = .ok (.istore 4, 2) := by decide +kernel
theorem dX12_orders_14 : decode cX12_orders 14 = .ok (.iload 4, 2) := by decide +kernel
theorem dX12_orders_16 : decode cX12_orders 16 = .ok (.aload_n 0, 1) := by decide +kernel
theorem dX12_orders_17 : decode cX12_orders 17 = .ok (.getfield 349, 3) := by decide +kernel
theorem dX12_orders_20 : decode cX12_orders 20 = .ok (.if_icmp .le 14, 3) := by decide +kernel
theorem dX12_orders_23 : decode cX12_orders 23 = .ok (.aload_n 0, 1) := by decide +kernel
theorem dX12_orders_24 : decode cX12_orders 24 = .ok (.iload 4, 2) := by decide +kernel
theorem dX12_orders_26 : decode cX12_orders 26 = .ok (.putfield 349, 3) := by decide +kernel
theorem dX12_orders_29 : decode cX12_orders 29 = .ok (.aload_n 0, 1) := by decide +kernel
theorem dX12_orders_30 : decode cX12_orders 30 = .ok (.iload_n 3, 1) := by decide +kernel
theorem dX12_orders_31 : decode cX12_orders 31 = .ok (.putfield 352, 3) := by decide +kernel
theorem dX12_orders_34 : decode cX12_orders 34 = .ok (.return_, 1) := by decide +kernel
theorem dX12_orders_35 : decode cX12_orders 35 = .ok (.iconst 0, 1) := by decide +kernel
theorem dX12_orders_36 : decode cX12_orders 36 = .ok (.istore 4, 2) := by decide +kernel
theorem dX12_orders_38 : decode cX12_orders 38 = .ok (.iload 4, 2) := by decide +kernel
theorem dX12_orders_40 : decode cX12_orders 40 = .ok (.iconst 4, 1) := by decide +kernel
theorem dX12_orders_41 : decode cX12_orders 41 = .ok (.if_icmp .ge 86, 3) := by decide +kernel
theorem dX12_orders_44 : decode cX12_orders 44 = .ok (.iconst 0, 1) := by decide +kernel
theorem dX12_orders_45 : decode cX12_orders 45 = .ok (.istore 5, 2) := by decide +kernel
theorem dX12_orders_47 : decode cX12_orders 47 = .ok (.iload 5, 2) := by decide +kernel
theorem dX12_orders_49 : decode cX12_orders 49 = .ok (.aload_n 0, 1) := by decide +kernel
theorem dX12_orders_50 : decode cX12_orders 50 = .ok (.getfield 121, 3) := by decide +kernel
theorem dX12_orders_53 : decode cX12_orders 53 = .ok (.if_icmp .ge 31, 3) := by decide +kernel
theorem dX12_orders_56 : decode cX12_orders 56 = .ok (.iload_n 2, 1) := by decide +kernel
theorem dX12_orders_57 : decode cX12_orders 57 = .ok (.iload 5, 2) := by decide +kernel
theorem dX12_orders_59 : decode cX12_orders 59 = .ok (.ishr, 1) := by decide +kernel
theorem dX12_orders_60 : decode cX12_orders 60 = .ok (.iconst 1, 1) := by decide +kernel
theorem dX12_orders_61 : decode cX12_orders 61 = .ok (.iand, 1) := by decide +kernel
theorem dX12_orders_62 : decode cX12_orders 62 = .ok (.iconst 1, 1) := by decide +kernel
theorem dX12_orders_63 : decode cX12_orders 63 = .ok (.if_icmp .eq 15, 3) := by decide +kernel
theorem dX12_orders_66 : decode cX12_orders 66 = .ok (.aload_n 0, 1) := by decide +kernel
theorem dX12_orders_67 : decode cX12_orders 67 = .ok (.getfield 87, 3) := by decide +kernel
theorem dX12_orders_70 : decode cX12_orders 70 = .ok (.iload 5, 2) := by decide +kernel
theorem dX12_orders_72 : decode cX12_orders 72 = .ok (.iaload, 1) := by decide +kernel
theorem dX12_orders_73 : decode cX12_orders 73 = .ok (.iload 4, 2) := by decide +kernel
theorem dX12_orders_75 : decode cX12_orders 75 = .ok (.if_icmp .eq 9, 3) := by decide +kernel
theorem dX12_orders_78 : decode cX12_orders 78 = .ok (.iinc 5 1, 3) := by decide +kernel
theorem dX12_orders_81 : decode cX12_orders 81 = .ok (.goto (-34), 3) := by decide +kernel
theorem dX12_orders_84 : decode cX12_orders 84 = .ok (.iload 5, 2) := by decide +kernel
theorem dX12_orders_86 : decode cX12_orders 86 = .ok (.aload_n 0, 1) := by decide +kernel
theorem dX12_orders_87 : decode cX12_orders 87 = .ok (.getfield 121, 3) := by decide +kernel
theorem dX12_orders_90 : decode cX12_orders 90 = .ok (.if_icmp .ge 31, 3) := by decide +kernel
theorem dX12_orders_93 : decode cX12_orders 93 = .ok (.aload_n 0, 1) := by decide +kernel
theorem dX12_orders_94 : decode cX12_orders 94 = .ok (.getfield 28, 3) := by decide +kernel
theorem dX12_orders_97 : decode cX12_orders 97 = .ok (.iload_n 1, 1) := by decide +kernel
theorem dX12_orders_98 : decode cX12_orders 98 = .ok (.iload 4, 2) := by decide +kernel
theorem dX12_orders_100 : decode cX12_orders 100 = .ok (.iastore, 1) := by decide +kernel
theorem dX12_orders_101 : decode cX12_orders 101 = .ok (.aload_n 0, 1) := by decide +kernel
theorem dX12_orders_102 : decode cX12_orders 102 = .ok (.iload_n 1, 1) := by decide +kernel
theorem dX12_orders_103 : decode cX12_orders 103 = .ok (.iconst 1, 1) := by decide +kernel
theorem dX12_orders_104 : decode cX12_orders 104 = .ok (.iadd, 1) := by decide +kernel
theorem dX12_orders_105 : decode cX12_orders 105 = .ok (.iload_n 2, 1) := by decide +kernel
theorem dX12_orders_106 : decode cX12_orders 106 = .ok (.iconst 1, 1) := by decide +kernel
theorem dX12_orders_107 : decode cX12_orders 107 = .ok (.iload 5, 2) := by decide +kernel
theorem dX12_orders_109 : decode cX12_orders 109 = .ok (.ishl, 1) := by decide +kernel
theorem dX12_orders_110 : decode cX12_orders 110 = .ok (.ior, 1) := by decide +kernel
theorem dX12_orders_111 : decode cX12_orders 111 = .ok (.bipush 10, 2) := by decide +kernel
theorem dX12_orders_113 : decode cX12_orders 113 = .ok (.iload_n 3, 1) := by decide +kernel
theorem dX12_orders_114 : decode cX12_orders 114 = .ok (.imul, 1) := by decide +kernel
theorem dX12_orders_115 : decode cX12_orders 115 = .ok (.iload 4, 2) := by decide +kernel
theorem dX12_orders_117 : decode cX12_orders 117 = .ok (.iadd, 1) := by decide +kernel
theorem dX12_orders_118 : decode cX12_orders 118 = .ok (.invokevirtual 355, 3) := by decide +kernel
theorem dX12_orders_121 : decode cX12_orders 121 = .ok (.iinc 4 1, 3) := by decide +kernel
theorem dX12_orders_124 : decode cX12_orders 124 = .ok (.goto (-86), 3) := by decide +kernel
theorem dX12_orders_127 : decode cX12_orders 127 = .ok (.return_, 1) := by decide +kernel
theorem dX12_theirs_0 : decode cX12_theirs 0 = .ok (.iload_n 1, 1) := by decide +kernel
theorem dX12_theirs_1 : decode cX12_theirs 1 = .ok (.i2l, 1) := by decide +kernel
theorem dX12_theirs_2 : decode cX12_theirs 2 = .ok (.lconst 0, 1) := by decide +kernel
theorem dX12_theirs_3 : decode cX12_theirs 3 = .ok (.lconst 1, 1) := by decide +kernel
theorem dX12_theirs_4 : decode cX12_theirs 4 = .ok (.invokestatic 136, 3) := by decide +kernel
theorem dX12_theirs_7 : decode cX12_theirs 7 = .ok (.ifCond .ne 5, 3) := by decide +kernel
theorem dX12_theirs_10 : decode cX12_theirs 10 = .ok (.iconst (-1), 1) := by decide +kernel
theorem dX12_theirs_11 : decode cX12_theirs 11 = .ok (.ireturn, 1) := by decide +kernel
theorem dX12_theirs_12 : decode cX12_theirs 12 = .ok (.aload_n 0, 1) := by decide +kernel
theorem dX12_theirs_13 : decode cX12_theirs 13 = .ok (.getfield 121, 3) := by decide +kernel
theorem dX12_theirs_16 : decode cX12_theirs 16 = .ok (.iconst 5, 1) := by decide +kernel
theorem dX12_theirs_17 : decode cX12_theirs 17 = .ok (.if_icmp .gt 12, 3) := by decide +kernel
theorem dX12_theirs_20 : decode cX12_theirs 20 = .ok (.aload_n 0, 1) := by decide +kernel
theorem dX12_theirs_21 : decode cX12_theirs 21 = .ok (.getfield 124, 3) := by decide +kernel
theorem dX12_theirs_24 : decode cX12_theirs 24 = .ok (.bipush 8, 2) := by decide +kernel
theorem dX12_theirs_26 : decode cX12_theirs 26 = .ok (.if_icmp .le 6, 3) := by decide +kernel
theorem dX12_theirs_29 : decode cX12_theirs 29 = .ok (.bipush (-4), 2) := by decide +kernel
theorem dX12_theirs_31 : decode cX12_theirs 31 = .ok (.ireturn, 1) := by decide +kernel
theorem dX12_theirs_32 : decode cX12_theirs 32 = .ok (.iconst 0, 1) := by decide +kernel
theorem dX12_theirs_33 : decode cX12_theirs 33 = .ok (.istore_n 2, 1) := by decide +kernel
theorem dX12_theirs_34 : decode cX12_theirs 34 = .ok (.iload_n 2, 1) := by decide +kernel
theorem dX12_theirs_35 : decode cX12_theirs 35 = .ok (.aload_n 0, 1) := by decide +kernel
theorem dX12_theirs_36 : decode cX12_theirs 36 = .ok (.getfield 121, 3) := by decide +kernel
theorem dX12_theirs_39 : decode cX12_theirs 39 = .ok (.if_icmp .ge 21, 3) := by decide +kernel
theorem dX12_theirs_42 : decode cX12_theirs 42 = .ok (.aload_n 0, 1) := by decide +kernel
theorem dX12_theirs_43 : decode cX12_theirs 43 = .ok (.getfield 87, 3) := by decide +kernel
theorem dX12_theirs_46 : decode cX12_theirs 46 = .ok (.iload_n 2, 1) := by decide +kernel
theorem dX12_theirs_47 : decode cX12_theirs 47 = .ok (.aload_n 0, 1) := by decide +kernel
theorem dX12_theirs_48 : decode cX12_theirs 48 = .ok (.getfield 28, 3) := by decide +kernel
theorem dX12_theirs_51 : decode cX12_theirs 51 = .ok (.iload_n 2, 1) := by decide +kernel
theorem dX12_theirs_52 : decode cX12_theirs 52 = .ok (.iaload, 1) := by decide +kernel
theorem dX12_theirs_53 : decode cX12_theirs 53 = .ok (.iastore, 1) := by decide +kernel
theorem dX12_theirs_54 : decode cX12_theirs 54 = .ok (.iinc 2 1, 3) := by decide +kernel
theorem dX12_theirs_57 : decode cX12_theirs 57 = .ok (.goto (-23), 3) := by decide +kernel
theorem dX12_theirs_60 : decode cX12_theirs 60 = .ok (.aload_n 0, 1) := by decide +kernel
theorem dX12_theirs_61 : decode cX12_theirs 61 = .ok (.iconst (-1), 1) := by decide +kernel
theorem dX12_theirs_62 : decode cX12_theirs 62 = .ok (.putfield 349, 3) := by decide +kernel
theorem dX12_theirs_65 : decode cX12_theirs 65 = .ok (.aload_n 0, 1) := by decide +kernel
theorem dX12_theirs_66 : decode cX12_theirs 66 = .ok (.iconst 0, 1) := by decide +kernel
theorem dX12_theirs_67 : decode cX12_theirs 67 = .ok (.iconst 0, 1) := by decide +kernel
theorem dX12_theirs_68 : decode cX12_theirs 68 = .ok (.iconst 0, 1) := by decide +kernel
theorem dX12_theirs_69 : decode cX12_theirs 69 = .ok (.invokevirtual 355, 3) := by decide +kernel
theorem dX12_theirs_72 : decode cX12_theirs 72 = .ok (.iconst 0, 1) := by decide +kernel
theorem dX12_theirs_73 : decode cX12_theirs 73 = .ok (.istore_n 2, 1) := by decide +kernel
theorem dX12_theirs_74 : decode cX12_theirs 74 = .ok (.iload_n 2, 1) := by decide +kernel
theorem dX12_theirs_75 : decode cX12_theirs 75 = .ok (.aload_n 0, 1) := by decide +kernel
theorem dX12_theirs_76 : decode cX12_theirs 76 = .ok (.getfield 121, 3) := by decide +kernel
theorem dX12_theirs_79 : decode cX12_theirs 79 = .ok (.if_icmp .ge 21, 3) := by decide +kernel
theorem dX12_theirs_82 : decode cX12_theirs 82 = .ok (.aload_n 0, 1) := by decide +kernel
theorem dX12_theirs_83 : decode cX12_theirs 83 = .ok (.getfield 28, 3) := by decide +kernel
theorem dX12_theirs_86 : decode cX12_theirs 86 = .ok (.iload_n 2, 1) := by decide +kernel
theorem dX12_theirs_87 : decode cX12_theirs 87 = .ok (.aload_n 0, 1) := by decide +kernel
theorem dX12_theirs_88 : decode cX12_theirs 88 = .ok (.getfield 87, 3) := by decide +kernel
theorem dX12_theirs_91 : decode cX12_theirs 91 = .ok (.iload_n 2, 1) := by decide +kernel
theorem dX12_theirs_92 : decode cX12_theirs 92 = .ok (.iaload, 1) := by decide +kernel
theorem dX12_theirs_93 : decode cX12_theirs 93 = .ok (.iastore, 1) := by decide +kernel
theorem dX12_theirs_94 : decode cX12_theirs 94 = .ok (.iinc 2 1, 3) := by decide +kernel
theorem dX12_theirs_97 : decode cX12_theirs 97 = .ok (.goto (-23), 3) := by decide +kernel
theorem dX12_theirs_100 : decode cX12_theirs 100 = .ok (.iload_n 1, 1) := by decide +kernel
theorem dX12_theirs_101 : decode cX12_theirs 101 = .ok (.ifCond .ne 10, 3) := by decide +kernel
theorem dX12_theirs_104 : decode cX12_theirs 104 = .ok (.aload_n 0, 1) := by decide +kernel
theorem dX12_theirs_105 : decode cX12_theirs 105 = .ok (.getfield 352, 3) := by decide +kernel
theorem dX12_theirs_108 : decode cX12_theirs 108 = .ok (.goto 7, 3) := by decide +kernel
theorem dX12_theirs_111 : decode cX12_theirs 111 = .ok (.aload_n 0, 1) := by decide +kernel
theorem dX12_theirs_112 : decode cX12_theirs 112 = .ok (.getfield 349, 3) := by decide +kernel
theorem dX12_theirs_115 : decode cX12_theirs 115 = .ok (.ireturn, 1) := by decide +kernel
theorem dX12_learn_0 : decode cX12_learn 0 = .ok (.iload_n 1, 1) := by decide +kernel
theorem dX12_learn_1 : decode cX12_learn 1 = .ok (.ifCond .lt 45, 3) := by decide +kernel
theorem dX12_learn_4 : decode cX12_learn 4 = .ok (.aload_n 0, 1) := by decide +kernel
theorem dX12_learn_5 : decode cX12_learn 5 = .ok (.iload_n 1, 1) := by decide +kernel
theorem dX12_learn_6 : decode cX12_learn 6 = .ok (.bipush 10, 2) := by decide +kernel
theorem dX12_learn_8 : decode cX12_learn 8 = .ok (.idiv, 1) := by decide +kernel
theorem dX12_learn_9 : decode cX12_learn 9 = .ok (.invokevirtual 146, 3) := by decide +kernel
theorem dX12_learn_12 : decode cX12_learn 12 = .ok (.ifCond .eq 34, 3) := by decide +kernel
theorem dX12_learn_15 : decode cX12_learn 15 = .ok (.iload_n 1, 1) := by decide +kernel
theorem dX12_learn_16 : decode cX12_learn 16 = .ok (.bipush 10, 2) := by decide +kernel
theorem dX12_learn_18 : decode cX12_learn 18 = .ok (.irem, 1) := by decide +kernel
theorem dX12_learn_19 : decode cX12_learn 19 = .ok (.iconst 4, 1) := by decide +kernel
theorem dX12_learn_20 : decode cX12_learn 20 = .ok (.if_icmp .ge 26, 3) := by decide +kernel
theorem dX12_learn_23 : decode cX12_learn 23 = .ok (.iload_n 2, 1) := by decide +kernel
theorem dX12_learn_24 : decode cX12_learn 24 = .ok (.i2l, 1) := by decide +kernel
theorem dX12_learn_25 : decode cX12_learn 25 = .ok (.lconst 0, 1) := by decide +kernel
theorem dX12_learn_26 : decode cX12_learn 26 = .ok (.ldc2_w 359, 3) := by decide +kernel
theorem dX12_learn_29 : decode cX12_learn 29 = .ok (.invokestatic 136, 3) := by decide +kernel
theorem dX12_learn_32 : decode cX12_learn 32 = .ok (.ifCond .eq 14, 3) := by decide +kernel
theorem dX12_learn_35 : decode cX12_learn 35 = .ok (.iload_n 2, 1) := by decide +kernel
theorem dX12_learn_36 : decode cX12_learn 36 = .ok (.bipush 100, 2) := by decide +kernel
theorem dX12_learn_38 : decode cX12_learn 38 = .ok (.irem, 1) := by decide +kernel
theorem dX12_learn_39 : decode cX12_learn 39 = .ok (.iload_n 2, 1) := by decide +kernel
theorem dX12_learn_40 : decode cX12_learn 40 = .ok (.bipush 100, 2) := by decide +kernel
theorem dX12_learn_42 : decode cX12_learn 42 = .ok (.idiv, 1) := by decide +kernel
theorem dX12_learn_43 : decode cX12_learn 43 = .ok (.if_icmp .le 5, 3) := by decide +kernel
theorem dX12_learn_46 : decode cX12_learn 46 = .ok (.iconst (-1), 1) := by decide +kernel
theorem dX12_learn_47 : decode cX12_learn 47 = .ok (.ireturn, 1) := by decide +kernel
theorem dX12_learn_48 : decode cX12_learn 48 = .ok (.sipush 1000, 3) := by decide +kernel
theorem dX12_learn_51 : decode cX12_learn 51 = .ok (.iload_n 2, 1) := by decide +kernel
theorem dX12_learn_52 : decode cX12_learn 52 = .ok (.bipush 100, 2) := by decide +kernel
theorem dX12_learn_54 : decode cX12_learn 54 = .ok (.irem, 1) := by decide +kernel
theorem dX12_learn_55 : decode cX12_learn 55 = .ok (.iconst 1, 1) := by decide +kernel
theorem dX12_learn_56 : decode cX12_learn 56 = .ok (.iadd, 1) := by decide +kernel
theorem dX12_learn_57 : decode cX12_learn 57 = .ok (.imul, 1) := by decide +kernel
theorem dX12_learn_58 : decode cX12_learn 58 = .ok (.iload_n 2, 1) := by decide +kernel
theorem dX12_learn_59 : decode cX12_learn 59 = .ok (.bipush 100, 2) := by decide +kernel
theorem dX12_learn_61 : decode cX12_learn 61 = .ok (.idiv, 1) := by decide +kernel
theorem dX12_learn_62 : decode cX12_learn 62 = .ok (.iconst 2, 1) := by decide +kernel
theorem dX12_learn_63 : decode cX12_learn 63 = .ok (.iadd, 1) := by decide +kernel
theorem dX12_learn_64 : decode cX12_learn 64 = .ok (.idiv, 1) := by decide +kernel
theorem dX12_learn_65 : decode cX12_learn 65 = .ok (.istore_n 3, 1) := by decide +kernel
theorem dX12_learn_66 : decode cX12_learn 66 = .ok (.iload_n 3, 1) := by decide +kernel
theorem dX12_learn_67 : decode cX12_learn 67 = .ok (.sipush 500, 3) := by decide +kernel
theorem dX12_learn_70 : decode cX12_learn 70 = .ok (.if_icmp .le 9, 3) := by decide +kernel
theorem dX12_learn_73 : decode cX12_learn 73 = .ok (.sipush 500, 3) := by decide +kernel
theorem dX12_learn_76 : decode cX12_learn 76 = .ok (.goto 4, 3) := by decide +kernel
theorem dX12_learn_79 : decode cX12_learn 79 = .ok (.iload_n 3, 1) := by decide +kernel
theorem dX12_learn_80 : decode cX12_learn 80 = .ok (.istore 4, 2) := by decide +kernel
theorem dX12_learn_82 : decode cX12_learn 82 = .ok (.aload_n 0, 1) := by decide +kernel
theorem dX12_learn_83 : decode cX12_learn 83 = .ok (.iconst 4, 1) := by decide +kernel
theorem dX12_learn_84 : decode cX12_learn 84 = .ok (.iload_n 1, 1) := by decide +kernel
theorem dX12_learn_85 : decode cX12_learn 85 = .ok (.bipush 10, 2) := by decide +kernel
theorem dX12_learn_87 : decode cX12_learn 87 = .ok (.idiv, 1) := by decide +kernel
theorem dX12_learn_88 : decode cX12_learn 88 = .ok (.imul, 1) := by decide +kernel
theorem dX12_learn_89 : decode cX12_learn 89 = .ok (.iload_n 1, 1) := by decide +kernel
theorem dX12_learn_90 : decode cX12_learn 90 = .ok (.bipush 10, 2) := by decide +kernel
theorem dX12_learn_92 : decode cX12_learn 92 = .ok (.irem, 1) := by decide +kernel
theorem dX12_learn_93 : decode cX12_learn 93 = .ok (.iadd, 1) := by decide +kernel
theorem dX12_learn_94 : decode cX12_learn 94 = .ok (.iload 4, 2) := by decide +kernel
theorem dX12_learn_96 : decode cX12_learn 96 = .ok (.invokevirtual 153, 3) := by decide +kernel
theorem dX12_learn_99 : decode cX12_learn 99 = .ok (.istore 5, 2) := by decide +kernel
theorem dX12_learn_101 : decode cX12_learn 101 = .ok (.iload 4, 2) := by decide +kernel
theorem dX12_learn_103 : decode cX12_learn 103 = .ok (.ireturn, 1) := by decide +kernel
theorem dX12_goThroughBook_0 : decode cX12_goThroughBook 0 = .ok (.aload_n 0, 1) := by decide +kernel
theorem dX12_goThroughBook_1 : decode cX12_goThroughBook 1 = .ok (.invokevirtual 256, 3) := by decide +kernel
theorem dX12_goThroughBook_4 : decode cX12_goThroughBook 4 = .ok (.iconst 0, 1) := by decide +kernel
theorem dX12_goThroughBook_5 : decode cX12_goThroughBook 5 = .ok (.istore_n 2, 1) := by decide +kernel
theorem dX12_goThroughBook_6 : decode cX12_goThroughBook 6 = .ok (.iload_n 2, 1) := by decide +kernel
theorem dX12_goThroughBook_7 : decode cX12_goThroughBook 7 = .ok (.iload_n 1, 1) := by decide +kernel
theorem dX12_goThroughBook_8 : decode cX12_goThroughBook 8 = .ok (.if_icmp .ge 35, 3) := by decide +kernel
theorem dX12_goThroughBook_11 : decode cX12_goThroughBook 11 = .ok (.aload_n 0, 1) := by decide +kernel
theorem dX12_goThroughBook_12 : decode cX12_goThroughBook 12 = .ok (.aload_n 0, 1) := by decide +kernel
theorem dX12_goThroughBook_13 : decode cX12_goThroughBook 13 = .ok (.getfield 90, 3) := by decide +kernel
theorem dX12_goThroughBook_16 : decode cX12_goThroughBook 16 = .ok (.iload_n 2, 1) := by decide +kernel
theorem dX12_goThroughBook_17 : decode cX12_goThroughBook 17 = .ok (.iaload, 1) := by decide +kernel
theorem dX12_goThroughBook_18 : decode cX12_goThroughBook 18 = .ok (.aload_n 0, 1) := by decide +kernel
theorem dX12_goThroughBook_19 : decode cX12_goThroughBook 19 = .ok (.getfield 93, 3) := by decide +kernel
theorem dX12_goThroughBook_22 : decode cX12_goThroughBook 22 = .ok (.iload_n 2, 1) := by decide +kernel
theorem dX12_goThroughBook_23 : decode cX12_goThroughBook 23 = .ok (.iaload, 1) := by decide +kernel
theorem dX12_goThroughBook_24 : decode cX12_goThroughBook 24 = .ok (.iconst 1, 1) := by decide +kernel
theorem dX12_goThroughBook_25 : decode cX12_goThroughBook 25 = .ok (.if_icmp .ne 7, 3) := by decide +kernel
theorem dX12_goThroughBook_28 : decode cX12_goThroughBook 28 = .ok (.iconst 1, 1) := by decide +kernel
theorem dX12_goThroughBook_29 : decode cX12_goThroughBook 29 = .ok (.goto 4, 3) := by decide +kernel
theorem dX12_goThroughBook_32 : decode cX12_goThroughBook 32 = .ok (.iconst 0, 1) := by decide +kernel
theorem dX12_goThroughBook_33 : decode cX12_goThroughBook 33 = .ok (.invokevirtual 296, 3) := by decide +kernel
theorem dX12_goThroughBook_36 : decode cX12_goThroughBook 36 = .ok (.istore_n 3, 1) := by decide +kernel
theorem dX12_goThroughBook_37 : decode cX12_goThroughBook 37 = .ok (.iinc 2 1, 3) := by decide +kernel
theorem dX12_goThroughBook_40 : decode cX12_goThroughBook 40 = .ok (.goto (-34), 3) := by decide +kernel
theorem dX12_goThroughBook_43 : decode cX12_goThroughBook 43 = .ok (.return_, 1) := by decide +kernel
theorem dX12_book_0 : decode cX12_book 0 = .ok (.aload_n 0, 1) := by decide +kernel
theorem dX12_book_1 : decode cX12_book 1 = .ok (.iload_n 1, 1) := by decide +kernel
theorem dX12_book_2 : decode cX12_book 2 = .ok (.invokevirtual 146, 3) := by decide +kernel
theorem dX12_book_5 : decode cX12_book 5 = .ok (.ifCond .eq 13, 3) := by decide +kernel
theorem dX12_book_8 : decode cX12_book 8 = .ok (.iload_n 2, 1) := by decide +kernel
theorem dX12_book_9 : decode cX12_book 9 = .ok (.i2l, 1) := by decide +kernel
theorem dX12_book_10 : decode cX12_book 10 = .ok (.lconst 0, 1) := by decide +kernel
theorem dX12_book_11 : decode cX12_book 11 = .ok (.lconst 1, 1) := by decide +kernel
theorem dX12_book_12 : decode cX12_book 12 = .ok (.invokestatic 136, 3) := by decide +kernel
theorem dX12_book_15 : decode cX12_book 15 = .ok (.ifCond .ne 5, 3) := by decide +kernel
theorem dX12_book_18 : decode cX12_book 18 = .ok (.iconst (-1), 1) := by decide +kernel
theorem dX12_book_19 : decode cX12_book 19 = .ok (.ireturn, 1) := by decide +kernel
theorem dX12_book_20 : decode cX12_book 20 = .ok (.aload_n 0, 1) := by decide +kernel
theorem dX12_book_21 : decode cX12_book 21 = .ok (.aload_n 0, 1) := by decide +kernel
theorem dX12_book_22 : decode cX12_book 22 = .ok (.getfield 234, 3) := by decide +kernel
theorem dX12_book_25 : decode cX12_book 25 = .ok (.invokevirtual 334, 3) := by decide +kernel
theorem dX12_book_28 : decode cX12_book 28 = .ok (.aload_n 0, 1) := by decide +kernel
theorem dX12_book_29 : decode cX12_book 29 = .ok (.invokevirtual 307, 3) := by decide +kernel
theorem dX12_book_32 : decode cX12_book 32 = .ok (.ifCond .ne 11, 3) := by decide +kernel
theorem dX12_book_35 : decode cX12_book 35 = .ok (.aload_n 0, 1) := by decide +kernel
theorem dX12_book_36 : decode cX12_book 36 = .ok (.iload_n 1, 1) := by decide +kernel
theorem dX12_book_37 : decode cX12_book 37 = .ok (.invokevirtual 249, 3) := by decide +kernel
theorem dX12_book_40 : decode cX12_book 40 = .ok (.ifCond .ne 6, 3) := by decide +kernel
theorem dX12_book_43 : decode cX12_book 43 = .ok (.bipush (-5), 2) := by decide +kernel
theorem dX12_book_45 : decode cX12_book 45 = .ok (.ireturn, 1) := by decide +kernel
theorem dX12_book_46 : decode cX12_book 46 = .ok (.aload_n 0, 1) := by decide +kernel
theorem dX12_book_47 : decode cX12_book 47 = .ok (.getfield 234, 3) := by decide +kernel
theorem dX12_book_50 : decode cX12_book 50 = .ok (.bipush 12, 2) := by decide +kernel
theorem dX12_book_52 : decode cX12_book 52 = .ok (.if_icmp .ne 6, 3) := by decide +kernel
theorem dX12_book_55 : decode cX12_book 55 = .ok (.bipush (-3), 2) := by decide +kernel
theorem dX12_book_57 : decode cX12_book 57 = .ok (.ireturn, 1) := by decide +kernel
theorem dX12_book_58 : decode cX12_book 58 = .ok (.aload_n 0, 1) := by decide +kernel
theorem dX12_book_59 : decode cX12_book 59 = .ok (.getfield 90, 3) := by decide +kernel
theorem dX12_book_62 : decode cX12_book 62 = .ok (.aload_n 0, 1) := by decide +kernel
theorem dX12_book_63 : decode cX12_book 63 = .ok (.getfield 234, 3) := by decide +kernel
theorem dX12_book_66 : decode cX12_book 66 = .ok (.iload_n 1, 1) := by decide +kernel
theorem dX12_book_67 : decode cX12_book 67 = .ok (.iastore, 1) := by decide +kernel
theorem dX12_book_68 : decode cX12_book 68 = .ok (.aload_n 0, 1) := by decide +kernel
theorem dX12_book_69 : decode cX12_book 69 = .ok (.getfield 93, 3) := by decide +kernel
theorem dX12_book_72 : decode cX12_book 72 = .ok (.aload_n 0, 1) := by decide +kernel
theorem dX12_book_73 : decode cX12_book 73 = .ok (.getfield 234, 3) := by decide +kernel
theorem dX12_book_76 : decode cX12_book 76 = .ok (.iload_n 2, 1) := by decide +kernel
theorem dX12_book_77 : decode cX12_book 77 = .ok (.iastore, 1) := by decide +kernel
theorem dX12_book_78 : decode cX12_book 78 = .ok (.aload_n 0, 1) := by decide +kernel
theorem dX12_book_79 : decode cX12_book 79 = .ok (.dup, 1) := by decide +kernel
theorem dX12_book_80 : decode cX12_book 80 = .ok (.getfield 234, 3) := by decide +kernel
theorem dX12_book_83 : decode cX12_book 83 = .ok (.iconst 1, 1) := by decide +kernel
theorem dX12_book_84 : decode cX12_book 84 = .ok (.iadd, 1) := by decide +kernel
theorem dX12_book_85 : decode cX12_book 85 = .ok (.putfield 234, 3) := by decide +kernel
theorem dX12_book_88 : decode cX12_book 88 = .ok (.aload_n 0, 1) := by decide +kernel
theorem dX12_book_89 : decode cX12_book 89 = .ok (.getfield 234, 3) := by decide +kernel
theorem dX12_book_92 : decode cX12_book 92 = .ok (.ireturn, 1) := by decide +kernel
theorem dX12_books_0 : decode cX12_books 0 = .ok (.iload_n 1, 1) := by decide +kernel
theorem dX12_books_1 : decode cX12_books 1 = .ok (.invokestatic 361, 3) := by decide +kernel
theorem dX12_books_4 : decode cX12_books 4 = .ok (.ifCond .ne 5, 3) := by decide +kernel
theorem dX12_books_7 : decode cX12_books 7 = .ok (.iconst (-1), 1) := by decide +kernel
theorem dX12_books_8 : decode cX12_books 8 = .ok (.ireturn, 1) := by decide +kernel
theorem dX12_books_9 : decode cX12_books 9 = .ok (.aload_n 0, 1) := by decide +kernel
theorem dX12_books_10 : decode cX12_books 10 = .ok (.getfield 108, 3) := by decide +kernel
theorem dX12_books_13 : decode cX12_books 13 = .ok (.iload_n 1, 1) := by decide +kernel
theorem dX12_books_14 : decode cX12_books 14 = .ok (.iaload, 1) := by decide +kernel
theorem dX12_books_15 : decode cX12_books 15 = .ok (.ifCond .lt 17, 3) := by decide +kernel
theorem dX12_books_18 : decode cX12_books 18 = .ok (.aload_n 0, 1) := by decide +kernel
theorem dX12_books_19 : decode cX12_books 19 = .ok (.getfield 108, 3) := by decide +kernel
theorem dX12_books_22 : decode cX12_books 22 = .ok (.iload_n 1, 1) := by decide +kernel
theorem dX12_books_23 : decode cX12_books 23 = .ok (.iaload, 1) := by decide +kernel
theorem dX12_books_24 : decode cX12_books 24 = .ok (.bipush 20, 2) := by decide +kernel
theorem dX12_books_26 : decode cX12_books 26 = .ok (.if_icmp .eq 6, 3) := by decide +kernel
theorem dX12_books_29 : decode cX12_books 29 = .ok (.bipush (-12), 2) := by decide +kernel
theorem dX12_books_31 : decode cX12_books 31 = .ok (.ireturn, 1) := by decide +kernel
theorem dX12_books_32 : decode cX12_books 32 = .ok (.aload_n 0, 1) := by decide +kernel
theorem dX12_books_33 : decode cX12_books 33 = .ok (.iconst 0, 1) := by decide +kernel
theorem dX12_books_34 : decode cX12_books 34 = .ok (.putfield 234, 3) := by decide +kernel
theorem dX12_books_37 : decode cX12_books 37 = .ok (.aload_n 0, 1) := by decide +kernel
theorem dX12_books_38 : decode cX12_books 38 = .ok (.getfield 108, 3) := by decide +kernel
theorem dX12_books_41 : decode cX12_books 41 = .ok (.iload_n 1, 1) := by decide +kernel
theorem dX12_books_42 : decode cX12_books 42 = .ok (.iaload, 1) := by decide +kernel
theorem dX12_books_43 : decode cX12_books 43 = .ok (.bipush 20, 2) := by decide +kernel
theorem dX12_books_45 : decode cX12_books 45 = .ok (.if_icmp .ne 11, 3) := by decide +kernel
theorem dX12_books_48 : decode cX12_books 48 = .ok (.iload_n 2, 1) := by decide +kernel
theorem dX12_books_49 : decode cX12_books 49 = .ok (.ifCond .lt 7, 3) := by decide +kernel
theorem dX12_books_52 : decode cX12_books 52 = .ok (.iconst 1, 1) := by decide +kernel
theorem dX12_books_53 : decode cX12_books 53 = .ok (.goto 4, 3) := by decide +kernel
theorem dX12_books_56 : decode cX12_books 56 = .ok (.iconst 0, 1) := by decide +kernel
theorem dX12_books_57 : decode cX12_books 57 = .ok (.istore_n 3, 1) := by decide +kernel
theorem dX12_books_58 : decode cX12_books 58 = .ok (.iload_n 3, 1) := by decide +kernel
theorem dX12_books_59 : decode cX12_books 59 = .ok (.ifCond .eq 86, 3) := by decide +kernel
theorem dX12_books_62 : decode cX12_books 62 = .ok (.iload_n 2, 1) := by decide +kernel
theorem dX12_books_63 : decode cX12_books 63 = .ok (.aload_n 0, 1) := by decide +kernel
theorem dX12_books_64 : decode cX12_books 64 = .ok (.getfield 111, 3) := by decide +kernel
theorem dX12_books_67 : decode cX12_books 67 = .ok (.iload_n 1, 1) := by decide +kernel
theorem dX12_books_68 : decode cX12_books 68 = .ok (.iaload, 1) := by decide +kernel
theorem dX12_books_69 : decode cX12_books 69 = .ok (.aload_n 0, 1) := by decide +kernel
theorem dX12_books_70 : decode cX12_books 70 = .ok (.getfield 234, 3) := by decide +kernel
theorem dX12_books_73 : decode cX12_books 73 = .ok (.isub, 1) := by decide +kernel
theorem dX12_books_74 : decode cX12_books 74 = .ok (.if_icmp .ge 22, 3) := by decide +kernel
theorem dX12_books_77 : decode cX12_books 77 = .ok (.aload_n 0, 1) := by decide +kernel
theorem dX12_books_78 : decode cX12_books 78 = .ok (.getfield 114, 3) := by decide +kernel
theorem dX12_books_81 : decode cX12_books 81 = .ok (.bipush 60, 2) := by decide +kernel
theorem dX12_books_83 : decode cX12_books 83 = .ok (.iload_n 1, 1) := by decide +kernel
theorem dX12_books_84 : decode cX12_books 84 = .ok (.imul, 1) := by decide +kernel
theorem dX12_books_85 : decode cX12_books 85 = .ok (.iload_n 2, 1) := by decide +kernel
theorem dX12_books_86 : decode cX12_books 86 = .ok (.iadd, 1) := by decide +kernel
theorem dX12_books_87 : decode cX12_books 87 = .ok (.aload_n 0, 1) := by decide +kernel
theorem dX12_books_88 : decode cX12_books 88 = .ok (.getfield 234, 3) := by decide +kernel
theorem dX12_books_91 : decode cX12_books 91 = .ok (.iadd, 1) := by decide +kernel
theorem dX12_books_92 : decode cX12_books 92 = .ok (.laload, 1) := by decide +kernel
theorem dX12_books_93 : decode cX12_books 93 = .ok (.goto 6, 3) := by decide +kernel
theorem dX12_books_96 : decode cX12_books 96 = .ok (.ldc2_w 364, 3) := by decide +kernel
theorem dX12_books_99 : decode cX12_books 99 = .ok (.lstore 4, 2) := by decide +kernel
theorem dX12_books_101 : decode cX12_books 101 = .ok (.lload 4, 2) := by decide +kernel
theorem dX12_books_103 : decode cX12_books 103 = .ok (.lconst 0, 1) := by decide +kernel
theorem dX12_books_104 : decode cX12_books 104 = .ok (.lcmp, 1) := by decide +kernel
theorem dX12_books_105 : decode cX12_books 105 = .ok (.ifCond .lt 35, 3) := by decide +kernel
theorem dX12_books_108 : decode cX12_books 108 = .ok (.lload 4, 2) := by decide +kernel
theorem dX12_books_110 : decode cX12_books 110 = .ok (.ldc2_w 144, 3) := by decide +kernel
theorem dX12_books_113 : decode cX12_books 113 = .ok (.lcmp, 1) := by decide +kernel
theorem dX12_books_114 : decode cX12_books 114 = .ok (.ifCond .ge 26, 3) := by decide +kernel
theorem dX12_books_117 : decode cX12_books 117 = .ok (.aload_n 0, 1) := by decide +kernel
theorem dX12_books_118 : decode cX12_books 118 = .ok (.lload 4, 2) := by decide +kernel
theorem dX12_books_120 : decode cX12_books 120 = .ok (.l2i, 1) := by decide +kernel
theorem dX12_books_121 : decode cX12_books 121 = .ok (.bipush 10, 2) := by decide +kernel
theorem dX12_books_123 : decode cX12_books 123 = .ok (.irem, 1) := by decide +kernel
theorem dX12_books_124 : decode cX12_books 124 = .ok (.lload 4, 2) := by decide +kernel
theorem dX12_books_126 : decode cX12_books 126 = .ok (.l2i, 1) := by decide +kernel
theorem dX12_books_127 : decode cX12_books 127 = .ok (.bipush 10, 2) := by decide +kernel
theorem dX12_books_129 : decode cX12_books 129 = .ok (.idiv, 1) := by decide +kernel
theorem dX12_books_130 : decode cX12_books 130 = .ok (.invokevirtual 366, 3) := by decide +kernel
theorem dX12_books_133 : decode cX12_books 133 = .ok (.ifCond .le 7, 3) := by decide +kernel
theorem dX12_books_136 : decode cX12_books 136 = .ok (.iconst 1, 1) := by decide +kernel
theorem dX12_books_137 : decode cX12_books 137 = .ok (.goto 4, 3) := by decide +kernel
theorem dX12_books_140 : decode cX12_books 140 = .ok (.iconst 0, 1) := by decide +kernel
theorem dX12_books_141 : decode cX12_books 141 = .ok (.istore_n 3, 1) := by decide +kernel
theorem dX12_books_142 : decode cX12_books 142 = .ok (.goto (-84), 3) := by decide +kernel
theorem dX12_books_145 : decode cX12_books 145 = .ok (.aload_n 0, 1) := by decide +kernel
theorem dX12_books_146 : decode cX12_books 146 = .ok (.getfield 234, 3) := by decide +kernel
theorem dX12_books_149 : decode cX12_books 149 = .ok (.ireturn, 1) := by decide +kernel
theorem dX12_close_0 : decode cX12_close 0 = .ok (.aload_n 0, 1) := by decide +kernel
theorem dX12_close_1 : decode cX12_close 1 = .ok (.getfield 234, 3) := by decide +kernel
theorem dX12_close_4 : decode cX12_close 4 = .ok (.istore_n 1, 1) := by decide +kernel
theorem dX12_close_5 : decode cX12_close 5 = .ok (.aload_n 0, 1) := by decide +kernel
theorem dX12_close_6 : decode cX12_close 6 = .ok (.iconst 0, 1) := by decide +kernel
theorem dX12_close_7 : decode cX12_close 7 = .ok (.putfield 234, 3) := by decide +kernel
theorem dX12_close_10 : decode cX12_close 10 = .ok (.iload_n 1, 1) := by decide +kernel
theorem dX12_close_11 : decode cX12_close 11 = .ok (.ireturn, 1) := by decide +kernel
theorem dX12_costOf_0 : decode cX12_costOf 0 = .ok (.aload_n 0, 1) := by decide +kernel
theorem dX12_costOf_1 : decode cX12_costOf 1 = .ok (.iload_n 1, 1) := by decide +kernel
theorem dX12_costOf_2 : decode cX12_costOf 2 = .ok (.invokevirtual 334, 3) := by decide +kernel
theorem dX12_costOf_5 : decode cX12_costOf 5 = .ok (.aload_n 0, 1) := by decide +kernel
theorem dX12_costOf_6 : decode cX12_costOf 6 = .ok (.invokevirtual 341, 3) := by decide +kernel
theorem dX12_costOf_9 : decode cX12_costOf 9 = .ok (.aload_n 0, 1) := by decide +kernel
theorem dX12_costOf_10 : decode cX12_costOf 10 = .ok (.invokevirtual 307, 3) := by decide +kernel
theorem dX12_costOf_13 : decode cX12_costOf 13 = .ok (.ifCond .eq 7, 3) := by decide +kernel
theorem dX12_costOf_16 : decode cX12_costOf 16 = .ok (.iconst 0, 1) := by decide +kernel
theorem dX12_costOf_17 : decode cX12_costOf 17 = .ok (.goto 7, 3) := by decide +kernel
theorem dX12_costOf_20 : decode cX12_costOf 20 = .ok (.aload_n 0, 1) := by decide +kernel
theorem dX12_costOf_21 : decode cX12_costOf 21 = .ok (.invokevirtual 280, 3) := by decide +kernel
theorem dX12_costOf_24 : decode cX12_costOf 24 = .ok (.istore_n 2, 1) := by decide +kernel
theorem dX12_costOf_25 : decode cX12_costOf 25 = .ok (.aload_n 0, 1) := by decide +kernel
theorem dX12_costOf_26 : decode cX12_costOf 26 = .ok (.aload_n 0, 1) := by decide +kernel
theorem dX12_costOf_27 : decode cX12_costOf 27 = .ok (.getfield 90, 3) := by decide +kernel
theorem dX12_costOf_30 : decode cX12_costOf 30 = .ok (.iload_n 1, 1) := by decide +kernel
theorem dX12_costOf_31 : decode cX12_costOf 31 = .ok (.iaload, 1) := by decide +kernel
theorem dX12_costOf_32 : decode cX12_costOf 32 = .ok (.invokevirtual 318, 3) := by decide +kernel
theorem dX12_costOf_35 : decode cX12_costOf 35 = .ok (.iload_n 2, 1) := by decide +kernel
theorem dX12_costOf_36 : decode cX12_costOf 36 = .ok (.isub, 1) := by decide +kernel
theorem dX12_costOf_37 : decode cX12_costOf 37 = .ok (.ireturn, 1) := by decide +kernel
theorem dX12_cost_0 : decode cX12_cost 0 = .ok (.iload_n 1, 1) := by decide +kernel
theorem dX12_cost_1 : decode cX12_cost 1 = .ok (.i2l, 1) := by decide +kernel
theorem dX12_cost_2 : decode cX12_cost 2 = .ok (.lconst 0, 1) := by decide +kernel
theorem dX12_cost_3 : decode cX12_cost 3 = .ok (.aload_n 0, 1) := by decide +kernel
theorem dX12_cost_4 : decode cX12_cost 4 = .ok (.getfield 234, 3) := by decide +kernel
theorem dX12_cost_7 : decode cX12_cost 7 = .ok (.iconst 1, 1) := by decide +kernel
theorem dX12_cost_8 : decode cX12_cost 8 = .ok (.isub, 1) := by decide +kernel
theorem dX12_cost_9 : decode cX12_cost 9 = .ok (.i2l, 1) := by decide +kernel
theorem dX12_cost_10 : decode cX12_cost 10 = .ok (.invokestatic 136, 3) := by decide +kernel
theorem dX12_cost_13 : decode cX12_cost 13 = .ok (.ifCond .eq 14, 3) := by decide +kernel
theorem dX12_cost_16 : decode cX12_cost 16 = .ok (.aload_n 0, 1) := by decide +kernel
theorem dX12_cost_17 : decode cX12_cost 17 = .ok (.getfield 124, 3) := by decide +kernel
theorem dX12_cost_20 : decode cX12_cost 20 = .ok (.iload_n 1, 1) := by decide +kernel
theorem dX12_cost_21 : decode cX12_cost 21 = .ok (.isub, 1) := by decide +kernel
theorem dX12_cost_22 : decode cX12_cost 22 = .ok (.bipush 8, 2) := by decide +kernel
theorem dX12_cost_24 : decode cX12_cost 24 = .ok (.if_icmp .le 8, 3) := by decide +kernel
theorem dX12_cost_27 : decode cX12_cost 27 = .ok (.ldc 152, 2) := by decide +kernel
theorem dX12_cost_29 : decode cX12_cost 29 = .ok (.goto 8, 3) := by decide +kernel
theorem dX12_cost_32 : decode cX12_cost 32 = .ok (.aload_n 0, 1) := by decide +kernel
theorem dX12_cost_33 : decode cX12_cost 33 = .ok (.iload_n 1, 1) := by decide +kernel
theorem dX12_cost_34 : decode cX12_cost 34 = .ok (.invokevirtual 369, 3) := by decide +kernel
theorem dX12_cost_37 : decode cX12_cost 37 = .ok (.ireturn, 1) := by decide +kernel
theorem dX12_lost_0 : decode cX12_lost 0 = .ok (.iload_n 1, 1) := by decide +kernel
theorem dX12_lost_1 : decode cX12_lost 1 = .ok (.i2l, 1) := by decide +kernel
theorem dX12_lost_2 : decode cX12_lost 2 = .ok (.lconst 0, 1) := by decide +kernel
theorem dX12_lost_3 : decode cX12_lost 3 = .ok (.ldc2_w 150, 3) := by decide +kernel
theorem dX12_lost_6 : decode cX12_lost 6 = .ok (.invokestatic 136, 3) := by decide +kernel
theorem dX12_lost_9 : decode cX12_lost 9 = .ok (.ifCond .eq 10, 3) := by decide +kernel
theorem dX12_lost_12 : decode cX12_lost 12 = .ok (.aload_n 0, 1) := by decide +kernel
theorem dX12_lost_13 : decode cX12_lost 13 = .ok (.getfield 234, 3) := by decide +kernel
theorem dX12_lost_16 : decode cX12_lost 16 = .ok (.ifCond .ne 5, 3) := by decide +kernel
theorem dX12_lost_19 : decode cX12_lost 19 = .ok (.iconst (-1), 1) := by decide +kernel
theorem dX12_lost_20 : decode cX12_lost 20 = .ok (.ireturn, 1) := by decide +kernel
theorem dX12_lost_21 : decode cX12_lost 21 = .ok (.aload_n 0, 1) := by decide +kernel
theorem dX12_lost_22 : decode cX12_lost 22 = .ok (.getfield 124, 3) := by decide +kernel
theorem dX12_lost_25 : decode cX12_lost 25 = .ok (.bipush 8, 2) := by decide +kernel
theorem dX12_lost_27 : decode cX12_lost 27 = .ok (.if_icmp .le 6, 3) := by decide +kernel
theorem dX12_lost_30 : decode cX12_lost 30 = .ok (.bipush (-4), 2) := by decide +kernel
theorem dX12_lost_32 : decode cX12_lost 32 = .ok (.ireturn, 1) := by decide +kernel
theorem dX12_lost_33 : decode cX12_lost 33 = .ok (.iconst 0, 1) := by decide +kernel
theorem dX12_lost_34 : decode cX12_lost 34 = .ok (.istore_n 2, 1) := by decide +kernel
theorem dX12_lost_35 : decode cX12_lost 35 = .ok (.ldc 152, 2) := by decide +kernel
theorem dX12_lost_37 : decode cX12_lost 37 = .ok (.istore_n 3, 1) := by decide +kernel
theorem dX12_lost_38 : decode cX12_lost 38 = .ok (.iconst 0, 1) := by decide +kernel
theorem dX12_lost_39 : decode cX12_lost 39 = .ok (.istore 4, 2) := by decide +kernel
theorem dX12_lost_41 : decode cX12_lost 41 = .ok (.iconst 0, 1) := by decide +kernel
theorem dX12_lost_42 : decode cX12_lost 42 = .ok (.istore 5, 2) := by decide +kernel
theorem dX12_lost_44 : decode cX12_lost 44 = .ok (.iload 5, 2) := by decide +kernel
theorem dX12_lost_46 : decode cX12_lost 46 = .ok (.aload_n 0, 1) := by decide +kernel
theorem dX12_lost_47 : decode cX12_lost 47 = .ok (.getfield 234, 3) := by decide +kernel
theorem dX12_lost_50 : decode cX12_lost 50 = .ok (.if_icmp .ge 36, 3) := by decide +kernel
theorem dX12_lost_53 : decode cX12_lost 53 = .ok (.aload_n 0, 1) := by decide +kernel
theorem dX12_lost_54 : decode cX12_lost 54 = .ok (.iload 5, 2) := by decide +kernel
theorem dX12_lost_56 : decode cX12_lost 56 = .ok (.invokevirtual 369, 3) := by decide +kernel
theorem dX12_lost_59 : decode cX12_lost 59 = .ok (.istore 6, 2) := by decide +kernel
theorem dX12_lost_61 : decode cX12_lost 61 = .ok (.iload 4, 2) := by decide +kernel
theorem dX12_lost_63 : decode cX12_lost 63 = .ok (.iload 6, 2) := by decide +kernel
theorem dX12_lost_65 : decode cX12_lost 65 = .ok (.iadd, 1) := by decide +kernel
theorem dX12_lost_66 : decode cX12_lost 66 = .ok (.istore 4, 2) := by decide +kernel
theorem dX12_lost_68 : decode cX12_lost 68 = .ok (.iload 6, 2) := by decide +kernel
theorem dX12_lost_70 : decode cX12_lost 70 = .ok (.iload_n 3, 1) := by decide +kernel
theorem dX12_lost_71 : decode cX12_lost 71 = .ok (.if_icmp .le 9, 3) := by decide +kernel
theorem dX12_lost_74 : decode cX12_lost 74 = .ok (.iload 5, 2) := by decide +kernel
theorem dX12_lost_76 : decode cX12_lost 76 = .ok (.istore_n 2, 1) := by decide +kernel
theorem dX12_lost_77 : decode cX12_lost 77 = .ok (.iload 6, 2) := by decide +kernel
theorem dX12_lost_79 : decode cX12_lost 79 = .ok (.istore_n 3, 1) := by decide +kernel
theorem dX12_lost_80 : decode cX12_lost 80 = .ok (.iinc 5 1, 3) := by decide +kernel
theorem dX12_lost_83 : decode cX12_lost 83 = .ok (.goto (-39), 3) := by decide +kernel
theorem dX12_lost_86 : decode cX12_lost 86 = .ok (.iload_n 1, 1) := by decide +kernel
theorem dX12_lost_87 : decode cX12_lost 87 = .ok (.ifCond .ne 7, 3) := by decide +kernel
theorem dX12_lost_90 : decode cX12_lost 90 = .ok (.iload_n 2, 1) := by decide +kernel
theorem dX12_lost_91 : decode cX12_lost 91 = .ok (.goto 14, 3) := by decide +kernel
theorem dX12_lost_94 : decode cX12_lost 94 = .ok (.iload_n 1, 1) := by decide +kernel
theorem dX12_lost_95 : decode cX12_lost 95 = .ok (.iconst 1, 1) := by decide +kernel
theorem dX12_lost_96 : decode cX12_lost 96 = .ok (.if_icmp .ne 7, 3) := by decide +kernel
theorem dX12_lost_99 : decode cX12_lost 99 = .ok (.iload_n 3, 1) := by decide +kernel
theorem dX12_lost_100 : decode cX12_lost 100 = .ok (.goto 5, 3) := by decide +kernel
theorem dX12_lost_103 : decode cX12_lost 103 = .ok (.iload 4, 2) := by decide +kernel
theorem dX12_lost_105 : decode cX12_lost 105 = .ok (.ireturn, 1) := by decide +kernel
theorem dX12_game_0 : decode cX12_game 0 = .ok (.aload_n 0, 1) := by decide +kernel
theorem dX12_game_1 : decode cX12_game 1 = .ok (.iload_n 1, 1) := by decide +kernel
theorem dX12_game_2 : decode cX12_game 2 = .ok (.invokevirtual 331, 3) := by decide +kernel
theorem dX12_game_5 : decode cX12_game 5 = .ok (.ifCond .ne 5, 3) := by decide +kernel
theorem dX12_game_8 : decode cX12_game 8 = .ok (.iconst (-1), 1) := by decide +kernel
theorem dX12_game_9 : decode cX12_game 9 = .ok (.ireturn, 1) := by decide +kernel
theorem dX12_game_10 : decode cX12_game 10 = .ok (.aload_n 0, 1) := by decide +kernel
theorem dX12_game_11 : decode cX12_game 11 = .ok (.getfield 124, 3) := by decide +kernel
theorem dX12_game_14 : decode cX12_game 14 = .ok (.bipush 8, 2) := by decide +kernel
theorem dX12_game_16 : decode cX12_game 16 = .ok (.if_icmp .le 6, 3) := by decide +kernel
theorem dX12_game_19 : decode cX12_game 19 = .ok (.bipush (-4), 2) := by decide +kernel
theorem dX12_game_21 : decode cX12_game 21 = .ok (.ireturn, 1) := by decide +kernel
theorem dX12_game_22 : decode cX12_game 22 = .ok (.aload_n 0, 1) := by decide +kernel
theorem dX12_game_23 : decode cX12_game 23 = .ok (.invokevirtual 256, 3) := by decide +kernel
theorem dX12_game_26 : decode cX12_game 26 = .ok (.aload_n 0, 1) := by decide +kernel
theorem dX12_game_27 : decode cX12_game 27 = .ok (.invokevirtual 341, 3) := by decide +kernel
theorem dX12_game_30 : decode cX12_game 30 = .ok (.aload_n 0, 1) := by decide +kernel
theorem dX12_game_31 : decode cX12_game 31 = .ok (.iconst 0, 1) := by decide +kernel
theorem dX12_game_32 : decode cX12_game 32 = .ok (.putfield 372, 3) := by decide +kernel
theorem dX12_game_35 : decode cX12_game 35 = .ok (.iload_n 2, 1) := by decide +kernel
theorem dX12_game_36 : decode cX12_game 36 = .ok (.istore_n 3, 1) := by decide +kernel
theorem dX12_game_37 : decode cX12_game 37 = .ok (.iconst 0, 1) := by decide +kernel
theorem dX12_game_38 : decode cX12_game 38 = .ok (.istore 4, 2) := by decide +kernel
theorem dX12_game_40 : decode cX12_game 40 = .ok (.iconst 0, 1) := by decide +kernel
theorem dX12_game_41 : decode cX12_game 41 = .ok (.istore 5, 2) := by decide +kernel
theorem dX12_game_43 : decode cX12_game 43 = .ok (.iload 5, 2) := by decide +kernel
theorem dX12_game_45 : decode cX12_game 45 = .ok (.ifCond .ne 188, 3) := by decide +kernel
theorem dX12_game_48 : decode cX12_game 48 = .ok (.aload_n 0, 1) := by decide +kernel
theorem dX12_game_49 : decode cX12_game 49 = .ok (.invokevirtual 307, 3) := by decide +kernel
theorem dX12_game_52 : decode cX12_game 52 = .ok (.ifCond .ne 181, 3) := by decide +kernel
theorem dX12_game_55 : decode cX12_game 55 = .ok (.aload_n 0, 1) := by decide +kernel
theorem dX12_game_56 : decode cX12_game 56 = .ok (.iload_n 1, 1) := by decide +kernel
theorem dX12_game_57 : decode cX12_game 57 = .ok (.invokevirtual 321, 3) := by decide +kernel
theorem dX12_game_60 : decode cX12_game 60 = .ok (.istore 6, 2) := by decide +kernel
theorem dX12_game_62 : decode cX12_game 62 = .ok (.aload_n 0, 1) := by decide +kernel
theorem dX12_game_63 : decode cX12_game 63 = .ok (.getfield 28, 3) := by decide +kernel
theorem dX12_game_66 : decode cX12_game 66 = .ok (.aload_n 0, 1) := by decide +kernel
theorem dX12_game_67 : decode cX12_game 67 = .ok (.getfield 237, 3) := by decide +kernel
theorem dX12_game_70 : decode cX12_game 70 = .ok (.iaload, 1) := by decide +kernel
theorem dX12_game_71 : decode cX12_game 71 = .ok (.istore 7, 2) := by decide +kernel
theorem dX12_game_73 : decode cX12_game 73 = .ok (.aload_n 0, 1) := by decide +kernel
theorem dX12_game_74 : decode cX12_game 74 = .ok (.iload 6, 2) := by decide +kernel
theorem dX12_game_76 : decode cX12_game 76 = .ok (.iload 7, 2) := by decide +kernel
theorem dX12_game_78 : decode cX12_game 78 = .ok (.invokevirtual 259, 3) := by decide +kernel
theorem dX12_game_81 : decode cX12_game 81 = .ok (.istore 8, 2) := by decide +kernel
theorem dX12_game_83 : decode cX12_game 83 = .ok (.aload_n 0, 1) := by decide +kernel
theorem dX12_game_84 : decode cX12_game 84 = .ok (.getfield 96, 3) := by decide +kernel
theorem dX12_game_87 : decode cX12_game 87 = .ok (.aload_n 0, 1) := by decide +kernel
theorem dX12_game_88 : decode cX12_game 88 = .ok (.getfield 372, 3) := by decide +kernel
theorem dX12_game_91 : decode cX12_game 91 = .ok (.iload 6, 2) := by decide +kernel
theorem dX12_game_93 : decode cX12_game 93 = .ok (.iastore, 1) := by decide +kernel
theorem dX12_game_94 : decode cX12_game 94 = .ok (.aload_n 0, 1) := by decide +kernel
theorem dX12_game_95 : decode cX12_game 95 = .ok (.getfield 99, 3) := by decide +kernel
theorem dX12_game_98 : decode cX12_game 98 = .ok (.aload_n 0, 1) := by decide +kernel
theorem dX12_game_99 : decode cX12_game 99 = .ok (.getfield 372, 3) := by decide +kernel
theorem dX12_game_102 : decode cX12_game 102 = .ok (.aload_n 0, 1) := by decide +kernel
theorem dX12_game_103 : decode cX12_game 103 = .ok (.iload 6, 2) := by decide +kernel
theorem dX12_game_105 : decode cX12_game 105 = .ok (.iload 7, 2) := by decide +kernel
theorem dX12_game_107 : decode cX12_game 107 = .ok (.invokevirtual 262, 3) := by decide +kernel
theorem dX12_game_110 : decode cX12_game 110 = .ok (.iastore, 1) := by decide +kernel
theorem dX12_game_111 : decode cX12_game 111 = .ok (.iload 4, 2) := by decide +kernel
theorem dX12_game_113 : decode cX12_game 113 = .ok (.aload_n 0, 1) := by decide +kernel
theorem dX12_game_114 : decode cX12_game 114 = .ok (.getfield 99, 3) := by decide +kernel
theorem dX12_game_117 : decode cX12_game 117 = .ok (.aload_n 0, 1) := by decide +kernel
theorem dX12_game_118 : decode cX12_game 118 = .ok (.getfield 372, 3) := by decide +kernel
theorem dX12_game_121 : decode cX12_game 121 = .ok (.iaload, 1) := by decide +kernel
theorem dX12_game_122 : decode cX12_game 122 = .ok (.iadd, 1) := by decide +kernel
theorem dX12_game_123 : decode cX12_game 123 = .ok (.istore 4, 2) := by decide +kernel
theorem dX12_game_125 : decode cX12_game 125 = .ok (.iload_n 3, 1) := by decide +kernel
theorem dX12_game_126 : decode cX12_game 126 = .ok (.ldc_w 375, 3) := by decide +kernel
theorem dX12_game_129 : decode cX12_game 129 = .ok (.imul, 1) := by decide +kernel
theorem dX12_game_130 : decode cX12_game 130 = .ok (.sipush 12345, 3) := by decide +kernel
theorem dX12_game_133 : decode cX12_game 133 = .ok (.iadd, 1) := by decide +kernel
theorem dX12_game_134 : decode cX12_game 134 = .ok (.istore_n 3, 1) := by decide +kernel
theorem dX12_game_135 : decode cX12_game 135 = .ok (.aload_n 0, 1) := by decide +kernel
theorem dX12_game_136 : decode cX12_game 136 = .ok (.getfield 102, 3) := by decide +kernel
theorem dX12_game_139 : decode cX12_game 139 = .ok (.aload_n 0, 1) := by decide +kernel
theorem dX12_game_140 : decode cX12_game 140 = .ok (.getfield 372, 3) := by decide +kernel
theorem dX12_game_143 : decode cX12_game 143 = .ok (.iload_n 3, 1) := by decide +kernel
theorem dX12_game_144 : decode cX12_game 144 = .ok (.bipush 8, 2) := by decide +kernel
theorem dX12_game_146 : decode cX12_game 146 = .ok (.iushr, 1) := by decide +kernel
theorem dX12_game_147 : decode cX12_game 147 = .ok (.sipush 1000, 3) := by decide +kernel
theorem dX12_game_150 : decode cX12_game 150 = .ok (.irem, 1) := by decide +kernel
theorem dX12_game_151 : decode cX12_game 151 = .ok (.iload 8, 2) := by decide +kernel
theorem dX12_game_153 : decode cX12_game 153 = .ok (.if_icmp .ge 7, 3) := by decide +kernel
theorem dX12_game_156 : decode cX12_game 156 = .ok (.iconst 1, 1) := by decide +kernel
theorem dX12_game_157 : decode cX12_game 157 = .ok (.goto 4, 3) := by decide +kernel
theorem dX12_game_160 : decode cX12_game 160 = .ok (.iconst 0, 1) := by decide +kernel
theorem dX12_game_161 : decode cX12_game 161 = .ok (.iastore, 1) := by decide +kernel
theorem dX12_game_162 : decode cX12_game 162 = .ok (.aload_n 0, 1) := by decide +kernel
theorem dX12_game_163 : decode cX12_game 163 = .ok (.iload 6, 2) := by decide +kernel
theorem dX12_game_165 : decode cX12_game 165 = .ok (.aload_n 0, 1) := by decide +kernel
theorem dX12_game_166 : decode cX12_game 166 = .ok (.getfield 102, 3) := by decide +kernel
theorem dX12_game_169 : decode cX12_game 169 = .ok (.aload_n 0, 1) := by decide +kernel
theorem dX12_game_170 : decode cX12_game 170 = .ok (.getfield 372, 3) := by decide +kernel
theorem dX12_game_173 : decode cX12_game 173 = .ok (.iaload, 1) := by decide +kernel
theorem dX12_game_174 : decode cX12_game 174 = .ok (.iconst 1, 1) := by decide +kernel
theorem dX12_game_175 : decode cX12_game 175 = .ok (.if_icmp .ne 7, 3) := by decide +kernel
theorem dX12_game_178 : decode cX12_game 178 = .ok (.iconst 1, 1) := by decide +kernel
theorem dX12_game_179 : decode cX12_game 179 = .ok (.goto 4, 3) := by decide +kernel
theorem dX12_game_182 : decode cX12_game 182 = .ok (.iconst 0, 1) := by decide +kernel
theorem dX12_game_183 : decode cX12_game 183 = .ok (.invokevirtual 296, 3) := by decide +kernel
theorem dX12_game_186 : decode cX12_game 186 = .ok (.istore 9, 2) := by decide +kernel
theorem dX12_game_188 : decode cX12_game 188 = .ok (.iload_n 3, 1) := by decide +kernel
theorem dX12_game_189 : decode cX12_game 189 = .ok (.ldc_w 375, 3) := by decide +kernel
theorem dX12_game_192 : decode cX12_game 192 = .ok (.imul, 1) := by decide +kernel
theorem dX12_game_193 : decode cX12_game 193 = .ok (.sipush 12345, 3) := by decide +kernel
theorem dX12_game_196 : decode cX12_game 196 = .ok (.iadd, 1) := by decide +kernel
theorem dX12_game_197 : decode cX12_game 197 = .ok (.istore_n 3, 1) := by decide +kernel
theorem dX12_game_198 : decode cX12_game 198 = .ok (.iload_n 3, 1) := by decide +kernel
theorem dX12_game_199 : decode cX12_game 199 = .ok (.bipush 8, 2) := by decide +kernel
theorem dX12_game_201 : decode cX12_game 201 = .ok (.iushr, 1) := by decide +kernel
theorem dX12_game_202 : decode cX12_game 202 = .ok (.sipush 1000, 3) := by decide +kernel
theorem dX12_game_205 : decode cX12_game 205 = .ok (.irem, 1) := by decide +kernel
theorem dX12_game_206 : decode cX12_game 206 = .ok (.aload_n 0, 1) := by decide +kernel
theorem dX12_game_207 : decode cX12_game 207 = .ok (.getfield 231, 3) := by decide +kernel
theorem dX12_game_210 : decode cX12_game 210 = .ok (.if_icmp .ge 7, 3) := by decide +kernel
theorem dX12_game_213 : decode cX12_game 213 = .ok (.iconst 1, 1) := by decide +kernel
theorem dX12_game_214 : decode cX12_game 214 = .ok (.goto 4, 3) := by decide +kernel
theorem dX12_game_217 : decode cX12_game 217 = .ok (.iconst 0, 1) := by decide +kernel
theorem dX12_game_218 : decode cX12_game 218 = .ok (.istore 5, 2) := by decide +kernel
theorem dX12_game_220 : decode cX12_game 220 = .ok (.aload_n 0, 1) := by decide +kernel
theorem dX12_game_221 : decode cX12_game 221 = .ok (.dup, 1) := by decide +kernel
theorem dX12_game_222 : decode cX12_game 222 = .ok (.getfield 372, 3) := by decide +kernel
theorem dX12_game_225 : decode cX12_game 225 = .ok (.iconst 1, 1) := by decide +kernel
theorem dX12_game_226 : decode cX12_game 226 = .ok (.iadd, 1) := by decide +kernel
theorem dX12_game_227 : decode cX12_game 227 = .ok (.putfield 372, 3) := by decide +kernel
theorem dX12_game_230 : decode cX12_game 230 = .ok (.goto (-187), 3) := by decide +kernel
theorem dX12_game_233 : decode cX12_game 233 = .ok (.iload 4, 2) := by decide +kernel
theorem dX12_game_235 : decode cX12_game 235 = .ok (.ireturn, 1) := by decide +kernel
theorem dX12_led_0 : decode cX12_led 0 = .ok (.iload_n 1, 1) := by decide +kernel
theorem dX12_led_1 : decode cX12_led 1 = .ok (.iconst (-1), 1) := by decide +kernel
theorem dX12_led_2 : decode cX12_led 2 = .ok (.if_icmp .ne 16, 3) := by decide +kernel
theorem dX12_led_5 : decode cX12_led 5 = .ok (.iload_n 2, 1) := by decide +kernel
theorem dX12_led_6 : decode cX12_led 6 = .ok (.ifCond .ne 10, 3) := by decide +kernel
theorem dX12_led_9 : decode cX12_led 9 = .ok (.aload_n 0, 1) := by decide +kernel
theorem dX12_led_10 : decode cX12_led 10 = .ok (.getfield 372, 3) := by decide +kernel
theorem dX12_led_13 : decode cX12_led 13 = .ok (.goto 4, 3) := by decide +kernel
theorem dX12_led_16 : decode cX12_led 16 = .ok (.iconst (-1), 1) := by decide +kernel
theorem dX12_led_17 : decode cX12_led 17 = .ok (.ireturn, 1) := by decide +kernel
theorem dX12_led_18 : decode cX12_led 18 = .ok (.iload_n 1, 1) := by decide +kernel
theorem dX12_led_19 : decode cX12_led 19 = .ok (.i2l, 1) := by decide +kernel
theorem dX12_led_20 : decode cX12_led 20 = .ok (.lconst 0, 1) := by decide +kernel
theorem dX12_led_21 : decode cX12_led 21 = .ok (.aload_n 0, 1) := by decide +kernel
theorem dX12_led_22 : decode cX12_led 22 = .ok (.getfield 372, 3) := by decide +kernel
theorem dX12_led_25 : decode cX12_led 25 = .ok (.iconst 1, 1) := by decide +kernel
theorem dX12_led_26 : decode cX12_led 26 = .ok (.isub, 1) := by decide +kernel
theorem dX12_led_27 : decode cX12_led 27 = .ok (.i2l, 1) := by decide +kernel
theorem dX12_led_28 : decode cX12_led 28 = .ok (.invokestatic 136, 3) := by decide +kernel
theorem dX12_led_31 : decode cX12_led 31 = .ok (.ifCond .ne 5, 3) := by decide +kernel
theorem dX12_led_34 : decode cX12_led 34 = .ok (.iconst (-1), 1) := by decide +kernel
theorem dX12_led_35 : decode cX12_led 35 = .ok (.ireturn, 1) := by decide +kernel
theorem dX12_led_36 : decode cX12_led 36 = .ok (.iload_n 2, 1) := by decide +kernel
theorem dX12_led_37 : decode cX12_led 37 = .ok (.tableswitch 48 0 2 #[27, 34, 41], 27) := by decide +kernel
theorem dX12_led_64 : decode cX12_led 64 = .ok (.aload_n 0, 1) := by decide +kernel
theorem dX12_led_65 : decode cX12_led 65 = .ok (.getfield 96, 3) := by decide +kernel
theorem dX12_led_68 : decode cX12_led 68 = .ok (.iload_n 1, 1) := by decide +kernel
theorem dX12_led_69 : decode cX12_led 69 = .ok (.iaload, 1) := by decide +kernel
theorem dX12_led_70 : decode cX12_led 70 = .ok (.ireturn, 1) := by decide +kernel
theorem dX12_led_71 : decode cX12_led 71 = .ok (.aload_n 0, 1) := by decide +kernel
theorem dX12_led_72 : decode cX12_led 72 = .ok (.getfield 99, 3) := by decide +kernel
theorem dX12_led_75 : decode cX12_led 75 = .ok (.iload_n 1, 1) := by decide +kernel
theorem dX12_led_76 : decode cX12_led 76 = .ok (.iaload, 1) := by decide +kernel
theorem dX12_led_77 : decode cX12_led 77 = .ok (.ireturn, 1) := by decide +kernel
theorem dX12_led_78 : decode cX12_led 78 = .ok (.aload_n 0, 1) := by decide +kernel
theorem dX12_led_79 : decode cX12_led 79 = .ok (.getfield 102, 3) := by decide +kernel
theorem dX12_led_82 : decode cX12_led 82 = .ok (.iload_n 1, 1) := by decide +kernel
theorem dX12_led_83 : decode cX12_led 83 = .ok (.iaload, 1) := by decide +kernel
theorem dX12_led_84 : decode cX12_led 84 = .ok (.ireturn, 1) := by decide +kernel
theorem dX12_led_85 : decode cX12_led 85 = .ok (.iconst (-1), 1) := by decide +kernel
theorem dX12_led_86 : decode cX12_led 86 = .ok (.ireturn, 1) := by decide +kernel
theorem dX12_above_0 : decode cX12_above 0 = .ok (.iload_n 0, 1) := by decide +kernel
theorem dX12_above_1 : decode cX12_above 1 = .ok (.iconst 5, 1) := by decide +kernel
theorem dX12_above_2 : decode cX12_above 2 = .ok (.if_icmp .ne 7, 3) := by decide +kernel
theorem dX12_above_5 : decode cX12_above 5 = .ok (.iconst 3, 1) := by decide +kernel
theorem dX12_above_6 : decode cX12_above 6 = .ok (.goto 22, 3) := by decide +kernel
theorem dX12_above_9 : decode cX12_above 9 = .ok (.iload_n 0, 1) := by decide +kernel
theorem dX12_above_10 : decode cX12_above 10 = .ok (.iconst 3, 1) := by decide +kernel
theorem dX12_above_11 : decode cX12_above 11 = .ok (.if_icmp .ne 7, 3) := by decide +kernel
theorem dX12_above_14 : decode cX12_above 14 = .ok (.iconst 2, 1) := by decide +kernel
theorem dX12_above_15 : decode cX12_above 15 = .ok (.goto 13, 3) := by decide +kernel
theorem dX12_above_18 : decode cX12_above 18 = .ok (.iload_n 0, 1) := by decide +kernel
theorem dX12_above_19 : decode cX12_above 19 = .ok (.iconst 4, 1) := by decide +kernel
theorem dX12_above_20 : decode cX12_above 20 = .ok (.if_icmp .ne 7, 3) := by decide +kernel
theorem dX12_above_23 : decode cX12_above 23 = .ok (.iconst 1, 1) := by decide +kernel
theorem dX12_above_24 : decode cX12_above 24 = .ok (.goto 4, 3) := by decide +kernel
theorem dX12_above_27 : decode cX12_above 27 = .ok (.iconst 0, 1) := by decide +kernel
theorem dX12_above_28 : decode cX12_above 28 = .ok (.ireturn, 1) := by decide +kernel
theorem dX12_begins_0 : decode cX12_begins 0 = .ok (.aload_n 0, 1) := by decide +kernel
theorem dX12_begins_1 : decode cX12_begins 1 = .ok (.getfield 376, 3) := by decide +kernel
theorem dX12_begins_4 : decode cX12_begins 4 = .ok (.bipush 24, 2) := by decide +kernel
theorem dX12_begins_6 : decode cX12_begins 6 = .ok (.if_icmp .ge 13, 3) := by decide +kernel
theorem dX12_begins_9 : decode cX12_begins 9 = .ok (.aload_n 0, 1) := by decide +kernel
theorem dX12_begins_10 : decode cX12_begins 10 = .ok (.getfield 105, 3) := by decide +kernel
theorem dX12_begins_13 : decode cX12_begins 13 = .ok (.aload_n 0, 1) := by decide +kernel
theorem dX12_begins_14 : decode cX12_begins 14 = .ok (.getfield 376, 3) := by decide +kernel
theorem dX12_begins_17 : decode cX12_begins 17 = .ok (.iload_n 1, 1) := by decide +kernel
theorem dX12_begins_18 : decode cX12_begins 18 = .ok (.iastore, 1) := by decide +kernel
theorem dX12_begins_19 : decode cX12_begins 19 = .ok (.aload_n 0, 1) := by decide +kernel
theorem dX12_begins_20 : decode cX12_begins 20 = .ok (.dup, 1) := by decide +kernel
theorem dX12_begins_21 : decode cX12_begins 21 = .ok (.getfield 376, 3) := by decide +kernel
theorem dX12_begins_24 : decode cX12_begins 24 = .ok (.iconst 1, 1) := by decide +kernel
theorem dX12_begins_25 : decode cX12_begins 25 = .ok (.iadd, 1) := by decide +kernel
theorem dX12_begins_26 : decode cX12_begins 26 = .ok (.putfield 376, 3) := by decide +kernel
theorem dX12_begins_29 : decode cX12_begins 29 = .ok (.return_, 1) := by decide +kernel
theorem dX12_putsAs_0 : decode cX12_putsAs 0 = .ok (.iload_n 1, 1) := by decide +kernel
theorem dX12_putsAs_1 : decode cX12_putsAs 1 = .ok (.iconst 4, 1) := by decide +kernel
theorem dX12_putsAs_2 : decode cX12_putsAs 2 = .ok (.if_icmp .ne 18, 3) := by decide +kernel
theorem dX12_putsAs_5 : decode cX12_putsAs 5 = .ok (.aload_n 0, 1) := by decide +kernel
theorem dX12_putsAs_6 : decode cX12_putsAs 6 = .ok (.bipush 50, 2) := by decide +kernel
theorem dX12_putsAs_8 : decode cX12_putsAs 8 = .ok (.invokevirtual 379, 3) := by decide +kernel
theorem dX12_putsAs_11 : decode cX12_putsAs 11 = .ok (.aload_n 0, 1) := by decide +kernel
theorem dX12_putsAs_12 : decode cX12_putsAs 12 = .ok (.iconst 1, 1) := by decide +kernel
theorem dX12_putsAs_13 : decode cX12_putsAs 13 = .ok (.iload_n 2, 1) := by decide +kernel
theorem dX12_putsAs_14 : decode cX12_putsAs 14 = .ok (.iconst 1, 1) := by decide +kernel
theorem dX12_putsAs_15 : decode cX12_putsAs 15 = .ok (.iadd, 1) := by decide +kernel
theorem dX12_putsAs_16 : decode cX12_putsAs 16 = .ok (.invokevirtual 382, 3) := by decide +kernel
theorem dX12_putsAs_19 : decode cX12_putsAs 19 = .ok (.ireturn, 1) := by decide +kernel
theorem dX12_putsAs_20 : decode cX12_putsAs 20 = .ok (.iload_n 1, 1) := by decide +kernel
theorem dX12_putsAs_21 : decode cX12_putsAs 21 = .ok (.iconst 1, 1) := by decide +kernel
theorem dX12_putsAs_22 : decode cX12_putsAs 22 = .ok (.if_icmp .ne 18, 3) := by decide +kernel
theorem dX12_putsAs_25 : decode cX12_putsAs 25 = .ok (.aload_n 0, 1) := by decide +kernel
theorem dX12_putsAs_26 : decode cX12_putsAs 26 = .ok (.bipush 20, 2) := by decide +kernel
theorem dX12_putsAs_28 : decode cX12_putsAs 28 = .ok (.invokevirtual 379, 3) := by decide +kernel
theorem dX12_putsAs_31 : decode cX12_putsAs 31 = .ok (.aload_n 0, 1) := by decide +kernel
theorem dX12_putsAs_32 : decode cX12_putsAs 32 = .ok (.iconst 0, 1) := by decide +kernel
theorem dX12_putsAs_33 : decode cX12_putsAs 33 = .ok (.iload_n 2, 1) := by decide +kernel
theorem dX12_putsAs_34 : decode cX12_putsAs 34 = .ok (.invokevirtual 382, 3) := by decide +kernel
theorem dX12_putsAs_37 : decode cX12_putsAs 37 = .ok (.iconst 3, 1) := by decide +kernel
theorem dX12_putsAs_38 : decode cX12_putsAs 38 = .ok (.iadd, 1) := by decide +kernel
theorem dX12_putsAs_39 : decode cX12_putsAs 39 = .ok (.ireturn, 1) := by decide +kernel
theorem dX12_putsAs_40 : decode cX12_putsAs 40 = .ok (.aload_n 0, 1) := by decide +kernel
theorem dX12_putsAs_41 : decode cX12_putsAs 41 = .ok (.iconst 1, 1) := by decide +kernel
theorem dX12_putsAs_42 : decode cX12_putsAs 42 = .ok (.invokevirtual 379, 3) := by decide +kernel
theorem dX12_putsAs_45 : decode cX12_putsAs 45 = .ok (.iload_n 2, 1) := by decide +kernel
theorem dX12_putsAs_46 : decode cX12_putsAs 46 = .ok (.aload_n 0, 1) := by decide +kernel
theorem dX12_putsAs_47 : decode cX12_putsAs 47 = .ok (.getfield 385, 3) := by decide +kernel
theorem dX12_putsAs_50 : decode cX12_putsAs 50 = .ok (.iadd, 1) := by decide +kernel
theorem dX12_putsAs_51 : decode cX12_putsAs 51 = .ok (.ireturn, 1) := by decide +kernel
theorem dX12_holdsAs_0 : decode cX12_holdsAs 0 = .ok (.iload_n 1, 1) := by decide +kernel
theorem dX12_holdsAs_1 : decode cX12_holdsAs 1 = .ok (.iconst 3, 1) := by decide +kernel
theorem dX12_holdsAs_2 : decode cX12_holdsAs 2 = .ok (.if_icmp .eq 8, 3) := by decide +kernel
theorem dX12_holdsAs_5 : decode cX12_holdsAs 5 = .ok (.iload_n 1, 1) := by decide +kernel
theorem dX12_holdsAs_6 : decode cX12_holdsAs 6 = .ok (.iconst 5, 1) := by decide +kernel
theorem dX12_holdsAs_7 : decode cX12_holdsAs 7 = .ok (.if_icmp .ne 17, 3) := by decide +kernel
theorem dX12_holdsAs_10 : decode cX12_holdsAs 10 = .ok (.aload_n 0, 1) := by decide +kernel
theorem dX12_holdsAs_11 : decode cX12_holdsAs 11 = .ok (.bipush 40, 2) := by decide +kernel
theorem dX12_holdsAs_13 : decode cX12_holdsAs 13 = .ok (.invokevirtual 379, 3) := by decide +kernel
theorem dX12_holdsAs_16 : decode cX12_holdsAs 16 = .ok (.aload_n 0, 1) := by decide +kernel
theorem dX12_holdsAs_17 : decode cX12_holdsAs 17 = .ok (.iconst 0, 1) := by decide +kernel
theorem dX12_holdsAs_18 : decode cX12_holdsAs 18 = .ok (.iload_n 2, 1) := by decide +kernel
theorem dX12_holdsAs_19 : decode cX12_holdsAs 19 = .ok (.invokevirtual 388, 3) := by decide +kernel
theorem dX12_holdsAs_22 : decode cX12_holdsAs 22 = .ok (.ineg, 1) := by decide +kernel
theorem dX12_holdsAs_23 : decode cX12_holdsAs 23 = .ok (.ireturn, 1) := by decide +kernel
theorem dX12_holdsAs_24 : decode cX12_holdsAs 24 = .ok (.iload_n 1, 1) := by decide +kernel
theorem dX12_holdsAs_25 : decode cX12_holdsAs 25 = .ok (.bipush 6, 2) := by decide +kernel
theorem dX12_holdsAs_27 : decode cX12_holdsAs 27 = .ok (.if_icmp .ne 28, 3) := by decide +kernel
theorem dX12_holdsAs_30 : decode cX12_holdsAs 30 = .ok (.aload_n 0, 1) := by decide +kernel
theorem dX12_holdsAs_31 : decode cX12_holdsAs 31 = .ok (.bipush 70, 2) := by decide +kernel
theorem dX12_holdsAs_33 : decode cX12_holdsAs 33 = .ok (.invokevirtual 379, 3) := by decide +kernel
theorem dX12_holdsAs_36 : decode cX12_holdsAs 36 = .ok (.aload_n 0, 1) := by decide +kernel
theorem dX12_holdsAs_37 : decode cX12_holdsAs 37 = .ok (.iconst 0, 1) := by decide +kernel
theorem dX12_holdsAs_38 : decode cX12_holdsAs 38 = .ok (.iload_n 2, 1) := by decide +kernel
theorem dX12_holdsAs_39 : decode cX12_holdsAs 39 = .ok (.invokevirtual 388, 3) := by decide +kernel
theorem dX12_holdsAs_42 : decode cX12_holdsAs 42 = .ok (.istore_n 3, 1) := by decide +kernel
theorem dX12_holdsAs_43 : decode cX12_holdsAs 43 = .ok (.iload_n 3, 1) := by decide +kernel
theorem dX12_holdsAs_44 : decode cX12_holdsAs 44 = .ok (.aload_n 0, 1) := by decide +kernel
theorem dX12_holdsAs_45 : decode cX12_holdsAs 45 = .ok (.aload_n 0, 1) := by decide +kernel
theorem dX12_holdsAs_46 : decode cX12_holdsAs 46 = .ok (.getfield 391, 3) := by decide +kernel
theorem dX12_holdsAs_49 : decode cX12_holdsAs 49 = .ok (.iconst 1, 1) := by decide +kernel
theorem dX12_holdsAs_50 : decode cX12_holdsAs 50 = .ok (.invokevirtual 394, 3) := by decide +kernel
theorem dX12_holdsAs_53 : decode cX12_holdsAs 53 = .ok (.iadd, 1) := by decide +kernel
theorem dX12_holdsAs_54 : decode cX12_holdsAs 54 = .ok (.ireturn, 1) := by decide +kernel
theorem dX12_holdsAs_55 : decode cX12_holdsAs 55 = .ok (.aload_n 0, 1) := by decide +kernel
theorem dX12_holdsAs_56 : decode cX12_holdsAs 56 = .ok (.bipush 10, 2) := by decide +kernel
theorem dX12_holdsAs_58 : decode cX12_holdsAs 58 = .ok (.invokevirtual 379, 3) := by decide +kernel
theorem dX12_holdsAs_61 : decode cX12_holdsAs 61 = .ok (.aload_n 0, 1) := by decide +kernel
theorem dX12_holdsAs_62 : decode cX12_holdsAs 62 = .ok (.aload_n 0, 1) := by decide +kernel
theorem dX12_holdsAs_63 : decode cX12_holdsAs 63 = .ok (.getfield 391, 3) := by decide +kernel
theorem dX12_holdsAs_66 : decode cX12_holdsAs 66 = .ok (.iload_n 2, 1) := by decide +kernel
theorem dX12_holdsAs_67 : decode cX12_holdsAs 67 = .ok (.invokevirtual 382, 3) := by decide +kernel
theorem dX12_holdsAs_70 : decode cX12_holdsAs 70 = .ok (.iconst 2, 1) := by decide +kernel
theorem dX12_holdsAs_71 : decode cX12_holdsAs 71 = .ok (.imul, 1) := by decide +kernel
theorem dX12_holdsAs_72 : decode cX12_holdsAs 72 = .ok (.ireturn, 1) := by decide +kernel
theorem dX12_givesAs_0 : decode cX12_givesAs 0 = .ok (.iload_n 1, 1) := by decide +kernel
theorem dX12_givesAs_1 : decode cX12_givesAs 1 = .ok (.iconst 5, 1) := by decide +kernel
theorem dX12_givesAs_2 : decode cX12_givesAs 2 = .ok (.if_icmp .ne 28, 3) := by decide +kernel
theorem dX12_givesAs_5 : decode cX12_givesAs 5 = .ok (.aload_n 0, 1) := by decide +kernel
theorem dX12_givesAs_6 : decode cX12_givesAs 6 = .ok (.bipush 60, 2) := by decide +kernel
theorem dX12_givesAs_8 : decode cX12_givesAs 8 = .ok (.invokevirtual 379, 3) := by decide +kernel
theorem dX12_givesAs_11 : decode cX12_givesAs 11 = .ok (.aload_n 0, 1) := by decide +kernel
theorem dX12_givesAs_12 : decode cX12_givesAs 12 = .ok (.iconst 3, 1) := by decide +kernel
theorem dX12_givesAs_13 : decode cX12_givesAs 13 = .ok (.iload_n 2, 1) := by decide +kernel
theorem dX12_givesAs_14 : decode cX12_givesAs 14 = .ok (.invokevirtual 394, 3) := by decide +kernel
theorem dX12_givesAs_17 : decode cX12_givesAs 17 = .ok (.istore_n 3, 1) := by decide +kernel
theorem dX12_givesAs_18 : decode cX12_givesAs 18 = .ok (.iload_n 3, 1) := by decide +kernel
theorem dX12_givesAs_19 : decode cX12_givesAs 19 = .ok (.aload_n 0, 1) := by decide +kernel
theorem dX12_givesAs_20 : decode cX12_givesAs 20 = .ok (.aload_n 0, 1) := by decide +kernel
theorem dX12_givesAs_21 : decode cX12_givesAs 21 = .ok (.getfield 391, 3) := by decide +kernel
theorem dX12_givesAs_24 : decode cX12_givesAs 24 = .ok (.iconst 2, 1) := by decide +kernel
theorem dX12_givesAs_25 : decode cX12_givesAs 25 = .ok (.invokevirtual 382, 3) := by decide +kernel
theorem dX12_givesAs_28 : decode cX12_givesAs 28 = .ok (.isub, 1) := by decide +kernel
theorem dX12_givesAs_29 : decode cX12_givesAs 29 = .ok (.ireturn, 1) := by decide +kernel
theorem dX12_givesAs_30 : decode cX12_givesAs 30 = .ok (.iload_n 1, 1) := by decide +kernel
theorem dX12_givesAs_31 : decode cX12_givesAs 31 = .ok (.iconst 2, 1) := by decide +kernel
theorem dX12_givesAs_32 : decode cX12_givesAs 32 = .ok (.if_icmp .eq 8, 3) := by decide +kernel
theorem dX12_givesAs_35 : decode cX12_givesAs 35 = .ok (.iload_n 1, 1) := by decide +kernel
theorem dX12_givesAs_36 : decode cX12_givesAs 36 = .ok (.iconst 3, 1) := by decide +kernel
theorem dX12_givesAs_37 : decode cX12_givesAs 37 = .ok (.if_icmp .ne 18, 3) := by decide +kernel
theorem dX12_givesAs_40 : decode cX12_givesAs 40 = .ok (.aload_n 0, 1) := by decide +kernel
theorem dX12_givesAs_41 : decode cX12_givesAs 41 = .ok (.bipush 30, 2) := by decide +kernel
theorem dX12_givesAs_43 : decode cX12_givesAs 43 = .ok (.invokevirtual 379, 3) := by decide +kernel
theorem dX12_givesAs_46 : decode cX12_givesAs 46 = .ok (.aload_n 0, 1) := by decide +kernel
theorem dX12_givesAs_47 : decode cX12_givesAs 47 = .ok (.iconst 0, 1) := by decide +kernel
theorem dX12_givesAs_48 : decode cX12_givesAs 48 = .ok (.iload_n 2, 1) := by decide +kernel
theorem dX12_givesAs_49 : decode cX12_givesAs 49 = .ok (.invokevirtual 394, 3) := by decide +kernel
theorem dX12_givesAs_52 : decode cX12_givesAs 52 = .ok (.iconst 3, 1) := by decide +kernel
theorem dX12_givesAs_53 : decode cX12_givesAs 53 = .ok (.imul, 1) := by decide +kernel
theorem dX12_givesAs_54 : decode cX12_givesAs 54 = .ok (.ireturn, 1) := by decide +kernel
theorem dX12_givesAs_55 : decode cX12_givesAs 55 = .ok (.aload_n 0, 1) := by decide +kernel
theorem dX12_givesAs_56 : decode cX12_givesAs 56 = .ok (.bipush 11, 2) := by decide +kernel
theorem dX12_givesAs_58 : decode cX12_givesAs 58 = .ok (.invokevirtual 379, 3) := by decide +kernel
theorem dX12_givesAs_61 : decode cX12_givesAs 61 = .ok (.iload_n 2, 1) := by decide +kernel
theorem dX12_givesAs_62 : decode cX12_givesAs 62 = .ok (.aload_n 0, 1) := by decide +kernel
theorem dX12_givesAs_63 : decode cX12_givesAs 63 = .ok (.getfield 385, 3) := by decide +kernel
theorem dX12_givesAs_66 : decode cX12_givesAs 66 = .ok (.ixor, 1) := by decide +kernel
theorem dX12_givesAs_67 : decode cX12_givesAs 67 = .ok (.ireturn, 1) := by decide +kernel
theorem dX12_tellsAs_0 : decode cX12_tellsAs 0 = .ok (.iload_n 1, 1) := by decide +kernel
theorem dX12_tellsAs_1 : decode cX12_tellsAs 1 = .ok (.iconst 4, 1) := by decide +kernel
theorem dX12_tellsAs_2 : decode cX12_tellsAs 2 = .ok (.if_icmp .ne 18, 3) := by decide +kernel
theorem dX12_tellsAs_5 : decode cX12_tellsAs 5 = .ok (.aload_n 0, 1) := by decide +kernel
theorem dX12_tellsAs_6 : decode cX12_tellsAs 6 = .ok (.bipush 51, 2) := by decide +kernel
theorem dX12_tellsAs_8 : decode cX12_tellsAs 8 = .ok (.invokevirtual 379, 3) := by decide +kernel
theorem dX12_tellsAs_11 : decode cX12_tellsAs 11 = .ok (.aload_n 0, 1) := by decide +kernel
theorem dX12_tellsAs_12 : decode cX12_tellsAs 12 = .ok (.iconst 1, 1) := by decide +kernel
theorem dX12_tellsAs_13 : decode cX12_tellsAs 13 = .ok (.iload_n 2, 1) := by decide +kernel
theorem dX12_tellsAs_14 : decode cX12_tellsAs 14 = .ok (.invokevirtual 397, 3) := by decide +kernel
theorem dX12_tellsAs_17 : decode cX12_tellsAs 17 = .ok (.iconst 5, 1) := by decide +kernel
theorem dX12_tellsAs_18 : decode cX12_tellsAs 18 = .ok (.ixor, 1) := by decide +kernel
theorem dX12_tellsAs_19 : decode cX12_tellsAs 19 = .ok (.ireturn, 1) := by decide +kernel
theorem dX12_tellsAs_20 : decode cX12_tellsAs 20 = .ok (.aload_n 0, 1) := by decide +kernel
theorem dX12_tellsAs_21 : decode cX12_tellsAs 21 = .ok (.iconst 2, 1) := by decide +kernel
theorem dX12_tellsAs_22 : decode cX12_tellsAs 22 = .ok (.invokevirtual 379, 3) := by decide +kernel
theorem dX12_tellsAs_25 : decode cX12_tellsAs 25 = .ok (.aload_n 0, 1) := by decide +kernel
theorem dX12_tellsAs_26 : decode cX12_tellsAs 26 = .ok (.aload_n 0, 1) := by decide +kernel
theorem dX12_tellsAs_27 : decode cX12_tellsAs 27 = .ok (.getfield 391, 3) := by decide +kernel
theorem dX12_tellsAs_30 : decode cX12_tellsAs 30 = .ok (.iload_n 2, 1) := by decide +kernel
theorem dX12_tellsAs_31 : decode cX12_tellsAs 31 = .ok (.invokevirtual 388, 3) := by decide +kernel
theorem dX12_tellsAs_34 : decode cX12_tellsAs 34 = .ok (.istore_n 3, 1) := by decide +kernel
theorem dX12_tellsAs_35 : decode cX12_tellsAs 35 = .ok (.iload_n 3, 1) := by decide +kernel
theorem dX12_tellsAs_36 : decode cX12_tellsAs 36 = .ok (.aload_n 0, 1) := by decide +kernel
theorem dX12_tellsAs_37 : decode cX12_tellsAs 37 = .ok (.aload_n 0, 1) := by decide +kernel
theorem dX12_tellsAs_38 : decode cX12_tellsAs 38 = .ok (.getfield 391, 3) := by decide +kernel
theorem dX12_tellsAs_41 : decode cX12_tellsAs 41 = .ok (.iconst 1, 1) := by decide +kernel
theorem dX12_tellsAs_42 : decode cX12_tellsAs 42 = .ok (.invokevirtual 394, 3) := by decide +kernel
theorem dX12_tellsAs_45 : decode cX12_tellsAs 45 = .ok (.isub, 1) := by decide +kernel
theorem dX12_tellsAs_46 : decode cX12_tellsAs 46 = .ok (.ireturn, 1) := by decide +kernel
theorem dX12_act_0 : decode cX12_act 0 = .ok (.aload_n 0, 1) := by decide +kernel
theorem dX12_act_1 : decode cX12_act 1 = .ok (.iconst 0, 1) := by decide +kernel
theorem dX12_act_2 : decode cX12_act 2 = .ok (.putfield 376, 3) := by decide +kernel
theorem dX12_act_5 : decode cX12_act 5 = .ok (.aload_n 0, 1) := by decide +kernel
theorem dX12_act_6 : decode cX12_act 6 = .ok (.iload_n 1, 1) := by decide +kernel
theorem dX12_act_7 : decode cX12_act 7 = .ok (.invokevirtual 331, 3) := by decide +kernel
theorem dX12_act_10 : decode cX12_act 10 = .ok (.ifCond .ne 5, 3) := by decide +kernel
theorem dX12_act_13 : decode cX12_act 13 = .ok (.iconst 0, 1) := by decide +kernel
theorem dX12_act_14 : decode cX12_act 14 = .ok (.ireturn, 1) := by decide +kernel
theorem dX12_act_15 : decode cX12_act 15 = .ok (.aload_n 0, 1) := by decide +kernel
theorem dX12_act_16 : decode cX12_act 16 = .ok (.aload_n 0, 1) := by decide +kernel
theorem dX12_act_17 : decode cX12_act 17 = .ok (.getfield 59, 3) := by decide +kernel
theorem dX12_act_20 : decode cX12_act 20 = .ok (.iload_n 1, 1) := by decide +kernel
theorem dX12_act_21 : decode cX12_act 21 = .ok (.iaload, 1) := by decide +kernel
theorem dX12_act_22 : decode cX12_act 22 = .ok (.putfield 391, 3) := by decide +kernel
theorem dX12_act_25 : decode cX12_act 25 = .ok (.aload_n 0, 1) := by decide +kernel
theorem dX12_act_26 : decode cX12_act 26 = .ok (.iload_n 1, 1) := by decide +kernel
theorem dX12_act_27 : decode cX12_act 27 = .ok (.putfield 385, 3) := by decide +kernel
theorem dX12_act_30 : decode cX12_act 30 = .ok (.iload_n 2, 1) := by decide +kernel
theorem dX12_act_31 : decode cX12_act 31 = .ok (.tableswitch 69 0 3 #[29, 39, 49, 59], 29) := by decide +kernel
theorem dX12_act_60 : decode cX12_act 60 = .ok (.aload_n 0, 1) := by decide +kernel
theorem dX12_act_61 : decode cX12_act 61 = .ok (.aload_n 0, 1) := by decide +kernel
theorem dX12_act_62 : decode cX12_act 62 = .ok (.getfield 391, 3) := by decide +kernel
theorem dX12_act_65 : decode cX12_act 65 = .ok (.iload_n 3, 1) := by decide +kernel
theorem dX12_act_66 : decode cX12_act 66 = .ok (.invokevirtual 382, 3) := by decide +kernel
theorem dX12_act_69 : decode cX12_act 69 = .ok (.ireturn, 1) := by decide +kernel
theorem dX12_act_70 : decode cX12_act 70 = .ok (.aload_n 0, 1) := by decide +kernel
theorem dX12_act_71 : decode cX12_act 71 = .ok (.aload_n 0, 1) := by decide +kernel
theorem dX12_act_72 : decode cX12_act 72 = .ok (.getfield 391, 3) := by decide +kernel
theorem dX12_act_75 : decode cX12_act 75 = .ok (.iload_n 3, 1) := by decide +kernel
theorem dX12_act_76 : decode cX12_act 76 = .ok (.invokevirtual 388, 3) := by decide +kernel
theorem dX12_act_79 : decode cX12_act 79 = .ok (.ireturn, 1) := by decide +kernel
theorem dX12_act_80 : decode cX12_act 80 = .ok (.aload_n 0, 1) := by decide +kernel
theorem dX12_act_81 : decode cX12_act 81 = .ok (.aload_n 0, 1) := by decide +kernel
theorem dX12_act_82 : decode cX12_act 82 = .ok (.getfield 391, 3) := by decide +kernel
theorem dX12_act_85 : decode cX12_act 85 = .ok (.iload_n 3, 1) := by decide +kernel
theorem dX12_act_86 : decode cX12_act 86 = .ok (.invokevirtual 394, 3) := by decide +kernel
theorem dX12_act_89 : decode cX12_act 89 = .ok (.ireturn, 1) := by decide +kernel
theorem dX12_act_90 : decode cX12_act 90 = .ok (.aload_n 0, 1) := by decide +kernel
theorem dX12_act_91 : decode cX12_act 91 = .ok (.aload_n 0, 1) := by decide +kernel
theorem dX12_act_92 : decode cX12_act 92 = .ok (.getfield 391, 3) := by decide +kernel
theorem dX12_act_95 : decode cX12_act 95 = .ok (.iload_n 3, 1) := by decide +kernel
theorem dX12_act_96 : decode cX12_act 96 = .ok (.invokevirtual 397, 3) := by decide +kernel
theorem dX12_act_99 : decode cX12_act 99 = .ok (.ireturn, 1) := by decide +kernel
theorem dX12_act_100 : decode cX12_act 100 = .ok (.iconst 0, 1) := by decide +kernel
theorem dX12_act_101 : decode cX12_act 101 = .ok (.ireturn, 1) := by decide +kernel
theorem dX12_trace_0 : decode cX12_trace 0 = .ok (.iload_n 1, 1) := by decide +kernel
theorem dX12_trace_1 : decode cX12_trace 1 = .ok (.ifCond .lt 26, 3) := by decide +kernel
theorem dX12_trace_4 : decode cX12_trace 4 = .ok (.iload_n 1, 1) := by decide +kernel
theorem dX12_trace_5 : decode cX12_trace 5 = .ok (.aload_n 0, 1) := by decide +kernel
theorem dX12_trace_6 : decode cX12_trace 6 = .ok (.getfield 376, 3) := by decide +kernel
theorem dX12_trace_9 : decode cX12_trace 9 = .ok (.if_icmp .ge 18, 3) := by decide +kernel
theorem dX12_trace_12 : decode cX12_trace 12 = .ok (.iload_n 1, 1) := by decide +kernel
theorem dX12_trace_13 : decode cX12_trace 13 = .ok (.bipush 24, 2) := by decide +kernel
theorem dX12_trace_15 : decode cX12_trace 15 = .ok (.if_icmp .ge 12, 3) := by decide +kernel
theorem dX12_trace_18 : decode cX12_trace 18 = .ok (.aload_n 0, 1) := by decide +kernel
theorem dX12_trace_19 : decode cX12_trace 19 = .ok (.getfield 105, 3) := by decide +kernel
theorem dX12_trace_22 : decode cX12_trace 22 = .ok (.iload_n 1, 1) := by decide +kernel
theorem dX12_trace_23 : decode cX12_trace 23 = .ok (.iaload, 1) := by decide +kernel
theorem dX12_trace_24 : decode cX12_trace 24 = .ok (.goto 4, 3) := by decide +kernel
theorem dX12_trace_27 : decode cX12_trace 27 = .ok (.iconst (-1), 1) := by decide +kernel
theorem dX12_trace_28 : decode cX12_trace 28 = .ok (.ireturn, 1) := by decide +kernel
theorem dX12_isShelf_0 : decode cX12_isShelf 0 = .ok (.iload_n 0, 1) := by decide +kernel
theorem dX12_isShelf_1 : decode cX12_isShelf 1 = .ok (.i2l, 1) := by decide +kernel
theorem dX12_isShelf_2 : decode cX12_isShelf 2 = .ok (.lconst 0, 1) := by decide +kernel
theorem dX12_isShelf_3 : decode cX12_isShelf 3 = .ok (.ldc2_w 400, 3) := by decide +kernel
theorem dX12_isShelf_6 : decode cX12_isShelf 6 = .ok (.invokestatic 136, 3) := by decide +kernel
theorem dX12_isShelf_9 : decode cX12_isShelf 9 = .ok (.ireturn, 1) := by decide +kernel
theorem dX12_keep_0 : decode cX12_keep 0 = .ok (.iload_n 1, 1) := by decide +kernel
theorem dX12_keep_1 : decode cX12_keep 1 = .ok (.invokestatic 361, 3) := by decide +kernel
theorem dX12_keep_4 : decode cX12_keep 4 = .ok (.ifCond .eq 16, 3) := by decide +kernel
theorem dX12_keep_7 : decode cX12_keep 7 = .ok (.iload_n 2, 1) := by decide +kernel
theorem dX12_keep_8 : decode cX12_keep 8 = .ok (.iconst (-1), 1) := by decide +kernel
theorem dX12_keep_9 : decode cX12_keep 9 = .ok (.if_icmp .eq 13, 3) := by decide +kernel
theorem dX12_keep_12 : decode cX12_keep 12 = .ok (.aload_n 0, 1) := by decide +kernel
theorem dX12_keep_13 : decode cX12_keep 13 = .ok (.iload_n 2, 1) := by decide +kernel
theorem dX12_keep_14 : decode cX12_keep 14 = .ok (.invokevirtual 331, 3) := by decide +kernel
theorem dX12_keep_17 : decode cX12_keep 17 = .ok (.ifCond .ne 5, 3) := by decide +kernel
theorem dX12_keep_20 : decode cX12_keep 20 = .ok (.iconst (-1), 1) := by decide +kernel
theorem dX12_keep_21 : decode cX12_keep 21 = .ok (.ireturn, 1) := by decide +kernel
theorem dX12_keep_22 : decode cX12_keep 22 = .ok (.aload_n 0, 1) := by decide +kernel
theorem dX12_keep_23 : decode cX12_keep 23 = .ok (.getfield 108, 3) := by decide +kernel
theorem dX12_keep_26 : decode cX12_keep 26 = .ok (.iload_n 1, 1) := by decide +kernel
theorem dX12_keep_27 : decode cX12_keep 27 = .ok (.iload_n 2, 1) := by decide +kernel
theorem dX12_keep_28 : decode cX12_keep 28 = .ok (.iastore, 1) := by decide +kernel
theorem dX12_keep_29 : decode cX12_keep 29 = .ok (.aload_n 0, 1) := by decide +kernel
theorem dX12_keep_30 : decode cX12_keep 30 = .ok (.getfield 111, 3) := by decide +kernel
theorem dX12_keep_33 : decode cX12_keep 33 = .ok (.iload_n 1, 1) := by decide +kernel
theorem dX12_keep_34 : decode cX12_keep 34 = .ok (.iconst 0, 1) := by decide +kernel
theorem dX12_keep_35 : decode cX12_keep 35 = .ok (.iastore, 1) := by decide +kernel
theorem dX12_keep_36 : decode cX12_keep 36 = .ok (.iconst 1, 1) := by decide +kernel
theorem dX12_keep_37 : decode cX12_keep 37 = .ok (.ireturn, 1) := by decide +kernel
theorem dX12_row_0 : decode cX12_row 0 = .ok (.iload_n 1, 1) := by decide +kernel
theorem dX12_row_1 : decode cX12_row 1 = .ok (.invokestatic 361, 3) := by decide +kernel
theorem dX12_row_4 : decode cX12_row 4 = .ok (.ifCond .eq 21, 3) := by decide +kernel
theorem dX12_row_7 : decode cX12_row 7 = .ok (.iload_n 2, 1) := by decide +kernel
theorem dX12_row_8 : decode cX12_row 8 = .ok (.i2l, 1) := by decide +kernel
theorem dX12_row_9 : decode cX12_row 9 = .ok (.lconst 0, 1) := by decide +kernel
theorem dX12_row_10 : decode cX12_row 10 = .ok (.ldc2_w 172, 3) := by decide +kernel
theorem dX12_row_13 : decode cX12_row 13 = .ok (.invokestatic 136, 3) := by decide +kernel
theorem dX12_row_16 : decode cX12_row 16 = .ok (.ifCond .eq 9, 3) := by decide +kernel
theorem dX12_row_19 : decode cX12_row 19 = .ok (.iload_n 3, 1) := by decide +kernel
theorem dX12_row_20 : decode cX12_row 20 = .ok (.bipush 60, 2) := by decide +kernel
theorem dX12_row_22 : decode cX12_row 22 = .ok (.if_icmp .le 5, 3) := by decide +kernel
theorem dX12_row_25 : decode cX12_row 25 = .ok (.iconst (-1), 1) := by decide +kernel
theorem dX12_row_26 : decode cX12_row 26 = .ok (.ireturn, 1) := by decide +kernel
theorem dX12_row_27 : decode cX12_row 27 = .ok (.iload_n 3, 1) := by decide +kernel
theorem dX12_row_28 : decode cX12_row 28 = .ok (.ifCond .ge 6, 3) := by decide +kernel
theorem dX12_row_31 : decode cX12_row 31 = .ok (.bipush (-14), 2) := by decide +kernel
theorem dX12_row_33 : decode cX12_row 33 = .ok (.ireturn, 1) := by decide +kernel
theorem dX12_row_34 : decode cX12_row 34 = .ok (.aload_n 0, 1) := by decide +kernel
theorem dX12_row_35 : decode cX12_row 35 = .ok (.getfield 108, 3) := by decide +kernel
theorem dX12_row_38 : decode cX12_row 38 = .ok (.iload_n 1, 1) := by decide +kernel
theorem dX12_row_39 : decode cX12_row 39 = .ok (.bipush 20, 2) := by decide +kernel
theorem dX12_row_41 : decode cX12_row 41 = .ok (.iload_n 2, 1) := by decide +kernel
theorem dX12_row_42 : decode cX12_row 42 = .ok (.iadd, 1) := by decide +kernel
theorem dX12_row_43 : decode cX12_row 43 = .ok (.iastore, 1) := by decide +kernel
theorem dX12_row_44 : decode cX12_row 44 = .ok (.aload_n 0, 1) := by decide +kernel
theorem dX12_row_45 : decode cX12_row 45 = .ok (.getfield 111, 3) := by decide +kernel
theorem dX12_row_48 : decode cX12_row 48 = .ok (.iload_n 1, 1) := by decide +kernel
theorem dX12_row_49 : decode cX12_row 49 = .ok (.iload_n 3, 1) := by decide +kernel
theorem dX12_row_50 : decode cX12_row 50 = .ok (.iastore, 1) := by decide +kernel
theorem dX12_row_51 : decode cX12_row 51 = .ok (.bipush 60, 2) := by decide +kernel
theorem dX12_row_53 : decode cX12_row 53 = .ok (.iload_n 1, 1) := by decide +kernel
theorem dX12_row_54 : decode cX12_row 54 = .ok (.imul, 1) := by decide +kernel
theorem dX12_row_55 : decode cX12_row 55 = .ok (.istore 4, 2) := by decide +kernel
theorem dX12_row_57 : decode cX12_row 57 = .ok (.iload 4, 2) := by decide +kernel
theorem dX12_row_59 : decode cX12_row 59 = .ok (.bipush 60, 2) := by decide +kernel
theorem dX12_row_61 : decode cX12_row 61 = .ok (.iload_n 1, 1) := by decide +kernel
theorem dX12_row_62 : decode cX12_row 62 = .ok (.imul, 1) := by decide +kernel
theorem dX12_row_63 : decode cX12_row 63 = .ok (.bipush 60, 2) := by decide +kernel
theorem dX12_row_65 : decode cX12_row 65 = .ok (.iadd, 1) := by decide +kernel
theorem dX12_row_66 : decode cX12_row 66 = .ok (.if_icmp .ge 17, 3) := by decide +kernel
theorem dX12_row_69 : decode cX12_row 69 = .ok (.aload_n 0, 1) := by decide +kernel
theorem dX12_row_70 : decode cX12_row 70 = .ok (.getfield 114, 3) := by decide +kernel
theorem dX12_row_73 : decode cX12_row 73 = .ok (.iload 4, 2) := by decide +kernel
theorem dX12_row_75 : decode cX12_row 75 = .ok (.lconst 0, 1) := by decide +kernel
theorem dX12_row_76 : decode cX12_row 76 = .ok (.lastore, 1) := by decide +kernel
theorem dX12_row_77 : decode cX12_row 77 = .ok (.iinc 4 1, 3) := by decide +kernel
theorem dX12_row_80 : decode cX12_row 80 = .ok (.goto (-23), 3) := by decide +kernel
theorem dX12_row_83 : decode cX12_row 83 = .ok (.iconst 1, 1) := by decide +kernel
theorem dX12_row_84 : decode cX12_row 84 = .ok (.ireturn, 1) := by decide +kernel
theorem dX12_refusal_0 : decode cX12_refusal 0 = .ok (.iload_n 1, 1) := by decide +kernel
theorem dX12_refusal_1 : decode cX12_refusal 1 = .ok (.invokestatic 361, 3) := by decide +kernel
theorem dX12_refusal_4 : decode cX12_refusal 4 = .ok (.ifCond .ne 5, 3) := by decide +kernel
theorem dX12_refusal_7 : decode cX12_refusal 7 = .ok (.iconst (-1), 1) := by decide +kernel
theorem dX12_refusal_8 : decode cX12_refusal 8 = .ok (.ireturn, 1) := by decide +kernel
theorem dX12_refusal_9 : decode cX12_refusal 9 = .ok (.aload_n 0, 1) := by decide +kernel
theorem dX12_refusal_10 : decode cX12_refusal 10 = .ok (.getfield 108, 3) := by decide +kernel
theorem dX12_refusal_13 : decode cX12_refusal 13 = .ok (.iload_n 1, 1) := by decide +kernel
theorem dX12_refusal_14 : decode cX12_refusal 14 = .ok (.iaload, 1) := by decide +kernel
theorem dX12_refusal_15 : decode cX12_refusal 15 = .ok (.ifCond .ge 6, 3) := by decide +kernel
theorem dX12_refusal_18 : decode cX12_refusal 18 = .ok (.bipush (-11), 2) := by decide +kernel
theorem dX12_refusal_20 : decode cX12_refusal 20 = .ok (.ireturn, 1) := by decide +kernel
theorem dX12_refusal_21 : decode cX12_refusal 21 = .ok (.aload_n 0, 1) := by decide +kernel
theorem dX12_refusal_22 : decode cX12_refusal 22 = .ok (.getfield 108, 3) := by decide +kernel
theorem dX12_refusal_25 : decode cX12_refusal 25 = .ok (.iload_n 1, 1) := by decide +kernel
theorem dX12_refusal_26 : decode cX12_refusal 26 = .ok (.iaload, 1) := by decide +kernel
theorem dX12_refusal_27 : decode cX12_refusal 27 = .ok (.bipush 20, 2) := by decide +kernel
theorem dX12_refusal_29 : decode cX12_refusal 29 = .ok (.if_icmp .ge 6, 3) := by decide +kernel
theorem dX12_refusal_32 : decode cX12_refusal 32 = .ok (.bipush (-12), 2) := by decide +kernel
theorem dX12_refusal_34 : decode cX12_refusal 34 = .ok (.ireturn, 1) := by decide +kernel
theorem dX12_refusal_35 : decode cX12_refusal 35 = .ok (.iload_n 2, 1) := by decide +kernel
theorem dX12_refusal_36 : decode cX12_refusal 36 = .ok (.ifCond .lt 17, 3) := by decide +kernel
theorem dX12_refusal_39 : decode cX12_refusal 39 = .ok (.iload_n 2, 1) := by decide +kernel
theorem dX12_refusal_40 : decode cX12_refusal 40 = .ok (.aload_n 0, 1) := by decide +kernel
theorem dX12_refusal_41 : decode cX12_refusal 41 = .ok (.getfield 111, 3) := by decide +kernel
theorem dX12_refusal_44 : decode cX12_refusal 44 = .ok (.iload_n 1, 1) := by decide +kernel
theorem dX12_refusal_45 : decode cX12_refusal 45 = .ok (.iaload, 1) := by decide +kernel
theorem dX12_refusal_46 : decode cX12_refusal 46 = .ok (.if_icmp .ge 7, 3) := by decide +kernel
theorem dX12_refusal_49 : decode cX12_refusal 49 = .ok (.iconst 0, 1) := by decide +kernel
theorem dX12_refusal_50 : decode cX12_refusal 50 = .ok (.goto 5, 3) := by decide +kernel
theorem dX12_refusal_53 : decode cX12_refusal 53 = .ok (.bipush (-13), 2) := by decide +kernel
theorem dX12_refusal_55 : decode cX12_refusal 55 = .ok (.ireturn, 1) := by decide +kernel
theorem dX12_asSort_0 : decode cX12_asSort 0 = .ok (.iload_n 0, 1) := by decide +kernel
theorem dX12_asSort_1 : decode cX12_asSort 1 = .ok (.ifCond .ne 10, 3) := by decide +kernel
theorem dX12_asSort_4 : decode cX12_asSort 4 = .ok (.lload_n 1, 1) := by decide +kernel
theorem dX12_asSort_5 : decode cX12_asSort 5 = .ok (.l2i, 1) := by decide +kernel
theorem dX12_asSort_6 : decode cX12_asSort 6 = .ok (.i2b, 1) := by decide +kernel
theorem dX12_asSort_7 : decode cX12_asSort 7 = .ok (.i2l, 1) := by decide +kernel
theorem dX12_asSort_8 : decode cX12_asSort 8 = .ok (.goto 46, 3) := by decide +kernel
theorem dX12_asSort_11 : decode cX12_asSort 11 = .ok (.iload_n 0, 1) := by decide +kernel
theorem dX12_asSort_12 : decode cX12_asSort 12 = .ok (.iconst 1, 1) := by decide +kernel
theorem dX12_asSort_13 : decode cX12_asSort 13 = .ok (.if_icmp .ne 10, 3) := by decide +kernel
theorem dX12_asSort_16 : decode cX12_asSort 16 = .ok (.lload_n 1, 1) := by decide +kernel
theorem dX12_asSort_17 : decode cX12_asSort 17 = .ok (.l2i, 1) := by decide +kernel
theorem dX12_asSort_18 : decode cX12_asSort 18 = .ok (.i2s, 1) := by decide +kernel
theorem dX12_asSort_19 : decode cX12_asSort 19 = .ok (.i2l, 1) := by decide +kernel
theorem dX12_asSort_20 : decode cX12_asSort 20 = .ok (.goto 34, 3) := by decide +kernel
theorem dX12_asSort_23 : decode cX12_asSort 23 = .ok (.iload_n 0, 1) := by decide +kernel
theorem dX12_asSort_24 : decode cX12_asSort 24 = .ok (.iconst 2, 1) := by decide +kernel
theorem dX12_asSort_25 : decode cX12_asSort 25 = .ok (.if_icmp .ne 9, 3) := by decide +kernel
theorem dX12_asSort_28 : decode cX12_asSort 28 = .ok (.lload_n 1, 1) := by decide +kernel
theorem dX12_asSort_29 : decode cX12_asSort 29 = .ok (.l2i, 1) := by decide +kernel
theorem dX12_asSort_30 : decode cX12_asSort 30 = .ok (.i2l, 1) := by decide +kernel
theorem dX12_asSort_31 : decode cX12_asSort 31 = .ok (.goto 23, 3) := by decide +kernel
theorem dX12_asSort_34 : decode cX12_asSort 34 = .ok (.iload_n 0, 1) := by decide +kernel
theorem dX12_asSort_35 : decode cX12_asSort 35 = .ok (.iconst 4, 1) := by decide +kernel
theorem dX12_asSort_36 : decode cX12_asSort 36 = .ok (.if_icmp .ne 17, 3) := by decide +kernel
theorem dX12_asSort_39 : decode cX12_asSort 39 = .ok (.lload_n 1, 1) := by decide +kernel
theorem dX12_asSort_40 : decode cX12_asSort 40 = .ok (.lconst 0, 1) := by decide +kernel
theorem dX12_asSort_41 : decode cX12_asSort 41 = .ok (.lcmp, 1) := by decide +kernel
theorem dX12_asSort_42 : decode cX12_asSort 42 = .ok (.ifCond .eq 7, 3) := by decide +kernel
theorem dX12_asSort_45 : decode cX12_asSort 45 = .ok (.lconst 1, 1) := by decide +kernel
theorem dX12_asSort_46 : decode cX12_asSort 46 = .ok (.goto 8, 3) := by decide +kernel
theorem dX12_asSort_49 : decode cX12_asSort 49 = .ok (.lconst 0, 1) := by decide +kernel
theorem dX12_asSort_50 : decode cX12_asSort 50 = .ok (.goto 4, 3) := by decide +kernel
theorem dX12_asSort_53 : decode cX12_asSort 53 = .ok (.lload_n 1, 1) := by decide +kernel
theorem dX12_asSort_54 : decode cX12_asSort 54 = .ok (.lreturn, 1) := by decide +kernel
theorem dX12_put_0 : decode cX12_put 0 = .ok (.aload_n 0, 1) := by decide +kernel
theorem dX12_put_1 : decode cX12_put 1 = .ok (.iload_n 1, 1) := by decide +kernel
theorem dX12_put_2 : decode cX12_put 2 = .ok (.iload_n 2, 1) := by decide +kernel
theorem dX12_put_3 : decode cX12_put 3 = .ok (.invokevirtual 402, 3) := by decide +kernel
theorem dX12_put_6 : decode cX12_put 6 = .ok (.istore 5, 2) := by decide +kernel
theorem dX12_put_8 : decode cX12_put 8 = .ok (.iload 5, 2) := by decide +kernel
theorem dX12_put_10 : decode cX12_put 10 = .ok (.ifCond .ne 27, 3) := by decide +kernel
theorem dX12_put_13 : decode cX12_put 13 = .ok (.aload_n 0, 1) := by decide +kernel
theorem dX12_put_14 : decode cX12_put 14 = .ok (.getfield 114, 3) := by decide +kernel
theorem dX12_put_17 : decode cX12_put 17 = .ok (.bipush 60, 2) := by decide +kernel
theorem dX12_put_19 : decode cX12_put 19 = .ok (.iload_n 1, 1) := by decide +kernel
theorem dX12_put_20 : decode cX12_put 20 = .ok (.imul, 1) := by decide +kernel
theorem dX12_put_21 : decode cX12_put 21 = .ok (.iload_n 2, 1) := by decide +kernel
theorem dX12_put_22 : decode cX12_put 22 = .ok (.iadd, 1) := by decide +kernel
theorem dX12_put_23 : decode cX12_put 23 = .ok (.aload_n 0, 1) := by decide +kernel
theorem dX12_put_24 : decode cX12_put 24 = .ok (.getfield 108, 3) := by decide +kernel
theorem dX12_put_27 : decode cX12_put 27 = .ok (.iload_n 1, 1) := by decide +kernel
theorem dX12_put_28 : decode cX12_put 28 = .ok (.iaload, 1) := by decide +kernel
theorem dX12_put_29 : decode cX12_put 29 = .ok (.bipush 20, 2) := by decide +kernel
theorem dX12_put_31 : decode cX12_put 31 = .ok (.isub, 1) := by decide +kernel
theorem dX12_put_32 : decode cX12_put 32 = .ok (.lload_n 3, 1) := by decide +kernel
theorem dX12_put_33 : decode cX12_put 33 = .ok (.invokestatic 405, 3) := by decide +kernel
theorem dX12_put_36 : decode cX12_put 36 = .ok (.lastore, 1) := by decide +kernel
theorem dX12_put_37 : decode cX12_put 37 = .ok (.iload 5, 2) := by decide +kernel
theorem dX12_put_39 : decode cX12_put 39 = .ok (.ifCond .ne 7, 3) := by decide +kernel
theorem dX12_put_42 : decode cX12_put 42 = .ok (.iconst 1, 1) := by decide +kernel
theorem dX12_put_43 : decode cX12_put 43 = .ok (.goto 5, 3) := by decide +kernel
theorem dX12_put_46 : decode cX12_put 46 = .ok (.iload 5, 2) := by decide +kernel
theorem dX12_put_48 : decode cX12_put 48 = .ok (.ireturn, 1) := by decide +kernel
theorem dX12_element_0 : decode cX12_element 0 = .ok (.aload_n 0, 1) := by decide +kernel
theorem dX12_element_1 : decode cX12_element 1 = .ok (.iload_n 1, 1) := by decide +kernel
theorem dX12_element_2 : decode cX12_element 2 = .ok (.iload_n 2, 1) := by decide +kernel
theorem dX12_element_3 : decode cX12_element 3 = .ok (.invokevirtual 402, 3) := by decide +kernel
theorem dX12_element_6 : decode cX12_element 6 = .ok (.ifCond .eq 9, 3) := by decide +kernel
theorem dX12_element_9 : decode cX12_element 9 = .ok (.ldc2_w 411, 3) := by decide +kernel
theorem dX12_element_12 : decode cX12_element 12 = .ok (.goto 14, 3) := by decide +kernel
theorem dX12_element_15 : decode cX12_element 15 = .ok (.aload_n 0, 1) := by decide +kernel
theorem dX12_element_16 : decode cX12_element 16 = .ok (.getfield 114, 3) := by decide +kernel
theorem dX12_element_19 : decode cX12_element 19 = .ok (.bipush 60, 2) := by decide +kernel
theorem dX12_element_21 : decode cX12_element 21 = .ok (.iload_n 1, 1) := by decide +kernel
theorem dX12_element_22 : decode cX12_element 22 = .ok (.imul, 1) := by decide +kernel
theorem dX12_element_23 : decode cX12_element 23 = .ok (.iload_n 2, 1) := by decide +kernel
theorem dX12_element_24 : decode cX12_element 24 = .ok (.iadd, 1) := by decide +kernel
theorem dX12_element_25 : decode cX12_element 25 = .ok (.laload, 1) := by decide +kernel
theorem dX12_element_26 : decode cX12_element 26 = .ok (.lreturn, 1) := by decide +kernel
theorem dX12_shift_0 : decode cX12_shift 0 = .ok (.iload_n 1, 1) := by decide +kernel
theorem dX12_shift_1 : decode cX12_shift 1 = .ok (.invokestatic 361, 3) := by decide +kernel
theorem dX12_shift_4 : decode cX12_shift 4 = .ok (.ifCond .eq 10, 3) := by decide +kernel
theorem dX12_shift_7 : decode cX12_shift 7 = .ok (.iload_n 3, 1) := by decide +kernel
theorem dX12_shift_8 : decode cX12_shift 8 = .ok (.invokestatic 361, 3) := by decide +kernel
theorem dX12_shift_11 : decode cX12_shift 11 = .ok (.ifCond .ne 5, 3) := by decide +kernel
theorem dX12_shift_14 : decode cX12_shift 14 = .ok (.iconst (-1), 1) := by decide +kernel
theorem dX12_shift_15 : decode cX12_shift 15 = .ok (.ireturn, 1) := by decide +kernel
theorem dX12_shift_16 : decode cX12_shift 16 = .ok (.aload_n 0, 1) := by decide +kernel
theorem dX12_shift_17 : decode cX12_shift 17 = .ok (.getfield 108, 3) := by decide +kernel
theorem dX12_shift_20 : decode cX12_shift 20 = .ok (.iload_n 1, 1) := by decide +kernel
theorem dX12_shift_21 : decode cX12_shift 21 = .ok (.iaload, 1) := by decide +kernel
theorem dX12_shift_22 : decode cX12_shift 22 = .ok (.ifCond .lt 12, 3) := by decide +kernel
theorem dX12_shift_25 : decode cX12_shift 25 = .ok (.aload_n 0, 1) := by decide +kernel
theorem dX12_shift_26 : decode cX12_shift 26 = .ok (.getfield 108, 3) := by decide +kernel
theorem dX12_shift_29 : decode cX12_shift 29 = .ok (.iload_n 3, 1) := by decide +kernel
theorem dX12_shift_30 : decode cX12_shift 30 = .ok (.iaload, 1) := by decide +kernel
theorem dX12_shift_31 : decode cX12_shift 31 = .ok (.ifCond .ge 6, 3) := by decide +kernel
theorem dX12_shift_34 : decode cX12_shift 34 = .ok (.bipush (-11), 2) := by decide +kernel
theorem dX12_shift_36 : decode cX12_shift 36 = .ok (.ireturn, 1) := by decide +kernel
theorem dX12_shift_37 : decode cX12_shift 37 = .ok (.aload_n 0, 1) := by decide +kernel
theorem dX12_shift_38 : decode cX12_shift 38 = .ok (.getfield 108, 3) := by decide +kernel
theorem dX12_shift_41 : decode cX12_shift 41 = .ok (.iload_n 1, 1) := by decide +kernel
theorem dX12_shift_42 : decode cX12_shift 42 = .ok (.iaload, 1) := by decide +kernel
theorem dX12_shift_43 : decode cX12_shift 43 = .ok (.bipush 20, 2) := by decide +kernel
theorem dX12_shift_45 : decode cX12_shift 45 = .ok (.if_icmp .lt 18, 3) := by decide +kernel
theorem dX12_shift_48 : decode cX12_shift 48 = .ok (.aload_n 0, 1) := by decide +kernel
theorem dX12_shift_49 : decode cX12_shift 49 = .ok (.getfield 108, 3) := by decide +kernel
theorem dX12_shift_52 : decode cX12_shift 52 = .ok (.iload_n 1, 1) := by decide +kernel
theorem dX12_shift_53 : decode cX12_shift 53 = .ok (.iaload, 1) := by decide +kernel
theorem dX12_shift_54 : decode cX12_shift 54 = .ok (.aload_n 0, 1) := by decide +kernel
theorem dX12_shift_55 : decode cX12_shift 55 = .ok (.getfield 108, 3) := by decide +kernel
theorem dX12_shift_58 : decode cX12_shift 58 = .ok (.iload_n 3, 1) := by decide +kernel
theorem dX12_shift_59 : decode cX12_shift 59 = .ok (.iaload, 1) := by decide +kernel
theorem dX12_shift_60 : decode cX12_shift 60 = .ok (.if_icmp .eq 6, 3) := by decide +kernel
theorem dX12_shift_63 : decode cX12_shift 63 = .ok (.bipush (-12), 2) := by decide +kernel
theorem dX12_shift_65 : decode cX12_shift 65 = .ok (.ireturn, 1) := by decide +kernel
theorem dX12_shift_66 : decode cX12_shift 66 = .ok (.iload 5, 2) := by decide +kernel
theorem dX12_shift_68 : decode cX12_shift 68 = .ok (.ifCond .lt 39, 3) := by decide +kernel
theorem dX12_shift_71 : decode cX12_shift 71 = .ok (.iload_n 2, 1) := by decide +kernel
theorem dX12_shift_72 : decode cX12_shift 72 = .ok (.ifCond .lt 35, 3) := by decide +kernel
theorem dX12_shift_75 : decode cX12_shift 75 = .ok (.iload 4, 2) := by decide +kernel
theorem dX12_shift_77 : decode cX12_shift 77 = .ok (.ifCond .lt 30, 3) := by decide +kernel
theorem dX12_shift_80 : decode cX12_shift 80 = .ok (.iload_n 2, 1) := by decide +kernel
theorem dX12_shift_81 : decode cX12_shift 81 = .ok (.aload_n 0, 1) := by decide +kernel
theorem dX12_shift_82 : decode cX12_shift 82 = .ok (.getfield 111, 3) := by decide +kernel
theorem dX12_shift_85 : decode cX12_shift 85 = .ok (.iload_n 1, 1) := by decide +kernel
theorem dX12_shift_86 : decode cX12_shift 86 = .ok (.iaload, 1) := by decide +kernel
theorem dX12_shift_87 : decode cX12_shift 87 = .ok (.iload 5, 2) := by decide +kernel
theorem dX12_shift_89 : decode cX12_shift 89 = .ok (.isub, 1) := by decide +kernel
theorem dX12_shift_90 : decode cX12_shift 90 = .ok (.if_icmp .gt 17, 3) := by decide +kernel
theorem dX12_shift_93 : decode cX12_shift 93 = .ok (.iload 4, 2) := by decide +kernel
theorem dX12_shift_95 : decode cX12_shift 95 = .ok (.aload_n 0, 1) := by decide +kernel
theorem dX12_shift_96 : decode cX12_shift 96 = .ok (.getfield 111, 3) := by decide +kernel
theorem dX12_shift_99 : decode cX12_shift 99 = .ok (.iload_n 3, 1) := by decide +kernel
theorem dX12_shift_100 : decode cX12_shift 100 = .ok (.iaload, 1) := by decide +kernel
theorem dX12_shift_101 : decode cX12_shift 101 = .ok (.iload 5, 2) := by decide +kernel
theorem dX12_shift_103 : decode cX12_shift 103 = .ok (.isub, 1) := by decide +kernel
theorem dX12_shift_104 : decode cX12_shift 104 = .ok (.if_icmp .le 6, 3) := by decide +kernel
theorem dX12_shift_107 : decode cX12_shift 107 = .ok (.bipush (-13), 2) := by decide +kernel
theorem dX12_shift_109 : decode cX12_shift 109 = .ok (.ireturn, 1) := by decide +kernel
theorem dX12_shift_110 : decode cX12_shift 110 = .ok (.iconst 0, 1) := by decide +kernel
theorem dX12_shift_111 : decode cX12_shift 111 = .ok (.istore 6, 2) := by decide +kernel
theorem dX12_shift_113 : decode cX12_shift 113 = .ok (.iload 6, 2) := by decide +kernel
theorem dX12_shift_115 : decode cX12_shift 115 = .ok (.iload 5, 2) := by decide +kernel
theorem dX12_shift_117 : decode cX12_shift 117 = .ok (.if_icmp .ge 30, 3) := by decide +kernel
theorem dX12_shift_120 : decode cX12_shift 120 = .ok (.aload_n 0, 1) := by decide +kernel
theorem dX12_shift_121 : decode cX12_shift 121 = .ok (.getfield 118, 3) := by decide +kernel
theorem dX12_shift_124 : decode cX12_shift 124 = .ok (.iload 6, 2) := by decide +kernel
theorem dX12_shift_126 : decode cX12_shift 126 = .ok (.aload_n 0, 1) := by decide +kernel
theorem dX12_shift_127 : decode cX12_shift 127 = .ok (.getfield 114, 3) := by decide +kernel
theorem dX12_shift_130 : decode cX12_shift 130 = .ok (.bipush 60, 2) := by decide +kernel
theorem dX12_shift_132 : decode cX12_shift 132 = .ok (.iload_n 1, 1) := by decide +kernel
theorem dX12_shift_133 : decode cX12_shift 133 = .ok (.imul, 1) := by decide +kernel
theorem dX12_shift_134 : decode cX12_shift 134 = .ok (.iload_n 2, 1) := by decide +kernel
theorem dX12_shift_135 : decode cX12_shift 135 = .ok (.iadd, 1) := by decide +kernel
theorem dX12_shift_136 : decode cX12_shift 136 = .ok (.iload 6, 2) := by decide +kernel
theorem dX12_shift_138 : decode cX12_shift 138 = .ok (.iadd, 1) := by decide +kernel
theorem dX12_shift_139 : decode cX12_shift 139 = .ok (.laload, 1) := by decide +kernel
theorem dX12_shift_140 : decode cX12_shift 140 = .ok (.lastore, 1) := by decide +kernel
theorem dX12_shift_141 : decode cX12_shift 141 = .ok (.iinc 6 1, 3) := by decide +kernel
theorem dX12_shift_144 : decode cX12_shift 144 = .ok (.goto (-31), 3) := by decide +kernel
theorem dX12_shift_147 : decode cX12_shift 147 = .ok (.iconst 0, 1) := by decide +kernel
theorem dX12_shift_148 : decode cX12_shift 148 = .ok (.istore 6, 2) := by decide +kernel
theorem dX12_shift_150 : decode cX12_shift 150 = .ok (.iload 6, 2) := by decide +kernel
theorem dX12_shift_152 : decode cX12_shift 152 = .ok (.iload 5, 2) := by decide +kernel
theorem dX12_shift_154 : decode cX12_shift 154 = .ok (.if_icmp .ge 31, 3) := by decide +kernel
theorem dX12_shift_157 : decode cX12_shift 157 = .ok (.aload_n 0, 1) := by decide +kernel
theorem dX12_shift_158 : decode cX12_shift 158 = .ok (.getfield 114, 3) := by decide +kernel
theorem dX12_shift_161 : decode cX12_shift 161 = .ok (.bipush 60, 2) := by decide +kernel
theorem dX12_shift_163 : decode cX12_shift 163 = .ok (.iload_n 3, 1) := by decide +kernel
theorem dX12_shift_164 : decode cX12_shift 164 = .ok (.imul, 1) := by decide +kernel
theorem dX12_shift_165 : decode cX12_shift 165 = .ok (.iload 4, 2) := by decide +kernel
theorem dX12_shift_167 : decode cX12_shift 167 = .ok (.iadd, 1) := by decide +kernel
theorem dX12_shift_168 : decode cX12_shift 168 = .ok (.iload 6, 2) := by decide +kernel
theorem dX12_shift_170 : decode cX12_shift 170 = .ok (.iadd, 1) := by decide +kernel
theorem dX12_shift_171 : decode cX12_shift 171 = .ok (.aload_n 0, 1) := by decide +kernel
theorem dX12_shift_172 : decode cX12_shift 172 = .ok (.getfield 118, 3) := by decide +kernel
theorem dX12_shift_175 : decode cX12_shift 175 = .ok (.iload 6, 2) := by decide +kernel
theorem dX12_shift_177 : decode cX12_shift 177 = .ok (.laload, 1) := by decide +kernel
theorem dX12_shift_178 : decode cX12_shift 178 = .ok (.lastore, 1) := by decide +kernel
theorem dX12_shift_179 : decode cX12_shift 179 = .ok (.iinc 6 1, 3) := by decide +kernel
theorem dX12_shift_182 : decode cX12_shift 182 = .ok (.goto (-32), 3) := by decide +kernel
theorem dX12_shift_185 : decode cX12_shift 185 = .ok (.iload 5, 2) := by decide +kernel
theorem dX12_shift_187 : decode cX12_shift 187 = .ok (.ireturn, 1) := by decide +kernel
theorem dX12_taken_0 : decode cX12_taken 0 = .ok (.iload_n 1, 1) := by decide +kernel
theorem dX12_taken_1 : decode cX12_taken 1 = .ok (.invokestatic 361, 3) := by decide +kernel
theorem dX12_taken_4 : decode cX12_taken 4 = .ok (.ifCond .eq 15, 3) := by decide +kernel
theorem dX12_taken_7 : decode cX12_taken 7 = .ok (.iload_n 2, 1) := by decide +kernel
theorem dX12_taken_8 : decode cX12_taken 8 = .ok (.i2l, 1) := by decide +kernel
theorem dX12_taken_9 : decode cX12_taken 9 = .ok (.lconst 0, 1) := by decide +kernel
theorem dX12_taken_10 : decode cX12_taken 10 = .ok (.ldc2_w 268, 3) := by decide +kernel
theorem dX12_taken_13 : decode cX12_taken 13 = .ok (.invokestatic 136, 3) := by decide +kernel
theorem dX12_taken_16 : decode cX12_taken 16 = .ok (.ifCond .ne 5, 3) := by decide +kernel
theorem dX12_taken_19 : decode cX12_taken 19 = .ok (.iconst (-1), 1) := by decide +kernel
theorem dX12_taken_20 : decode cX12_taken 20 = .ok (.ireturn, 1) := by decide +kernel
theorem dX12_taken_21 : decode cX12_taken 21 = .ok (.aload_n 0, 1) := by decide +kernel
theorem dX12_taken_22 : decode cX12_taken 22 = .ok (.getfield 108, 3) := by decide +kernel
theorem dX12_taken_25 : decode cX12_taken 25 = .ok (.iload_n 1, 1) := by decide +kernel
theorem dX12_taken_26 : decode cX12_taken 26 = .ok (.iaload, 1) := by decide +kernel
theorem dX12_taken_27 : decode cX12_taken 27 = .ok (.ifCond .ge 6, 3) := by decide +kernel
theorem dX12_taken_30 : decode cX12_taken 30 = .ok (.bipush (-11), 2) := by decide +kernel
theorem dX12_taken_32 : decode cX12_taken 32 = .ok (.ireturn, 1) := by decide +kernel
theorem dX12_taken_33 : decode cX12_taken 33 = .ok (.aload_n 0, 1) := by decide +kernel
theorem dX12_taken_34 : decode cX12_taken 34 = .ok (.getfield 108, 3) := by decide +kernel
theorem dX12_taken_37 : decode cX12_taken 37 = .ok (.iload_n 1, 1) := by decide +kernel
theorem dX12_taken_38 : decode cX12_taken 38 = .ok (.iaload, 1) := by decide +kernel
theorem dX12_taken_39 : decode cX12_taken 39 = .ok (.bipush 20, 2) := by decide +kernel
theorem dX12_taken_41 : decode cX12_taken 41 = .ok (.if_icmp .lt 6, 3) := by decide +kernel
theorem dX12_taken_44 : decode cX12_taken 44 = .ok (.bipush (-12), 2) := by decide +kernel
theorem dX12_taken_46 : decode cX12_taken 46 = .ok (.ireturn, 1) := by decide +kernel
theorem dX12_taken_47 : decode cX12_taken 47 = .ok (.aload_n 0, 1) := by decide +kernel
theorem dX12_taken_48 : decode cX12_taken 48 = .ok (.aload_n 0, 1) := by decide +kernel
theorem dX12_taken_49 : decode cX12_taken 49 = .ok (.getfield 108, 3) := by decide +kernel
theorem dX12_taken_52 : decode cX12_taken 52 = .ok (.iload_n 1, 1) := by decide +kernel
theorem dX12_taken_53 : decode cX12_taken 53 = .ok (.iaload, 1) := by decide +kernel
theorem dX12_taken_54 : decode cX12_taken 54 = .ok (.invokevirtual 413, 3) := by decide +kernel
theorem dX12_taken_57 : decode cX12_taken 57 = .ok (.istore_n 3, 1) := by decide +kernel
theorem dX12_taken_58 : decode cX12_taken 58 = .ok (.iload_n 3, 1) := by decide +kernel
theorem dX12_taken_59 : decode cX12_taken 59 = .ok (.iload_n 2, 1) := by decide +kernel
theorem dX12_taken_60 : decode cX12_taken 60 = .ok (.if_icmp .eq 15, 3) := by decide +kernel
theorem dX12_taken_63 : decode cX12_taken 63 = .ok (.iload_n 3, 1) := by decide +kernel
theorem dX12_taken_64 : decode cX12_taken 64 = .ok (.ifCond .le 11, 3) := by decide +kernel
theorem dX12_taken_67 : decode cX12_taken 67 = .ok (.iload_n 3, 1) := by decide +kernel
theorem dX12_taken_68 : decode cX12_taken 68 = .ok (.invokestatic 416, 3) := by decide +kernel
theorem dX12_taken_71 : decode cX12_taken 71 = .ok (.istore_n 3, 1) := by decide +kernel
theorem dX12_taken_72 : decode cX12_taken 72 = .ok (.goto (-14), 3) := by decide +kernel
theorem dX12_taken_75 : decode cX12_taken 75 = .ok (.iload_n 3, 1) := by decide +kernel
theorem dX12_taken_76 : decode cX12_taken 76 = .ok (.iload_n 2, 1) := by decide +kernel
theorem dX12_taken_77 : decode cX12_taken 77 = .ok (.if_icmp .ne 16, 3) := by decide +kernel
theorem dX12_taken_80 : decode cX12_taken 80 = .ok (.aload_n 0, 1) := by decide +kernel
theorem dX12_taken_81 : decode cX12_taken 81 = .ok (.aload_n 0, 1) := by decide +kernel
theorem dX12_taken_82 : decode cX12_taken 82 = .ok (.getfield 108, 3) := by decide +kernel
theorem dX12_taken_85 : decode cX12_taken 85 = .ok (.iload_n 1, 1) := by decide +kernel
theorem dX12_taken_86 : decode cX12_taken 86 = .ok (.iaload, 1) := by decide +kernel
theorem dX12_taken_87 : decode cX12_taken 87 = .ok (.invokevirtual 413, 3) := by decide +kernel
theorem dX12_taken_90 : decode cX12_taken 90 = .ok (.goto 5, 3) := by decide +kernel
theorem dX12_taken_93 : decode cX12_taken 93 = .ok (.bipush (-12), 2) := by decide +kernel
theorem dX12_taken_95 : decode cX12_taken 95 = .ok (.ireturn, 1) := by decide +kernel
theorem dX12_count_0 : decode cX12_count 0 = .ok (.iload_n 1, 1) := by decide +kernel
theorem dX12_count_1 : decode cX12_count 1 = .ok (.tableswitch 69 0 5 #[39, 44, 49, 54, 59, 64], 39) := by decide +kernel
theorem dX12_count_40 : decode cX12_count 40 = .ok (.aload_n 0, 1) := by decide +kernel
theorem dX12_count_41 : decode cX12_count 41 = .ok (.getfield 133, 3) := by decide +kernel
theorem dX12_count_44 : decode cX12_count 44 = .ok (.ireturn, 1) := by decide +kernel
theorem dX12_count_45 : decode cX12_count 45 = .ok (.aload_n 0, 1) := by decide +kernel
theorem dX12_count_46 : decode cX12_count 46 = .ok (.getfield 265, 3) := by decide +kernel
theorem dX12_count_49 : decode cX12_count 49 = .ok (.ireturn, 1) := by decide +kernel
theorem dX12_count_50 : decode cX12_count 50 = .ok (.aload_n 0, 1) := by decide +kernel
theorem dX12_count_51 : decode cX12_count 51 = .ok (.getfield 174, 3) := by decide +kernel
theorem dX12_count_54 : decode cX12_count 54 = .ok (.ireturn, 1) := by decide +kernel
theorem dX12_count_55 : decode cX12_count 55 = .ok (.aload_n 0, 1) := by decide +kernel
theorem dX12_count_56 : decode cX12_count 56 = .ok (.getfield 234, 3) := by decide +kernel
theorem dX12_count_59 : decode cX12_count 59 = .ok (.ireturn, 1) := by decide +kernel
theorem dX12_count_60 : decode cX12_count 60 = .ok (.aload_n 0, 1) := by decide +kernel
theorem dX12_count_61 : decode cX12_count 61 = .ok (.getfield 127, 3) := by decide +kernel
theorem dX12_count_64 : decode cX12_count 64 = .ok (.ireturn, 1) := by decide +kernel
theorem dX12_count_65 : decode cX12_count 65 = .ok (.aload_n 0, 1) := by decide +kernel
theorem dX12_count_66 : decode cX12_count 66 = .ok (.getfield 376, 3) := by decide +kernel
theorem dX12_count_69 : decode cX12_count 69 = .ok (.ireturn, 1) := by decide +kernel
theorem dX12_count_70 : decode cX12_count 70 = .ok (.iconst (-1), 1) := by decide +kernel
theorem dX12_count_71 : decode cX12_count 71 = .ok (.ireturn, 1) := by decide +kernel
