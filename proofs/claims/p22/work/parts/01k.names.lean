theorem dL_isTold_5 : decode cL_isTold 5 = .ok (.iconst 0, 1) := by decide +kernel
theorem dL_isTold_6 : decode cL_isTold 6 = .ok (.istore 5, 2) := by decide +kernel
theorem dL_isTold_8 : decode cL_isTold 8 = .ok (.iload 5, 2) := by decide +kernel
theorem dL_isTold_10 : decode cL_isTold 10 = .ok (.aload_n 2, 1) := by decide +kernel
theorem dL_isTold_11 : decode cL_isTold 11 = .ok (.bipush 63, 2) := by decide +kernel
theorem dL_isTold_13 : decode cL_isTold 13 = .ok (.iaload, 1) := by decide +kernel
theorem dL_isTold_14 : decode cL_isTold 14 = .ok (.if_icmp .ge 85, 3) := by decide +kernel
theorem dL_isTold_17 : decode cL_isTold 17 = .ok (.aload_n 0, 1) := by decide +kernel
theorem dL_isTold_18 : decode cL_isTold 18 = .ok (.iload 5, 2) := by decide +kernel
theorem dL_isTold_20 : decode cL_isTold 20 = .ok (.iconst 0, 1) := by decide +kernel
theorem dL_isTold_21 : decode cL_isTold 21 = .ok (.invokevirtual 70, 3) := by decide +kernel
theorem dL_isTold_24 : decode cL_isTold 24 = .ok (.aload_n 2, 1) := by decide +kernel
theorem dL_isTold_25 : decode cL_isTold 25 = .ok (.iload 5, 2) := by decide +kernel
theorem dL_isTold_27 : decode cL_isTold 27 = .ok (.iaload, 1) := by decide +kernel
theorem dL_isTold_28 : decode cL_isTold 28 = .ok (.bipush 100, 2) := by decide +kernel
theorem dL_isTold_30 : decode cL_isTold 30 = .ok (.idiv, 1) := by decide +kernel
theorem dL_isTold_31 : decode cL_isTold 31 = .ok (.if_icmp .ne 31, 3) := by decide +kernel
theorem dL_isTold_34 : decode cL_isTold 34 = .ok (.aload_n 0, 1) := by decide +kernel
theorem dL_isTold_35 : decode cL_isTold 35 = .ok (.iload 5, 2) := by decide +kernel
theorem dL_isTold_37 : decode cL_isTold 37 = .ok (.iconst 1, 1) := by decide +kernel
theorem dL_isTold_38 : decode cL_isTold 38 = .ok (.invokevirtual 70, 3) := by decide +kernel
theorem dL_isTold_41 : decode cL_isTold 41 = .ok (.aload_n 2, 1) := by decide +kernel
theorem dL_isTold_42 : decode cL_isTold 42 = .ok (.iload 5, 2) := by decide +kernel
theorem dL_isTold_44 : decode cL_isTold 44 = .ok (.iaload, 1) := by decide +kernel
theorem dL_isTold_45 : decode cL_isTold 45 = .ok (.bipush 100, 2) := by decide +kernel
theorem dL_isTold_47 : decode cL_isTold 47 = .ok (.irem, 1) := by decide +kernel
theorem dL_isTold_48 : decode cL_isTold 48 = .ok (.if_icmp .ne 14, 3) := by decide +kernel
theorem dL_isTold_51 : decode cL_isTold 51 = .ok (.aload_n 0, 1) := by decide +kernel
theorem dL_isTold_52 : decode cL_isTold 52 = .ok (.iload 5, 2) := by decide +kernel
theorem dL_isTold_54 : decode cL_isTold 54 = .ok (.iconst 2, 1) := by decide +kernel
theorem dL_isTold_55 : decode cL_isTold 55 = .ok (.invokevirtual 70, 3) := by decide +kernel
theorem dL_isTold_58 : decode cL_isTold 58 = .ok (.iload_n 3, 1) := by decide +kernel
theorem dL_isTold_59 : decode cL_isTold 59 = .ok (.if_icmp .eq 5, 3) := by decide +kernel
theorem dL_isTold_62 : decode cL_isTold 62 = .ok (.iconst 0, 1) := by decide +kernel
theorem dL_isTold_63 : decode cL_isTold 63 = .ok (.ireturn, 1) := by decide +kernel
theorem dL_isTold_64 : decode cL_isTold 64 = .ok (.iload_n 3, 1) := by decide +kernel
theorem dL_isTold_65 : decode cL_isTold 65 = .ok (.aload_n 2, 1) := by decide +kernel
theorem dL_isTold_66 : decode cL_isTold 66 = .ok (.iload 5, 2) := by decide +kernel
theorem dL_isTold_68 : decode cL_isTold 68 = .ok (.iaload, 1) := by decide +kernel
theorem dL_isTold_69 : decode cL_isTold 69 = .ok (.bipush 100, 2) := by decide +kernel
theorem dL_isTold_71 : decode cL_isTold 71 = .ok (.irem, 1) := by decide +kernel
theorem dL_isTold_72 : decode cL_isTold 72 = .ok (.iadd, 1) := by decide +kernel
theorem dL_isTold_73 : decode cL_isTold 73 = .ok (.istore_n 3, 1) := by decide +kernel
theorem dL_isTold_74 : decode cL_isTold 74 = .ok (.iload 4, 2) := by decide +kernel
theorem dL_isTold_76 : decode cL_isTold 76 = .ok (.aload_n 2, 1) := by decide +kernel
theorem dL_isTold_77 : decode cL_isTold 77 = .ok (.iload 5, 2) := by decide +kernel
theorem dL_isTold_79 : decode cL_isTold 79 = .ok (.iaload, 1) := by decide +kernel
theorem dL_isTold_80 : decode cL_isTold 80 = .ok (.bipush 100, 2) := by decide +kernel
theorem dL_isTold_82 : decode cL_isTold 82 = .ok (.if_icmp .ge 7, 3) := by decide +kernel
theorem dL_isTold_85 : decode cL_isTold 85 = .ok (.iconst 1, 1) := by decide +kernel
theorem dL_isTold_86 : decode cL_isTold 86 = .ok (.goto 4, 3) := by decide +kernel
theorem dL_isTold_89 : decode cL_isTold 89 = .ok (.iconst 0, 1) := by decide +kernel
theorem dL_isTold_90 : decode cL_isTold 90 = .ok (.iadd, 1) := by decide +kernel
theorem dL_isTold_91 : decode cL_isTold 91 = .ok (.istore 4, 2) := by decide +kernel
theorem dL_isTold_93 : decode cL_isTold 93 = .ok (.iinc 5 1, 3) := by decide +kernel
theorem dL_isTold_96 : decode cL_isTold 96 = .ok (.goto (-88), 3) := by decide +kernel
theorem dL_isTold_99 : decode cL_isTold 99 = .ok (.iconst 0, 1) := by decide +kernel
theorem dL_isTold_100 : decode cL_isTold 100 = .ok (.istore 5, 2) := by decide +kernel
theorem dL_isTold_102 : decode cL_isTold 102 = .ok (.iconst 0, 1) := by decide +kernel
theorem dL_isTold_103 : decode cL_isTold 103 = .ok (.istore 6, 2) := by decide +kernel
theorem dL_isTold_105 : decode cL_isTold 105 = .ok (.iload 6, 2) := by decide +kernel
theorem dL_isTold_107 : decode cL_isTold 107 = .ok (.aload_n 1, 1) := by decide +kernel
theorem dL_isTold_108 : decode cL_isTold 108 = .ok (.bipush 9, 2) := by decide +kernel
theorem dL_isTold_110 : decode cL_isTold 110 = .ok (.iaload, 1) := by decide +kernel
theorem dL_isTold_111 : decode cL_isTold 111 = .ok (.if_icmp .ge 48, 3) := by decide +kernel
theorem dL_isTold_114 : decode cL_isTold 114 = .ok (.aload_n 0, 1) := by decide +kernel
theorem dL_isTold_115 : decode cL_isTold 115 = .ok (.iload 6, 2) := by decide +kernel
theorem dL_isTold_117 : decode cL_isTold 117 = .ok (.invokevirtual 73, 3) := by decide +kernel
theorem dL_isTold_120 : decode cL_isTold 120 = .ok (.aload_n 1, 1) := by decide +kernel
theorem dL_isTold_121 : decode cL_isTold 121 = .ok (.bipush 10, 2) := by decide +kernel
theorem dL_isTold_123 : decode cL_isTold 123 = .ok (.iload 6, 2) := by decide +kernel
theorem dL_isTold_125 : decode cL_isTold 125 = .ok (.iadd, 1) := by decide +kernel
theorem dL_isTold_126 : decode cL_isTold 126 = .ok (.iaload, 1) := by decide +kernel
theorem dL_isTold_127 : decode cL_isTold 127 = .ok (.if_icmp .eq 5, 3) := by decide +kernel
theorem dL_isTold_130 : decode cL_isTold 130 = .ok (.iconst 0, 1) := by decide +kernel
theorem dL_isTold_131 : decode cL_isTold 131 = .ok (.ireturn, 1) := by decide +kernel
theorem dL_isTold_132 : decode cL_isTold 132 = .ok (.iload 5, 2) := by decide +kernel
theorem dL_isTold_134 : decode cL_isTold 134 = .ok (.aload_n 1, 1) := by decide +kernel
theorem dL_isTold_135 : decode cL_isTold 135 = .ok (.bipush 10, 2) := by decide +kernel
theorem dL_isTold_137 : decode cL_isTold 137 = .ok (.iload 6, 2) := by decide +kernel
theorem dL_isTold_139 : decode cL_isTold 139 = .ok (.iadd, 1) := by decide +kernel
theorem dL_isTold_140 : decode cL_isTold 140 = .ok (.iaload, 1) := by decide +kernel
theorem dL_isTold_141 : decode cL_isTold 141 = .ok (.iconst (-1), 1) := by decide +kernel
theorem dL_isTold_142 : decode cL_isTold 142 = .ok (.if_icmp .ne 7, 3) := by decide +kernel
theorem dL_isTold_145 : decode cL_isTold 145 = .ok (.iconst 0, 1) := by decide +kernel
theorem dL_isTold_146 : decode cL_isTold 146 = .ok (.goto 4, 3) := by decide +kernel
theorem dL_isTold_149 : decode cL_isTold 149 = .ok (.iconst 1, 1) := by decide +kernel
theorem dL_isTold_150 : decode cL_isTold 150 = .ok (.iadd, 1) := by decide +kernel
theorem dL_isTold_151 : decode cL_isTold 151 = .ok (.istore 5, 2) := by decide +kernel
theorem dL_isTold_153 : decode cL_isTold 153 = .ok (.iinc 6 1, 3) := by decide +kernel
theorem dL_isTold_156 : decode cL_isTold 156 = .ok (.goto (-51), 3) := by decide +kernel
theorem dL_isTold_159 : decode cL_isTold 159 = .ok (.iconst 0, 1) := by decide +kernel
theorem dL_isTold_160 : decode cL_isTold 160 = .ok (.istore 6, 2) := by decide +kernel
theorem dL_isTold_162 : decode cL_isTold 162 = .ok (.iload 6, 2) := by decide +kernel
theorem dL_isTold_164 : decode cL_isTold 164 = .ok (.bipush 9, 2) := by decide +kernel
theorem dL_isTold_166 : decode cL_isTold 166 = .ok (.if_icmp .ge 95, 3) := by decide +kernel
theorem dL_isTold_169 : decode cL_isTold 169 = .ok (.aload_n 0, 1) := by decide +kernel
theorem dL_isTold_170 : decode cL_isTold 170 = .ok (.bipush 6, 2) := by decide +kernel
theorem dL_isTold_172 : decode cL_isTold 172 = .ok (.iload 6, 2) := by decide +kernel
theorem dL_isTold_174 : decode cL_isTold 174 = .ok (.iadd, 1) := by decide +kernel
theorem dL_isTold_175 : decode cL_isTold 175 = .ok (.invokevirtual 76, 3) := by decide +kernel
theorem dL_isTold_178 : decode cL_isTold 178 = .ok (.aload_n 1, 1) := by decide +kernel
theorem dL_isTold_179 : decode cL_isTold 179 = .ok (.bipush 20, 2) := by decide +kernel
theorem dL_isTold_181 : decode cL_isTold 181 = .ok (.iload 6, 2) := by decide +kernel
theorem dL_isTold_183 : decode cL_isTold 183 = .ok (.iadd, 1) := by decide +kernel
theorem dL_isTold_184 : decode cL_isTold 184 = .ok (.iaload, 1) := by decide +kernel
theorem dL_isTold_185 : decode cL_isTold 185 = .ok (.if_icmp .ne 68, 3) := by decide +kernel
theorem dL_isTold_188 : decode cL_isTold 188 = .ok (.iload 6, 2) := by decide +kernel
theorem dL_isTold_190 : decode cL_isTold 190 = .ok (.bipush 8, 2) := by decide +kernel
theorem dL_isTold_192 : decode cL_isTold 192 = .ok (.if_icmp .ge 38, 3) := by decide +kernel
theorem dL_isTold_195 : decode cL_isTold 195 = .ok (.aload_n 0, 1) := by decide +kernel
theorem dL_isTold_196 : decode cL_isTold 196 = .ok (.bipush 15, 2) := by decide +kernel
theorem dL_isTold_198 : decode cL_isTold 198 = .ok (.iload 6, 2) := by decide +kernel
theorem dL_isTold_200 : decode cL_isTold 200 = .ok (.iadd, 1) := by decide +kernel
theorem dL_isTold_201 : decode cL_isTold 201 = .ok (.invokevirtual 76, 3) := by decide +kernel
theorem dL_isTold_204 : decode cL_isTold 204 = .ok (.aload_n 1, 1) := by decide +kernel
theorem dL_isTold_205 : decode cL_isTold 205 = .ok (.iload 6, 2) := by decide +kernel
theorem dL_isTold_207 : decode cL_isTold 207 = .ok (.iaload, 1) := by decide +kernel
theorem dL_isTold_208 : decode cL_isTold 208 = .ok (.if_icmp .ne 45, 3) := by decide +kernel
theorem dL_isTold_211 : decode cL_isTold 211 = .ok (.aload_n 0, 1) := by decide +kernel
theorem dL_isTold_212 : decode cL_isTold 212 = .ok (.bipush 24, 2) := by decide +kernel
theorem dL_isTold_214 : decode cL_isTold 214 = .ok (.iload 6, 2) := by decide +kernel
theorem dL_isTold_216 : decode cL_isTold 216 = .ok (.iadd, 1) := by decide +kernel
theorem dL_isTold_217 : decode cL_isTold 217 = .ok (.invokevirtual 76, 3) := by decide +kernel
theorem dL_isTold_220 : decode cL_isTold 220 = .ok (.aload_n 1, 1) := by decide +kernel
theorem dL_isTold_221 : decode cL_isTold 221 = .ok (.bipush 30, 2) := by decide +kernel
theorem dL_isTold_223 : decode cL_isTold 223 = .ok (.iload 6, 2) := by decide +kernel
theorem dL_isTold_225 : decode cL_isTold 225 = .ok (.iadd, 1) := by decide +kernel
theorem dL_isTold_226 : decode cL_isTold 226 = .ok (.iaload, 1) := by decide +kernel
theorem dL_isTold_227 : decode cL_isTold 227 = .ok (.if_icmp .ne 26, 3) := by decide +kernel
theorem dL_isTold_230 : decode cL_isTold 230 = .ok (.iload 6, 2) := by decide +kernel
theorem dL_isTold_232 : decode cL_isTold 232 = .ok (.bipush 6, 2) := by decide +kernel
theorem dL_isTold_234 : decode cL_isTold 234 = .ok (.if_icmp .ge 21, 3) := by decide +kernel
theorem dL_isTold_237 : decode cL_isTold 237 = .ok (.aload_n 0, 1) := by decide +kernel
theorem dL_isTold_238 : decode cL_isTold 238 = .ok (.iload 6, 2) := by decide +kernel
theorem dL_isTold_240 : decode cL_isTold 240 = .ok (.invokevirtual 79, 3) := by decide +kernel
theorem dL_isTold_243 : decode cL_isTold 243 = .ok (.aload_n 1, 1) := by decide +kernel
theorem dL_isTold_244 : decode cL_isTold 244 = .ok (.bipush 40, 2) := by decide +kernel
theorem dL_isTold_246 : decode cL_isTold 246 = .ok (.iload 6, 2) := by decide +kernel
theorem dL_isTold_248 : decode cL_isTold 248 = .ok (.iadd, 1) := by decide +kernel
theorem dL_isTold_249 : decode cL_isTold 249 = .ok (.iaload, 1) := by decide +kernel
theorem dL_isTold_250 : decode cL_isTold 250 = .ok (.if_icmp .eq 5, 3) := by decide +kernel
theorem dL_isTold_253 : decode cL_isTold 253 = .ok (.iconst 0, 1) := by decide +kernel
theorem dL_isTold_254 : decode cL_isTold 254 = .ok (.ireturn, 1) := by decide +kernel
theorem dL_isTold_255 : decode cL_isTold 255 = .ok (.iinc 6 1, 3) := by decide +kernel
theorem dL_isTold_258 : decode cL_isTold 258 = .ok (.goto (-96), 3) := by decide +kernel
theorem dL_isTold_261 : decode cL_isTold 261 = .ok (.aload_n 0, 1) := by decide +kernel
theorem dL_isTold_262 : decode cL_isTold 262 = .ok (.iconst 0, 1) := by decide +kernel
theorem dL_isTold_263 : decode cL_isTold 263 = .ok (.invokevirtual 76, 3) := by decide +kernel
theorem dL_isTold_266 : decode cL_isTold 266 = .ok (.aload_n 2, 1) := by decide +kernel
theorem dL_isTold_267 : decode cL_isTold 267 = .ok (.bipush 63, 2) := by decide +kernel
theorem dL_isTold_269 : decode cL_isTold 269 = .ok (.iaload, 1) := by decide +kernel
theorem dL_isTold_270 : decode cL_isTold 270 = .ok (.if_icmp .ne 100, 3) := by decide +kernel
theorem dL_isTold_273 : decode cL_isTold 273 = .ok (.aload_n 0, 1) := by decide +kernel
theorem dL_isTold_274 : decode cL_isTold 274 = .ok (.iconst 1, 1) := by decide +kernel
theorem dL_isTold_275 : decode cL_isTold 275 = .ok (.invokevirtual 76, 3) := by decide +kernel
theorem dL_isTold_278 : decode cL_isTold 278 = .ok (.iload 4, 2) := by decide +kernel
theorem dL_isTold_280 : decode cL_isTold 280 = .ok (.if_icmp .ne 90, 3) := by decide +kernel
theorem dL_isTold_283 : decode cL_isTold 283 = .ok (.aload_n 0, 1) := by decide +kernel
theorem dL_isTold_284 : decode cL_isTold 284 = .ok (.iconst 2, 1) := by decide +kernel
theorem dL_isTold_285 : decode cL_isTold 285 = .ok (.invokevirtual 76, 3) := by decide +kernel
theorem dL_isTold_288 : decode cL_isTold 288 = .ok (.iload_n 3, 1) := by decide +kernel
theorem dL_isTold_289 : decode cL_isTold 289 = .ok (.if_icmp .ne 81, 3) := by decide +kernel
theorem dL_isTold_292 : decode cL_isTold 292 = .ok (.aload_n 0, 1) := by decide +kernel
theorem dL_isTold_293 : decode cL_isTold 293 = .ok (.iconst 3, 1) := by decide +kernel
theorem dL_isTold_294 : decode cL_isTold 294 = .ok (.invokevirtual 76, 3) := by decide +kernel
theorem dL_isTold_297 : decode cL_isTold 297 = .ok (.aload_n 1, 1) := by decide +kernel
theorem dL_isTold_298 : decode cL_isTold 298 = .ok (.bipush 8, 2) := by decide +kernel
theorem dL_isTold_300 : decode cL_isTold 300 = .ok (.iaload, 1) := by decide +kernel
theorem dL_isTold_301 : decode cL_isTold 301 = .ok (.if_icmp .ne 69, 3) := by decide +kernel
theorem dL_isTold_304 : decode cL_isTold 304 = .ok (.aload_n 0, 1) := by decide +kernel
theorem dL_isTold_305 : decode cL_isTold 305 = .ok (.iconst 4, 1) := by decide +kernel
theorem dL_isTold_306 : decode cL_isTold 306 = .ok (.invokevirtual 76, 3) := by decide +kernel
theorem dL_isTold_309 : decode cL_isTold 309 = .ok (.aload_n 1, 1) := by decide +kernel
theorem dL_isTold_310 : decode cL_isTold 310 = .ok (.bipush 9, 2) := by decide +kernel
theorem dL_isTold_312 : decode cL_isTold 312 = .ok (.iaload, 1) := by decide +kernel
theorem dL_isTold_313 : decode cL_isTold 313 = .ok (.if_icmp .ne 57, 3) := by decide +kernel
theorem dL_isTold_316 : decode cL_isTold 316 = .ok (.aload_n 0, 1) := by decide +kernel
theorem dL_isTold_317 : decode cL_isTold 317 = .ok (.iconst 5, 1) := by decide +kernel
theorem dL_isTold_318 : decode cL_isTold 318 = .ok (.invokevirtual 76, 3) := by decide +kernel
theorem dL_isTold_321 : decode cL_isTold 321 = .ok (.iload 5, 2) := by decide +kernel
theorem dL_isTold_323 : decode cL_isTold 323 = .ok (.if_icmp .ne 47, 3) := by decide +kernel
theorem dL_isTold_326 : decode cL_isTold 326 = .ok (.aload_n 0, 1) := by decide +kernel
theorem dL_isTold_327 : decode cL_isTold 327 = .ok (.invokevirtual 82, 3) := by decide +kernel
theorem dL_isTold_330 : decode cL_isTold 330 = .ok (.aload_n 1, 1) := by decide +kernel
theorem dL_isTold_331 : decode cL_isTold 331 = .ok (.bipush 46, 2) := by decide +kernel
theorem dL_isTold_333 : decode cL_isTold 333 = .ok (.iaload, 1) := by decide +kernel
theorem dL_isTold_334 : decode cL_isTold 334 = .ok (.invokestatic 54, 3) := by decide +kernel
theorem dL_isTold_337 : decode cL_isTold 337 = .ok (.if_icmp .ne 33, 3) := by decide +kernel
theorem dL_isTold_340 : decode cL_isTold 340 = .ok (.aload_n 0, 1) := by decide +kernel
theorem dL_isTold_341 : decode cL_isTold 341 = .ok (.aload_n 2, 1) := by decide +kernel
theorem dL_isTold_342 : decode cL_isTold 342 = .ok (.bipush 63, 2) := by decide +kernel
theorem dL_isTold_344 : decode cL_isTold 344 = .ok (.iaload, 1) := by decide +kernel
theorem dL_isTold_345 : decode cL_isTold 345 = .ok (.iconst 0, 1) := by decide +kernel
theorem dL_isTold_346 : decode cL_isTold 346 = .ok (.invokevirtual 70, 3) := by decide +kernel
theorem dL_isTold_349 : decode cL_isTold 349 = .ok (.iconst (-1), 1) := by decide +kernel
theorem dL_isTold_350 : decode cL_isTold 350 = .ok (.if_icmp .ne 20, 3) := by decide +kernel
theorem dL_isTold_353 : decode cL_isTold 353 = .ok (.aload_n 0, 1) := by decide +kernel
theorem dL_isTold_354 : decode cL_isTold 354 = .ok (.aload_n 1, 1) := by decide +kernel
theorem dL_isTold_355 : decode cL_isTold 355 = .ok (.bipush 9, 2) := by decide +kernel
theorem dL_isTold_357 : decode cL_isTold 357 = .ok (.iaload, 1) := by decide +kernel
theorem dL_isTold_358 : decode cL_isTold 358 = .ok (.invokevirtual 73, 3) := by decide +kernel
theorem dL_isTold_361 : decode cL_isTold 361 = .ok (.bipush (-2), 2) := by decide +kernel
theorem dL_isTold_363 : decode cL_isTold 363 = .ok (.if_icmp .ne 7, 3) := by decide +kernel
theorem dL_isTold_366 : decode cL_isTold 366 = .ok (.iconst 1, 1) := by decide +kernel
theorem dL_isTold_367 : decode cL_isTold 367 = .ok (.goto 4, 3) := by decide +kernel
theorem dL_isTold_370 : decode cL_isTold 370 = .ok (.iconst 0, 1) := by decide +kernel
theorem dL_isTold_371 : decode cL_isTold 371 = .ok (.ireturn, 1) := by decide +kernel
