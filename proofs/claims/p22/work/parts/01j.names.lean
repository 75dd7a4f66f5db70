theorem dL_loads_229 : decode cL_loads 229 = .ok (.iload 10, 2) := by decide +kernel
theorem dL_loads_231 : decode cL_loads 231 = .ok (.iadd, 1) := by decide +kernel
theorem dL_loads_232 : decode cL_loads 232 = .ok (.iastore, 1) := by decide +kernel
theorem dL_loads_233 : decode cL_loads 233 = .ok (.iinc 8 1, 3) := by decide +kernel
theorem dL_loads_236 : decode cL_loads 236 = .ok (.goto (-140), 3) := by decide +kernel
theorem dL_loads_239 : decode cL_loads 239 = .ok (.iload 5, 2) := by decide +kernel
theorem dL_loads_241 : decode cL_loads 241 = .ok (.istore 8, 2) := by decide +kernel
theorem dL_loads_243 : decode cL_loads 243 = .ok (.iload 8, 2) := by decide +kernel
theorem dL_loads_245 : decode cL_loads 245 = .ok (.iload 4, 2) := by decide +kernel
theorem dL_loads_247 : decode cL_loads 247 = .ok (.iload 5, 2) := by decide +kernel
theorem dL_loads_249 : decode cL_loads 249 = .ok (.imul, 1) := by decide +kernel
theorem dL_loads_250 : decode cL_loads 250 = .ok (.if_icmp .ge 26, 3) := by decide +kernel
theorem dL_loads_253 : decode cL_loads 253 = .ok (.aload_n 1, 1) := by decide +kernel
theorem dL_loads_254 : decode cL_loads 254 = .ok (.iload 7, 2) := by decide +kernel
theorem dL_loads_256 : decode cL_loads 256 = .ok (.iload 8, 2) := by decide +kernel
theorem dL_loads_258 : decode cL_loads 258 = .ok (.iadd, 1) := by decide +kernel
theorem dL_loads_259 : decode cL_loads 259 = .ok (.aload_n 1, 1) := by decide +kernel
theorem dL_loads_260 : decode cL_loads 260 = .ok (.iload 7, 2) := by decide +kernel
theorem dL_loads_262 : decode cL_loads 262 = .ok (.iload 8, 2) := by decide +kernel
theorem dL_loads_264 : decode cL_loads 264 = .ok (.iadd, 1) := by decide +kernel
theorem dL_loads_265 : decode cL_loads 265 = .ok (.iload 5, 2) := by decide +kernel
theorem dL_loads_267 : decode cL_loads 267 = .ok (.isub, 1) := by decide +kernel
theorem dL_loads_268 : decode cL_loads 268 = .ok (.iaload, 1) := by decide +kernel
theorem dL_loads_269 : decode cL_loads 269 = .ok (.iastore, 1) := by decide +kernel
theorem dL_loads_270 : decode cL_loads 270 = .ok (.iinc 8 1, 3) := by decide +kernel
theorem dL_loads_273 : decode cL_loads 273 = .ok (.goto (-30), 3) := by decide +kernel
theorem dL_loads_276 : decode cL_loads 276 = .ok (.aload_n 1, 1) := by decide +kernel
theorem dL_loads_277 : decode cL_loads 277 = .ok (.bipush 63, 2) := by decide +kernel
theorem dL_loads_279 : decode cL_loads 279 = .ok (.iload 7, 2) := by decide +kernel
theorem dL_loads_281 : decode cL_loads 281 = .ok (.iload 4, 2) := by decide +kernel
theorem dL_loads_283 : decode cL_loads 283 = .ok (.iload 5, 2) := by decide +kernel
theorem dL_loads_285 : decode cL_loads 285 = .ok (.imul, 1) := by decide +kernel
theorem dL_loads_286 : decode cL_loads 286 = .ok (.iadd, 1) := by decide +kernel
theorem dL_loads_287 : decode cL_loads 287 = .ok (.iastore, 1) := by decide +kernel
theorem dL_loads_288 : decode cL_loads 288 = .ok (.iload 6, 2) := by decide +kernel
theorem dL_loads_290 : decode cL_loads 290 = .ok (.ifCond .eq 27, 3) := by decide +kernel
theorem dL_loads_293 : decode cL_loads 293 = .ok (.aload_n 0, 1) := by decide +kernel
theorem dL_loads_294 : decode cL_loads 294 = .ok (.bipush 41, 2) := by decide +kernel
theorem dL_loads_296 : decode cL_loads 296 = .ok (.invokevirtual 13, 3) := by decide +kernel
theorem dL_loads_299 : decode cL_loads 299 = .ok (.ifCond .le 18, 3) := by decide +kernel
theorem dL_loads_302 : decode cL_loads 302 = .ok (.aload_n 0, 1) := by decide +kernel
theorem dL_loads_303 : decode cL_loads 303 = .ok (.invokevirtual 34, 3) := by decide +kernel
theorem dL_loads_306 : decode cL_loads 306 = .ok (.aload_n 1, 1) := by decide +kernel
theorem dL_loads_307 : decode cL_loads 307 = .ok (.bipush 63, 2) := by decide +kernel
theorem dL_loads_309 : decode cL_loads 309 = .ok (.iaload, 1) := by decide +kernel
theorem dL_loads_310 : decode cL_loads 310 = .ok (.if_icmp .ne 7, 3) := by decide +kernel
theorem dL_loads_313 : decode cL_loads 313 = .ok (.iconst 1, 1) := by decide +kernel
theorem dL_loads_314 : decode cL_loads 314 = .ok (.goto 4, 3) := by decide +kernel
theorem dL_loads_317 : decode cL_loads 317 = .ok (.iconst 0, 1) := by decide +kernel
theorem dL_loads_318 : decode cL_loads 318 = .ok (.ireturn, 1) := by decide +kernel
theorem dL_leaves_0 : decode cL_leaves 0 = .ok (.aload_n 0, 1) := by decide +kernel
theorem dL_leaves_1 : decode cL_leaves 1 = .ok (.bipush 21, 2) := by decide +kernel
theorem dL_leaves_3 : decode cL_leaves 3 = .ok (.dup2, 1) := by decide +kernel
theorem dL_leaves_4 : decode cL_leaves 4 = .ok (.iaload, 1) := by decide +kernel
theorem dL_leaves_5 : decode cL_leaves 5 = .ok (.iload_n 1, 1) := by decide +kernel
theorem dL_leaves_6 : decode cL_leaves 6 = .ok (.ifCond .ne 7, 3) := by decide +kernel
theorem dL_leaves_9 : decode cL_leaves 9 = .ok (.iconst 1, 1) := by decide +kernel
theorem dL_leaves_10 : decode cL_leaves 10 = .ok (.goto 4, 3) := by decide +kernel
theorem dL_leaves_13 : decode cL_leaves 13 = .ok (.iconst 0, 1) := by decide +kernel
theorem dL_leaves_14 : decode cL_leaves 14 = .ok (.iadd, 1) := by decide +kernel
theorem dL_leaves_15 : decode cL_leaves 15 = .ok (.iastore, 1) := by decide +kernel
theorem dL_leaves_16 : decode cL_leaves 16 = .ok (.aload_n 0, 1) := by decide +kernel
theorem dL_leaves_17 : decode cL_leaves 17 = .ok (.bipush 22, 2) := by decide +kernel
theorem dL_leaves_19 : decode cL_leaves 19 = .ok (.dup2, 1) := by decide +kernel
theorem dL_leaves_20 : decode cL_leaves 20 = .ok (.iaload, 1) := by decide +kernel
theorem dL_leaves_21 : decode cL_leaves 21 = .ok (.iload_n 1, 1) := by decide +kernel
theorem dL_leaves_22 : decode cL_leaves 22 = .ok (.ifCond .le 7, 3) := by decide +kernel
theorem dL_leaves_25 : decode cL_leaves 25 = .ok (.iconst 1, 1) := by decide +kernel
theorem dL_leaves_26 : decode cL_leaves 26 = .ok (.goto 4, 3) := by decide +kernel
theorem dL_leaves_29 : decode cL_leaves 29 = .ok (.iconst 0, 1) := by decide +kernel
theorem dL_leaves_30 : decode cL_leaves 30 = .ok (.iadd, 1) := by decide +kernel
theorem dL_leaves_31 : decode cL_leaves 31 = .ok (.iastore, 1) := by decide +kernel
theorem dL_leaves_32 : decode cL_leaves 32 = .ok (.return_, 1) := by decide +kernel
theorem dL_follows_0 : decode cL_follows 0 = .ok (.aload_n 0, 1) := by decide +kernel
theorem dL_follows_1 : decode cL_follows 1 = .ok (.iconst 3, 1) := by decide +kernel
theorem dL_follows_2 : decode cL_follows 2 = .ok (.iaload, 1) := by decide +kernel
theorem dL_follows_3 : decode cL_follows 3 = .ok (.istore_n 2, 1) := by decide +kernel
theorem dL_follows_4 : decode cL_follows 4 = .ok (.sipush 3000, 3) := by decide +kernel
theorem dL_follows_7 : decode cL_follows 7 = .ok (.istore_n 3, 1) := by decide +kernel
theorem dL_follows_8 : decode cL_follows 8 = .ok (.iconst 0, 1) := by decide +kernel
theorem dL_follows_9 : decode cL_follows 9 = .ok (.istore 4, 2) := by decide +kernel
theorem dL_follows_11 : decode cL_follows 11 = .ok (.iload 4, 2) := by decide +kernel
theorem dL_follows_13 : decode cL_follows 13 = .ok (.aload_n 0, 1) := by decide +kernel
theorem dL_follows_14 : decode cL_follows 14 = .ok (.iconst 3, 1) := by decide +kernel
theorem dL_follows_15 : decode cL_follows 15 = .ok (.iaload, 1) := by decide +kernel
theorem dL_follows_16 : decode cL_follows 16 = .ok (.if_icmp .gt 97, 3) := by decide +kernel
theorem dL_follows_19 : decode cL_follows 19 = .ok (.iload 4, 2) := by decide +kernel
theorem dL_follows_21 : decode cL_follows 21 = .ok (.iload_n 1, 1) := by decide +kernel
theorem dL_follows_22 : decode cL_follows 22 = .ok (.if_icmp .le 10, 3) := by decide +kernel
theorem dL_follows_25 : decode cL_follows 25 = .ok (.iload 4, 2) := by decide +kernel
theorem dL_follows_27 : decode cL_follows 27 = .ok (.iload_n 1, 1) := by decide +kernel
theorem dL_follows_28 : decode cL_follows 28 = .ok (.isub, 1) := by decide +kernel
theorem dL_follows_29 : decode cL_follows 29 = .ok (.goto 7, 3) := by decide +kernel
theorem dL_follows_32 : decode cL_follows 32 = .ok (.iload_n 1, 1) := by decide +kernel
theorem dL_follows_33 : decode cL_follows 33 = .ok (.iload 4, 2) := by decide +kernel
theorem dL_follows_35 : decode cL_follows 35 = .ok (.isub, 1) := by decide +kernel
theorem dL_follows_36 : decode cL_follows 36 = .ok (.istore 5, 2) := by decide +kernel
theorem dL_follows_38 : decode cL_follows 38 = .ok (.iload 4, 2) := by decide +kernel
theorem dL_follows_40 : decode cL_follows 40 = .ok (.aload_n 0, 1) := by decide +kernel
theorem dL_follows_41 : decode cL_follows 41 = .ok (.bipush 8, 2) := by decide +kernel
theorem dL_follows_43 : decode cL_follows 43 = .ok (.iaload, 1) := by decide +kernel
theorem dL_follows_44 : decode cL_follows 44 = .ok (.isub, 1) := by decide +kernel
theorem dL_follows_45 : decode cL_follows 45 = .ok (.aload_n 0, 1) := by decide +kernel
theorem dL_follows_46 : decode cL_follows 46 = .ok (.iconst 4, 1) := by decide +kernel
theorem dL_follows_47 : decode cL_follows 47 = .ok (.iaload, 1) := by decide +kernel
theorem dL_follows_48 : decode cL_follows 48 = .ok (.if_icmp .gt 20, 3) := by decide +kernel
theorem dL_follows_51 : decode cL_follows 51 = .ok (.aload_n 0, 1) := by decide +kernel
theorem dL_follows_52 : decode cL_follows 52 = .ok (.bipush 8, 2) := by decide +kernel
theorem dL_follows_54 : decode cL_follows 54 = .ok (.iaload, 1) := by decide +kernel
theorem dL_follows_55 : decode cL_follows 55 = .ok (.iload 4, 2) := by decide +kernel
theorem dL_follows_57 : decode cL_follows 57 = .ok (.isub, 1) := by decide +kernel
theorem dL_follows_58 : decode cL_follows 58 = .ok (.aload_n 0, 1) := by decide +kernel
theorem dL_follows_59 : decode cL_follows 59 = .ok (.iconst 4, 1) := by decide +kernel
theorem dL_follows_60 : decode cL_follows 60 = .ok (.iaload, 1) := by decide +kernel
theorem dL_follows_61 : decode cL_follows 61 = .ok (.if_icmp .gt 7, 3) := by decide +kernel
theorem dL_follows_64 : decode cL_follows 64 = .ok (.iconst 1, 1) := by decide +kernel
theorem dL_follows_65 : decode cL_follows 65 = .ok (.goto 4, 3) := by decide +kernel
theorem dL_follows_68 : decode cL_follows 68 = .ok (.iconst 0, 1) := by decide +kernel
theorem dL_follows_69 : decode cL_follows 69 = .ok (.istore 6, 2) := by decide +kernel
theorem dL_follows_71 : decode cL_follows 71 = .ok (.iload 6, 2) := by decide +kernel
theorem dL_follows_73 : decode cL_follows 73 = .ok (.ifCond .eq 14, 3) := by decide +kernel
theorem dL_follows_76 : decode cL_follows 76 = .ok (.iload 5, 2) := by decide +kernel
theorem dL_follows_78 : decode cL_follows 78 = .ok (.iload_n 3, 1) := by decide +kernel
theorem dL_follows_79 : decode cL_follows 79 = .ok (.if_icmp .ge 8, 3) := by decide +kernel
theorem dL_follows_82 : decode cL_follows 82 = .ok (.iload 4, 2) := by decide +kernel
theorem dL_follows_84 : decode cL_follows 84 = .ok (.goto 4, 3) := by decide +kernel
theorem dL_follows_87 : decode cL_follows 87 = .ok (.iload_n 2, 1) := by decide +kernel
theorem dL_follows_88 : decode cL_follows 88 = .ok (.istore_n 2, 1) := by decide +kernel
theorem dL_follows_89 : decode cL_follows 89 = .ok (.iload 6, 2) := by decide +kernel
theorem dL_follows_91 : decode cL_follows 91 = .ok (.ifCond .eq 14, 3) := by decide +kernel
theorem dL_follows_94 : decode cL_follows 94 = .ok (.iload 5, 2) := by decide +kernel
theorem dL_follows_96 : decode cL_follows 96 = .ok (.iload_n 3, 1) := by decide +kernel
theorem dL_follows_97 : decode cL_follows 97 = .ok (.if_icmp .ge 8, 3) := by decide +kernel
theorem dL_follows_100 : decode cL_follows 100 = .ok (.iload 5, 2) := by decide +kernel
theorem dL_follows_102 : decode cL_follows 102 = .ok (.goto 4, 3) := by decide +kernel
theorem dL_follows_105 : decode cL_follows 105 = .ok (.iload_n 3, 1) := by decide +kernel
theorem dL_follows_106 : decode cL_follows 106 = .ok (.istore_n 3, 1) := by decide +kernel
theorem dL_follows_107 : decode cL_follows 107 = .ok (.iinc 4 1, 3) := by decide +kernel
theorem dL_follows_110 : decode cL_follows 110 = .ok (.goto (-99), 3) := by decide +kernel
theorem dL_follows_113 : decode cL_follows 113 = .ok (.aload_n 0, 1) := by decide +kernel
theorem dL_follows_114 : decode cL_follows 114 = .ok (.bipush 8, 2) := by decide +kernel
theorem dL_follows_116 : decode cL_follows 116 = .ok (.iload_n 2, 1) := by decide +kernel
theorem dL_follows_117 : decode cL_follows 117 = .ok (.iastore, 1) := by decide +kernel
theorem dL_follows_118 : decode cL_follows 118 = .ok (.return_, 1) := by decide +kernel
set_option maxRecDepth 20000 in
theorem ggL_cycles_L_follows : GoodIn wsL_cycles wsL_follows := goodIn_r _ [5] (by decide +kernel) (by decide +kernel)
set_option maxRecDepth 20000 in
theorem gL_cycles_L_follows : GoodIn wsL_cycles (va_wsS RL 37 yL_follows wsL_follows) := goodIn_app (goodIn_of _ (by decide +kernel)) ggL_cycles_L_follows
set_option maxRecDepth 20000 in
theorem ggL_cycles_L_leaves : GoodIn wsL_cycles wsL_leaves := goodIn_r _ [8] (by decide +kernel) (by decide +kernel)
set_option maxRecDepth 20000 in
theorem gL_cycles_L_leaves : GoodIn wsL_cycles (va_wsS RL 42 yL_leaves wsL_leaves) := goodIn_app (goodIn_of _ (by decide +kernel)) ggL_cycles_L_leaves
theorem dL_cycles_0 : decode cL_cycles 0 = .ok (.aload_n 0, 1) := by decide +kernel
theorem dL_cycles_1 : decode cL_cycles 1 = .ok (.iload_n 2, 1) := by decide +kernel
theorem dL_cycles_2 : decode cL_cycles 2 = .ok (.invokestatic 37, 3) := by decide +kernel
theorem dL_cycles_5 : decode cL_cycles 5 = .ok (.aload_n 0, 1) := by decide +kernel
theorem dL_cycles_6 : decode cL_cycles 6 = .ok (.bipush 46, 2) := by decide +kernel
theorem dL_cycles_8 : decode cL_cycles 8 = .ok (.iaload, 1) := by decide +kernel
theorem dL_cycles_9 : decode cL_cycles 9 = .ok (.istore_n 3, 1) := by decide +kernel
theorem dL_cycles_10 : decode cL_cycles 10 = .ok (.iconst 0, 1) := by decide +kernel
theorem dL_cycles_11 : decode cL_cycles 11 = .ok (.istore 4, 2) := by decide +kernel
theorem dL_cycles_13 : decode cL_cycles 13 = .ok (.iconst 0, 1) := by decide +kernel
theorem dL_cycles_14 : decode cL_cycles 14 = .ok (.istore 5, 2) := by decide +kernel
theorem dL_cycles_16 : decode cL_cycles 16 = .ok (.iconst 0, 1) := by decide +kernel
theorem dL_cycles_17 : decode cL_cycles 17 = .ok (.istore 6, 2) := by decide +kernel
theorem dL_cycles_19 : decode cL_cycles 19 = .ok (.iconst 0, 1) := by decide +kernel
theorem dL_cycles_20 : decode cL_cycles 20 = .ok (.istore 7, 2) := by decide +kernel
theorem dL_cycles_22 : decode cL_cycles 22 = .ok (.iconst 0, 1) := by decide +kernel
theorem dL_cycles_23 : decode cL_cycles 23 = .ok (.istore 8, 2) := by decide +kernel
theorem dL_cycles_25 : decode cL_cycles 25 = .ok (.iload 8, 2) := by decide +kernel
theorem dL_cycles_27 : decode cL_cycles 27 = .ok (.ifCond .ne 132, 3) := by decide +kernel
theorem dL_cycles_30 : decode cL_cycles 30 = .ok (.iload 6, 2) := by decide +kernel
theorem dL_cycles_32 : decode cL_cycles 32 = .ok (.aload_n 1, 1) := by decide +kernel
theorem dL_cycles_33 : decode cL_cycles 33 = .ok (.bipush 63, 2) := by decide +kernel
theorem dL_cycles_35 : decode cL_cycles 35 = .ok (.iaload, 1) := by decide +kernel
theorem dL_cycles_36 : decode cL_cycles 36 = .ok (.if_icmp .ge 123, 3) := by decide +kernel
theorem dL_cycles_39 : decode cL_cycles 39 = .ok (.aload_n 1, 1) := by decide +kernel
theorem dL_cycles_40 : decode cL_cycles 40 = .ok (.iload 6, 2) := by decide +kernel
theorem dL_cycles_42 : decode cL_cycles 42 = .ok (.iaload, 1) := by decide +kernel
theorem dL_cycles_43 : decode cL_cycles 43 = .ok (.bipush 100, 2) := by decide +kernel
theorem dL_cycles_45 : decode cL_cycles 45 = .ok (.idiv, 1) := by decide +kernel
theorem dL_cycles_46 : decode cL_cycles 46 = .ok (.istore 9, 2) := by decide +kernel
theorem dL_cycles_48 : decode cL_cycles 48 = .ok (.aload_n 1, 1) := by decide +kernel
theorem dL_cycles_49 : decode cL_cycles 49 = .ok (.iload 6, 2) := by decide +kernel
theorem dL_cycles_51 : decode cL_cycles 51 = .ok (.iaload, 1) := by decide +kernel
theorem dL_cycles_52 : decode cL_cycles 52 = .ok (.bipush 100, 2) := by decide +kernel
theorem dL_cycles_54 : decode cL_cycles 54 = .ok (.irem, 1) := by decide +kernel
theorem dL_cycles_55 : decode cL_cycles 55 = .ok (.istore 10, 2) := by decide +kernel
theorem dL_cycles_57 : decode cL_cycles 57 = .ok (.iinc 6 1, 3) := by decide +kernel
theorem dL_cycles_60 : decode cL_cycles 60 = .ok (.iload 4, 2) := by decide +kernel
theorem dL_cycles_62 : decode cL_cycles 62 = .ok (.iload 10, 2) := by decide +kernel
theorem dL_cycles_64 : decode cL_cycles 64 = .ok (.iadd, 1) := by decide +kernel
theorem dL_cycles_65 : decode cL_cycles 65 = .ok (.istore 4, 2) := by decide +kernel
theorem dL_cycles_67 : decode cL_cycles 67 = .ok (.iload 5, 2) := by decide +kernel
theorem dL_cycles_69 : decode cL_cycles 69 = .ok (.iload 9, 2) := by decide +kernel
theorem dL_cycles_71 : decode cL_cycles 71 = .ok (.ifCond .ne 7, 3) := by decide +kernel
theorem dL_cycles_74 : decode cL_cycles 74 = .ok (.iconst 1, 1) := by decide +kernel
theorem dL_cycles_75 : decode cL_cycles 75 = .ok (.goto 4, 3) := by decide +kernel
theorem dL_cycles_78 : decode cL_cycles 78 = .ok (.iconst 0, 1) := by decide +kernel
theorem dL_cycles_79 : decode cL_cycles 79 = .ok (.iadd, 1) := by decide +kernel
theorem dL_cycles_80 : decode cL_cycles 80 = .ok (.istore 5, 2) := by decide +kernel
theorem dL_cycles_82 : decode cL_cycles 82 = .ok (.iload 7, 2) := by decide +kernel
theorem dL_cycles_84 : decode cL_cycles 84 = .ok (.iload 9, 2) := by decide +kernel
theorem dL_cycles_86 : decode cL_cycles 86 = .ok (.iconst 3, 1) := by decide +kernel
theorem dL_cycles_87 : decode cL_cycles 87 = .ok (.if_icmp .ne 7, 3) := by decide +kernel
theorem dL_cycles_90 : decode cL_cycles 90 = .ok (.iconst 1, 1) := by decide +kernel
theorem dL_cycles_91 : decode cL_cycles 91 = .ok (.goto 4, 3) := by decide +kernel
theorem dL_cycles_94 : decode cL_cycles 94 = .ok (.iconst 0, 1) := by decide +kernel
theorem dL_cycles_95 : decode cL_cycles 95 = .ok (.iadd, 1) := by decide +kernel
theorem dL_cycles_96 : decode cL_cycles 96 = .ok (.istore 7, 2) := by decide +kernel
theorem dL_cycles_98 : decode cL_cycles 98 = .ok (.iload 9, 2) := by decide +kernel
theorem dL_cycles_100 : decode cL_cycles 100 = .ok (.iconst 1, 1) := by decide +kernel
theorem dL_cycles_101 : decode cL_cycles 101 = .ok (.if_icmp .ne 15, 3) := by decide +kernel
theorem dL_cycles_104 : decode cL_cycles 104 = .ok (.iload 10, 2) := by decide +kernel
theorem dL_cycles_106 : decode cL_cycles 106 = .ok (.aload_n 0, 1) := by decide +kernel
theorem dL_cycles_107 : decode cL_cycles 107 = .ok (.iconst 0, 1) := by decide +kernel
theorem dL_cycles_108 : decode cL_cycles 108 = .ok (.iaload, 1) := by decide +kernel
theorem dL_cycles_109 : decode cL_cycles 109 = .ok (.if_icmp .lt 7, 3) := by decide +kernel
theorem dL_cycles_112 : decode cL_cycles 112 = .ok (.iconst 1, 1) := by decide +kernel
theorem dL_cycles_113 : decode cL_cycles 113 = .ok (.goto 4, 3) := by decide +kernel
theorem dL_cycles_116 : decode cL_cycles 116 = .ok (.iconst 0, 1) := by decide +kernel
theorem dL_cycles_117 : decode cL_cycles 117 = .ok (.istore 11, 2) := by decide +kernel
theorem dL_cycles_119 : decode cL_cycles 119 = .ok (.iload 11, 2) := by decide +kernel
theorem dL_cycles_121 : decode cL_cycles 121 = .ok (.ifCond .eq 20, 3) := by decide +kernel
theorem dL_cycles_124 : decode cL_cycles 124 = .ok (.ldc 41, 2) := by decide +kernel
theorem dL_cycles_126 : decode cL_cycles 126 = .ok (.iload 4, 2) := by decide +kernel
theorem dL_cycles_128 : decode cL_cycles 128 = .ok (.aload_n 0, 1) := by decide +kernel
theorem dL_cycles_129 : decode cL_cycles 129 = .ok (.iconst 1, 1) := by decide +kernel
theorem dL_cycles_130 : decode cL_cycles 130 = .ok (.iaload, 1) := by decide +kernel
theorem dL_cycles_131 : decode cL_cycles 131 = .ok (.iadd, 1) := by decide +kernel
theorem dL_cycles_132 : decode cL_cycles 132 = .ok (.imul, 1) := by decide +kernel
theorem dL_cycles_133 : decode cL_cycles 133 = .ok (.iload_n 3, 1) := by decide +kernel
theorem dL_cycles_134 : decode cL_cycles 134 = .ok (.if_icmp .lt 7, 3) := by decide +kernel
theorem dL_cycles_137 : decode cL_cycles 137 = .ok (.iconst 1, 1) := by decide +kernel
theorem dL_cycles_138 : decode cL_cycles 138 = .ok (.goto 16, 3) := by decide +kernel
theorem dL_cycles_141 : decode cL_cycles 141 = .ok (.iload 4, 2) := by decide +kernel
theorem dL_cycles_143 : decode cL_cycles 143 = .ok (.aload_n 0, 1) := by decide +kernel
theorem dL_cycles_144 : decode cL_cycles 144 = .ok (.iconst 2, 1) := by decide +kernel
theorem dL_cycles_145 : decode cL_cycles 145 = .ok (.iaload, 1) := by decide +kernel
theorem dL_cycles_146 : decode cL_cycles 146 = .ok (.if_icmp .le 7, 3) := by decide +kernel
theorem dL_cycles_149 : decode cL_cycles 149 = .ok (.iconst 2, 1) := by decide +kernel
theorem dL_cycles_150 : decode cL_cycles 150 = .ok (.goto 4, 3) := by decide +kernel
theorem dL_cycles_153 : decode cL_cycles 153 = .ok (.iconst 0, 1) := by decide +kernel
theorem dL_cycles_154 : decode cL_cycles 154 = .ok (.istore 8, 2) := by decide +kernel
theorem dL_cycles_156 : decode cL_cycles 156 = .ok (.goto (-131), 3) := by decide +kernel
theorem dL_cycles_159 : decode cL_cycles 159 = .ok (.iload 8, 2) := by decide +kernel
theorem dL_cycles_161 : decode cL_cycles 161 = .ok (.ifCond .ne 7, 3) := by decide +kernel
theorem dL_cycles_164 : decode cL_cycles 164 = .ok (.iconst 3, 1) := by decide +kernel
theorem dL_cycles_165 : decode cL_cycles 165 = .ok (.goto 5, 3) := by decide +kernel
theorem dL_cycles_168 : decode cL_cycles 168 = .ok (.iload 8, 2) := by decide +kernel
theorem dL_cycles_170 : decode cL_cycles 170 = .ok (.istore 8, 2) := by decide +kernel
theorem dL_cycles_172 : decode cL_cycles 172 = .ok (.aload_n 1, 1) := by decide +kernel
theorem dL_cycles_173 : decode cL_cycles 173 = .ok (.bipush 63, 2) := by decide +kernel
theorem dL_cycles_175 : decode cL_cycles 175 = .ok (.dup2, 1) := by decide +kernel
theorem dL_cycles_176 : decode cL_cycles 176 = .ok (.iaload, 1) := by decide +kernel
theorem dL_cycles_177 : decode cL_cycles 177 = .ok (.iload 6, 2) := by decide +kernel
theorem dL_cycles_179 : decode cL_cycles 179 = .ok (.isub, 1) := by decide +kernel
theorem dL_cycles_180 : decode cL_cycles 180 = .ok (.iastore, 1) := by decide +kernel
theorem dL_cycles_181 : decode cL_cycles 181 = .ok (.iconst 0, 1) := by decide +kernel
theorem dL_cycles_182 : decode cL_cycles 182 = .ok (.istore 9, 2) := by decide +kernel
theorem dL_cycles_184 : decode cL_cycles 184 = .ok (.iload 9, 2) := by decide +kernel
theorem dL_cycles_186 : decode cL_cycles 186 = .ok (.aload_n 1, 1) := by decide +kernel
theorem dL_cycles_187 : decode cL_cycles 187 = .ok (.bipush 63, 2) := by decide +kernel
theorem dL_cycles_189 : decode cL_cycles 189 = .ok (.iaload, 1) := by decide +kernel
theorem dL_cycles_190 : decode cL_cycles 190 = .ok (.if_icmp .ge 20, 3) := by decide +kernel
theorem dL_cycles_193 : decode cL_cycles 193 = .ok (.aload_n 1, 1) := by decide +kernel
theorem dL_cycles_194 : decode cL_cycles 194 = .ok (.iload 9, 2) := by decide +kernel
theorem dL_cycles_196 : decode cL_cycles 196 = .ok (.aload_n 1, 1) := by decide +kernel
theorem dL_cycles_197 : decode cL_cycles 197 = .ok (.iload 9, 2) := by decide +kernel
theorem dL_cycles_199 : decode cL_cycles 199 = .ok (.iload 6, 2) := by decide +kernel
theorem dL_cycles_201 : decode cL_cycles 201 = .ok (.iadd, 1) := by decide +kernel
theorem dL_cycles_202 : decode cL_cycles 202 = .ok (.iaload, 1) := by decide +kernel
theorem dL_cycles_203 : decode cL_cycles 203 = .ok (.iastore, 1) := by decide +kernel
theorem dL_cycles_204 : decode cL_cycles 204 = .ok (.iinc 9 1, 3) := by decide +kernel
theorem dL_cycles_207 : decode cL_cycles 207 = .ok (.goto (-23), 3) := by decide +kernel
theorem dL_cycles_210 : decode cL_cycles 210 = .ok (.iload 8, 2) := by decide +kernel
theorem dL_cycles_212 : decode cL_cycles 212 = .ok (.iconst 1, 1) := by decide +kernel
theorem dL_cycles_213 : decode cL_cycles 213 = .ok (.if_icmp .ne 20, 3) := by decide +kernel
theorem dL_cycles_216 : decode cL_cycles 216 = .ok (.ldc 41, 2) := by decide +kernel
theorem dL_cycles_218 : decode cL_cycles 218 = .ok (.iload 4, 2) := by decide +kernel
theorem dL_cycles_220 : decode cL_cycles 220 = .ok (.aload_n 0, 1) := by decide +kernel
theorem dL_cycles_221 : decode cL_cycles 221 = .ok (.iconst 1, 1) := by decide +kernel
theorem dL_cycles_222 : decode cL_cycles 222 = .ok (.iaload, 1) := by decide +kernel
theorem dL_cycles_223 : decode cL_cycles 223 = .ok (.isub, 1) := by decide +kernel
theorem dL_cycles_224 : decode cL_cycles 224 = .ok (.imul, 1) := by decide +kernel
theorem dL_cycles_225 : decode cL_cycles 225 = .ok (.iload_n 3, 1) := by decide +kernel
theorem dL_cycles_226 : decode cL_cycles 226 = .ok (.if_icmp .le 7, 3) := by decide +kernel
theorem dL_cycles_229 : decode cL_cycles 229 = .ok (.iconst 1, 1) := by decide +kernel
theorem dL_cycles_230 : decode cL_cycles 230 = .ok (.goto 4, 3) := by decide +kernel
theorem dL_cycles_233 : decode cL_cycles 233 = .ok (.iconst 0, 1) := by decide +kernel
theorem dL_cycles_234 : decode cL_cycles 234 = .ok (.istore 9, 2) := by decide +kernel
theorem dL_cycles_236 : decode cL_cycles 236 = .ok (.aload_n 0, 1) := by decide +kernel
theorem dL_cycles_237 : decode cL_cycles 237 = .ok (.bipush 8, 2) := by decide +kernel
theorem dL_cycles_239 : decode cL_cycles 239 = .ok (.iaload, 1) := by decide +kernel
theorem dL_cycles_240 : decode cL_cycles 240 = .ok (.iload_n 2, 1) := by decide +kernel
theorem dL_cycles_241 : decode cL_cycles 241 = .ok (.if_icmp .le 12, 3) := by decide +kernel
theorem dL_cycles_244 : decode cL_cycles 244 = .ok (.aload_n 0, 1) := by decide +kernel
theorem dL_cycles_245 : decode cL_cycles 245 = .ok (.bipush 8, 2) := by decide +kernel
theorem dL_cycles_247 : decode cL_cycles 247 = .ok (.iaload, 1) := by decide +kernel
theorem dL_cycles_248 : decode cL_cycles 248 = .ok (.iload_n 2, 1) := by decide +kernel
theorem dL_cycles_249 : decode cL_cycles 249 = .ok (.isub, 1) := by decide +kernel
theorem dL_cycles_250 : decode cL_cycles 250 = .ok (.goto 9, 3) := by decide +kernel
theorem dL_cycles_253 : decode cL_cycles 253 = .ok (.iload_n 2, 1) := by decide +kernel
theorem dL_cycles_254 : decode cL_cycles 254 = .ok (.aload_n 0, 1) := by decide +kernel
theorem dL_cycles_255 : decode cL_cycles 255 = .ok (.bipush 8, 2) := by decide +kernel
theorem dL_cycles_257 : decode cL_cycles 257 = .ok (.iaload, 1) := by decide +kernel
theorem dL_cycles_258 : decode cL_cycles 258 = .ok (.isub, 1) := by decide +kernel
theorem dL_cycles_259 : decode cL_cycles 259 = .ok (.istore 10, 2) := by decide +kernel
theorem dL_cycles_261 : decode cL_cycles 261 = .ok (.iload 8, 2) := by decide +kernel
theorem dL_cycles_263 : decode cL_cycles 263 = .ok (.iconst 3, 1) := by decide +kernel
theorem dL_cycles_264 : decode cL_cycles 264 = .ok (.if_icmp .ne 7, 3) := by decide +kernel
theorem dL_cycles_267 : decode cL_cycles 267 = .ok (.iconst 1, 1) := by decide +kernel
theorem dL_cycles_268 : decode cL_cycles 268 = .ok (.goto 65, 3) := by decide +kernel
theorem dL_cycles_271 : decode cL_cycles 271 = .ok (.iload 8, 2) := by decide +kernel
theorem dL_cycles_273 : decode cL_cycles 273 = .ok (.iconst 2, 1) := by decide +kernel
theorem dL_cycles_274 : decode cL_cycles 274 = .ok (.if_icmp .ne 7, 3) := by decide +kernel
theorem dL_cycles_277 : decode cL_cycles 277 = .ok (.iconst 2, 1) := by decide +kernel
theorem dL_cycles_278 : decode cL_cycles 278 = .ok (.goto 55, 3) := by decide +kernel
theorem dL_cycles_281 : decode cL_cycles 281 = .ok (.iload 7, 2) := by decide +kernel
theorem dL_cycles_283 : decode cL_cycles 283 = .ok (.ifCond .le 7, 3) := by decide +kernel
theorem dL_cycles_286 : decode cL_cycles 286 = .ok (.iconst 3, 1) := by decide +kernel
theorem dL_cycles_287 : decode cL_cycles 287 = .ok (.goto 46, 3) := by decide +kernel
theorem dL_cycles_290 : decode cL_cycles 290 = .ok (.iload 5, 2) := by decide +kernel
theorem dL_cycles_292 : decode cL_cycles 292 = .ok (.ifCond .ne 7, 3) := by decide +kernel
theorem dL_cycles_295 : decode cL_cycles 295 = .ok (.iconst 4, 1) := by decide +kernel
theorem dL_cycles_296 : decode cL_cycles 296 = .ok (.goto 37, 3) := by decide +kernel
theorem dL_cycles_299 : decode cL_cycles 299 = .ok (.iload 5, 2) := by decide +kernel
theorem dL_cycles_301 : decode cL_cycles 301 = .ok (.iconst 1, 1) := by decide +kernel
theorem dL_cycles_302 : decode cL_cycles 302 = .ok (.if_icmp .le 7, 3) := by decide +kernel
theorem dL_cycles_305 : decode cL_cycles 305 = .ok (.iconst 5, 1) := by decide +kernel
theorem dL_cycles_306 : decode cL_cycles 306 = .ok (.goto 27, 3) := by decide +kernel
theorem dL_cycles_309 : decode cL_cycles 309 = .ok (.iload 9, 2) := by decide +kernel
theorem dL_cycles_311 : decode cL_cycles 311 = .ok (.ifCond .eq 8, 3) := by decide +kernel
theorem dL_cycles_314 : decode cL_cycles 314 = .ok (.bipush 6, 2) := by decide +kernel
theorem dL_cycles_316 : decode cL_cycles 316 = .ok (.goto 17, 3) := by decide +kernel
theorem dL_cycles_319 : decode cL_cycles 319 = .ok (.iload 10, 2) := by decide +kernel
theorem dL_cycles_321 : decode cL_cycles 321 = .ok (.aload_n 0, 1) := by decide +kernel
theorem dL_cycles_322 : decode cL_cycles 322 = .ok (.iconst 5, 1) := by decide +kernel
theorem dL_cycles_323 : decode cL_cycles 323 = .ok (.iaload, 1) := by decide +kernel
theorem dL_cycles_324 : decode cL_cycles 324 = .ok (.if_icmp .le 8, 3) := by decide +kernel
theorem dL_cycles_327 : decode cL_cycles 327 = .ok (.bipush 7, 2) := by decide +kernel
theorem dL_cycles_329 : decode cL_cycles 329 = .ok (.goto 4, 3) := by decide +kernel
theorem dL_cycles_332 : decode cL_cycles 332 = .ok (.iconst 0, 1) := by decide +kernel
theorem dL_cycles_333 : decode cL_cycles 333 = .ok (.istore 11, 2) := by decide +kernel
theorem dL_cycles_335 : decode cL_cycles 335 = .ok (.iload 11, 2) := by decide +kernel
theorem dL_cycles_337 : decode cL_cycles 337 = .ok (.ifCond .ne 85, 3) := by decide +kernel
theorem dL_cycles_340 : decode cL_cycles 340 = .ok (.aload_n 0, 1) := by decide +kernel
theorem dL_cycles_341 : decode cL_cycles 341 = .ok (.bipush 46, 2) := by decide +kernel
theorem dL_cycles_343 : decode cL_cycles 343 = .ok (.aload_n 0, 1) := by decide +kernel
theorem dL_cycles_344 : decode cL_cycles 344 = .ok (.bipush 6, 2) := by decide +kernel
theorem dL_cycles_346 : decode cL_cycles 346 = .ok (.iaload, 1) := by decide +kernel
theorem dL_cycles_347 : decode cL_cycles 347 = .ok (.iconst 4, 1) := by decide +kernel
theorem dL_cycles_348 : decode cL_cycles 348 = .ok (.if_icmp .ne 17, 3) := by decide +kernel
theorem dL_cycles_351 : decode cL_cycles 351 = .ok (.iload_n 3, 1) := by decide +kernel
theorem dL_cycles_352 : decode cL_cycles 352 = .ok (.ldc 41, 2) := by decide +kernel
theorem dL_cycles_354 : decode cL_cycles 354 = .ok (.iload 4, 2) := by decide +kernel
theorem dL_cycles_356 : decode cL_cycles 356 = .ok (.imul, 1) := by decide +kernel
theorem dL_cycles_357 : decode cL_cycles 357 = .ok (.iload_n 3, 1) := by decide +kernel
theorem dL_cycles_358 : decode cL_cycles 358 = .ok (.isub, 1) := by decide +kernel
theorem dL_cycles_359 : decode cL_cycles 359 = .ok (.iconst 2, 1) := by decide +kernel
theorem dL_cycles_360 : decode cL_cycles 360 = .ok (.idiv, 1) := by decide +kernel
theorem dL_cycles_361 : decode cL_cycles 361 = .ok (.iadd, 1) := by decide +kernel
theorem dL_cycles_362 : decode cL_cycles 362 = .ok (.goto 21, 3) := by decide +kernel
theorem dL_cycles_365 : decode cL_cycles 365 = .ok (.aload_n 0, 1) := by decide +kernel
theorem dL_cycles_366 : decode cL_cycles 366 = .ok (.bipush 6, 2) := by decide +kernel
theorem dL_cycles_368 : decode cL_cycles 368 = .ok (.iaload, 1) := by decide +kernel
theorem dL_cycles_369 : decode cL_cycles 369 = .ok (.bipush 8, 2) := by decide +kernel
theorem dL_cycles_371 : decode cL_cycles 371 = .ok (.if_icmp .ne 11, 3) := by decide +kernel
theorem dL_cycles_374 : decode cL_cycles 374 = .ok (.ldc 41, 2) := by decide +kernel
theorem dL_cycles_376 : decode cL_cycles 376 = .ok (.iload 4, 2) := by decide +kernel
theorem dL_cycles_378 : decode cL_cycles 378 = .ok (.imul, 1) := by decide +kernel
theorem dL_cycles_379 : decode cL_cycles 379 = .ok (.goto 4, 3) := by decide +kernel
theorem dL_cycles_382 : decode cL_cycles 382 = .ok (.iload_n 3, 1) := by decide +kernel
theorem dL_cycles_383 : decode cL_cycles 383 = .ok (.iastore, 1) := by decide +kernel
theorem dL_cycles_384 : decode cL_cycles 384 = .ok (.aload_n 0, 1) := by decide +kernel
theorem dL_cycles_385 : decode cL_cycles 385 = .ok (.bipush 47, 2) := by decide +kernel
theorem dL_cycles_387 : decode cL_cycles 387 = .ok (.aload_n 0, 1) := by decide +kernel
theorem dL_cycles_388 : decode cL_cycles 388 = .ok (.bipush 6, 2) := by decide +kernel
theorem dL_cycles_390 : decode cL_cycles 390 = .ok (.iaload, 1) := by decide +kernel
theorem dL_cycles_391 : decode cL_cycles 391 = .ok (.iconst 4, 1) := by decide +kernel
theorem dL_cycles_392 : decode cL_cycles 392 = .ok (.if_icmp .ne 12, 3) := by decide +kernel
theorem dL_cycles_395 : decode cL_cycles 395 = .ok (.aload_n 0, 1) := by decide +kernel
theorem dL_cycles_396 : decode cL_cycles 396 = .ok (.bipush 47, 2) := by decide +kernel
theorem dL_cycles_398 : decode cL_cycles 398 = .ok (.iaload, 1) := by decide +kernel
theorem dL_cycles_399 : decode cL_cycles 399 = .ok (.iconst 1, 1) := by decide +kernel
theorem dL_cycles_400 : decode cL_cycles 400 = .ok (.iadd, 1) := by decide +kernel
theorem dL_cycles_401 : decode cL_cycles 401 = .ok (.goto 20, 3) := by decide +kernel
theorem dL_cycles_404 : decode cL_cycles 404 = .ok (.aload_n 0, 1) := by decide +kernel
theorem dL_cycles_405 : decode cL_cycles 405 = .ok (.bipush 6, 2) := by decide +kernel
theorem dL_cycles_407 : decode cL_cycles 407 = .ok (.iaload, 1) := by decide +kernel
theorem dL_cycles_408 : decode cL_cycles 408 = .ok (.bipush 8, 2) := by decide +kernel
theorem dL_cycles_410 : decode cL_cycles 410 = .ok (.if_icmp .ne 7, 3) := by decide +kernel
theorem dL_cycles_413 : decode cL_cycles 413 = .ok (.iconst 0, 1) := by decide +kernel
theorem dL_cycles_414 : decode cL_cycles 414 = .ok (.goto 7, 3) := by decide +kernel
theorem dL_cycles_417 : decode cL_cycles 417 = .ok (.aload_n 0, 1) := by decide +kernel
theorem dL_cycles_418 : decode cL_cycles 418 = .ok (.bipush 47, 2) := by decide +kernel
theorem dL_cycles_420 : decode cL_cycles 420 = .ok (.iaload, 1) := by decide +kernel
theorem dL_cycles_421 : decode cL_cycles 421 = .ok (.iastore, 1) := by decide +kernel
theorem dL_cycles_422 : decode cL_cycles 422 = .ok (.aload_n 0, 1) := by decide +kernel
theorem dL_cycles_423 : decode cL_cycles 423 = .ok (.bipush 20, 2) := by decide +kernel
theorem dL_cycles_425 : decode cL_cycles 425 = .ok (.dup2, 1) := by decide +kernel
theorem dL_cycles_426 : decode cL_cycles 426 = .ok (.iaload, 1) := by decide +kernel
theorem dL_cycles_427 : decode cL_cycles 427 = .ok (.iconst 1, 1) := by decide +kernel
theorem dL_cycles_428 : decode cL_cycles 428 = .ok (.iadd, 1) := by decide +kernel
theorem dL_cycles_429 : decode cL_cycles 429 = .ok (.iastore, 1) := by decide +kernel
theorem dL_cycles_430 : decode cL_cycles 430 = .ok (.aload_n 0, 1) := by decide +kernel
theorem dL_cycles_431 : decode cL_cycles 431 = .ok (.bipush 23, 2) := by decide +kernel
theorem dL_cycles_433 : decode cL_cycles 433 = .ok (.dup2, 1) := by decide +kernel
theorem dL_cycles_434 : decode cL_cycles 434 = .ok (.iaload, 1) := by decide +kernel
theorem dL_cycles_435 : decode cL_cycles 435 = .ok (.iload 11, 2) := by decide +kernel
theorem dL_cycles_437 : decode cL_cycles 437 = .ok (.ifCond .ne 7, 3) := by decide +kernel
theorem dL_cycles_440 : decode cL_cycles 440 = .ok (.iconst 1, 1) := by decide +kernel
theorem dL_cycles_441 : decode cL_cycles 441 = .ok (.goto 4, 3) := by decide +kernel
theorem dL_cycles_444 : decode cL_cycles 444 = .ok (.iconst 0, 1) := by decide +kernel
theorem dL_cycles_445 : decode cL_cycles 445 = .ok (.iadd, 1) := by decide +kernel
theorem dL_cycles_446 : decode cL_cycles 446 = .ok (.iastore, 1) := by decide +kernel
theorem dL_cycles_447 : decode cL_cycles 447 = .ok (.aload_n 0, 1) := by decide +kernel
theorem dL_cycles_448 : decode cL_cycles 448 = .ok (.bipush 24, 2) := by decide +kernel
theorem dL_cycles_450 : decode cL_cycles 450 = .ok (.dup2, 1) := by decide +kernel
theorem dL_cycles_451 : decode cL_cycles 451 = .ok (.iaload, 1) := by decide +kernel
theorem dL_cycles_452 : decode cL_cycles 452 = .ok (.iload 11, 2) := by decide +kernel
theorem dL_cycles_454 : decode cL_cycles 454 = .ok (.ifCond .le 8, 3) := by decide +kernel
theorem dL_cycles_457 : decode cL_cycles 457 = .ok (.iload 5, 2) := by decide +kernel
theorem dL_cycles_459 : decode cL_cycles 459 = .ok (.goto 4, 3) := by decide +kernel
theorem dL_cycles_462 : decode cL_cycles 462 = .ok (.iconst 0, 1) := by decide +kernel
theorem dL_cycles_463 : decode cL_cycles 463 = .ok (.iadd, 1) := by decide +kernel
theorem dL_cycles_464 : decode cL_cycles 464 = .ok (.iastore, 1) := by decide +kernel
theorem dL_cycles_465 : decode cL_cycles 465 = .ok (.aload_n 0, 1) := by decide +kernel
theorem dL_cycles_466 : decode cL_cycles 466 = .ok (.bipush 25, 2) := by decide +kernel
theorem dL_cycles_468 : decode cL_cycles 468 = .ok (.dup2, 1) := by decide +kernel
theorem dL_cycles_469 : decode cL_cycles 469 = .ok (.iaload, 1) := by decide +kernel
theorem dL_cycles_470 : decode cL_cycles 470 = .ok (.iload 7, 2) := by decide +kernel
theorem dL_cycles_472 : decode cL_cycles 472 = .ok (.ifCond .le 7, 3) := by decide +kernel
theorem dL_cycles_475 : decode cL_cycles 475 = .ok (.iconst 1, 1) := by decide +kernel
theorem dL_cycles_476 : decode cL_cycles 476 = .ok (.goto 4, 3) := by decide +kernel
theorem dL_cycles_479 : decode cL_cycles 479 = .ok (.iconst 0, 1) := by decide +kernel
theorem dL_cycles_480 : decode cL_cycles 480 = .ok (.iadd, 1) := by decide +kernel
theorem dL_cycles_481 : decode cL_cycles 481 = .ok (.iastore, 1) := by decide +kernel
theorem dL_cycles_482 : decode cL_cycles 482 = .ok (.aload_n 0, 1) := by decide +kernel
theorem dL_cycles_483 : decode cL_cycles 483 = .ok (.bipush 26, 2) := by decide +kernel
theorem dL_cycles_485 : decode cL_cycles 485 = .ok (.dup2, 1) := by decide +kernel
theorem dL_cycles_486 : decode cL_cycles 486 = .ok (.iaload, 1) := by decide +kernel
theorem dL_cycles_487 : decode cL_cycles 487 = .ok (.iload 9, 2) := by decide +kernel
theorem dL_cycles_489 : decode cL_cycles 489 = .ok (.ifCond .eq 7, 3) := by decide +kernel
theorem dL_cycles_492 : decode cL_cycles 492 = .ok (.iconst 1, 1) := by decide +kernel
theorem dL_cycles_493 : decode cL_cycles 493 = .ok (.goto 4, 3) := by decide +kernel
theorem dL_cycles_496 : decode cL_cycles 496 = .ok (.iconst 0, 1) := by decide +kernel
theorem dL_cycles_497 : decode cL_cycles 497 = .ok (.iadd, 1) := by decide +kernel
theorem dL_cycles_498 : decode cL_cycles 498 = .ok (.iastore, 1) := by decide +kernel
theorem dL_cycles_499 : decode cL_cycles 499 = .ok (.aload_n 0, 1) := by decide +kernel
theorem dL_cycles_500 : decode cL_cycles 500 = .ok (.bipush 27, 2) := by decide +kernel
theorem dL_cycles_502 : decode cL_cycles 502 = .ok (.iload 11, 2) := by decide +kernel
theorem dL_cycles_504 : decode cL_cycles 504 = .ok (.iconst 1, 1) := by decide +kernel
theorem dL_cycles_505 : decode cL_cycles 505 = .ok (.if_icmp .eq 22, 3) := by decide +kernel
theorem dL_cycles_508 : decode cL_cycles 508 = .ok (.iload 11, 2) := by decide +kernel
theorem dL_cycles_510 : decode cL_cycles 510 = .ok (.iconst 2, 1) := by decide +kernel
theorem dL_cycles_511 : decode cL_cycles 511 = .ok (.if_icmp .eq 16, 3) := by decide +kernel
theorem dL_cycles_514 : decode cL_cycles 514 = .ok (.iload 11, 2) := by decide +kernel
theorem dL_cycles_516 : decode cL_cycles 516 = .ok (.iconst 4, 1) := by decide +kernel
theorem dL_cycles_517 : decode cL_cycles 517 = .ok (.if_icmp .eq 10, 3) := by decide +kernel
theorem dL_cycles_520 : decode cL_cycles 520 = .ok (.iload 11, 2) := by decide +kernel
theorem dL_cycles_522 : decode cL_cycles 522 = .ok (.bipush 6, 2) := by decide +kernel
theorem dL_cycles_524 : decode cL_cycles 524 = .ok (.if_icmp .ne 12, 3) := by decide +kernel
theorem dL_cycles_527 : decode cL_cycles 527 = .ok (.aload_n 0, 1) := by decide +kernel
theorem dL_cycles_528 : decode cL_cycles 528 = .ok (.bipush 27, 2) := by decide +kernel
theorem dL_cycles_530 : decode cL_cycles 530 = .ok (.iaload, 1) := by decide +kernel
theorem dL_cycles_531 : decode cL_cycles 531 = .ok (.iconst 1, 1) := by decide +kernel
theorem dL_cycles_532 : decode cL_cycles 532 = .ok (.iadd, 1) := by decide +kernel
theorem dL_cycles_533 : decode cL_cycles 533 = .ok (.goto 4, 3) := by decide +kernel
theorem dL_cycles_536 : decode cL_cycles 536 = .ok (.iconst 0, 1) := by decide +kernel
theorem dL_cycles_537 : decode cL_cycles 537 = .ok (.iastore, 1) := by decide +kernel
theorem dL_cycles_538 : decode cL_cycles 538 = .ok (.aload_n 0, 1) := by decide +kernel
theorem dL_cycles_539 : decode cL_cycles 539 = .ok (.bipush 28, 2) := by decide +kernel
theorem dL_cycles_541 : decode cL_cycles 541 = .ok (.aload_n 0, 1) := by decide +kernel
theorem dL_cycles_542 : decode cL_cycles 542 = .ok (.bipush 27, 2) := by decide +kernel
theorem dL_cycles_544 : decode cL_cycles 544 = .ok (.iaload, 1) := by decide +kernel
theorem dL_cycles_545 : decode cL_cycles 545 = .ok (.aload_n 0, 1) := by decide +kernel
theorem dL_cycles_546 : decode cL_cycles 546 = .ok (.bipush 7, 2) := by decide +kernel
theorem dL_cycles_548 : decode cL_cycles 548 = .ok (.iaload, 1) := by decide +kernel
theorem dL_cycles_549 : decode cL_cycles 549 = .ok (.if_icmp .lt 7, 3) := by decide +kernel
theorem dL_cycles_552 : decode cL_cycles 552 = .ok (.iconst 1, 1) := by decide +kernel
theorem dL_cycles_553 : decode cL_cycles 553 = .ok (.goto 7, 3) := by decide +kernel
theorem dL_cycles_556 : decode cL_cycles 556 = .ok (.aload_n 0, 1) := by decide +kernel
theorem dL_cycles_557 : decode cL_cycles 557 = .ok (.bipush 28, 2) := by decide +kernel
theorem dL_cycles_559 : decode cL_cycles 559 = .ok (.iaload, 1) := by decide +kernel
theorem dL_cycles_560 : decode cL_cycles 560 = .ok (.iastore, 1) := by decide +kernel
theorem dL_cycles_561 : decode cL_cycles 561 = .ok (.aload_n 0, 1) := by decide +kernel
theorem dL_cycles_562 : decode cL_cycles 562 = .ok (.bipush 30, 2) := by decide +kernel
theorem dL_cycles_564 : decode cL_cycles 564 = .ok (.iload 11, 2) := by decide +kernel
theorem dL_cycles_566 : decode cL_cycles 566 = .ok (.iadd, 1) := by decide +kernel
theorem dL_cycles_567 : decode cL_cycles 567 = .ok (.dup2, 1) := by decide +kernel
theorem dL_cycles_568 : decode cL_cycles 568 = .ok (.iaload, 1) := by decide +kernel
theorem dL_cycles_569 : decode cL_cycles 569 = .ok (.iconst 1, 1) := by decide +kernel
theorem dL_cycles_570 : decode cL_cycles 570 = .ok (.iadd, 1) := by decide +kernel
theorem dL_cycles_571 : decode cL_cycles 571 = .ok (.iastore, 1) := by decide +kernel
theorem dL_cycles_572 : decode cL_cycles 572 = .ok (.aload_n 0, 1) := by decide +kernel
theorem dL_cycles_573 : decode cL_cycles 573 = .ok (.aload_n 0, 1) := by decide +kernel
theorem dL_cycles_574 : decode cL_cycles 574 = .ok (.bipush 9, 2) := by decide +kernel
theorem dL_cycles_576 : decode cL_cycles 576 = .ok (.aload_n 0, 1) := by decide +kernel
theorem dL_cycles_577 : decode cL_cycles 577 = .ok (.bipush 9, 2) := by decide +kernel
theorem dL_cycles_579 : decode cL_cycles 579 = .ok (.iaload, 1) := by decide +kernel
theorem dL_cycles_580 : decode cL_cycles 580 = .ok (.iadd, 1) := by decide +kernel
theorem dL_cycles_581 : decode cL_cycles 581 = .ok (.iaload, 1) := by decide +kernel
theorem dL_cycles_582 : decode cL_cycles 582 = .ok (.invokestatic 42, 3) := by decide +kernel
theorem dL_cycles_585 : decode cL_cycles 585 = .ok (.aload_n 0, 1) := by decide +kernel
theorem dL_cycles_586 : decode cL_cycles 586 = .ok (.bipush 9, 2) := by decide +kernel
theorem dL_cycles_588 : decode cL_cycles 588 = .ok (.iaload, 1) := by decide +kernel
theorem dL_cycles_589 : decode cL_cycles 589 = .ok (.iconst 1, 1) := by decide +kernel
theorem dL_cycles_590 : decode cL_cycles 590 = .ok (.isub, 1) := by decide +kernel
theorem dL_cycles_591 : decode cL_cycles 591 = .ok (.istore 12, 2) := by decide +kernel
theorem dL_cycles_593 : decode cL_cycles 593 = .ok (.iload 12, 2) := by decide +kernel
theorem dL_cycles_595 : decode cL_cycles 595 = .ok (.ifCond .le 23, 3) := by decide +kernel
theorem dL_cycles_598 : decode cL_cycles 598 = .ok (.aload_n 0, 1) := by decide +kernel
theorem dL_cycles_599 : decode cL_cycles 599 = .ok (.bipush 10, 2) := by decide +kernel
theorem dL_cycles_601 : decode cL_cycles 601 = .ok (.iload 12, 2) := by decide +kernel
theorem dL_cycles_603 : decode cL_cycles 603 = .ok (.iadd, 1) := by decide +kernel
theorem dL_cycles_604 : decode cL_cycles 604 = .ok (.aload_n 0, 1) := by decide +kernel
theorem dL_cycles_605 : decode cL_cycles 605 = .ok (.bipush 9, 2) := by decide +kernel
theorem dL_cycles_607 : decode cL_cycles 607 = .ok (.iload 12, 2) := by decide +kernel
theorem dL_cycles_609 : decode cL_cycles 609 = .ok (.iadd, 1) := by decide +kernel
theorem dL_cycles_610 : decode cL_cycles 610 = .ok (.iaload, 1) := by decide +kernel
theorem dL_cycles_611 : decode cL_cycles 611 = .ok (.iastore, 1) := by decide +kernel
theorem dL_cycles_612 : decode cL_cycles 612 = .ok (.iinc 12 (-1), 3) := by decide +kernel
theorem dL_cycles_615 : decode cL_cycles 615 = .ok (.goto (-22), 3) := by decide +kernel
theorem dL_cycles_618 : decode cL_cycles 618 = .ok (.aload_n 0, 1) := by decide +kernel
theorem dL_cycles_619 : decode cL_cycles 619 = .ok (.bipush 10, 2) := by decide +kernel
theorem dL_cycles_621 : decode cL_cycles 621 = .ok (.iload 11, 2) := by decide +kernel
theorem dL_cycles_623 : decode cL_cycles 623 = .ok (.iastore, 1) := by decide +kernel
theorem dL_cycles_624 : decode cL_cycles 624 = .ok (.aload_n 0, 1) := by decide +kernel
theorem dL_cycles_625 : decode cL_cycles 625 = .ok (.bipush 40, 2) := by decide +kernel
theorem dL_cycles_627 : decode cL_cycles 627 = .ok (.iload 4, 2) := by decide +kernel
theorem dL_cycles_629 : decode cL_cycles 629 = .ok (.iastore, 1) := by decide +kernel
theorem dL_cycles_630 : decode cL_cycles 630 = .ok (.aload_n 0, 1) := by decide +kernel
theorem dL_cycles_631 : decode cL_cycles 631 = .ok (.bipush 41, 2) := by decide +kernel
theorem dL_cycles_633 : decode cL_cycles 633 = .ok (.iload 5, 2) := by decide +kernel
theorem dL_cycles_635 : decode cL_cycles 635 = .ok (.iastore, 1) := by decide +kernel
theorem dL_cycles_636 : decode cL_cycles 636 = .ok (.aload_n 0, 1) := by decide +kernel
theorem dL_cycles_637 : decode cL_cycles 637 = .ok (.bipush 42, 2) := by decide +kernel
theorem dL_cycles_639 : decode cL_cycles 639 = .ok (.iload 11, 2) := by decide +kernel
theorem dL_cycles_641 : decode cL_cycles 641 = .ok (.iastore, 1) := by decide +kernel
theorem dL_cycles_642 : decode cL_cycles 642 = .ok (.aload_n 0, 1) := by decide +kernel
theorem dL_cycles_643 : decode cL_cycles 643 = .ok (.bipush 43, 2) := by decide +kernel
theorem dL_cycles_645 : decode cL_cycles 645 = .ok (.aload_n 0, 1) := by decide +kernel
theorem dL_cycles_646 : decode cL_cycles 646 = .ok (.bipush 8, 2) := by decide +kernel
theorem dL_cycles_648 : decode cL_cycles 648 = .ok (.iaload, 1) := by decide +kernel
theorem dL_cycles_649 : decode cL_cycles 649 = .ok (.iastore, 1) := by decide +kernel
theorem dL_cycles_650 : decode cL_cycles 650 = .ok (.aload_n 0, 1) := by decide +kernel
theorem dL_cycles_651 : decode cL_cycles 651 = .ok (.bipush 44, 2) := by decide +kernel
theorem dL_cycles_653 : decode cL_cycles 653 = .ok (.iload 6, 2) := by decide +kernel
theorem dL_cycles_655 : decode cL_cycles 655 = .ok (.iastore, 1) := by decide +kernel
theorem dL_cycles_656 : decode cL_cycles 656 = .ok (.aload_n 0, 1) := by decide +kernel
theorem dL_cycles_657 : decode cL_cycles 657 = .ok (.bipush 45, 2) := by decide +kernel
theorem dL_cycles_659 : decode cL_cycles 659 = .ok (.iload 8, 2) := by decide +kernel
theorem dL_cycles_661 : decode cL_cycles 661 = .ok (.iastore, 1) := by decide +kernel
theorem dL_cycles_662 : decode cL_cycles 662 = .ok (.return_, 1) := by decide +kernel
theorem dL_most_0 : decode cL_most 0 = .ok (.iload_n 0, 1) := by decide +kernel
theorem dL_most_1 : decode cL_most 1 = .ok (.ifCond .ne 8, 3) := by decide +kernel
theorem dL_most_4 : decode cL_most 4 = .ok (.bipush 30, 2) := by decide +kernel
theorem dL_most_6 : decode cL_most 6 = .ok (.goto 59, 3) := by decide +kernel
theorem dL_most_9 : decode cL_most 9 = .ok (.iload_n 0, 1) := by decide +kernel
theorem dL_most_10 : decode cL_most 10 = .ok (.iconst 1, 1) := by decide +kernel
theorem dL_most_11 : decode cL_most 11 = .ok (.if_icmp .ne 8, 3) := by decide +kernel
theorem dL_most_14 : decode cL_most 14 = .ok (.bipush 50, 2) := by decide +kernel
theorem dL_most_16 : decode cL_most 16 = .ok (.goto 49, 3) := by decide +kernel
theorem dL_most_19 : decode cL_most 19 = .ok (.iload_n 0, 1) := by decide +kernel
theorem dL_most_20 : decode cL_most 20 = .ok (.iconst 2, 1) := by decide +kernel
theorem dL_most_21 : decode cL_most 21 = .ok (.if_icmp .ne 9, 3) := by decide +kernel
theorem dL_most_24 : decode cL_most 24 = .ok (.sipush 400, 3) := by decide +kernel
theorem dL_most_27 : decode cL_most 27 = .ok (.goto 38, 3) := by decide +kernel
theorem dL_most_30 : decode cL_most 30 = .ok (.iload_n 0, 1) := by decide +kernel
theorem dL_most_31 : decode cL_most 31 = .ok (.iconst 5, 1) := by decide +kernel
theorem dL_most_32 : decode cL_most 32 = .ok (.if_icmp .ne 8, 3) := by decide +kernel
theorem dL_most_35 : decode cL_most 35 = .ok (.bipush 100, 2) := by decide +kernel
theorem dL_most_37 : decode cL_most 37 = .ok (.goto 28, 3) := by decide +kernel
theorem dL_most_40 : decode cL_most 40 = .ok (.iload_n 0, 1) := by decide +kernel
theorem dL_most_41 : decode cL_most 41 = .ok (.bipush 6, 2) := by decide +kernel
theorem dL_most_43 : decode cL_most 43 = .ok (.if_icmp .ne 8, 3) := by decide +kernel
theorem dL_most_46 : decode cL_most 46 = .ok (.bipush 8, 2) := by decide +kernel
theorem dL_most_48 : decode cL_most 48 = .ok (.goto 17, 3) := by decide +kernel
theorem dL_most_51 : decode cL_most 51 = .ok (.iload_n 0, 1) := by decide +kernel
theorem dL_most_52 : decode cL_most 52 = .ok (.bipush 7, 2) := by decide +kernel
theorem dL_most_54 : decode cL_most 54 = .ok (.if_icmp .ne 8, 3) := by decide +kernel
theorem dL_most_57 : decode cL_most 57 = .ok (.bipush 9, 2) := by decide +kernel
theorem dL_most_59 : decode cL_most 59 = .ok (.goto 6, 3) := by decide +kernel
theorem dL_most_62 : decode cL_most 62 = .ok (.sipush 1000, 3) := by decide +kernel
theorem dL_most_65 : decode cL_most 65 = .ok (.ireturn, 1) := by decide +kernel
theorem dL_least_0 : decode cL_least 0 = .ok (.iload_n 0, 1) := by decide +kernel
theorem dL_least_1 : decode cL_least 1 = .ok (.iconst 2, 1) := by decide +kernel
theorem dL_least_2 : decode cL_least 2 = .ok (.if_icmp .ne 8, 3) := by decide +kernel
theorem dL_least_5 : decode cL_least 5 = .ok (.bipush 10, 2) := by decide +kernel
theorem dL_least_7 : decode cL_least 7 = .ok (.goto 24, 3) := by decide +kernel
theorem dL_least_10 : decode cL_least 10 = .ok (.iload_n 0, 1) := by decide +kernel
theorem dL_least_11 : decode cL_least 11 = .ok (.iconst 1, 1) := by decide +kernel
theorem dL_least_12 : decode cL_least 12 = .ok (.if_icmp .eq 14, 3) := by decide +kernel
theorem dL_least_15 : decode cL_least 15 = .ok (.iload_n 0, 1) := by decide +kernel
theorem dL_least_16 : decode cL_least 16 = .ok (.iconst 5, 1) := by decide +kernel
theorem dL_least_17 : decode cL_least 17 = .ok (.if_icmp .eq 9, 3) := by decide +kernel
theorem dL_least_20 : decode cL_least 20 = .ok (.iload_n 0, 1) := by decide +kernel
theorem dL_least_21 : decode cL_least 21 = .ok (.bipush 6, 2) := by decide +kernel
theorem dL_least_23 : decode cL_least 23 = .ok (.if_icmp .ne 7, 3) := by decide +kernel
theorem dL_least_26 : decode cL_least 26 = .ok (.iconst 0, 1) := by decide +kernel
theorem dL_least_27 : decode cL_least 27 = .ok (.goto 4, 3) := by decide +kernel
theorem dL_least_30 : decode cL_least 30 = .ok (.iconst 1, 1) := by decide +kernel
theorem dL_least_31 : decode cL_least 31 = .ok (.ireturn, 1) := by decide +kernel
set_option maxRecDepth 20000 in
theorem ggL_sets_L_low : GoodIn wsL_sets wsL_low := goodIn_r _ [4, 5] (by decide +kernel) (by decide +kernel)
set_option maxRecDepth 20000 in
theorem gL_sets_L_low : GoodIn wsL_sets (va_wsS RL 19 yL_low wsL_low) := goodIn_app (goodIn_of _ (by decide +kernel)) ggL_sets_L_low
set_option maxRecDepth 20000 in
theorem ggL_sets_L_least : GoodIn wsL_sets wsL_least := goodIn_r _ [8] (by decide +kernel) (by decide +kernel)
set_option maxRecDepth 20000 in
theorem gL_sets_L_least : GoodIn wsL_sets (va_wsS RL 45 yL_least wsL_least) := goodIn_app (goodIn_of _ (by decide +kernel)) ggL_sets_L_least
set_option maxRecDepth 20000 in
theorem ggL_sets_L_most : GoodIn wsL_sets wsL_most := goodIn_r _ [11] (by decide +kernel) (by decide +kernel)
set_option maxRecDepth 20000 in
theorem gL_sets_L_most : GoodIn wsL_sets (va_wsS RL 48 yL_most wsL_most) := goodIn_app (goodIn_of _ (by decide +kernel)) ggL_sets_L_most
set_option maxRecDepth 20000 in
theorem ggL_sets_X8_set : GoodIn wsL_sets wsX8_set := goodIn_r _ [16, 17, 18, 19, 20, 21, 22, 23, 24, 15, 25, 26, 27, 28, 29, 30, 31, 32, 33, 34, 35, 36, 37, 38, 39, 40, 41, 42, 43, 44, 45, 46, 47, 48, 49, 50, 51, 52, 53, 54, 55, 56, 57, 58, 59, 60, 61, 62, 63, 64, 65, 66, 67] (by decide +kernel) (by decide +kernel)
set_option maxRecDepth 20000 in
theorem gL_sets_X8_set : GoodIn wsL_sets (wsV RL 51 RX8 yX8_set wsX8_set) := goodIn_app (goodIn_of _ (by decide +kernel)) ggL_sets_X8_set
theorem dL_sets_0 : decode cL_sets 0 = .ok (.iload_n 2, 1) := by decide +kernel
theorem dL_sets_1 : decode cL_sets 1 = .ok (.bipush 8, 2) := by decide +kernel
theorem dL_sets_3 : decode cL_sets 3 = .ok (.invokestatic 19, 3) := by decide +kernel
theorem dL_sets_6 : decode cL_sets 6 = .ok (.istore_n 3, 1) := by decide +kernel
theorem dL_sets_7 : decode cL_sets 7 = .ok (.iload_n 3, 1) := by decide +kernel
theorem dL_sets_8 : decode cL_sets 8 = .ok (.invokestatic 45, 3) := by decide +kernel
theorem dL_sets_11 : decode cL_sets 11 = .ok (.iload_n 2, 1) := by decide +kernel
theorem dL_sets_12 : decode cL_sets 12 = .ok (.iconst 3, 1) := by decide +kernel
theorem dL_sets_13 : decode cL_sets 13 = .ok (.ishr, 1) := by decide +kernel
theorem dL_sets_14 : decode cL_sets 14 = .ok (.iload_n 3, 1) := by decide +kernel
theorem dL_sets_15 : decode cL_sets 15 = .ok (.invokestatic 48, 3) := by decide +kernel
theorem dL_sets_18 : decode cL_sets 18 = .ok (.iload_n 3, 1) := by decide +kernel
theorem dL_sets_19 : decode cL_sets 19 = .ok (.invokestatic 45, 3) := by decide +kernel
theorem dL_sets_22 : decode cL_sets 22 = .ok (.isub, 1) := by decide +kernel
theorem dL_sets_23 : decode cL_sets 23 = .ok (.iconst 1, 1) := by decide +kernel
theorem dL_sets_24 : decode cL_sets 24 = .ok (.iadd, 1) := by decide +kernel
theorem dL_sets_25 : decode cL_sets 25 = .ok (.invokestatic 19, 3) := by decide +kernel
theorem dL_sets_28 : decode cL_sets 28 = .ok (.iadd, 1) := by decide +kernel
theorem dL_sets_29 : decode cL_sets 29 = .ok (.istore 4, 2) := by decide +kernel
theorem dL_sets_31 : decode cL_sets 31 = .ok (.iload_n 3, 1) := by decide +kernel
theorem dL_sets_32 : decode cL_sets 32 = .ok (.iconst 2, 1) := by decide +kernel
theorem dL_sets_33 : decode cL_sets 33 = .ok (.if_icmp .ne 15, 3) := by decide +kernel
theorem dL_sets_36 : decode cL_sets 36 = .ok (.iload 4, 2) := by decide +kernel
theorem dL_sets_38 : decode cL_sets 38 = .ok (.bipush 80, 2) := by decide +kernel
theorem dL_sets_40 : decode cL_sets 40 = .ok (.if_icmp .ge 8, 3) := by decide +kernel
theorem dL_sets_43 : decode cL_sets 43 = .ok (.bipush 80, 2) := by decide +kernel
theorem dL_sets_45 : decode cL_sets 45 = .ok (.goto 23, 3) := by decide +kernel
theorem dL_sets_48 : decode cL_sets 48 = .ok (.iload_n 3, 1) := by decide +kernel
theorem dL_sets_49 : decode cL_sets 49 = .ok (.bipush 6, 2) := by decide +kernel
theorem dL_sets_51 : decode cL_sets 51 = .ok (.if_icmp .ne 15, 3) := by decide +kernel
theorem dL_sets_54 : decode cL_sets 54 = .ok (.iconst 4, 1) := by decide +kernel
theorem dL_sets_55 : decode cL_sets 55 = .ok (.iload_n 2, 1) := by decide +kernel
theorem dL_sets_56 : decode cL_sets 56 = .ok (.iconst 3, 1) := by decide +kernel
theorem dL_sets_57 : decode cL_sets 57 = .ok (.ishr, 1) := by decide +kernel
theorem dL_sets_58 : decode cL_sets 58 = .ok (.iconst 3, 1) := by decide +kernel
theorem dL_sets_59 : decode cL_sets 59 = .ok (.invokestatic 19, 3) := by decide +kernel
theorem dL_sets_62 : decode cL_sets 62 = .ok (.imul, 1) := by decide +kernel
theorem dL_sets_63 : decode cL_sets 63 = .ok (.goto 5, 3) := by decide +kernel
theorem dL_sets_66 : decode cL_sets 66 = .ok (.iload 4, 2) := by decide +kernel
theorem dL_sets_68 : decode cL_sets 68 = .ok (.istore 4, 2) := by decide +kernel
theorem dL_sets_70 : decode cL_sets 70 = .ok (.aload_n 1, 1) := by decide +kernel
theorem dL_sets_71 : decode cL_sets 71 = .ok (.iload_n 3, 1) := by decide +kernel
theorem dL_sets_72 : decode cL_sets 72 = .ok (.iaload, 1) := by decide +kernel
theorem dL_sets_73 : decode cL_sets 73 = .ok (.istore 5, 2) := by decide +kernel
theorem dL_sets_75 : decode cL_sets 75 = .ok (.aload_n 1, 1) := by decide +kernel
theorem dL_sets_76 : decode cL_sets 76 = .ok (.iload_n 3, 1) := by decide +kernel
theorem dL_sets_77 : decode cL_sets 77 = .ok (.iload 4, 2) := by decide +kernel
theorem dL_sets_79 : decode cL_sets 79 = .ok (.iastore, 1) := by decide +kernel
theorem dL_sets_80 : decode cL_sets 80 = .ok (.aload_n 0, 1) := by decide +kernel
theorem dL_sets_81 : decode cL_sets 81 = .ok (.iload_n 3, 1) := by decide +kernel
theorem dL_sets_82 : decode cL_sets 82 = .ok (.iload 4, 2) := by decide +kernel
theorem dL_sets_84 : decode cL_sets 84 = .ok (.invokevirtual 51, 3) := by decide +kernel
theorem dL_sets_87 : decode cL_sets 87 = .ok (.iload 5, 2) := by decide +kernel
theorem dL_sets_89 : decode cL_sets 89 = .ok (.if_icmp .ne 51, 3) := by decide +kernel
theorem dL_sets_92 : decode cL_sets 92 = .ok (.aload_n 0, 1) := by decide +kernel
theorem dL_sets_93 : decode cL_sets 93 = .ok (.iload_n 3, 1) := by decide +kernel
theorem dL_sets_94 : decode cL_sets 94 = .ok (.iload_n 3, 1) := by decide +kernel
theorem dL_sets_95 : decode cL_sets 95 = .ok (.invokestatic 48, 3) := by decide +kernel
theorem dL_sets_98 : decode cL_sets 98 = .ok (.iconst 1, 1) := by decide +kernel
theorem dL_sets_99 : decode cL_sets 99 = .ok (.iadd, 1) := by decide +kernel
theorem dL_sets_100 : decode cL_sets 100 = .ok (.invokevirtual 51, 3) := by decide +kernel
theorem dL_sets_103 : decode cL_sets 103 = .ok (.bipush (-2), 2) := by decide +kernel
theorem dL_sets_105 : decode cL_sets 105 = .ok (.if_icmp .ne 35, 3) := by decide +kernel
theorem dL_sets_108 : decode cL_sets 108 = .ok (.aload_n 0, 1) := by decide +kernel
theorem dL_sets_109 : decode cL_sets 109 = .ok (.iload_n 3, 1) := by decide +kernel
theorem dL_sets_110 : decode cL_sets 110 = .ok (.iload_n 3, 1) := by decide +kernel
theorem dL_sets_111 : decode cL_sets 111 = .ok (.invokestatic 45, 3) := by decide +kernel
theorem dL_sets_114 : decode cL_sets 114 = .ok (.iconst 1, 1) := by decide +kernel
theorem dL_sets_115 : decode cL_sets 115 = .ok (.isub, 1) := by decide +kernel
theorem dL_sets_116 : decode cL_sets 116 = .ok (.invokevirtual 51, 3) := by decide +kernel
theorem dL_sets_119 : decode cL_sets 119 = .ok (.bipush (-2), 2) := by decide +kernel
theorem dL_sets_121 : decode cL_sets 121 = .ok (.if_icmp .ne 19, 3) := by decide +kernel
theorem dL_sets_124 : decode cL_sets 124 = .ok (.aload_n 0, 1) := by decide +kernel
theorem dL_sets_125 : decode cL_sets 125 = .ok (.bipush 8, 2) := by decide +kernel
theorem dL_sets_127 : decode cL_sets 127 = .ok (.iconst 1, 1) := by decide +kernel
theorem dL_sets_128 : decode cL_sets 128 = .ok (.invokevirtual 51, 3) := by decide +kernel
theorem dL_sets_131 : decode cL_sets 131 = .ok (.bipush (-2), 2) := by decide +kernel
theorem dL_sets_133 : decode cL_sets 133 = .ok (.if_icmp .ne 7, 3) := by decide +kernel
theorem dL_sets_136 : decode cL_sets 136 = .ok (.iconst 1, 1) := by decide +kernel
theorem dL_sets_137 : decode cL_sets 137 = .ok (.goto 4, 3) := by decide +kernel
theorem dL_sets_140 : decode cL_sets 140 = .ok (.iconst 0, 1) := by decide +kernel
theorem dL_sets_141 : decode cL_sets 141 = .ok (.ireturn, 1) := by decide +kernel
set_option maxRecDepth 20000 in
theorem ggL_setsPitch_L_bits : GoodIn wsL_setsPitch wsL_bits := goodIn_r _ [4, 5] (by decide +kernel) (by decide +kernel)
set_option maxRecDepth 20000 in
theorem gL_setsPitch_L_bits : GoodIn wsL_setsPitch (va_wsS RL 54 yL_bits wsL_bits) := goodIn_app (goodIn_of _ (by decide +kernel)) ggL_setsPitch_L_bits
set_option maxRecDepth 20000 in
theorem ggL_setsPitch_X8_setPitch : GoodIn wsL_setsPitch wsX8_setPitch := goodIn_r _ [10, 11, 12, 13, 14, 15, 9, 16, 17, 18, 19, 20, 21, 22, 23, 24, 25, 26, 27, 28, 29, 30, 31, 32, 33, 34, 35, 36, 37, 38, 39, 40, 41, 42] (by decide +kernel) (by decide +kernel)
set_option maxRecDepth 20000 in
theorem gL_setsPitch_X8_setPitch : GoodIn wsL_setsPitch (wsV RL 57 RX8 yX8_setPitch wsX8_setPitch) := goodIn_app (goodIn_of _ (by decide +kernel)) ggL_setsPitch_X8_setPitch
theorem dL_setsPitch_0 : decode cL_setsPitch 0 = .ok (.aload_n 1, 1) := by decide +kernel
theorem dL_setsPitch_1 : decode cL_setsPitch 1 = .ok (.bipush 46, 2) := by decide +kernel
theorem dL_setsPitch_3 : decode cL_setsPitch 3 = .ok (.iaload, 1) := by decide +kernel
theorem dL_setsPitch_4 : decode cL_setsPitch 4 = .ok (.invokestatic 54, 3) := by decide +kernel
theorem dL_setsPitch_7 : decode cL_setsPitch 7 = .ok (.istore_n 3, 1) := by decide +kernel
theorem dL_setsPitch_8 : decode cL_setsPitch 8 = .ok (.aload_n 1, 1) := by decide +kernel
theorem dL_setsPitch_9 : decode cL_setsPitch 9 = .ok (.bipush 46, 2) := by decide +kernel
theorem dL_setsPitch_11 : decode cL_setsPitch 11 = .ok (.sipush 16384, 3) := by decide +kernel
theorem dL_setsPitch_14 : decode cL_setsPitch 14 = .ok (.iload_n 2, 1) := by decide +kernel
theorem dL_setsPitch_15 : decode cL_setsPitch 15 = .ok (.imul, 1) := by decide +kernel
theorem dL_setsPitch_16 : decode cL_setsPitch 16 = .ok (.iastore, 1) := by decide +kernel
theorem dL_setsPitch_17 : decode cL_setsPitch 17 = .ok (.aload_n 1, 1) := by decide +kernel
theorem dL_setsPitch_18 : decode cL_setsPitch 18 = .ok (.bipush 47, 2) := by decide +kernel
theorem dL_setsPitch_20 : decode cL_setsPitch 20 = .ok (.iconst 1, 1) := by decide +kernel
theorem dL_setsPitch_21 : decode cL_setsPitch 21 = .ok (.iastore, 1) := by decide +kernel
theorem dL_setsPitch_22 : decode cL_setsPitch 22 = .ok (.aload_n 0, 1) := by decide +kernel
theorem dL_setsPitch_23 : decode cL_setsPitch 23 = .ok (.iconst 5, 1) := by decide +kernel
theorem dL_setsPitch_24 : decode cL_setsPitch 24 = .ok (.iload_n 2, 1) := by decide +kernel
theorem dL_setsPitch_25 : decode cL_setsPitch 25 = .ok (.imul, 1) := by decide +kernel
theorem dL_setsPitch_26 : decode cL_setsPitch 26 = .ok (.invokevirtual 57, 3) := by decide +kernel
theorem dL_setsPitch_29 : decode cL_setsPitch 29 = .ok (.iload_n 3, 1) := by decide +kernel
theorem dL_setsPitch_30 : decode cL_setsPitch 30 = .ok (.if_icmp .ne 30, 3) := by decide +kernel
theorem dL_setsPitch_33 : decode cL_setsPitch 33 = .ok (.aload_n 0, 1) := by decide +kernel
theorem dL_setsPitch_34 : decode cL_setsPitch 34 = .ok (.bipush 9, 2) := by decide +kernel
theorem dL_setsPitch_36 : decode cL_setsPitch 36 = .ok (.invokevirtual 57, 3) := by decide +kernel
theorem dL_setsPitch_39 : decode cL_setsPitch 39 = .ok (.bipush (-2), 2) := by decide +kernel
theorem dL_setsPitch_41 : decode cL_setsPitch 41 = .ok (.if_icmp .ne 19, 3) := by decide +kernel
theorem dL_setsPitch_44 : decode cL_setsPitch 44 = .ok (.aload_n 0, 1) := by decide +kernel
theorem dL_setsPitch_45 : decode cL_setsPitch 45 = .ok (.sipush 2001, 3) := by decide +kernel
theorem dL_setsPitch_48 : decode cL_setsPitch 48 = .ok (.invokevirtual 57, 3) := by decide +kernel
theorem dL_setsPitch_51 : decode cL_setsPitch 51 = .ok (.bipush (-2), 2) := by decide +kernel
theorem dL_setsPitch_53 : decode cL_setsPitch 53 = .ok (.if_icmp .ne 7, 3) := by decide +kernel
theorem dL_setsPitch_56 : decode cL_setsPitch 56 = .ok (.iconst 1, 1) := by decide +kernel
theorem dL_setsPitch_57 : decode cL_setsPitch 57 = .ok (.goto 4, 3) := by decide +kernel
theorem dL_setsPitch_60 : decode cL_setsPitch 60 = .ok (.iconst 0, 1) := by decide +kernel
theorem dL_setsPitch_61 : decode cL_setsPitch 61 = .ok (.ireturn, 1) := by decide +kernel
set_option maxRecDepth 20000 in
theorem ggL_setsRing_L_leaves : GoodIn wsL_setsRing wsL_leaves := goodIn_r _ [4] (by decide +kernel) (by decide +kernel)
set_option maxRecDepth 20000 in
theorem gL_setsRing_L_leaves : GoodIn wsL_setsRing (va_wsS RL 42 yL_leaves wsL_leaves) := goodIn_app (goodIn_of _ (by decide +kernel)) ggL_setsRing_L_leaves
set_option maxRecDepth 20000 in
theorem ggL_setsRing_X8_setRing : GoodIn wsL_setsRing wsX8_setRing := goodIn_r _ [9, 10, 11, 12, 8, 13, 14, 15, 16, 17, 18, 19, 20, 21, 22, 23, 24, 25, 26, 27, 28, 29, 30, 31, 32, 33, 34, 35, 36, 37, 38, 39, 40, 41, 42, 43, 44, 45, 46, 47, 48, 49, 50, 51, 52, 53, 54, 55, 56, 57, 58, 59, 60, 61, 62, 63, 64, 65, 66] (by decide +kernel) (by decide +kernel)
set_option maxRecDepth 20000 in
theorem gL_setsRing_X8_setRing : GoodIn wsL_setsRing (wsV RL 60 RX8 yX8_setRing wsX8_setRing) := goodIn_app (goodIn_of _ (by decide +kernel)) ggL_setsRing_X8_setRing
theorem dL_setsRing_0 : decode cL_setsRing 0 = .ok (.iconst 0, 1) := by decide +kernel
theorem dL_setsRing_1 : decode cL_setsRing 1 = .ok (.istore_n 3, 1) := by decide +kernel
theorem dL_setsRing_2 : decode cL_setsRing 2 = .ok (.iconst 0, 1) := by decide +kernel
theorem dL_setsRing_3 : decode cL_setsRing 3 = .ok (.istore 4, 2) := by decide +kernel
theorem dL_setsRing_5 : decode cL_setsRing 5 = .ok (.iload 4, 2) := by decide +kernel
theorem dL_setsRing_7 : decode cL_setsRing 7 = .ok (.bipush 10, 2) := by decide +kernel
theorem dL_setsRing_9 : decode cL_setsRing 9 = .ok (.if_icmp .ge 47, 3) := by decide +kernel
theorem dL_setsRing_12 : decode cL_setsRing 12 = .ok (.iload_n 3, 1) := by decide +kernel
theorem dL_setsRing_13 : decode cL_setsRing 13 = .ok (.aload_n 1, 1) := by decide +kernel
theorem dL_setsRing_14 : decode cL_setsRing 14 = .ok (.bipush 10, 2) := by decide +kernel
theorem dL_setsRing_16 : decode cL_setsRing 16 = .ok (.iload 4, 2) := by decide +kernel
theorem dL_setsRing_18 : decode cL_setsRing 18 = .ok (.iadd, 1) := by decide +kernel
theorem dL_setsRing_19 : decode cL_setsRing 19 = .ok (.iaload, 1) := by decide +kernel
theorem dL_setsRing_20 : decode cL_setsRing 20 = .ok (.iconst (-1), 1) := by decide +kernel
theorem dL_setsRing_21 : decode cL_setsRing 21 = .ok (.if_icmp .ne 7, 3) := by decide +kernel
theorem dL_setsRing_24 : decode cL_setsRing 24 = .ok (.iconst 0, 1) := by decide +kernel
theorem dL_setsRing_25 : decode cL_setsRing 25 = .ok (.goto 4, 3) := by decide +kernel
theorem dL_setsRing_28 : decode cL_setsRing 28 = .ok (.iconst 1, 1) := by decide +kernel
theorem dL_setsRing_29 : decode cL_setsRing 29 = .ok (.iadd, 1) := by decide +kernel
theorem dL_setsRing_30 : decode cL_setsRing 30 = .ok (.istore_n 3, 1) := by decide +kernel
theorem dL_setsRing_31 : decode cL_setsRing 31 = .ok (.aload_n 1, 1) := by decide +kernel
theorem dL_setsRing_32 : decode cL_setsRing 32 = .ok (.aload_n 1, 1) := by decide +kernel
theorem dL_setsRing_33 : decode cL_setsRing 33 = .ok (.bipush 10, 2) := by decide +kernel
theorem dL_setsRing_35 : decode cL_setsRing 35 = .ok (.iload 4, 2) := by decide +kernel
theorem dL_setsRing_37 : decode cL_setsRing 37 = .ok (.iadd, 1) := by decide +kernel
theorem dL_setsRing_38 : decode cL_setsRing 38 = .ok (.iaload, 1) := by decide +kernel
theorem dL_setsRing_39 : decode cL_setsRing 39 = .ok (.invokestatic 42, 3) := by decide +kernel
theorem dL_setsRing_42 : decode cL_setsRing 42 = .ok (.aload_n 1, 1) := by decide +kernel
theorem dL_setsRing_43 : decode cL_setsRing 43 = .ok (.bipush 10, 2) := by decide +kernel
theorem dL_setsRing_45 : decode cL_setsRing 45 = .ok (.iload 4, 2) := by decide +kernel
theorem dL_setsRing_47 : decode cL_setsRing 47 = .ok (.iadd, 1) := by decide +kernel
theorem dL_setsRing_48 : decode cL_setsRing 48 = .ok (.iconst (-1), 1) := by decide +kernel
theorem dL_setsRing_49 : decode cL_setsRing 49 = .ok (.iastore, 1) := by decide +kernel
theorem dL_setsRing_50 : decode cL_setsRing 50 = .ok (.iinc 4 1, 3) := by decide +kernel
theorem dL_setsRing_53 : decode cL_setsRing 53 = .ok (.goto (-48), 3) := by decide +kernel
theorem dL_setsRing_56 : decode cL_setsRing 56 = .ok (.aload_n 1, 1) := by decide +kernel
theorem dL_setsRing_57 : decode cL_setsRing 57 = .ok (.bipush 9, 2) := by decide +kernel
theorem dL_setsRing_59 : decode cL_setsRing 59 = .ok (.iload_n 2, 1) := by decide +kernel
theorem dL_setsRing_60 : decode cL_setsRing 60 = .ok (.iastore, 1) := by decide +kernel
theorem dL_setsRing_61 : decode cL_setsRing 61 = .ok (.aload_n 0, 1) := by decide +kernel
theorem dL_setsRing_62 : decode cL_setsRing 62 = .ok (.iload_n 2, 1) := by decide +kernel
theorem dL_setsRing_63 : decode cL_setsRing 63 = .ok (.invokevirtual 60, 3) := by decide +kernel
theorem dL_setsRing_66 : decode cL_setsRing 66 = .ok (.iload_n 3, 1) := by decide +kernel
theorem dL_setsRing_67 : decode cL_setsRing 67 = .ok (.if_icmp .ne 28, 3) := by decide +kernel
theorem dL_setsRing_70 : decode cL_setsRing 70 = .ok (.aload_n 0, 1) := by decide +kernel
theorem dL_setsRing_71 : decode cL_setsRing 71 = .ok (.iconst 0, 1) := by decide +kernel
theorem dL_setsRing_72 : decode cL_setsRing 72 = .ok (.invokevirtual 60, 3) := by decide +kernel
theorem dL_setsRing_75 : decode cL_setsRing 75 = .ok (.bipush (-2), 2) := by decide +kernel
theorem dL_setsRing_77 : decode cL_setsRing 77 = .ok (.if_icmp .ne 18, 3) := by decide +kernel
theorem dL_setsRing_80 : decode cL_setsRing 80 = .ok (.aload_n 0, 1) := by decide +kernel
theorem dL_setsRing_81 : decode cL_setsRing 81 = .ok (.bipush 11, 2) := by decide +kernel
theorem dL_setsRing_83 : decode cL_setsRing 83 = .ok (.invokevirtual 60, 3) := by decide +kernel
theorem dL_setsRing_86 : decode cL_setsRing 86 = .ok (.bipush (-2), 2) := by decide +kernel
theorem dL_setsRing_88 : decode cL_setsRing 88 = .ok (.if_icmp .ne 7, 3) := by decide +kernel
theorem dL_setsRing_91 : decode cL_setsRing 91 = .ok (.iconst 1, 1) := by decide +kernel
theorem dL_setsRing_92 : decode cL_setsRing 92 = .ok (.goto 4, 3) := by decide +kernel
theorem dL_setsRing_95 : decode cL_setsRing 95 = .ok (.iconst 0, 1) := by decide +kernel
theorem dL_setsRing_96 : decode cL_setsRing 96 = .ok (.ireturn, 1) := by decide +kernel
set_option maxRecDepth 20000 in
theorem ggL_isRun_X8_run : GoodIn wsL_isRun wsX8_run := goodIn_r _ [5, 6, 7, 8, 9, 4, 10, 11, 12, 13, 14, 15, 16, 17, 18, 19, 20, 21, 22, 23, 24, 25, 26, 27, 28, 29, 30, 31, 32, 33, 34, 35, 36, 37, 38, 39, 40, 41, 42, 43, 44, 45, 46, 47, 48, 49, 50, 51, 52, 53, 54, 55, 56, 57, 58, 59, 60, 61, 62, 63, 64, 65, 66, 67, 68, 69, 70, 71, 72, 73, 74, 75, 76, 77, 78, 79, 80, 81, 82, 83, 84, 85, 86, 87, 88, 89, 90, 91, 92, 93, 94, 95, 96, 97, 98, 99, 100, 101, 102, 103, 104, 105, 106, 107, 108, 109, 110, 111, 112, 113, 114, 115, 116, 117, 118, 119, 120, 121, 122, 123, 124, 125, 126, 127, 128, 129, 130, 131, 132, 133, 134, 135, 136, 148, 149, 150, 151, 152, 153, 154, 155, 156, 157, 158, 159, 160, 161, 162, 163, 164, 165, 166, 167, 168, 169, 170, 171, 172, 173, 174, 175, 176, 177, 178, 179, 180, 181, 182, 183, 184] (by decide +kernel) (by decide +kernel)
set_option maxRecDepth 20000 in
theorem gL_isRun_X8_run : GoodIn wsL_isRun (wsV RL 63 RX8 yX8_run wsX8_run) := goodIn_app (goodIn_of _ (by decide +kernel)) ggL_isRun_X8_run
set_option maxRecDepth 100000 in
theorem ggL_isRun_L_cycles : GoodIn wsL_isRun wsL_cycles := (show GoodIn wsL_isRun (([Cond.code yL_cycles cL_cycles 13 none] : List Cond) ++ (([Cond.constant RL 41 (32768), Cond.methodLink RL 37 yL_follows, Cond.static yL_follows, Cond.initialized RL, Cond.code yL_follows cL_follows 7 none, Cond.methodLink RL 42 yL_leaves, Cond.static yL_leaves, Cond.code yL_leaves cL_leaves 2 none] : List Cond))) from (goodIn_app (goodIn_1 140 rfl (by decide +kernel)) (goodIn_r _ [141, 142, 143, 139, 144, 145, 146, 147] (by decide +kernel) (by decide +kernel))))
set_option maxRecDepth 20000 in
theorem gL_isRun_L_cycles : GoodIn wsL_isRun (va_wsS RL 66 yL_cycles wsL_cycles) := goodIn_app (goodIn_of _ (by decide +kernel)) ggL_isRun_L_cycles
theorem dL_isRun_0 : decode cL_isRun 0 = .ok (.aload_n 1, 1) := by decide +kernel
theorem dL_isRun_1 : decode cL_isRun 1 = .ok (.bipush 28, 2) := by decide +kernel
theorem dL_isRun_3 : decode cL_isRun 3 = .ok (.iaload, 1) := by decide +kernel
theorem dL_isRun_4 : decode cL_isRun 4 = .ok (.iconst 1, 1) := by decide +kernel
theorem dL_isRun_5 : decode cL_isRun 5 = .ok (.if_icmp .ne 21, 3) := by decide +kernel
theorem dL_isRun_8 : decode cL_isRun 8 = .ok (.aload_n 0, 1) := by decide +kernel
theorem dL_isRun_9 : decode cL_isRun 9 = .ok (.iload_n 3, 1) := by decide +kernel
theorem dL_isRun_10 : decode cL_isRun 10 = .ok (.iload 4, 2) := by decide +kernel
theorem dL_isRun_12 : decode cL_isRun 12 = .ok (.invokevirtual 63, 3) := by decide +kernel
theorem dL_isRun_15 : decode cL_isRun 15 = .ok (.bipush (-3), 2) := by decide +kernel
theorem dL_isRun_17 : decode cL_isRun 17 = .ok (.if_icmp .ne 7, 3) := by decide +kernel
theorem dL_isRun_20 : decode cL_isRun 20 = .ok (.iconst 1, 1) := by decide +kernel
theorem dL_isRun_21 : decode cL_isRun 21 = .ok (.goto 4, 3) := by decide +kernel
theorem dL_isRun_24 : decode cL_isRun 24 = .ok (.iconst 0, 1) := by decide +kernel
theorem dL_isRun_25 : decode cL_isRun 25 = .ok (.ireturn, 1) := by decide +kernel
theorem dL_isRun_26 : decode cL_isRun 26 = .ok (.iconst 0, 1) := by decide +kernel
theorem dL_isRun_27 : decode cL_isRun 27 = .ok (.istore 5, 2) := by decide +kernel
theorem dL_isRun_29 : decode cL_isRun 29 = .ok (.iload 5, 2) := by decide +kernel
theorem dL_isRun_31 : decode cL_isRun 31 = .ok (.iload_n 3, 1) := by decide +kernel
theorem dL_isRun_32 : decode cL_isRun 32 = .ok (.if_icmp .ge 23, 3) := by decide +kernel
theorem dL_isRun_35 : decode cL_isRun 35 = .ok (.aload_n 1, 1) := by decide +kernel
theorem dL_isRun_36 : decode cL_isRun 36 = .ok (.bipush 28, 2) := by decide +kernel
theorem dL_isRun_38 : decode cL_isRun 38 = .ok (.iaload, 1) := by decide +kernel
theorem dL_isRun_39 : decode cL_isRun 39 = .ok (.ifCond .ne 16, 3) := by decide +kernel
theorem dL_isRun_42 : decode cL_isRun 42 = .ok (.aload_n 1, 1) := by decide +kernel
theorem dL_isRun_43 : decode cL_isRun 43 = .ok (.aload_n 2, 1) := by decide +kernel
theorem dL_isRun_44 : decode cL_isRun 44 = .ok (.iload 4, 2) := by decide +kernel
theorem dL_isRun_46 : decode cL_isRun 46 = .ok (.invokestatic 66, 3) := by decide +kernel
theorem dL_isRun_49 : decode cL_isRun 49 = .ok (.iinc 5 1, 3) := by decide +kernel
theorem dL_isRun_52 : decode cL_isRun 52 = .ok (.goto (-23), 3) := by decide +kernel
theorem dL_isRun_55 : decode cL_isRun 55 = .ok (.aload_n 0, 1) := by decide +kernel
theorem dL_isRun_56 : decode cL_isRun 56 = .ok (.iload_n 3, 1) := by decide +kernel
theorem dL_isRun_57 : decode cL_isRun 57 = .ok (.iload 4, 2) := by decide +kernel
theorem dL_isRun_59 : decode cL_isRun 59 = .ok (.invokevirtual 63, 3) := by decide +kernel
theorem dL_isRun_62 : decode cL_isRun 62 = .ok (.iload 5, 2) := by decide +kernel
theorem dL_isRun_64 : decode cL_isRun 64 = .ok (.if_icmp .ne 32, 3) := by decide +kernel
theorem dL_isRun_67 : decode cL_isRun 67 = .ok (.aload_n 0, 1) := by decide +kernel
theorem dL_isRun_68 : decode cL_isRun 68 = .ok (.iconst 0, 1) := by decide +kernel
theorem dL_isRun_69 : decode cL_isRun 69 = .ok (.iload 4, 2) := by decide +kernel
theorem dL_isRun_71 : decode cL_isRun 71 = .ok (.invokevirtual 63, 3) := by decide +kernel
theorem dL_isRun_74 : decode cL_isRun 74 = .ok (.bipush (-2), 2) := by decide +kernel
theorem dL_isRun_76 : decode cL_isRun 76 = .ok (.if_icmp .ne 20, 3) := by decide +kernel
theorem dL_isRun_79 : decode cL_isRun 79 = .ok (.aload_n 0, 1) := by decide +kernel
theorem dL_isRun_80 : decode cL_isRun 80 = .ok (.iconst 1, 1) := by decide +kernel
theorem dL_isRun_81 : decode cL_isRun 81 = .ok (.sipush 1001, 3) := by decide +kernel
theorem dL_isRun_84 : decode cL_isRun 84 = .ok (.invokevirtual 63, 3) := by decide +kernel
theorem dL_isRun_87 : decode cL_isRun 87 = .ok (.bipush (-2), 2) := by decide +kernel
theorem dL_isRun_89 : decode cL_isRun 89 = .ok (.if_icmp .ne 7, 3) := by decide +kernel
theorem dL_isRun_92 : decode cL_isRun 92 = .ok (.iconst 1, 1) := by decide +kernel
theorem dL_isRun_93 : decode cL_isRun 93 = .ok (.goto 4, 3) := by decide +kernel
theorem dL_isRun_96 : decode cL_isRun 96 = .ok (.iconst 0, 1) := by decide +kernel
theorem dL_isRun_97 : decode cL_isRun 97 = .ok (.ireturn, 1) := by decide +kernel
set_option maxRecDepth 20000 in
theorem ggL_isTold_X8_item : GoodIn wsL_isTold wsX8_item := goodIn_r _ [5, 6, 7, 8, 9, 4, 10, 11, 12, 13, 14, 15, 16, 17, 18, 19, 20, 21, 22, 23, 24, 25, 26, 27, 28, 29, 30, 31, 32, 126, 127, 128, 129, 130, 131, 132, 133, 134, 135, 136, 137, 138, 139, 140, 141, 142, 143, 144, 145, 146, 147, 148, 149, 150, 151] (by decide +kernel) (by decide +kernel)
set_option maxRecDepth 20000 in
theorem gL_isTold_X8_item : GoodIn wsL_isTold (wsV RL 70 RX8 yX8_item wsX8_item) := goodIn_app (goodIn_of _ (by decide +kernel)) ggL_isTold_X8_item
set_option maxRecDepth 20000 in
theorem ggL_isTold_X8_station : GoodIn wsL_isTold wsX8_station := goodIn_r _ [36, 6, 37, 38, 8, 9, 4, 10, 39, 40, 41, 42, 43, 44, 126, 127, 128, 129, 130, 131, 132, 133, 134, 135, 136, 137, 138, 139, 140, 141, 142, 143, 144, 145, 146, 147, 152, 153] (by decide +kernel) (by decide +kernel)
set_option maxRecDepth 20000 in
theorem gL_isTold_X8_station : GoodIn wsL_isTold (wsV RL 73 RX8 yX8_station wsX8_station) := goodIn_app (goodIn_of _ (by decide +kernel)) ggL_isTold_X8_station
set_option maxRecDepth 20000 in
theorem ggL_isTold_X8_count : GoodIn wsL_isTold wsX8_count := goodIn_r _ [48, 49, 50, 6, 8, 9, 4, 10, 51, 52, 53, 54, 55, 56, 57, 58, 59, 60, 61, 62, 63, 64, 65, 66, 67, 68, 69, 70, 71, 72, 73, 74, 75, 76, 77, 78, 79, 80, 81, 12, 13, 14, 15, 16, 17, 82, 83, 84, 85, 86, 87, 19, 20, 21, 22, 88, 29, 30, 31, 32, 24, 25, 26, 27, 89, 90, 91, 42, 92, 93, 94, 40, 41, 43, 44, 126, 127, 128, 129, 130, 131, 154, 155, 132, 133, 134, 135, 136, 137, 138, 139, 140, 141, 142, 143, 144, 145, 146, 147, 152, 153, 156, 148, 149, 150, 151] (by decide +kernel) (by decide +kernel)
set_option maxRecDepth 20000 in
theorem gL_isTold_X8_count : GoodIn wsL_isTold (wsV RL 76 RX8 yX8_count wsX8_count) := goodIn_app (goodIn_of _ (by decide +kernel)) ggL_isTold_X8_count
set_option maxRecDepth 20000 in
theorem ggL_isTold_X8_latest : GoodIn wsL_isTold wsX8_latest := goodIn_r _ [98, 6, 99, 100, 8, 9, 4, 10, 101, 102, 103, 104, 105, 106, 107, 108, 109, 110, 111, 126, 127, 128, 129, 130, 131, 132, 133, 134, 135, 136, 137, 138, 139, 140, 141, 142, 143, 144, 145, 146, 147, 157, 158, 159, 160, 161, 162, 163, 164] (by decide +kernel) (by decide +kernel)
set_option maxRecDepth 20000 in
theorem gL_isTold_X8_latest : GoodIn wsL_isTold (wsV RL 79 RX8 yX8_latest wsX8_latest) := goodIn_app (goodIn_of _ (by decide +kernel)) ggL_isTold_X8_latest
set_option maxRecDepth 20000 in
theorem ggL_isTold_X8_pitch : GoodIn wsL_isTold wsX8_pitch := goodIn_r _ [115, 6, 116, 117, 118, 4, 119, 120, 126, 127, 128, 129, 130, 131, 132, 133, 134, 135, 136, 137, 138, 139, 140, 141, 142, 143, 144, 145, 146, 147] (by decide +kernel) (by decide +kernel)
set_option maxRecDepth 20000 in
theorem gL_isTold_X8_pitch : GoodIn wsL_isTold (wsV RL 82 RX8 yX8_pitch wsX8_pitch) := goodIn_app (goodIn_of _ (by decide +kernel)) ggL_isTold_X8_pitch
set_option maxRecDepth 20000 in
theorem ggL_isTold_L_bits : GoodIn wsL_isTold wsL_bits := goodIn_r _ [124, 125] (by decide +kernel) (by decide +kernel)
set_option maxRecDepth 20000 in
theorem gL_isTold_L_bits : GoodIn wsL_isTold (va_wsS RL 54 yL_bits wsL_bits) := goodIn_app (goodIn_of _ (by decide +kernel)) ggL_isTold_L_bits
theorem dL_isTold_0 : decode cL_isTold 0 = .ok (.iconst 0, 1) := by decide +kernel
theorem dL_isTold_1 : decode cL_isTold 1 = .ok (.istore_n 3, 1) := by decide +kernel
theorem dL_isTold_2 : decode cL_isTold 2 = .ok (.iconst 0, 1) := by decide +kernel
theorem dL_isTold_3 : decode cL_isTold 3 = .ok (.istore 4, 2) := by decide +kernel
