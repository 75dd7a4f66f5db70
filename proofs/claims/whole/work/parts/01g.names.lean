theorem dX9_cycles_83 : decode cX9_cycles 83 = .ok (.fdiv, 1) := by decide +kernel
theorem dX9_cycles_84 : decode cX9_cycles 84 = .ok (.fmul, 1) := by decide +kernel
theorem dX9_cycles_85 : decode cX9_cycles 85 = .ok (.fadd, 1) := by decide +kernel
theorem dX9_cycles_86 : decode cX9_cycles 86 = .ok (.putfield 24, 3) := by decide +kernel
theorem dX9_cycles_89 : decode cX9_cycles 89 = .ok (.aload_n 0, 1) := by decide +kernel
theorem dX9_cycles_90 : decode cX9_cycles 90 = .ok (.getfield 7, 3) := by decide +kernel
theorem dX9_cycles_93 : decode cX9_cycles 93 = .ok (.sipush 184, 3) := by decide +kernel
theorem dX9_cycles_96 : decode cX9_cycles 96 = .ok (.dup2, 1) := by decide +kernel
theorem dX9_cycles_97 : decode cX9_cycles 97 = .ok (.iaload, 1) := by decide +kernel
theorem dX9_cycles_98 : decode cX9_cycles 98 = .ok (.iload_n 3, 1) := by decide +kernel
theorem dX9_cycles_99 : decode cX9_cycles 99 = .ok (.ifCond .ne 7, 3) := by decide +kernel
theorem dX9_cycles_102 : decode cX9_cycles 102 = .ok (.iconst 1, 1) := by decide +kernel
theorem dX9_cycles_103 : decode cX9_cycles 103 = .ok (.goto 4, 3) := by decide +kernel
theorem dX9_cycles_106 : decode cX9_cycles 106 = .ok (.iconst 0, 1) := by decide +kernel
theorem dX9_cycles_107 : decode cX9_cycles 107 = .ok (.iadd, 1) := by decide +kernel
theorem dX9_cycles_108 : decode cX9_cycles 108 = .ok (.iastore, 1) := by decide +kernel
theorem dX9_cycles_109 : decode cX9_cycles 109 = .ok (.aload_n 0, 1) := by decide +kernel
theorem dX9_cycles_110 : decode cX9_cycles 110 = .ok (.getfield 7, 3) := by decide +kernel
theorem dX9_cycles_113 : decode cX9_cycles 113 = .ok (.sipush 185, 3) := by decide +kernel
theorem dX9_cycles_116 : decode cX9_cycles 116 = .ok (.dup2, 1) := by decide +kernel
theorem dX9_cycles_117 : decode cX9_cycles 117 = .ok (.iaload, 1) := by decide +kernel
theorem dX9_cycles_118 : decode cX9_cycles 118 = .ok (.iload_n 3, 1) := by decide +kernel
theorem dX9_cycles_119 : decode cX9_cycles 119 = .ok (.ifCond .ne 7, 3) := by decide +kernel
theorem dX9_cycles_122 : decode cX9_cycles 122 = .ok (.iconst 0, 1) := by decide +kernel
theorem dX9_cycles_123 : decode cX9_cycles 123 = .ok (.goto 7, 3) := by decide +kernel
theorem dX9_cycles_126 : decode cX9_cycles 126 = .ok (.aload_n 0, 1) := by decide +kernel
theorem dX9_cycles_127 : decode cX9_cycles 127 = .ok (.getfield 122, 3) := by decide +kernel
theorem dX9_cycles_130 : decode cX9_cycles 130 = .ok (.iadd, 1) := by decide +kernel
theorem dX9_cycles_131 : decode cX9_cycles 131 = .ok (.iastore, 1) := by decide +kernel
theorem dX9_cycles_132 : decode cX9_cycles 132 = .ok (.aload_n 0, 1) := by decide +kernel
theorem dX9_cycles_133 : decode cX9_cycles 133 = .ok (.getfield 7, 3) := by decide +kernel
theorem dX9_cycles_136 : decode cX9_cycles 136 = .ok (.sipush 186, 3) := by decide +kernel
theorem dX9_cycles_139 : decode cX9_cycles 139 = .ok (.dup2, 1) := by decide +kernel
theorem dX9_cycles_140 : decode cX9_cycles 140 = .ok (.iaload, 1) := by decide +kernel
theorem dX9_cycles_141 : decode cX9_cycles 141 = .ok (.aload_n 0, 1) := by decide +kernel
theorem dX9_cycles_142 : decode cX9_cycles 142 = .ok (.getfield 125, 3) := by decide +kernel
theorem dX9_cycles_145 : decode cX9_cycles 145 = .ok (.ifCond .eq 7, 3) := by decide +kernel
theorem dX9_cycles_148 : decode cX9_cycles 148 = .ok (.iconst 1, 1) := by decide +kernel
theorem dX9_cycles_149 : decode cX9_cycles 149 = .ok (.goto 4, 3) := by decide +kernel
theorem dX9_cycles_152 : decode cX9_cycles 152 = .ok (.iconst 0, 1) := by decide +kernel
theorem dX9_cycles_153 : decode cX9_cycles 153 = .ok (.iadd, 1) := by decide +kernel
theorem dX9_cycles_154 : decode cX9_cycles 154 = .ok (.iastore, 1) := by decide +kernel
theorem dX9_cycles_155 : decode cX9_cycles 155 = .ok (.aload_n 0, 1) := by decide +kernel
theorem dX9_cycles_156 : decode cX9_cycles 156 = .ok (.getfield 7, 3) := by decide +kernel
theorem dX9_cycles_159 : decode cX9_cycles 159 = .ok (.sipush 187, 3) := by decide +kernel
theorem dX9_cycles_162 : decode cX9_cycles 162 = .ok (.dup2, 1) := by decide +kernel
theorem dX9_cycles_163 : decode cX9_cycles 163 = .ok (.iaload, 1) := by decide +kernel
theorem dX9_cycles_164 : decode cX9_cycles 164 = .ok (.iload_n 2, 1) := by decide +kernel
theorem dX9_cycles_165 : decode cX9_cycles 165 = .ok (.ifCond .eq 7, 3) := by decide +kernel
theorem dX9_cycles_168 : decode cX9_cycles 168 = .ok (.iconst 1, 1) := by decide +kernel
theorem dX9_cycles_169 : decode cX9_cycles 169 = .ok (.goto 4, 3) := by decide +kernel
theorem dX9_cycles_172 : decode cX9_cycles 172 = .ok (.iconst 0, 1) := by decide +kernel
theorem dX9_cycles_173 : decode cX9_cycles 173 = .ok (.iadd, 1) := by decide +kernel
theorem dX9_cycles_174 : decode cX9_cycles 174 = .ok (.iastore, 1) := by decide +kernel
theorem dX9_cycles_175 : decode cX9_cycles 175 = .ok (.aload_n 0, 1) := by decide +kernel
theorem dX9_cycles_176 : decode cX9_cycles 176 = .ok (.getfield 7, 3) := by decide +kernel
theorem dX9_cycles_179 : decode cX9_cycles 179 = .ok (.sipush 190, 3) := by decide +kernel
theorem dX9_cycles_182 : decode cX9_cycles 182 = .ok (.iload_n 3, 1) := by decide +kernel
theorem dX9_cycles_183 : decode cX9_cycles 183 = .ok (.iadd, 1) := by decide +kernel
theorem dX9_cycles_184 : decode cX9_cycles 184 = .ok (.dup2, 1) := by decide +kernel
theorem dX9_cycles_185 : decode cX9_cycles 185 = .ok (.iaload, 1) := by decide +kernel
theorem dX9_cycles_186 : decode cX9_cycles 186 = .ok (.iconst 1, 1) := by decide +kernel
theorem dX9_cycles_187 : decode cX9_cycles 187 = .ok (.iadd, 1) := by decide +kernel
theorem dX9_cycles_188 : decode cX9_cycles 188 = .ok (.iastore, 1) := by decide +kernel
theorem dX9_cycles_189 : decode cX9_cycles 189 = .ok (.aload_n 0, 1) := by decide +kernel
theorem dX9_cycles_190 : decode cX9_cycles 190 = .ok (.getfield 7, 3) := by decide +kernel
theorem dX9_cycles_193 : decode cX9_cycles 193 = .ok (.sipush 181, 3) := by decide +kernel
theorem dX9_cycles_196 : decode cX9_cycles 196 = .ok (.dup2, 1) := by decide +kernel
theorem dX9_cycles_197 : decode cX9_cycles 197 = .ok (.iaload, 1) := by decide +kernel
theorem dX9_cycles_198 : decode cX9_cycles 198 = .ok (.iconst 1, 1) := by decide +kernel
theorem dX9_cycles_199 : decode cX9_cycles 199 = .ok (.iadd, 1) := by decide +kernel
theorem dX9_cycles_200 : decode cX9_cycles 200 = .ok (.iastore, 1) := by decide +kernel
theorem dX9_cycles_201 : decode cX9_cycles 201 = .ok (.aload_n 0, 1) := by decide +kernel
theorem dX9_cycles_202 : decode cX9_cycles 202 = .ok (.getfield 7, 3) := by decide +kernel
theorem dX9_cycles_205 : decode cX9_cycles 205 = .ok (.sipush 188, 3) := by decide +kernel
theorem dX9_cycles_208 : decode cX9_cycles 208 = .ok (.iload_n 3, 1) := by decide +kernel
theorem dX9_cycles_209 : decode cX9_cycles 209 = .ok (.iconst 1, 1) := by decide +kernel
theorem dX9_cycles_210 : decode cX9_cycles 210 = .ok (.if_icmp .eq 19, 3) := by decide +kernel
theorem dX9_cycles_213 : decode cX9_cycles 213 = .ok (.iload_n 3, 1) := by decide +kernel
theorem dX9_cycles_214 : decode cX9_cycles 214 = .ok (.iconst 2, 1) := by decide +kernel
theorem dX9_cycles_215 : decode cX9_cycles 215 = .ok (.if_icmp .eq 14, 3) := by decide +kernel
theorem dX9_cycles_218 : decode cX9_cycles 218 = .ok (.iload_n 3, 1) := by decide +kernel
theorem dX9_cycles_219 : decode cX9_cycles 219 = .ok (.iconst 4, 1) := by decide +kernel
theorem dX9_cycles_220 : decode cX9_cycles 220 = .ok (.if_icmp .eq 9, 3) := by decide +kernel
theorem dX9_cycles_223 : decode cX9_cycles 223 = .ok (.iload_n 3, 1) := by decide +kernel
theorem dX9_cycles_224 : decode cX9_cycles 224 = .ok (.bipush 6, 2) := by decide +kernel
theorem dX9_cycles_226 : decode cX9_cycles 226 = .ok (.if_icmp .ne 16, 3) := by decide +kernel
theorem dX9_cycles_229 : decode cX9_cycles 229 = .ok (.aload_n 0, 1) := by decide +kernel
theorem dX9_cycles_230 : decode cX9_cycles 230 = .ok (.getfield 7, 3) := by decide +kernel
theorem dX9_cycles_233 : decode cX9_cycles 233 = .ok (.sipush 188, 3) := by decide +kernel
theorem dX9_cycles_236 : decode cX9_cycles 236 = .ok (.iaload, 1) := by decide +kernel
theorem dX9_cycles_237 : decode cX9_cycles 237 = .ok (.iconst 1, 1) := by decide +kernel
theorem dX9_cycles_238 : decode cX9_cycles 238 = .ok (.iadd, 1) := by decide +kernel
theorem dX9_cycles_239 : decode cX9_cycles 239 = .ok (.goto 4, 3) := by decide +kernel
theorem dX9_cycles_242 : decode cX9_cycles 242 = .ok (.iconst 0, 1) := by decide +kernel
theorem dX9_cycles_243 : decode cX9_cycles 243 = .ok (.iastore, 1) := by decide +kernel
theorem dX9_cycles_244 : decode cX9_cycles 244 = .ok (.aload_n 0, 1) := by decide +kernel
theorem dX9_cycles_245 : decode cX9_cycles 245 = .ok (.iload_n 3, 1) := by decide +kernel
theorem dX9_cycles_246 : decode cX9_cycles 246 = .ok (.invokevirtual 143, 3) := by decide +kernel
theorem dX9_cycles_249 : decode cX9_cycles 249 = .ok (.aload_n 0, 1) := by decide +kernel
theorem dX9_cycles_250 : decode cX9_cycles 250 = .ok (.getfield 7, 3) := by decide +kernel
theorem dX9_cycles_253 : decode cX9_cycles 253 = .ok (.sipush 198, 3) := by decide +kernel
theorem dX9_cycles_256 : decode cX9_cycles 256 = .ok (.aload_n 0, 1) := by decide +kernel
theorem dX9_cycles_257 : decode cX9_cycles 257 = .ok (.getfield 116, 3) := by decide +kernel
theorem dX9_cycles_260 : decode cX9_cycles 260 = .ok (.iastore, 1) := by decide +kernel
theorem dX9_cycles_261 : decode cX9_cycles 261 = .ok (.aload_n 0, 1) := by decide +kernel
theorem dX9_cycles_262 : decode cX9_cycles 262 = .ok (.getfield 7, 3) := by decide +kernel
theorem dX9_cycles_265 : decode cX9_cycles 265 = .ok (.sipush 199, 3) := by decide +kernel
theorem dX9_cycles_268 : decode cX9_cycles 268 = .ok (.aload_n 0, 1) := by decide +kernel
theorem dX9_cycles_269 : decode cX9_cycles 269 = .ok (.getfield 122, 3) := by decide +kernel
theorem dX9_cycles_272 : decode cX9_cycles 272 = .ok (.iastore, 1) := by decide +kernel
theorem dX9_cycles_273 : decode cX9_cycles 273 = .ok (.aload_n 0, 1) := by decide +kernel
theorem dX9_cycles_274 : decode cX9_cycles 274 = .ok (.getfield 7, 3) := by decide +kernel
theorem dX9_cycles_277 : decode cX9_cycles 277 = .ok (.sipush 200, 3) := by decide +kernel
theorem dX9_cycles_280 : decode cX9_cycles 280 = .ok (.iload_n 3, 1) := by decide +kernel
theorem dX9_cycles_281 : decode cX9_cycles 281 = .ok (.iastore, 1) := by decide +kernel
theorem dX9_cycles_282 : decode cX9_cycles 282 = .ok (.aload_n 0, 1) := by decide +kernel
theorem dX9_cycles_283 : decode cX9_cycles 283 = .ok (.getfield 7, 3) := by decide +kernel
theorem dX9_cycles_286 : decode cX9_cycles 286 = .ok (.sipush 201, 3) := by decide +kernel
theorem dX9_cycles_289 : decode cX9_cycles 289 = .ok (.aload_n 0, 1) := by decide +kernel
theorem dX9_cycles_290 : decode cX9_cycles 290 = .ok (.getfield 7, 3) := by decide +kernel
theorem dX9_cycles_293 : decode cX9_cycles 293 = .ok (.sipush 169, 3) := by decide +kernel
theorem dX9_cycles_296 : decode cX9_cycles 296 = .ok (.iaload, 1) := by decide +kernel
theorem dX9_cycles_297 : decode cX9_cycles 297 = .ok (.iastore, 1) := by decide +kernel
theorem dX9_cycles_298 : decode cX9_cycles 298 = .ok (.aload_n 0, 1) := by decide +kernel
theorem dX9_cycles_299 : decode cX9_cycles 299 = .ok (.getfield 7, 3) := by decide +kernel
theorem dX9_cycles_302 : decode cX9_cycles 302 = .ok (.sipush 202, 3) := by decide +kernel
theorem dX9_cycles_305 : decode cX9_cycles 305 = .ok (.aload_n 0, 1) := by decide +kernel
theorem dX9_cycles_306 : decode cX9_cycles 306 = .ok (.getfield 119, 3) := by decide +kernel
theorem dX9_cycles_309 : decode cX9_cycles 309 = .ok (.iastore, 1) := by decide +kernel
theorem dX9_cycles_310 : decode cX9_cycles 310 = .ok (.aload_n 0, 1) := by decide +kernel
theorem dX9_cycles_311 : decode cX9_cycles 311 = .ok (.getfield 7, 3) := by decide +kernel
theorem dX9_cycles_314 : decode cX9_cycles 314 = .ok (.sipush 203, 3) := by decide +kernel
theorem dX9_cycles_317 : decode cX9_cycles 317 = .ok (.aload_n 0, 1) := by decide +kernel
theorem dX9_cycles_318 : decode cX9_cycles 318 = .ok (.getfield 129, 3) := by decide +kernel
theorem dX9_cycles_321 : decode cX9_cycles 321 = .ok (.iastore, 1) := by decide +kernel
theorem dX9_cycles_322 : decode cX9_cycles 322 = .ok (.aload_n 0, 1) := by decide +kernel
theorem dX9_cycles_323 : decode cX9_cycles 323 = .ok (.getfield 7, 3) := by decide +kernel
theorem dX9_cycles_326 : decode cX9_cycles 326 = .ok (.sipush 189, 3) := by decide +kernel
theorem dX9_cycles_329 : decode cX9_cycles 329 = .ok (.aload_n 0, 1) := by decide +kernel
theorem dX9_cycles_330 : decode cX9_cycles 330 = .ok (.getfield 7, 3) := by decide +kernel
theorem dX9_cycles_333 : decode cX9_cycles 333 = .ok (.sipush 188, 3) := by decide +kernel
theorem dX9_cycles_336 : decode cX9_cycles 336 = .ok (.iaload, 1) := by decide +kernel
theorem dX9_cycles_337 : decode cX9_cycles 337 = .ok (.aload_n 0, 1) := by decide +kernel
theorem dX9_cycles_338 : decode cX9_cycles 338 = .ok (.getfield 7, 3) := by decide +kernel
theorem dX9_cycles_341 : decode cX9_cycles 341 = .ok (.sipush 168, 3) := by decide +kernel
theorem dX9_cycles_344 : decode cX9_cycles 344 = .ok (.iaload, 1) := by decide +kernel
theorem dX9_cycles_345 : decode cX9_cycles 345 = .ok (.if_icmp .lt 7, 3) := by decide +kernel
theorem dX9_cycles_348 : decode cX9_cycles 348 = .ok (.iconst 1, 1) := by decide +kernel
theorem dX9_cycles_349 : decode cX9_cycles 349 = .ok (.goto 11, 3) := by decide +kernel
theorem dX9_cycles_352 : decode cX9_cycles 352 = .ok (.aload_n 0, 1) := by decide +kernel
theorem dX9_cycles_353 : decode cX9_cycles 353 = .ok (.getfield 7, 3) := by decide +kernel
theorem dX9_cycles_356 : decode cX9_cycles 356 = .ok (.sipush 189, 3) := by decide +kernel
theorem dX9_cycles_359 : decode cX9_cycles 359 = .ok (.iaload, 1) := by decide +kernel
theorem dX9_cycles_360 : decode cX9_cycles 360 = .ok (.iastore, 1) := by decide +kernel
theorem dX9_cycles_361 : decode cX9_cycles 361 = .ok (.return_, 1) := by decide +kernel
set_option maxRecDepth 20000 in
theorem ggX9_run_X9_in : GoodIn wsX9_run wsX9_in := goodIn_r _ [5] (by decide +kernel) (by decide +kernel)
set_option maxRecDepth 20000 in
theorem gX9_run_X9_in : GoodIn wsX9_run (va_wsS RX9 43 yX9_in wsX9_in) := goodIn_app (goodIn_of _ (by decide +kernel)) ggX9_run_X9_in
set_option maxRecDepth 20000 in
theorem ggX9_run_X9_cycles : GoodIn wsX9_run wsX9_cycles := goodIn_r _ [9, 10, 11, 12, 1, 13, 14, 15, 16, 17, 18, 19, 4, 20, 21, 22, 23, 24, 25, 26, 27, 28, 29, 30, 31, 32, 33, 34, 35, 36, 37, 38, 39, 40, 41, 42, 43, 44, 45, 46, 47, 48, 49, 50, 51, 52, 53, 54, 55, 56, 57, 58, 59, 60] (by decide +kernel) (by decide +kernel)
set_option maxRecDepth 20000 in
theorem gX9_run_X9_cycles : GoodIn wsX9_run (wsV RX9 146 RX9 yX9_cycles wsX9_cycles) := goodIn_app (goodIn_of _ (by decide +kernel)) ggX9_run_X9_cycles
theorem dX9_run_0 : decode cX9_run 0 = .ok (.iload_n 1, 1) := by decide +kernel
theorem dX9_run_1 : decode cX9_run 1 = .ok (.iconst 1, 1) := by decide +kernel
theorem dX9_run_2 : decode cX9_run 2 = .ok (.bipush 100, 2) := by decide +kernel
theorem dX9_run_4 : decode cX9_run 4 = .ok (.invokestatic 43, 3) := by decide +kernel
theorem dX9_run_7 : decode cX9_run 7 = .ok (.ifCond .eq 14, 3) := by decide +kernel
theorem dX9_run_10 : decode cX9_run 10 = .ok (.iload_n 2, 1) := by decide +kernel
theorem dX9_run_11 : decode cX9_run 11 = .ok (.iconst 0, 1) := by decide +kernel
theorem dX9_run_12 : decode cX9_run 12 = .ok (.sipush 1000, 3) := by decide +kernel
theorem dX9_run_15 : decode cX9_run 15 = .ok (.invokestatic 43, 3) := by decide +kernel
theorem dX9_run_18 : decode cX9_run 18 = .ok (.ifCond .ne 6, 3) := by decide +kernel
theorem dX9_run_21 : decode cX9_run 21 = .ok (.bipush (-2), 2) := by decide +kernel
theorem dX9_run_23 : decode cX9_run 23 = .ok (.ireturn, 1) := by decide +kernel
theorem dX9_run_24 : decode cX9_run 24 = .ok (.aload_n 0, 1) := by decide +kernel
theorem dX9_run_25 : decode cX9_run 25 = .ok (.getfield 7, 3) := by decide +kernel
theorem dX9_run_28 : decode cX9_run 28 = .ok (.sipush 189, 3) := by decide +kernel
theorem dX9_run_31 : decode cX9_run 31 = .ok (.iaload, 1) := by decide +kernel
theorem dX9_run_32 : decode cX9_run 32 = .ok (.iconst 1, 1) := by decide +kernel
theorem dX9_run_33 : decode cX9_run 33 = .ok (.if_icmp .ne 6, 3) := by decide +kernel
theorem dX9_run_36 : decode cX9_run 36 = .ok (.bipush (-3), 2) := by decide +kernel
theorem dX9_run_38 : decode cX9_run 38 = .ok (.ireturn, 1) := by decide +kernel
theorem dX9_run_39 : decode cX9_run 39 = .ok (.iconst 0, 1) := by decide +kernel
theorem dX9_run_40 : decode cX9_run 40 = .ok (.istore_n 3, 1) := by decide +kernel
theorem dX9_run_41 : decode cX9_run 41 = .ok (.iload_n 3, 1) := by decide +kernel
theorem dX9_run_42 : decode cX9_run 42 = .ok (.iload_n 1, 1) := by decide +kernel
theorem dX9_run_43 : decode cX9_run 43 = .ok (.if_icmp .ge 25, 3) := by decide +kernel
theorem dX9_run_46 : decode cX9_run 46 = .ok (.aload_n 0, 1) := by decide +kernel
theorem dX9_run_47 : decode cX9_run 47 = .ok (.getfield 7, 3) := by decide +kernel
theorem dX9_run_50 : decode cX9_run 50 = .ok (.sipush 189, 3) := by decide +kernel
theorem dX9_run_53 : decode cX9_run 53 = .ok (.iaload, 1) := by decide +kernel
theorem dX9_run_54 : decode cX9_run 54 = .ok (.ifCond .ne 14, 3) := by decide +kernel
theorem dX9_run_57 : decode cX9_run 57 = .ok (.aload_n 0, 1) := by decide +kernel
theorem dX9_run_58 : decode cX9_run 58 = .ok (.iload_n 2, 1) := by decide +kernel
theorem dX9_run_59 : decode cX9_run 59 = .ok (.invokevirtual 146, 3) := by decide +kernel
theorem dX9_run_62 : decode cX9_run 62 = .ok (.iinc 3 1, 3) := by decide +kernel
theorem dX9_run_65 : decode cX9_run 65 = .ok (.goto (-24), 3) := by decide +kernel
theorem dX9_run_68 : decode cX9_run 68 = .ok (.iload_n 3, 1) := by decide +kernel
theorem dX9_run_69 : decode cX9_run 69 = .ok (.ireturn, 1) := by decide +kernel
theorem dX9_clearFaults_0 : decode cX9_clearFaults 0 = .ok (.aload_n 0, 1) := by decide +kernel
theorem dX9_clearFaults_1 : decode cX9_clearFaults 1 = .ok (.getfield 7, 3) := by decide +kernel
theorem dX9_clearFaults_4 : decode cX9_clearFaults 4 = .ok (.sipush 188, 3) := by decide +kernel
theorem dX9_clearFaults_7 : decode cX9_clearFaults 7 = .ok (.iaload, 1) := by decide +kernel
theorem dX9_clearFaults_8 : decode cX9_clearFaults 8 = .ok (.istore_n 1, 1) := by decide +kernel
theorem dX9_clearFaults_9 : decode cX9_clearFaults 9 = .ok (.aload_n 0, 1) := by decide +kernel
theorem dX9_clearFaults_10 : decode cX9_clearFaults 10 = .ok (.getfield 7, 3) := by decide +kernel
theorem dX9_clearFaults_13 : decode cX9_clearFaults 13 = .ok (.sipush 188, 3) := by decide +kernel
theorem dX9_clearFaults_16 : decode cX9_clearFaults 16 = .ok (.iconst 0, 1) := by decide +kernel
theorem dX9_clearFaults_17 : decode cX9_clearFaults 17 = .ok (.iastore, 1) := by decide +kernel
theorem dX9_clearFaults_18 : decode cX9_clearFaults 18 = .ok (.aload_n 0, 1) := by decide +kernel
theorem dX9_clearFaults_19 : decode cX9_clearFaults 19 = .ok (.getfield 7, 3) := by decide +kernel
theorem dX9_clearFaults_22 : decode cX9_clearFaults 22 = .ok (.sipush 189, 3) := by decide +kernel
theorem dX9_clearFaults_25 : decode cX9_clearFaults 25 = .ok (.iconst 0, 1) := by decide +kernel
theorem dX9_clearFaults_26 : decode cX9_clearFaults 26 = .ok (.iastore, 1) := by decide +kernel
theorem dX9_clearFaults_27 : decode cX9_clearFaults 27 = .ok (.iload_n 1, 1) := by decide +kernel
theorem dX9_clearFaults_28 : decode cX9_clearFaults 28 = .ok (.ireturn, 1) := by decide +kernel
set_option maxRecDepth 20000 in
theorem ggX9_latest_X9_in : GoodIn wsX9_latest wsX9_in := goodIn_r _ [5] (by decide +kernel) (by decide +kernel)
set_option maxRecDepth 20000 in
theorem gX9_latest_X9_in : GoodIn wsX9_latest (va_wsS RX9 43 yX9_in wsX9_in) := goodIn_app (goodIn_of _ (by decide +kernel)) ggX9_latest_X9_in
theorem dX9_latest_0 : decode cX9_latest 0 = .ok (.iload_n 1, 1) := by decide +kernel
theorem dX9_latest_1 : decode cX9_latest 1 = .ok (.iconst 0, 1) := by decide +kernel
theorem dX9_latest_2 : decode cX9_latest 2 = .ok (.iconst 5, 1) := by decide +kernel
theorem dX9_latest_3 : decode cX9_latest 3 = .ok (.invokestatic 43, 3) := by decide +kernel
theorem dX9_latest_6 : decode cX9_latest 6 = .ok (.ifCond .eq 16, 3) := by decide +kernel
theorem dX9_latest_9 : decode cX9_latest 9 = .ok (.aload_n 0, 1) := by decide +kernel
theorem dX9_latest_10 : decode cX9_latest 10 = .ok (.getfield 7, 3) := by decide +kernel
theorem dX9_latest_13 : decode cX9_latest 13 = .ok (.sipush 198, 3) := by decide +kernel
theorem dX9_latest_16 : decode cX9_latest 16 = .ok (.iload_n 1, 1) := by decide +kernel
theorem dX9_latest_17 : decode cX9_latest 17 = .ok (.iadd, 1) := by decide +kernel
theorem dX9_latest_18 : decode cX9_latest 18 = .ok (.iaload, 1) := by decide +kernel
theorem dX9_latest_19 : decode cX9_latest 19 = .ok (.goto 5, 3) := by decide +kernel
theorem dX9_latest_22 : decode cX9_latest 22 = .ok (.bipush (-2), 2) := by decide +kernel
theorem dX9_latest_24 : decode cX9_latest 24 = .ok (.ireturn, 1) := by decide +kernel
set_option maxRecDepth 20000 in
theorem ggX9_station_X9_in : GoodIn wsX9_station wsX9_in := goodIn_r _ [5] (by decide +kernel) (by decide +kernel)
set_option maxRecDepth 20000 in
theorem gX9_station_X9_in : GoodIn wsX9_station (va_wsS RX9 43 yX9_in wsX9_in) := goodIn_app (goodIn_of _ (by decide +kernel)) ggX9_station_X9_in
theorem dX9_station_0 : decode cX9_station 0 = .ok (.iload_n 1, 1) := by decide +kernel
theorem dX9_station_1 : decode cX9_station 1 = .ok (.iconst 0, 1) := by decide +kernel
theorem dX9_station_2 : decode cX9_station 2 = .ok (.aload_n 0, 1) := by decide +kernel
theorem dX9_station_3 : decode cX9_station 3 = .ok (.getfield 7, 3) := by decide +kernel
theorem dX9_station_6 : decode cX9_station 6 = .ok (.sipush 170, 3) := by decide +kernel
theorem dX9_station_9 : decode cX9_station 9 = .ok (.iaload, 1) := by decide +kernel
theorem dX9_station_10 : decode cX9_station 10 = .ok (.iconst 1, 1) := by decide +kernel
theorem dX9_station_11 : decode cX9_station 11 = .ok (.isub, 1) := by decide +kernel
theorem dX9_station_12 : decode cX9_station 12 = .ok (.invokestatic 43, 3) := by decide +kernel
theorem dX9_station_15 : decode cX9_station 15 = .ok (.ifCond .eq 16, 3) := by decide +kernel
theorem dX9_station_18 : decode cX9_station 18 = .ok (.aload_n 0, 1) := by decide +kernel
theorem dX9_station_19 : decode cX9_station 19 = .ok (.getfield 7, 3) := by decide +kernel
theorem dX9_station_22 : decode cX9_station 22 = .ok (.sipush 171, 3) := by decide +kernel
theorem dX9_station_25 : decode cX9_station 25 = .ok (.iload_n 1, 1) := by decide +kernel
theorem dX9_station_26 : decode cX9_station 26 = .ok (.iadd, 1) := by decide +kernel
theorem dX9_station_27 : decode cX9_station 27 = .ok (.iaload, 1) := by decide +kernel
theorem dX9_station_28 : decode cX9_station 28 = .ok (.goto 5, 3) := by decide +kernel
theorem dX9_station_31 : decode cX9_station 31 = .ok (.bipush (-2), 2) := by decide +kernel
theorem dX9_station_33 : decode cX9_station 33 = .ok (.ireturn, 1) := by decide +kernel
set_option maxRecDepth 20000 in
theorem ggX9_pitch_Jxf58ca_floatToIntBits_5c35a : GoodIn wsX9_pitch wsJxf58ca_floatToIntBits_5c35a := goodIn_r _ [5, 6, 7, 8, 9, 10, 11, 12, 4, 13] (by decide +kernel) (by decide +kernel)
set_option maxRecDepth 20000 in
theorem gX9_pitch_Jxf58ca_floatToIntBits_5c35a : GoodIn wsX9_pitch (va_wsS RX9 106 yJxf58ca_floatToIntBits_5c35a wsJxf58ca_floatToIntBits_5c35a) := goodIn_app (goodIn_of _ (by decide +kernel)) ggX9_pitch_Jxf58ca_floatToIntBits_5c35a
theorem dX9_pitch_0 : decode cX9_pitch 0 = .ok (.aload_n 0, 1) := by decide +kernel
theorem dX9_pitch_1 : decode cX9_pitch 1 = .ok (.getfield 24, 3) := by decide +kernel
theorem dX9_pitch_4 : decode cX9_pitch 4 = .ok (.invokestatic 106, 3) := by decide +kernel
theorem dX9_pitch_7 : decode cX9_pitch 7 = .ok (.ireturn, 1) := by decide +kernel
theorem dX9_keepsAside_0 : decode cX9_keepsAside 0 = .ok (.iconst 0, 1) := by decide +kernel
theorem dX9_keepsAside_1 : decode cX9_keepsAside 1 = .ok (.istore_n 1, 1) := by decide +kernel
theorem dX9_keepsAside_2 : decode cX9_keepsAside 2 = .ok (.iload_n 1, 1) := by decide +kernel
theorem dX9_keepsAside_3 : decode cX9_keepsAside 3 = .ok (.sipush 204, 3) := by decide +kernel
theorem dX9_keepsAside_6 : decode cX9_keepsAside 6 = .ok (.if_icmp .ge 21, 3) := by decide +kernel
theorem dX9_keepsAside_9 : decode cX9_keepsAside 9 = .ok (.aload_n 0, 1) := by decide +kernel
theorem dX9_keepsAside_10 : decode cX9_keepsAside 10 = .ok (.getfield 13, 3) := by decide +kernel
theorem dX9_keepsAside_13 : decode cX9_keepsAside 13 = .ok (.iload_n 1, 1) := by decide +kernel
theorem dX9_keepsAside_14 : decode cX9_keepsAside 14 = .ok (.aload_n 0, 1) := by decide +kernel
theorem dX9_keepsAside_15 : decode cX9_keepsAside 15 = .ok (.getfield 7, 3) := by decide +kernel
theorem dX9_keepsAside_18 : decode cX9_keepsAside 18 = .ok (.iload_n 1, 1) := by decide +kernel
theorem dX9_keepsAside_19 : decode cX9_keepsAside 19 = .ok (.iaload, 1) := by decide +kernel
theorem dX9_keepsAside_20 : decode cX9_keepsAside 20 = .ok (.iastore, 1) := by decide +kernel
theorem dX9_keepsAside_21 : decode cX9_keepsAside 21 = .ok (.iinc 1 1, 3) := by decide +kernel
theorem dX9_keepsAside_24 : decode cX9_keepsAside 24 = .ok (.goto (-22), 3) := by decide +kernel
theorem dX9_keepsAside_27 : decode cX9_keepsAside 27 = .ok (.aload_n 0, 1) := by decide +kernel
theorem dX9_keepsAside_28 : decode cX9_keepsAside 28 = .ok (.aload_n 0, 1) := by decide +kernel
theorem dX9_keepsAside_29 : decode cX9_keepsAside 29 = .ok (.getfield 24, 3) := by decide +kernel
theorem dX9_keepsAside_32 : decode cX9_keepsAside 32 = .ok (.putfield 149, 3) := by decide +kernel
theorem dX9_keepsAside_35 : decode cX9_keepsAside 35 = .ok (.return_, 1) := by decide +kernel
theorem dX9_returns_0 : decode cX9_returns 0 = .ok (.iconst 0, 1) := by decide +kernel
theorem dX9_returns_1 : decode cX9_returns 1 = .ok (.istore_n 1, 1) := by decide +kernel
theorem dX9_returns_2 : decode cX9_returns 2 = .ok (.iload_n 1, 1) := by decide +kernel
theorem dX9_returns_3 : decode cX9_returns 3 = .ok (.sipush 204, 3) := by decide +kernel
theorem dX9_returns_6 : decode cX9_returns 6 = .ok (.if_icmp .ge 21, 3) := by decide +kernel
theorem dX9_returns_9 : decode cX9_returns 9 = .ok (.aload_n 0, 1) := by decide +kernel
theorem dX9_returns_10 : decode cX9_returns 10 = .ok (.getfield 7, 3) := by decide +kernel
theorem dX9_returns_13 : decode cX9_returns 13 = .ok (.iload_n 1, 1) := by decide +kernel
theorem dX9_returns_14 : decode cX9_returns 14 = .ok (.aload_n 0, 1) := by decide +kernel
theorem dX9_returns_15 : decode cX9_returns 15 = .ok (.getfield 13, 3) := by decide +kernel
theorem dX9_returns_18 : decode cX9_returns 18 = .ok (.iload_n 1, 1) := by decide +kernel
theorem dX9_returns_19 : decode cX9_returns 19 = .ok (.iaload, 1) := by decide +kernel
theorem dX9_returns_20 : decode cX9_returns 20 = .ok (.iastore, 1) := by decide +kernel
theorem dX9_returns_21 : decode cX9_returns 21 = .ok (.iinc 1 1, 3) := by decide +kernel
theorem dX9_returns_24 : decode cX9_returns 24 = .ok (.goto (-22), 3) := by decide +kernel
theorem dX9_returns_27 : decode cX9_returns 27 = .ok (.aload_n 0, 1) := by decide +kernel
theorem dX9_returns_28 : decode cX9_returns 28 = .ok (.aload_n 0, 1) := by decide +kernel
theorem dX9_returns_29 : decode cX9_returns 29 = .ok (.getfield 149, 3) := by decide +kernel
theorem dX9_returns_32 : decode cX9_returns 32 = .ok (.putfield 24, 3) := by decide +kernel
theorem dX9_returns_35 : decode cX9_returns 35 = .ok (.return_, 1) := by decide +kernel
set_option maxRecDepth 20000 in
theorem ggX9_looksAhead_X9_cycles : GoodIn wsX9_looksAhead wsX9_cycles := goodIn_r _ [6, 7, 8, 9, 1, 10, 11, 12, 13, 14, 15, 16, 5, 17, 18, 19, 20, 21, 22, 23, 24, 25, 26, 27, 28, 29, 30, 31, 32, 33, 34, 35, 36, 37, 38, 39, 40, 41, 42, 43, 44, 45, 46, 47, 48, 49, 50, 51, 52, 53, 54, 55, 56, 57] (by decide +kernel) (by decide +kernel)
set_option maxRecDepth 20000 in
theorem gX9_looksAhead_X9_cycles : GoodIn wsX9_looksAhead (wsV RX9 146 RX9 yX9_cycles wsX9_cycles) := goodIn_app (goodIn_of _ (by decide +kernel)) ggX9_looksAhead_X9_cycles
theorem dX9_looksAhead_0 : decode cX9_looksAhead 0 = .ok (.aload_n 0, 1) := by decide +kernel
theorem dX9_looksAhead_1 : decode cX9_looksAhead 1 = .ok (.getfield 7, 3) := by decide +kernel
theorem dX9_looksAhead_4 : decode cX9_looksAhead 4 = .ok (.sipush 190, 3) := by decide +kernel
theorem dX9_looksAhead_7 : decode cX9_looksAhead 7 = .ok (.iaload, 1) := by decide +kernel
theorem dX9_looksAhead_8 : decode cX9_looksAhead 8 = .ok (.istore 4, 2) := by decide +kernel
theorem dX9_looksAhead_10 : decode cX9_looksAhead 10 = .ok (.aload_n 0, 1) := by decide +kernel
theorem dX9_looksAhead_11 : decode cX9_looksAhead 11 = .ok (.getfield 7, 3) := by decide +kernel
theorem dX9_looksAhead_14 : decode cX9_looksAhead 14 = .ok (.sipush 185, 3) := by decide +kernel
theorem dX9_looksAhead_17 : decode cX9_looksAhead 17 = .ok (.iaload, 1) := by decide +kernel
theorem dX9_looksAhead_18 : decode cX9_looksAhead 18 = .ok (.istore 5, 2) := by decide +kernel
theorem dX9_looksAhead_20 : decode cX9_looksAhead 20 = .ok (.iconst (-1), 1) := by decide +kernel
theorem dX9_looksAhead_21 : decode cX9_looksAhead 21 = .ok (.istore 6, 2) := by decide +kernel
theorem dX9_looksAhead_23 : decode cX9_looksAhead 23 = .ok (.iconst 1, 1) := by decide +kernel
theorem dX9_looksAhead_24 : decode cX9_looksAhead 24 = .ok (.istore 7, 2) := by decide +kernel
theorem dX9_looksAhead_26 : decode cX9_looksAhead 26 = .ok (.iload 7, 2) := by decide +kernel
theorem dX9_looksAhead_28 : decode cX9_looksAhead 28 = .ok (.iload_n 1, 1) := by decide +kernel
theorem dX9_looksAhead_29 : decode cX9_looksAhead 29 = .ok (.if_icmp .gt 48, 3) := by decide +kernel
theorem dX9_looksAhead_32 : decode cX9_looksAhead 32 = .ok (.aload_n 0, 1) := by decide +kernel
theorem dX9_looksAhead_33 : decode cX9_looksAhead 33 = .ok (.iload_n 2, 1) := by decide +kernel
theorem dX9_looksAhead_34 : decode cX9_looksAhead 34 = .ok (.invokevirtual 146, 3) := by decide +kernel
theorem dX9_looksAhead_37 : decode cX9_looksAhead 37 = .ok (.iload 6, 2) := by decide +kernel
theorem dX9_looksAhead_39 : decode cX9_looksAhead 39 = .ok (.iconst (-1), 1) := by decide +kernel
theorem dX9_looksAhead_40 : decode cX9_looksAhead 40 = .ok (.if_icmp .ne 27, 3) := by decide +kernel
theorem dX9_looksAhead_43 : decode cX9_looksAhead 43 = .ok (.aload_n 0, 1) := by decide +kernel
theorem dX9_looksAhead_44 : decode cX9_looksAhead 44 = .ok (.getfield 7, 3) := by decide +kernel
theorem dX9_looksAhead_47 : decode cX9_looksAhead 47 = .ok (.sipush 188, 3) := by decide +kernel
theorem dX9_looksAhead_50 : decode cX9_looksAhead 50 = .ok (.iaload, 1) := by decide +kernel
theorem dX9_looksAhead_51 : decode cX9_looksAhead 51 = .ok (.aload_n 0, 1) := by decide +kernel
theorem dX9_looksAhead_52 : decode cX9_looksAhead 52 = .ok (.getfield 7, 3) := by decide +kernel
theorem dX9_looksAhead_55 : decode cX9_looksAhead 55 = .ok (.sipush 168, 3) := by decide +kernel
theorem dX9_looksAhead_58 : decode cX9_looksAhead 58 = .ok (.iaload, 1) := by decide +kernel
theorem dX9_looksAhead_59 : decode cX9_looksAhead 59 = .ok (.if_icmp .lt 8, 3) := by decide +kernel
theorem dX9_looksAhead_62 : decode cX9_looksAhead 62 = .ok (.iload 7, 2) := by decide +kernel
theorem dX9_looksAhead_64 : decode cX9_looksAhead 64 = .ok (.goto 5, 3) := by decide +kernel
theorem dX9_looksAhead_67 : decode cX9_looksAhead 67 = .ok (.iload 6, 2) := by decide +kernel
theorem dX9_looksAhead_69 : decode cX9_looksAhead 69 = .ok (.istore 6, 2) := by decide +kernel
theorem dX9_looksAhead_71 : decode cX9_looksAhead 71 = .ok (.iinc 7 1, 3) := by decide +kernel
theorem dX9_looksAhead_74 : decode cX9_looksAhead 74 = .ok (.goto (-48), 3) := by decide +kernel
theorem dX9_looksAhead_77 : decode cX9_looksAhead 77 = .ok (.iload_n 3, 1) := by decide +kernel
theorem dX9_looksAhead_78 : decode cX9_looksAhead 78 = .ok (.tableswitch 57 0 2 #[26, 38, 50], 26) := by decide +kernel
theorem dX9_looksAhead_104 : decode cX9_looksAhead 104 = .ok (.aload_n 0, 1) := by decide +kernel
theorem dX9_looksAhead_105 : decode cX9_looksAhead 105 = .ok (.getfield 7, 3) := by decide +kernel
theorem dX9_looksAhead_108 : decode cX9_looksAhead 108 = .ok (.sipush 190, 3) := by decide +kernel
theorem dX9_looksAhead_111 : decode cX9_looksAhead 111 = .ok (.iaload, 1) := by decide +kernel
theorem dX9_looksAhead_112 : decode cX9_looksAhead 112 = .ok (.iload 4, 2) := by decide +kernel
theorem dX9_looksAhead_114 : decode cX9_looksAhead 114 = .ok (.isub, 1) := by decide +kernel
theorem dX9_looksAhead_115 : decode cX9_looksAhead 115 = .ok (.ireturn, 1) := by decide +kernel
theorem dX9_looksAhead_116 : decode cX9_looksAhead 116 = .ok (.aload_n 0, 1) := by decide +kernel
theorem dX9_looksAhead_117 : decode cX9_looksAhead 117 = .ok (.getfield 7, 3) := by decide +kernel
theorem dX9_looksAhead_120 : decode cX9_looksAhead 120 = .ok (.sipush 185, 3) := by decide +kernel
theorem dX9_looksAhead_123 : decode cX9_looksAhead 123 = .ok (.iaload, 1) := by decide +kernel
theorem dX9_looksAhead_124 : decode cX9_looksAhead 124 = .ok (.iload 5, 2) := by decide +kernel
theorem dX9_looksAhead_126 : decode cX9_looksAhead 126 = .ok (.isub, 1) := by decide +kernel
theorem dX9_looksAhead_127 : decode cX9_looksAhead 127 = .ok (.ireturn, 1) := by decide +kernel
theorem dX9_looksAhead_128 : decode cX9_looksAhead 128 = .ok (.aload_n 0, 1) := by decide +kernel
theorem dX9_looksAhead_129 : decode cX9_looksAhead 129 = .ok (.getfield 7, 3) := by decide +kernel
theorem dX9_looksAhead_132 : decode cX9_looksAhead 132 = .ok (.iconst 0, 1) := by decide +kernel
theorem dX9_looksAhead_133 : decode cX9_looksAhead 133 = .ok (.iaload, 1) := by decide +kernel
theorem dX9_looksAhead_134 : decode cX9_looksAhead 134 = .ok (.ireturn, 1) := by decide +kernel
theorem dX9_looksAhead_135 : decode cX9_looksAhead 135 = .ok (.iload 6, 2) := by decide +kernel
theorem dX9_looksAhead_137 : decode cX9_looksAhead 137 = .ok (.ireturn, 1) := by decide +kernel
set_option maxRecDepth 20000 in
theorem ggX9_ahead_X9_keepsAside : GoodIn wsX9_ahead wsX9_keepsAside := goodIn_r _ [5, 6, 7, 8, 9, 48, 49, 50, 51, 52, 53, 54, 55, 56, 57, 58, 59, 60, 61, 62, 63, 64, 65, 66, 67, 68, 69, 70, 71] (by decide +kernel) (by decide +kernel)
set_option maxRecDepth 20000 in
theorem gX9_ahead_X9_keepsAside : GoodIn wsX9_ahead (wsV RX9 152 RX9 yX9_keepsAside wsX9_keepsAside) := goodIn_app (goodIn_of _ (by decide +kernel)) ggX9_ahead_X9_keepsAside
set_option maxRecDepth 20000 in
theorem ggX9_ahead_X9_looksAhead : GoodIn wsX9_ahead wsX9_looksAhead := goodIn_r _ [13, 7, 14, 15, 16, 4, 17, 18, 19, 8, 20, 21, 22, 23, 24, 25, 26, 27, 28, 29, 30, 31, 32, 33, 34, 35, 36, 37, 38, 39, 40, 41, 42, 43, 48, 49, 50, 51, 52, 53, 54, 55, 56, 57, 58, 59, 60, 61, 62, 63, 64, 65, 66, 67, 68, 69, 70, 71] (by decide +kernel) (by decide +kernel)
set_option maxRecDepth 20000 in
theorem gX9_ahead_X9_looksAhead : GoodIn wsX9_ahead (wsV RX9 155 RX9 yX9_looksAhead wsX9_looksAhead) := goodIn_app (goodIn_of _ (by decide +kernel)) ggX9_ahead_X9_looksAhead
set_option maxRecDepth 20000 in
theorem ggX9_ahead_X9_returns : GoodIn wsX9_ahead wsX9_returns := goodIn_r _ [47, 7, 6, 9, 8, 48, 49, 50, 51, 52, 53, 54, 55, 56, 57, 58, 59, 60, 61, 62, 63, 64, 65, 66, 67, 68, 69, 70, 71] (by decide +kernel) (by decide +kernel)
set_option maxRecDepth 20000 in
theorem gX9_ahead_X9_returns : GoodIn wsX9_ahead (wsV RX9 159 RX9 yX9_returns wsX9_returns) := goodIn_app (goodIn_of _ (by decide +kernel)) ggX9_ahead_X9_returns
theorem dX9_ahead_0 : decode cX9_ahead 0 = .ok (.aload_n 0, 1) := by decide +kernel
theorem dX9_ahead_1 : decode cX9_ahead 1 = .ok (.invokevirtual 152, 3) := by decide +kernel
theorem dX9_ahead_4 : decode cX9_ahead 4 = .ok (.aload_n 0, 1) := by decide +kernel
theorem dX9_ahead_5 : decode cX9_ahead 5 = .ok (.iload_n 1, 1) := by decide +kernel
theorem dX9_ahead_6 : decode cX9_ahead 6 = .ok (.iload_n 2, 1) := by decide +kernel
theorem dX9_ahead_7 : decode cX9_ahead 7 = .ok (.iload_n 3, 1) := by decide +kernel
theorem dX9_ahead_8 : decode cX9_ahead 8 = .ok (.invokevirtual 155, 3) := by decide +kernel
theorem dX9_ahead_11 : decode cX9_ahead 11 = .ok (.istore 4, 2) := by decide +kernel
theorem dX9_ahead_13 : decode cX9_ahead 13 = .ok (.aload_n 0, 1) := by decide +kernel
theorem dX9_ahead_14 : decode cX9_ahead 14 = .ok (.invokevirtual 159, 3) := by decide +kernel
theorem dX9_ahead_17 : decode cX9_ahead 17 = .ok (.iload 4, 2) := by decide +kernel
theorem dX9_ahead_19 : decode cX9_ahead 19 = .ok (.ireturn, 1) := by decide +kernel
set_option maxRecDepth 20000 in
theorem ggX9_foretell_X9_in : GoodIn wsX9_foretell wsX9_in := goodIn_r _ [4] (by decide +kernel) (by decide +kernel)
set_option maxRecDepth 20000 in
theorem gX9_foretell_X9_in : GoodIn wsX9_foretell (va_wsS RX9 43 yX9_in wsX9_in) := goodIn_app (goodIn_of _ (by decide +kernel)) ggX9_foretell_X9_in
set_option maxRecDepth 20000 in
theorem ggX9_foretell_X9_ahead : GoodIn wsX9_foretell wsX9_ahead := goodIn_r _ [8, 9, 10, 11, 3, 12, 13, 14, 15, 16, 17, 18, 19, 20, 21, 22, 23, 24, 25, 26, 27, 28, 29, 30, 31, 32, 33, 34, 35, 36, 37, 38, 39, 40, 41, 42, 43, 44, 45, 46, 47, 48, 49, 50, 51, 52, 53, 54, 55, 56, 57, 58, 59, 60, 61, 62, 63, 64, 65, 66, 67, 68, 69, 70, 71, 72, 73, 74, 75, 76, 77, 78] (by decide +kernel) (by decide +kernel)
set_option maxRecDepth 20000 in
theorem gX9_foretell_X9_ahead : GoodIn wsX9_foretell (wsV RX9 162 RX9 yX9_ahead wsX9_ahead) := goodIn_app (goodIn_of _ (by decide +kernel)) ggX9_foretell_X9_ahead
theorem dX9_foretell_0 : decode cX9_foretell 0 = .ok (.iload_n 1, 1) := by decide +kernel
theorem dX9_foretell_1 : decode cX9_foretell 1 = .ok (.iconst 1, 1) := by decide +kernel
theorem dX9_foretell_2 : decode cX9_foretell 2 = .ok (.bipush 100, 2) := by decide +kernel
theorem dX9_foretell_4 : decode cX9_foretell 4 = .ok (.invokestatic 43, 3) := by decide +kernel
theorem dX9_foretell_7 : decode cX9_foretell 7 = .ok (.ifCond .eq 33, 3) := by decide +kernel
theorem dX9_foretell_10 : decode cX9_foretell 10 = .ok (.iload_n 2, 1) := by decide +kernel
theorem dX9_foretell_11 : decode cX9_foretell 11 = .ok (.iconst 0, 1) := by decide +kernel
theorem dX9_foretell_12 : decode cX9_foretell 12 = .ok (.sipush 1000, 3) := by decide +kernel
theorem dX9_foretell_15 : decode cX9_foretell 15 = .ok (.invokestatic 43, 3) := by decide +kernel
theorem dX9_foretell_18 : decode cX9_foretell 18 = .ok (.ifCond .eq 22, 3) := by decide +kernel
theorem dX9_foretell_21 : decode cX9_foretell 21 = .ok (.iload_n 3, 1) := by decide +kernel
theorem dX9_foretell_22 : decode cX9_foretell 22 = .ok (.iconst 0, 1) := by decide +kernel
theorem dX9_foretell_23 : decode cX9_foretell 23 = .ok (.iconst 3, 1) := by decide +kernel
theorem dX9_foretell_24 : decode cX9_foretell 24 = .ok (.invokestatic 43, 3) := by decide +kernel
theorem dX9_foretell_27 : decode cX9_foretell 27 = .ok (.ifCond .eq 13, 3) := by decide +kernel
theorem dX9_foretell_30 : decode cX9_foretell 30 = .ok (.aload_n 0, 1) := by decide +kernel
theorem dX9_foretell_31 : decode cX9_foretell 31 = .ok (.iload_n 1, 1) := by decide +kernel
theorem dX9_foretell_32 : decode cX9_foretell 32 = .ok (.iload_n 2, 1) := by decide +kernel
theorem dX9_foretell_33 : decode cX9_foretell 33 = .ok (.iload_n 3, 1) := by decide +kernel
theorem dX9_foretell_34 : decode cX9_foretell 34 = .ok (.invokevirtual 162, 3) := by decide +kernel
theorem dX9_foretell_37 : decode cX9_foretell 37 = .ok (.goto 5, 3) := by decide +kernel
theorem dX9_foretell_40 : decode cX9_foretell 40 = .ok (.bipush (-2), 2) := by decide +kernel
theorem dX9_foretell_42 : decode cX9_foretell 42 = .ok (.ireturn, 1) := by decide +kernel
set_option maxRecDepth 20000 in
theorem ggX9_best_X9_in : GoodIn wsX9_best wsX9_in := goodIn_r _ [5] (by decide +kernel) (by decide +kernel)
set_option maxRecDepth 20000 in
theorem gX9_best_X9_in : GoodIn wsX9_best (va_wsS RX9 43 yX9_in wsX9_in) := goodIn_app (goodIn_of _ (by decide +kernel)) ggX9_best_X9_in
set_option maxRecDepth 20000 in
theorem ggX9_best_X9_least : GoodIn wsX9_best wsX9_least := goodIn_r _ [8] (by decide +kernel) (by decide +kernel)
set_option maxRecDepth 20000 in
theorem gX9_best_X9_least : GoodIn wsX9_best (va_wsS RX9 100 yX9_least wsX9_least) := goodIn_app (goodIn_of _ (by decide +kernel)) ggX9_best_X9_least
set_option maxRecDepth 20000 in
theorem ggX9_best_X9_most : GoodIn wsX9_best wsX9_most := goodIn_r _ [11] (by decide +kernel) (by decide +kernel)
set_option maxRecDepth 20000 in
theorem gX9_best_X9_most : GoodIn wsX9_best (va_wsS RX9 103 yX9_most wsX9_most) := goodIn_app (goodIn_of _ (by decide +kernel)) ggX9_best_X9_most
set_option maxRecDepth 20000 in
theorem ggX9_best_X9_ahead : GoodIn wsX9_best wsX9_ahead := goodIn_r _ [15, 16, 17, 18, 4, 19, 20, 1, 21, 22, 23, 24, 25, 26, 27, 28, 29, 30, 31, 32, 33, 34, 35, 36, 37, 38, 39, 40, 41, 42, 43, 44, 45, 46, 47, 48, 49, 50, 51, 52, 53, 54, 55, 56, 57, 58, 59, 60, 61, 62, 63, 64, 65, 66, 67, 68, 69, 70, 71, 72, 73, 74, 75, 76, 77, 78, 79, 80, 81, 82, 83, 84] (by decide +kernel) (by decide +kernel)
set_option maxRecDepth 20000 in
theorem gX9_best_X9_ahead : GoodIn wsX9_best (wsV RX9 162 RX9 yX9_ahead wsX9_ahead) := goodIn_app (goodIn_of _ (by decide +kernel)) ggX9_best_X9_ahead
theorem dX9_best_0 : decode cX9_best 0 = .ok (.iload_n 1, 1) := by decide +kernel
theorem dX9_best_1 : decode cX9_best 1 = .ok (.ifCond .eq 13, 3) := by decide +kernel
theorem dX9_best_4 : decode cX9_best 4 = .ok (.iload_n 1, 1) := by decide +kernel
theorem dX9_best_5 : decode cX9_best 5 = .ok (.iconst 1, 1) := by decide +kernel
theorem dX9_best_6 : decode cX9_best 6 = .ok (.if_icmp .eq 8, 3) := by decide +kernel
theorem dX9_best_9 : decode cX9_best 9 = .ok (.iload_n 1, 1) := by decide +kernel
theorem dX9_best_10 : decode cX9_best 10 = .ok (.iconst 5, 1) := by decide +kernel
theorem dX9_best_11 : decode cX9_best 11 = .ok (.if_icmp .ne 24, 3) := by decide +kernel
theorem dX9_best_14 : decode cX9_best 14 = .ok (.iload_n 2, 1) := by decide +kernel
theorem dX9_best_15 : decode cX9_best 15 = .ok (.iconst 1, 1) := by decide +kernel
theorem dX9_best_16 : decode cX9_best 16 = .ok (.bipush 100, 2) := by decide +kernel
theorem dX9_best_18 : decode cX9_best 18 = .ok (.invokestatic 43, 3) := by decide +kernel
theorem dX9_best_21 : decode cX9_best 21 = .ok (.ifCond .eq 14, 3) := by decide +kernel
theorem dX9_best_24 : decode cX9_best 24 = .ok (.iload_n 3, 1) := by decide +kernel
theorem dX9_best_25 : decode cX9_best 25 = .ok (.iconst 0, 1) := by decide +kernel
theorem dX9_best_26 : decode cX9_best 26 = .ok (.sipush 1000, 3) := by decide +kernel
theorem dX9_best_29 : decode cX9_best 29 = .ok (.invokestatic 43, 3) := by decide +kernel
theorem dX9_best_32 : decode cX9_best 32 = .ok (.ifCond .ne 6, 3) := by decide +kernel
theorem dX9_best_35 : decode cX9_best 35 = .ok (.bipush (-2), 2) := by decide +kernel
theorem dX9_best_37 : decode cX9_best 37 = .ok (.ireturn, 1) := by decide +kernel
theorem dX9_best_38 : decode cX9_best 38 = .ok (.iconst (-1), 1) := by decide +kernel
theorem dX9_best_39 : decode cX9_best 39 = .ok (.istore 4, 2) := by decide +kernel
theorem dX9_best_41 : decode cX9_best 41 = .ok (.iconst (-1), 1) := by decide +kernel
theorem dX9_best_42 : decode cX9_best 42 = .ok (.istore 5, 2) := by decide +kernel
theorem dX9_best_44 : decode cX9_best 44 = .ok (.aload_n 0, 1) := by decide +kernel
theorem dX9_best_45 : decode cX9_best 45 = .ok (.getfield 7, 3) := by decide +kernel
theorem dX9_best_48 : decode cX9_best 48 = .ok (.sipush 161, 3) := by decide +kernel
theorem dX9_best_51 : decode cX9_best 51 = .ok (.iload_n 1, 1) := by decide +kernel
theorem dX9_best_52 : decode cX9_best 52 = .ok (.iadd, 1) := by decide +kernel
theorem dX9_best_53 : decode cX9_best 53 = .ok (.iaload, 1) := by decide +kernel
theorem dX9_best_54 : decode cX9_best 54 = .ok (.istore 6, 2) := by decide +kernel
theorem dX9_best_56 : decode cX9_best 56 = .ok (.iload_n 1, 1) := by decide +kernel
theorem dX9_best_57 : decode cX9_best 57 = .ok (.invokestatic 100, 3) := by decide +kernel
theorem dX9_best_60 : decode cX9_best 60 = .ok (.istore 7, 2) := by decide +kernel
theorem dX9_best_62 : decode cX9_best 62 = .ok (.iload 7, 2) := by decide +kernel
theorem dX9_best_64 : decode cX9_best 64 = .ok (.iload_n 1, 1) := by decide +kernel
theorem dX9_best_65 : decode cX9_best 65 = .ok (.invokestatic 103, 3) := by decide +kernel
theorem dX9_best_68 : decode cX9_best 68 = .ok (.if_icmp .gt 62, 3) := by decide +kernel
theorem dX9_best_71 : decode cX9_best 71 = .ok (.aload_n 0, 1) := by decide +kernel
theorem dX9_best_72 : decode cX9_best 72 = .ok (.getfield 7, 3) := by decide +kernel
theorem dX9_best_75 : decode cX9_best 75 = .ok (.sipush 161, 3) := by decide +kernel
theorem dX9_best_78 : decode cX9_best 78 = .ok (.iload_n 1, 1) := by decide +kernel
theorem dX9_best_79 : decode cX9_best 79 = .ok (.iadd, 1) := by decide +kernel
theorem dX9_best_80 : decode cX9_best 80 = .ok (.iload 7, 2) := by decide +kernel
theorem dX9_best_82 : decode cX9_best 82 = .ok (.iastore, 1) := by decide +kernel
theorem dX9_best_83 : decode cX9_best 83 = .ok (.aload_n 0, 1) := by decide +kernel
theorem dX9_best_84 : decode cX9_best 84 = .ok (.iload_n 2, 1) := by decide +kernel
theorem dX9_best_85 : decode cX9_best 85 = .ok (.iload_n 3, 1) := by decide +kernel
theorem dX9_best_86 : decode cX9_best 86 = .ok (.iconst 0, 1) := by decide +kernel
theorem dX9_best_87 : decode cX9_best 87 = .ok (.invokevirtual 162, 3) := by decide +kernel
theorem dX9_best_90 : decode cX9_best 90 = .ok (.istore 8, 2) := by decide +kernel
theorem dX9_best_92 : decode cX9_best 92 = .ok (.iload 8, 2) := by decide +kernel
theorem dX9_best_94 : decode cX9_best 94 = .ok (.iload 5, 2) := by decide +kernel
theorem dX9_best_96 : decode cX9_best 96 = .ok (.if_icmp .le 8, 3) := by decide +kernel
theorem dX9_best_99 : decode cX9_best 99 = .ok (.iload 7, 2) := by decide +kernel
theorem dX9_best_101 : decode cX9_best 101 = .ok (.goto 5, 3) := by decide +kernel
theorem dX9_best_104 : decode cX9_best 104 = .ok (.iload 4, 2) := by decide +kernel
theorem dX9_best_106 : decode cX9_best 106 = .ok (.istore 4, 2) := by decide +kernel
theorem dX9_best_108 : decode cX9_best 108 = .ok (.iload 8, 2) := by decide +kernel
theorem dX9_best_110 : decode cX9_best 110 = .ok (.iload 5, 2) := by decide +kernel
theorem dX9_best_112 : decode cX9_best 112 = .ok (.if_icmp .le 8, 3) := by decide +kernel
theorem dX9_best_115 : decode cX9_best 115 = .ok (.iload 8, 2) := by decide +kernel
theorem dX9_best_117 : decode cX9_best 117 = .ok (.goto 5, 3) := by decide +kernel
theorem dX9_best_120 : decode cX9_best 120 = .ok (.iload 5, 2) := by decide +kernel
theorem dX9_best_122 : decode cX9_best 122 = .ok (.istore 5, 2) := by decide +kernel
theorem dX9_best_124 : decode cX9_best 124 = .ok (.iinc 7 1, 3) := by decide +kernel
theorem dX9_best_127 : decode cX9_best 127 = .ok (.goto (-65), 3) := by decide +kernel
theorem dX9_best_130 : decode cX9_best 130 = .ok (.aload_n 0, 1) := by decide +kernel
theorem dX9_best_131 : decode cX9_best 131 = .ok (.getfield 7, 3) := by decide +kernel
theorem dX9_best_134 : decode cX9_best 134 = .ok (.sipush 161, 3) := by decide +kernel
theorem dX9_best_137 : decode cX9_best 137 = .ok (.iload_n 1, 1) := by decide +kernel
theorem dX9_best_138 : decode cX9_best 138 = .ok (.iadd, 1) := by decide +kernel
theorem dX9_best_139 : decode cX9_best 139 = .ok (.iload 6, 2) := by decide +kernel
theorem dX9_best_141 : decode cX9_best 141 = .ok (.iastore, 1) := by decide +kernel
theorem dX9_best_142 : decode cX9_best 142 = .ok (.iload 4, 2) := by decide +kernel
theorem dX9_best_144 : decode cX9_best 144 = .ok (.ireturn, 1) := by decide +kernel
set_option maxRecDepth 20000 in
theorem ggX9_save_X9_in : GoodIn wsX9_save wsX9_in := goodIn_r _ [10] (by decide +kernel) (by decide +kernel)
set_option maxRecDepth 20000 in
theorem gX9_save_X9_in : GoodIn wsX9_save (va_wsS RX9 43 yX9_in wsX9_in) := goodIn_app (goodIn_of _ (by decide +kernel)) ggX9_save_X9_in
theorem dX9_save_0 : decode cX9_save 0 = .ok (.iload_n 1, 1) := by decide +kernel
theorem dX9_save_1 : decode cX9_save 1 = .ok (.iconst 0, 1) := by decide +kernel
theorem dX9_save_2 : decode cX9_save 2 = .ok (.iconst 1, 1) := by decide +kernel
theorem dX9_save_3 : decode cX9_save 3 = .ok (.invokestatic 43, 3) := by decide +kernel
theorem dX9_save_6 : decode cX9_save 6 = .ok (.ifCond .ne 6, 3) := by decide +kernel
theorem dX9_save_9 : decode cX9_save 9 = .ok (.bipush (-2), 2) := by decide +kernel
theorem dX9_save_11 : decode cX9_save 11 = .ok (.ireturn, 1) := by decide +kernel
theorem dX9_save_12 : decode cX9_save 12 = .ok (.iconst 0, 1) := by decide +kernel
theorem dX9_save_13 : decode cX9_save 13 = .ok (.istore_n 2, 1) := by decide +kernel
theorem dX9_save_14 : decode cX9_save 14 = .ok (.iload_n 2, 1) := by decide +kernel
theorem dX9_save_15 : decode cX9_save 15 = .ok (.sipush 204, 3) := by decide +kernel
theorem dX9_save_18 : decode cX9_save 18 = .ok (.if_icmp .ge 27, 3) := by decide +kernel
theorem dX9_save_21 : decode cX9_save 21 = .ok (.aload_n 0, 1) := by decide +kernel
theorem dX9_save_22 : decode cX9_save 22 = .ok (.getfield 16, 3) := by decide +kernel
theorem dX9_save_25 : decode cX9_save 25 = .ok (.sipush 204, 3) := by decide +kernel
theorem dX9_save_28 : decode cX9_save 28 = .ok (.iload_n 1, 1) := by decide +kernel
theorem dX9_save_29 : decode cX9_save 29 = .ok (.imul, 1) := by decide +kernel
theorem dX9_save_30 : decode cX9_save 30 = .ok (.iload_n 2, 1) := by decide +kernel
theorem dX9_save_31 : decode cX9_save 31 = .ok (.iadd, 1) := by decide +kernel
theorem dX9_save_32 : decode cX9_save 32 = .ok (.aload_n 0, 1) := by decide +kernel
theorem dX9_save_33 : decode cX9_save 33 = .ok (.getfield 7, 3) := by decide +kernel
theorem dX9_save_36 : decode cX9_save 36 = .ok (.iload_n 2, 1) := by decide +kernel
theorem dX9_save_37 : decode cX9_save 37 = .ok (.iaload, 1) := by decide +kernel
theorem dX9_save_38 : decode cX9_save 38 = .ok (.iastore, 1) := by decide +kernel
theorem dX9_save_39 : decode cX9_save 39 = .ok (.iinc 2 1, 3) := by decide +kernel
theorem dX9_save_42 : decode cX9_save 42 = .ok (.goto (-28), 3) := by decide +kernel
theorem dX9_save_45 : decode cX9_save 45 = .ok (.aload_n 0, 1) := by decide +kernel
theorem dX9_save_46 : decode cX9_save 46 = .ok (.iload_n 1, 1) := by decide +kernel
theorem dX9_save_47 : decode cX9_save 47 = .ok (.ifCond .ne 10, 3) := by decide +kernel
theorem dX9_save_50 : decode cX9_save 50 = .ok (.aload_n 0, 1) := by decide +kernel
theorem dX9_save_51 : decode cX9_save 51 = .ok (.getfield 24, 3) := by decide +kernel
theorem dX9_save_54 : decode cX9_save 54 = .ok (.goto 7, 3) := by decide +kernel
theorem dX9_save_57 : decode cX9_save 57 = .ok (.aload_n 0, 1) := by decide +kernel
theorem dX9_save_58 : decode cX9_save 58 = .ok (.getfield 165, 3) := by decide +kernel
theorem dX9_save_61 : decode cX9_save 61 = .ok (.putfield 165, 3) := by decide +kernel
theorem dX9_save_64 : decode cX9_save 64 = .ok (.aload_n 0, 1) := by decide +kernel
theorem dX9_save_65 : decode cX9_save 65 = .ok (.iload_n 1, 1) := by decide +kernel
theorem dX9_save_66 : decode cX9_save 66 = .ok (.iconst 1, 1) := by decide +kernel
theorem dX9_save_67 : decode cX9_save 67 = .ok (.if_icmp .ne 10, 3) := by decide +kernel
theorem dX9_save_70 : decode cX9_save 70 = .ok (.aload_n 0, 1) := by decide +kernel
theorem dX9_save_71 : decode cX9_save 71 = .ok (.getfield 24, 3) := by decide +kernel
theorem dX9_save_74 : decode cX9_save 74 = .ok (.goto 7, 3) := by decide +kernel
theorem dX9_save_77 : decode cX9_save 77 = .ok (.aload_n 0, 1) := by decide +kernel
theorem dX9_save_78 : decode cX9_save 78 = .ok (.getfield 168, 3) := by decide +kernel
theorem dX9_save_81 : decode cX9_save 81 = .ok (.putfield 168, 3) := by decide +kernel
theorem dX9_save_84 : decode cX9_save 84 = .ok (.aload_n 0, 1) := by decide +kernel
theorem dX9_save_85 : decode cX9_save 85 = .ok (.getfield 19, 3) := by decide +kernel
theorem dX9_save_88 : decode cX9_save 88 = .ok (.iload_n 1, 1) := by decide +kernel
theorem dX9_save_89 : decode cX9_save 89 = .ok (.iconst 1, 1) := by decide +kernel
theorem dX9_save_90 : decode cX9_save 90 = .ok (.bastore, 1) := by decide +kernel
theorem dX9_save_91 : decode cX9_save 91 = .ok (.aload_n 0, 1) := by decide +kernel
theorem dX9_save_92 : decode cX9_save 92 = .ok (.getfield 7, 3) := by decide +kernel
theorem dX9_save_95 : decode cX9_save 95 = .ok (.iconst 0, 1) := by decide +kernel
theorem dX9_save_96 : decode cX9_save 96 = .ok (.iaload, 1) := by decide +kernel
theorem dX9_save_97 : decode cX9_save 97 = .ok (.ireturn, 1) := by decide +kernel
set_option maxRecDepth 20000 in
theorem ggX9_restore_X9_in : GoodIn wsX9_restore wsX9_in := goodIn_r _ [10] (by decide +kernel) (by decide +kernel)
set_option maxRecDepth 20000 in
theorem gX9_restore_X9_in : GoodIn wsX9_restore (va_wsS RX9 43 yX9_in wsX9_in) := goodIn_app (goodIn_of _ (by decide +kernel)) ggX9_restore_X9_in
theorem dX9_restore_0 : decode cX9_restore 0 = .ok (.iload_n 1, 1) := by decide +kernel
theorem dX9_restore_1 : decode cX9_restore 1 = .ok (.iconst 0, 1) := by decide +kernel
theorem dX9_restore_2 : decode cX9_restore 2 = .ok (.iconst 1, 1) := by decide +kernel
theorem dX9_restore_3 : decode cX9_restore 3 = .ok (.invokestatic 43, 3) := by decide +kernel
theorem dX9_restore_6 : decode cX9_restore 6 = .ok (.ifCond .ne 6, 3) := by decide +kernel
theorem dX9_restore_9 : decode cX9_restore 9 = .ok (.bipush (-2), 2) := by decide +kernel
theorem dX9_restore_11 : decode cX9_restore 11 = .ok (.ireturn, 1) := by decide +kernel
theorem dX9_restore_12 : decode cX9_restore 12 = .ok (.aload_n 0, 1) := by decide +kernel
theorem dX9_restore_13 : decode cX9_restore 13 = .ok (.getfield 19, 3) := by decide +kernel
theorem dX9_restore_16 : decode cX9_restore 16 = .ok (.iload_n 1, 1) := by decide +kernel
theorem dX9_restore_17 : decode cX9_restore 17 = .ok (.baload, 1) := by decide +kernel
theorem dX9_restore_18 : decode cX9_restore 18 = .ok (.ifCond .ne 6, 3) := by decide +kernel
theorem dX9_restore_21 : decode cX9_restore 21 = .ok (.bipush (-3), 2) := by decide +kernel
theorem dX9_restore_23 : decode cX9_restore 23 = .ok (.ireturn, 1) := by decide +kernel
theorem dX9_restore_24 : decode cX9_restore 24 = .ok (.iconst 0, 1) := by decide +kernel
theorem dX9_restore_25 : decode cX9_restore 25 = .ok (.istore_n 2, 1) := by decide +kernel
theorem dX9_restore_26 : decode cX9_restore 26 = .ok (.iload_n 2, 1) := by decide +kernel
theorem dX9_restore_27 : decode cX9_restore 27 = .ok (.sipush 204, 3) := by decide +kernel
theorem dX9_restore_30 : decode cX9_restore 30 = .ok (.if_icmp .ge 27, 3) := by decide +kernel
theorem dX9_restore_33 : decode cX9_restore 33 = .ok (.aload_n 0, 1) := by decide +kernel
theorem dX9_restore_34 : decode cX9_restore 34 = .ok (.getfield 7, 3) := by decide +kernel
theorem dX9_restore_37 : decode cX9_restore 37 = .ok (.iload_n 2, 1) := by decide +kernel
theorem dX9_restore_38 : decode cX9_restore 38 = .ok (.aload_n 0, 1) := by decide +kernel
theorem dX9_restore_39 : decode cX9_restore 39 = .ok (.getfield 16, 3) := by decide +kernel
theorem dX9_restore_42 : decode cX9_restore 42 = .ok (.sipush 204, 3) := by decide +kernel
theorem dX9_restore_45 : decode cX9_restore 45 = .ok (.iload_n 1, 1) := by decide +kernel
theorem dX9_restore_46 : decode cX9_restore 46 = .ok (.imul, 1) := by decide +kernel
theorem dX9_restore_47 : decode cX9_restore 47 = .ok (.iload_n 2, 1) := by decide +kernel
theorem dX9_restore_48 : decode cX9_restore 48 = .ok (.iadd, 1) := by decide +kernel
theorem dX9_restore_49 : decode cX9_restore 49 = .ok (.iaload, 1) := by decide +kernel
theorem dX9_restore_50 : decode cX9_restore 50 = .ok (.iastore, 1) := by decide +kernel
theorem dX9_restore_51 : decode cX9_restore 51 = .ok (.iinc 2 1, 3) := by decide +kernel
theorem dX9_restore_54 : decode cX9_restore 54 = .ok (.goto (-28), 3) := by decide +kernel
theorem dX9_restore_57 : decode cX9_restore 57 = .ok (.aload_n 0, 1) := by decide +kernel
theorem dX9_restore_58 : decode cX9_restore 58 = .ok (.iload_n 1, 1) := by decide +kernel
theorem dX9_restore_59 : decode cX9_restore 59 = .ok (.ifCond .ne 10, 3) := by decide +kernel
theorem dX9_restore_62 : decode cX9_restore 62 = .ok (.aload_n 0, 1) := by decide +kernel
theorem dX9_restore_63 : decode cX9_restore 63 = .ok (.getfield 165, 3) := by decide +kernel
theorem dX9_restore_66 : decode cX9_restore 66 = .ok (.goto 7, 3) := by decide +kernel
theorem dX9_restore_69 : decode cX9_restore 69 = .ok (.aload_n 0, 1) := by decide +kernel
theorem dX9_restore_70 : decode cX9_restore 70 = .ok (.getfield 168, 3) := by decide +kernel
theorem dX9_restore_73 : decode cX9_restore 73 = .ok (.putfield 24, 3) := by decide +kernel
theorem dX9_restore_76 : decode cX9_restore 76 = .ok (.aload_n 0, 1) := by decide +kernel
theorem dX9_restore_77 : decode cX9_restore 77 = .ok (.getfield 7, 3) := by decide +kernel
theorem dX9_restore_80 : decode cX9_restore 80 = .ok (.iconst 0, 1) := by decide +kernel
theorem dX9_restore_81 : decode cX9_restore 81 = .ok (.iaload, 1) := by decide +kernel
theorem dX9_restore_82 : decode cX9_restore 82 = .ok (.ireturn, 1) := by decide +kernel
theorem dX9_labelsOnWeb_0 : decode cX9_labelsOnWeb 0 = .ok (.iconst 0, 1) := by decide +kernel
theorem dX9_labelsOnWeb_1 : decode cX9_labelsOnWeb 1 = .ok (.istore_n 1, 1) := by decide +kernel
theorem dX9_labelsOnWeb_2 : decode cX9_labelsOnWeb 2 = .ok (.iconst 0, 1) := by decide +kernel
theorem dX9_labelsOnWeb_3 : decode cX9_labelsOnWeb 3 = .ok (.istore_n 2, 1) := by decide +kernel
theorem dX9_labelsOnWeb_4 : decode cX9_labelsOnWeb 4 = .ok (.iload_n 2, 1) := by decide +kernel
theorem dX9_labelsOnWeb_5 : decode cX9_labelsOnWeb 5 = .ok (.aload_n 0, 1) := by decide +kernel
theorem dX9_labelsOnWeb_6 : decode cX9_labelsOnWeb 6 = .ok (.getfield 7, 3) := by decide +kernel
theorem dX9_labelsOnWeb_9 : decode cX9_labelsOnWeb 9 = .ok (.iconst 0, 1) := by decide +kernel
theorem dX9_labelsOnWeb_10 : decode cX9_labelsOnWeb 10 = .ok (.iaload, 1) := by decide +kernel
theorem dX9_labelsOnWeb_11 : decode cX9_labelsOnWeb 11 = .ok (.if_icmp .ge 28, 3) := by decide +kernel
theorem dX9_labelsOnWeb_14 : decode cX9_labelsOnWeb 14 = .ok (.iload_n 1, 1) := by decide +kernel
theorem dX9_labelsOnWeb_15 : decode cX9_labelsOnWeb 15 = .ok (.aload_n 0, 1) := by decide +kernel
theorem dX9_labelsOnWeb_16 : decode cX9_labelsOnWeb 16 = .ok (.getfield 7, 3) := by decide +kernel
theorem dX9_labelsOnWeb_19 : decode cX9_labelsOnWeb 19 = .ok (.iconst 1, 1) := by decide +kernel
theorem dX9_labelsOnWeb_20 : decode cX9_labelsOnWeb 20 = .ok (.iload_n 2, 1) := by decide +kernel
theorem dX9_labelsOnWeb_21 : decode cX9_labelsOnWeb 21 = .ok (.iadd, 1) := by decide +kernel
theorem dX9_labelsOnWeb_22 : decode cX9_labelsOnWeb 22 = .ok (.iaload, 1) := by decide +kernel
theorem dX9_labelsOnWeb_23 : decode cX9_labelsOnWeb 23 = .ok (.ifCond .ne 7, 3) := by decide +kernel
theorem dX9_labelsOnWeb_26 : decode cX9_labelsOnWeb 26 = .ok (.iconst 1, 1) := by decide +kernel
theorem dX9_labelsOnWeb_27 : decode cX9_labelsOnWeb 27 = .ok (.goto 4, 3) := by decide +kernel
theorem dX9_labelsOnWeb_30 : decode cX9_labelsOnWeb 30 = .ok (.iconst 0, 1) := by decide +kernel
theorem dX9_labelsOnWeb_31 : decode cX9_labelsOnWeb 31 = .ok (.iadd, 1) := by decide +kernel
theorem dX9_labelsOnWeb_32 : decode cX9_labelsOnWeb 32 = .ok (.istore_n 1, 1) := by decide +kernel
theorem dX9_labelsOnWeb_33 : decode cX9_labelsOnWeb 33 = .ok (.iinc 2 1, 3) := by decide +kernel
theorem dX9_labelsOnWeb_36 : decode cX9_labelsOnWeb 36 = .ok (.goto (-32), 3) := by decide +kernel
theorem dX9_labelsOnWeb_39 : decode cX9_labelsOnWeb 39 = .ok (.iload_n 1, 1) := by decide +kernel
theorem dX9_labelsOnWeb_40 : decode cX9_labelsOnWeb 40 = .ok (.ireturn, 1) := by decide +kernel
theorem dX9_productsInRing_0 : decode cX9_productsInRing 0 = .ok (.iconst 0, 1) := by decide +kernel
theorem dX9_productsInRing_1 : decode cX9_productsInRing 1 = .ok (.istore_n 1, 1) := by decide +kernel
theorem dX9_productsInRing_2 : decode cX9_productsInRing 2 = .ok (.iconst 0, 1) := by decide +kernel
theorem dX9_productsInRing_3 : decode cX9_productsInRing 3 = .ok (.istore_n 2, 1) := by decide +kernel
theorem dX9_productsInRing_4 : decode cX9_productsInRing 4 = .ok (.iload_n 2, 1) := by decide +kernel
theorem dX9_productsInRing_5 : decode cX9_productsInRing 5 = .ok (.aload_n 0, 1) := by decide +kernel
theorem dX9_productsInRing_6 : decode cX9_productsInRing 6 = .ok (.getfield 7, 3) := by decide +kernel
theorem dX9_productsInRing_9 : decode cX9_productsInRing 9 = .ok (.sipush 170, 3) := by decide +kernel
theorem dX9_productsInRing_12 : decode cX9_productsInRing 12 = .ok (.iaload, 1) := by decide +kernel
theorem dX9_productsInRing_13 : decode cX9_productsInRing 13 = .ok (.if_icmp .ge 31, 3) := by decide +kernel
theorem dX9_productsInRing_16 : decode cX9_productsInRing 16 = .ok (.iload_n 1, 1) := by decide +kernel
theorem dX9_productsInRing_17 : decode cX9_productsInRing 17 = .ok (.aload_n 0, 1) := by decide +kernel
theorem dX9_productsInRing_18 : decode cX9_productsInRing 18 = .ok (.getfield 7, 3) := by decide +kernel
theorem dX9_productsInRing_21 : decode cX9_productsInRing 21 = .ok (.sipush 171, 3) := by decide +kernel
theorem dX9_productsInRing_24 : decode cX9_productsInRing 24 = .ok (.iload_n 2, 1) := by decide +kernel
theorem dX9_productsInRing_25 : decode cX9_productsInRing 25 = .ok (.iadd, 1) := by decide +kernel
theorem dX9_productsInRing_26 : decode cX9_productsInRing 26 = .ok (.iaload, 1) := by decide +kernel
theorem dX9_productsInRing_27 : decode cX9_productsInRing 27 = .ok (.iconst (-1), 1) := by decide +kernel
theorem dX9_productsInRing_28 : decode cX9_productsInRing 28 = .ok (.if_icmp .ne 7, 3) := by decide +kernel
theorem dX9_productsInRing_31 : decode cX9_productsInRing 31 = .ok (.iconst 0, 1) := by decide +kernel
theorem dX9_productsInRing_32 : decode cX9_productsInRing 32 = .ok (.goto 4, 3) := by decide +kernel
theorem dX9_productsInRing_35 : decode cX9_productsInRing 35 = .ok (.iconst 1, 1) := by decide +kernel
theorem dX9_productsInRing_36 : decode cX9_productsInRing 36 = .ok (.iadd, 1) := by decide +kernel
theorem dX9_productsInRing_37 : decode cX9_productsInRing 37 = .ok (.istore_n 1, 1) := by decide +kernel
theorem dX9_productsInRing_38 : decode cX9_productsInRing 38 = .ok (.iinc 2 1, 3) := by decide +kernel
theorem dX9_productsInRing_41 : decode cX9_productsInRing 41 = .ok (.goto (-37), 3) := by decide +kernel
theorem dX9_productsInRing_44 : decode cX9_productsInRing 44 = .ok (.iload_n 1, 1) := by decide +kernel
theorem dX9_productsInRing_45 : decode cX9_productsInRing 45 = .ok (.ireturn, 1) := by decide +kernel
set_option maxRecDepth 20000 in
theorem ggX9_number_X9_labelsOnWeb : GoodIn wsX9_number wsX9_labelsOnWeb := goodIn_r _ [7, 1, 16, 17, 18, 19, 20, 21, 22, 23, 24, 25, 26, 27, 28, 29, 30, 31, 32, 33, 34, 35, 36, 37, 38, 39] (by decide +kernel) (by decide +kernel)
set_option maxRecDepth 20000 in
theorem gX9_number_X9_labelsOnWeb : GoodIn wsX9_number (wsV RX9 171 RX9 yX9_labelsOnWeb wsX9_labelsOnWeb) := goodIn_app (goodIn_of _ (by decide +kernel)) ggX9_number_X9_labelsOnWeb
set_option maxRecDepth 20000 in
theorem ggX9_number_X9_lengthBefore : GoodIn wsX9_number wsX9_lengthBefore := goodIn_r _ [11, 1, 16, 17, 18, 19, 20, 21, 22, 23, 24, 25, 26, 27, 28, 29, 30, 31, 32, 33, 34, 35, 36, 37, 38, 39] (by decide +kernel) (by decide +kernel)
set_option maxRecDepth 20000 in
theorem gX9_number_X9_lengthBefore : GoodIn wsX9_number (wsV RX9 97 RX9 yX9_lengthBefore wsX9_lengthBefore) := goodIn_app (goodIn_of _ (by decide +kernel)) ggX9_number_X9_lengthBefore
set_option maxRecDepth 20000 in
theorem ggX9_number_X9_productsInRing : GoodIn wsX9_number wsX9_productsInRing := goodIn_r _ [15, 1, 16, 17, 18, 19, 20, 21, 22, 23, 24, 25, 26, 27, 28, 29, 30, 31, 32, 33, 34, 35, 36, 37, 38, 39] (by decide +kernel) (by decide +kernel)
set_option maxRecDepth 20000 in
theorem gX9_number_X9_productsInRing : GoodIn wsX9_number (wsV RX9 174 RX9 yX9_productsInRing wsX9_productsInRing) := goodIn_app (goodIn_of _ (by decide +kernel)) ggX9_number_X9_productsInRing
theorem dX9_number_0 : decode cX9_number 0 = .ok (.iload_n 1, 1) := by decide +kernel
theorem dX9_number_1 : decode cX9_number 1 = .ok (.tableswitch 162 0 23 #[111, 118, 123, 134, 143, 152, 162, 162, 162, 162, 162, 162, 162, 162, 162, 162, 162, 162, 162, 162, 162, 162, 162, 157], 111) := by decide +kernel
theorem dX9_number_112 : decode cX9_number 112 = .ok (.aload_n 0, 1) := by decide +kernel
theorem dX9_number_113 : decode cX9_number 113 = .ok (.getfield 7, 3) := by decide +kernel
theorem dX9_number_116 : decode cX9_number 116 = .ok (.iconst 0, 1) := by decide +kernel
theorem dX9_number_117 : decode cX9_number 117 = .ok (.iaload, 1) := by decide +kernel
theorem dX9_number_118 : decode cX9_number 118 = .ok (.ireturn, 1) := by decide +kernel
theorem dX9_number_119 : decode cX9_number 119 = .ok (.aload_n 0, 1) := by decide +kernel
theorem dX9_number_120 : decode cX9_number 120 = .ok (.invokevirtual 171, 3) := by decide +kernel
theorem dX9_number_123 : decode cX9_number 123 = .ok (.ireturn, 1) := by decide +kernel
theorem dX9_number_124 : decode cX9_number 124 = .ok (.aload_n 0, 1) := by decide +kernel
theorem dX9_number_125 : decode cX9_number 125 = .ok (.aload_n 0, 1) := by decide +kernel
theorem dX9_number_126 : decode cX9_number 126 = .ok (.getfield 7, 3) := by decide +kernel
theorem dX9_number_129 : decode cX9_number 129 = .ok (.iconst 0, 1) := by decide +kernel
theorem dX9_number_130 : decode cX9_number 130 = .ok (.iaload, 1) := by decide +kernel
theorem dX9_number_131 : decode cX9_number 131 = .ok (.invokevirtual 97, 3) := by decide +kernel
theorem dX9_number_134 : decode cX9_number 134 = .ok (.ireturn, 1) := by decide +kernel
theorem dX9_number_135 : decode cX9_number 135 = .ok (.aload_n 0, 1) := by decide +kernel
theorem dX9_number_136 : decode cX9_number 136 = .ok (.getfield 7, 3) := by decide +kernel
theorem dX9_number_139 : decode cX9_number 139 = .ok (.sipush 169, 3) := by decide +kernel
theorem dX9_number_142 : decode cX9_number 142 = .ok (.iaload, 1) := by decide +kernel
theorem dX9_number_143 : decode cX9_number 143 = .ok (.ireturn, 1) := by decide +kernel
theorem dX9_number_144 : decode cX9_number 144 = .ok (.aload_n 0, 1) := by decide +kernel
theorem dX9_number_145 : decode cX9_number 145 = .ok (.getfield 7, 3) := by decide +kernel
theorem dX9_number_148 : decode cX9_number 148 = .ok (.sipush 170, 3) := by decide +kernel
theorem dX9_number_151 : decode cX9_number 151 = .ok (.iaload, 1) := by decide +kernel
theorem dX9_number_152 : decode cX9_number 152 = .ok (.ireturn, 1) := by decide +kernel
theorem dX9_number_153 : decode cX9_number 153 = .ok (.aload_n 0, 1) := by decide +kernel
theorem dX9_number_154 : decode cX9_number 154 = .ok (.invokevirtual 174, 3) := by decide +kernel
theorem dX9_number_157 : decode cX9_number 157 = .ok (.ireturn, 1) := by decide +kernel
theorem dX9_number_158 : decode cX9_number 158 = .ok (.aload_n 0, 1) := by decide +kernel
theorem dX9_number_159 : decode cX9_number 159 = .ok (.getfield 47, 3) := by decide +kernel
theorem dX9_number_162 : decode cX9_number 162 = .ok (.ireturn, 1) := by decide +kernel
theorem dX9_number_163 : decode cX9_number 163 = .ok (.iload_n 1, 1) := by decide +kernel
theorem dX9_number_164 : decode cX9_number 164 = .ok (.bipush 15, 2) := by decide +kernel
theorem dX9_number_166 : decode cX9_number 166 = .ok (.if_icmp .ge 19, 3) := by decide +kernel
theorem dX9_number_169 : decode cX9_number 169 = .ok (.aload_n 0, 1) := by decide +kernel
theorem dX9_number_170 : decode cX9_number 170 = .ok (.getfield 7, 3) := by decide +kernel
theorem dX9_number_173 : decode cX9_number 173 = .ok (.sipush 181, 3) := by decide +kernel
theorem dX9_number_176 : decode cX9_number 176 = .ok (.iload_n 1, 1) := by decide +kernel
theorem dX9_number_177 : decode cX9_number 177 = .ok (.iadd, 1) := by decide +kernel
theorem dX9_number_178 : decode cX9_number 178 = .ok (.bipush 6, 2) := by decide +kernel
theorem dX9_number_180 : decode cX9_number 180 = .ok (.isub, 1) := by decide +kernel
theorem dX9_number_181 : decode cX9_number 181 = .ok (.iaload, 1) := by decide +kernel
theorem dX9_number_182 : decode cX9_number 182 = .ok (.goto 38, 3) := by decide +kernel
theorem dX9_number_185 : decode cX9_number 185 = .ok (.iload_n 1, 1) := by decide +kernel
theorem dX9_number_186 : decode cX9_number 186 = .ok (.bipush 23, 2) := by decide +kernel
theorem dX9_number_188 : decode cX9_number 188 = .ok (.if_icmp .ge 19, 3) := by decide +kernel
theorem dX9_number_191 : decode cX9_number 191 = .ok (.aload_n 0, 1) := by decide +kernel
theorem dX9_number_192 : decode cX9_number 192 = .ok (.getfield 7, 3) := by decide +kernel
theorem dX9_number_195 : decode cX9_number 195 = .ok (.sipush 161, 3) := by decide +kernel
theorem dX9_number_198 : decode cX9_number 198 = .ok (.iload_n 1, 1) := by decide +kernel
theorem dX9_number_199 : decode cX9_number 199 = .ok (.iadd, 1) := by decide +kernel
theorem dX9_number_200 : decode cX9_number 200 = .ok (.bipush 15, 2) := by decide +kernel
theorem dX9_number_202 : decode cX9_number 202 = .ok (.isub, 1) := by decide +kernel
theorem dX9_number_203 : decode cX9_number 203 = .ok (.iaload, 1) := by decide +kernel
theorem dX9_number_204 : decode cX9_number 204 = .ok (.goto 16, 3) := by decide +kernel
theorem dX9_number_207 : decode cX9_number 207 = .ok (.aload_n 0, 1) := by decide +kernel
theorem dX9_number_208 : decode cX9_number 208 = .ok (.getfield 7, 3) := by decide +kernel
theorem dX9_number_211 : decode cX9_number 211 = .ok (.sipush 190, 3) := by decide +kernel
theorem dX9_number_214 : decode cX9_number 214 = .ok (.iload_n 1, 1) := by decide +kernel
theorem dX9_number_215 : decode cX9_number 215 = .ok (.iadd, 1) := by decide +kernel
theorem dX9_number_216 : decode cX9_number 216 = .ok (.bipush 24, 2) := by decide +kernel
theorem dX9_number_218 : decode cX9_number 218 = .ok (.isub, 1) := by decide +kernel
theorem dX9_number_219 : decode cX9_number 219 = .ok (.iaload, 1) := by decide +kernel
theorem dX9_number_220 : decode cX9_number 220 = .ok (.ireturn, 1) := by decide +kernel
set_option maxRecDepth 20000 in
theorem ggX9_count_X9_in : GoodIn wsX9_count wsX9_in := goodIn_r _ [4] (by decide +kernel) (by decide +kernel)
set_option maxRecDepth 20000 in
theorem gX9_count_X9_in : GoodIn wsX9_count (va_wsS RX9 43 yX9_in wsX9_in) := goodIn_app (goodIn_of _ (by decide +kernel)) ggX9_count_X9_in
set_option maxRecDepth 20000 in
theorem ggX9_count_X9_number : GoodIn wsX9_count wsX9_number := goodIn_r _ [8, 9, 10, 11, 12, 13, 3, 14, 15, 16, 17, 18, 19, 20, 21, 22, 23, 24, 25, 26, 27, 28, 29, 30, 31, 32, 33, 34, 35, 36, 37, 38, 39, 40, 41, 42, 43, 44, 45, 46] (by decide +kernel) (by decide +kernel)
set_option maxRecDepth 20000 in
theorem gX9_count_X9_number : GoodIn wsX9_count (wsV RX9 177 RX9 yX9_number wsX9_number) := goodIn_app (goodIn_of _ (by decide +kernel)) ggX9_count_X9_number
theorem dX9_count_0 : decode cX9_count 0 = .ok (.iload_n 1, 1) := by decide +kernel
theorem dX9_count_1 : decode cX9_count 1 = .ok (.iconst 0, 1) := by decide +kernel
theorem dX9_count_2 : decode cX9_count 2 = .ok (.bipush 31, 2) := by decide +kernel
theorem dX9_count_4 : decode cX9_count 4 = .ok (.invokestatic 43, 3) := by decide +kernel
theorem dX9_count_7 : decode cX9_count 7 = .ok (.ifCond .eq 11, 3) := by decide +kernel
theorem dX9_count_10 : decode cX9_count 10 = .ok (.aload_n 0, 1) := by decide +kernel
theorem dX9_count_11 : decode cX9_count 11 = .ok (.iload_n 1, 1) := by decide +kernel
theorem dX9_count_12 : decode cX9_count 12 = .ok (.invokevirtual 177, 3) := by decide +kernel
theorem dX9_count_15 : decode cX9_count 15 = .ok (.goto 5, 3) := by decide +kernel
theorem dX9_count_18 : decode cX9_count 18 = .ok (.bipush (-2), 2) := by decide +kernel
theorem dX9_count_20 : decode cX9_count 20 = .ok (.ireturn, 1) := by decide +kernel
theorem dX9_mixes_0 : decode cX9_mixes 0 = .ok (.aload_n 0, 1) := by decide +kernel
theorem dX9_mixes_1 : decode cX9_mixes 1 = .ok (.ldc2_w 180, 3) := by decide +kernel
theorem dX9_mixes_4 : decode cX9_mixes 4 = .ok (.aload_n 0, 1) := by decide +kernel
theorem dX9_mixes_5 : decode cX9_mixes 5 = .ok (.getfield 182, 3) := by decide +kernel
theorem dX9_mixes_8 : decode cX9_mixes 8 = .ok (.lmul, 1) := by decide +kernel
theorem dX9_mixes_9 : decode cX9_mixes 9 = .ok (.lload_n 1, 1) := by decide +kernel
theorem dX9_mixes_10 : decode cX9_mixes 10 = .ok (.ladd, 1) := by decide +kernel
theorem dX9_mixes_11 : decode cX9_mixes 11 = .ok (.putfield 182, 3) := by decide +kernel
theorem dX9_mixes_14 : decode cX9_mixes 14 = .ok (.return_, 1) := by decide +kernel
set_option maxRecDepth 20000 in
theorem ggX9_digest_X9_number : GoodIn wsX9_digest wsX9_number := goodIn_r _ [10, 3, 4, 11, 12, 13, 9, 14, 15, 16, 17, 18, 19, 20, 21, 22, 104, 105, 106, 107, 108, 109, 110, 111, 112, 113, 114, 115, 116, 117, 118, 119, 120, 121, 122, 123, 124, 125, 126, 127] (by decide +kernel) (by decide +kernel)
set_option maxRecDepth 20000 in
theorem gX9_digest_X9_number : GoodIn wsX9_digest (wsV RX9 177 RX9 yX9_number wsX9_number) := goodIn_app (goodIn_of _ (by decide +kernel)) ggX9_digest_X9_number
set_option maxRecDepth 20000 in
theorem ggX9_digest_X9_mixes : GoodIn wsX9_digest wsX9_mixes := goodIn_r _ [26, 27, 2, 104, 105, 106, 107, 108, 109, 110, 111, 112, 113, 114, 115, 116, 117, 118, 119, 120, 121, 122, 123, 124, 125, 126, 127] (by decide +kernel) (by decide +kernel)
set_option maxRecDepth 20000 in
theorem gX9_digest_X9_mixes : GoodIn wsX9_digest (wsV RX9 188 RX9 yX9_mixes wsX9_mixes) := goodIn_app (goodIn_of _ (by decide +kernel)) ggX9_digest_X9_mixes
set_option maxRecDepth 20000 in
theorem ggX9_digest_X9_item : GoodIn wsX9_digest wsX9_item := goodIn_r _ [31, 3, 32, 33, 9, 34, 15, 16, 17, 18, 104, 105, 106, 107, 108, 109, 110, 111, 112, 113, 114, 115, 116, 117, 118, 119, 120, 121, 122, 123, 124, 125, 126, 127] (by decide +kernel) (by decide +kernel)
set_option maxRecDepth 20000 in
theorem gX9_digest_X9_item : GoodIn wsX9_digest (wsV RX9 192 RX9 yX9_item wsX9_item) := goodIn_app (goodIn_of _ (by decide +kernel)) ggX9_digest_X9_item
set_option maxRecDepth 20000 in
theorem ggX9_digest_X9_pitch : GoodIn wsX9_digest wsX9_pitch := goodIn_r _ [38, 39, 40, 41, 42, 43, 44, 45, 46, 47, 48, 49, 50, 51, 104, 105, 106, 107, 108, 109, 110, 111, 112, 113, 114, 115, 116, 117, 118, 119, 120, 121, 122, 123, 124, 125, 126, 127] (by decide +kernel) (by decide +kernel)
set_option maxRecDepth 20000 in
theorem gX9_digest_X9_pitch : GoodIn wsX9_digest (wsV RX9 196 RX9 yX9_pitch wsX9_pitch) := goodIn_app (goodIn_of _ (by decide +kernel)) ggX9_digest_X9_pitch
set_option maxRecDepth 20000 in
theorem ggX9_digest_X9_foretell : GoodIn wsX9_digest wsX9_foretell := goodIn_r _ [55, 32, 33, 9, 34, 56, 57, 58, 59, 60, 61, 62, 63, 64, 3, 39, 65, 66, 67, 68, 69, 70, 71, 72, 73, 74, 75, 76, 77, 78, 79, 80, 81, 82, 83, 84, 85, 86, 87, 88, 89, 90, 91, 92, 93, 94, 95, 96, 97, 98, 99, 100, 101, 102, 103, 104, 105, 106, 107, 108, 109, 110, 111, 112, 113, 114, 115, 116, 117, 118, 119, 120, 121, 122, 123, 124, 125, 126, 127] (by decide +kernel) (by decide +kernel)
set_option maxRecDepth 20000 in
theorem gX9_digest_X9_foretell : GoodIn wsX9_digest (wsV RX9 198 RX9 yX9_foretell wsX9_foretell) := goodIn_app (goodIn_of _ (by decide +kernel)) ggX9_digest_X9_foretell
theorem dX9_digest_0 : decode cX9_digest 0 = .ok (.aload_n 0, 1) := by decide +kernel
theorem dX9_digest_1 : decode cX9_digest 1 = .ok (.ldc2_w 186, 3) := by decide +kernel
theorem dX9_digest_4 : decode cX9_digest 4 = .ok (.putfield 182, 3) := by decide +kernel
theorem dX9_digest_7 : decode cX9_digest 7 = .ok (.iconst 0, 1) := by decide +kernel
theorem dX9_digest_8 : decode cX9_digest 8 = .ok (.istore_n 1, 1) := by decide +kernel
theorem dX9_digest_9 : decode cX9_digest 9 = .ok (.iload_n 1, 1) := by decide +kernel
theorem dX9_digest_10 : decode cX9_digest 10 = .ok (.bipush 32, 2) := by decide +kernel
theorem dX9_digest_12 : decode cX9_digest 12 = .ok (.if_icmp .ge 19, 3) := by decide +kernel
theorem dX9_digest_15 : decode cX9_digest 15 = .ok (.aload_n 0, 1) := by decide +kernel
theorem dX9_digest_16 : decode cX9_digest 16 = .ok (.aload_n 0, 1) := by decide +kernel
theorem dX9_digest_17 : decode cX9_digest 17 = .ok (.iload_n 1, 1) := by decide +kernel
theorem dX9_digest_18 : decode cX9_digest 18 = .ok (.invokevirtual 177, 3) := by decide +kernel
theorem dX9_digest_21 : decode cX9_digest 21 = .ok (.i2l, 1) := by decide +kernel
theorem dX9_digest_22 : decode cX9_digest 22 = .ok (.invokevirtual 188, 3) := by decide +kernel
theorem dX9_digest_25 : decode cX9_digest 25 = .ok (.iinc 1 1, 3) := by decide +kernel
theorem dX9_digest_28 : decode cX9_digest 28 = .ok (.goto (-19), 3) := by decide +kernel
theorem dX9_digest_31 : decode cX9_digest 31 = .ok (.iconst 0, 1) := by decide +kernel
theorem dX9_digest_32 : decode cX9_digest 32 = .ok (.istore_n 1, 1) := by decide +kernel
theorem dX9_digest_33 : decode cX9_digest 33 = .ok (.iload_n 1, 1) := by decide +kernel
theorem dX9_digest_34 : decode cX9_digest 34 = .ok (.iconst 3, 1) := by decide +kernel
theorem dX9_digest_35 : decode cX9_digest 35 = .ok (.aload_n 0, 1) := by decide +kernel
theorem dX9_digest_36 : decode cX9_digest 36 = .ok (.getfield 7, 3) := by decide +kernel
theorem dX9_digest_39 : decode cX9_digest 39 = .ok (.iconst 0, 1) := by decide +kernel
theorem dX9_digest_40 : decode cX9_digest 40 = .ok (.iaload, 1) := by decide +kernel
theorem dX9_digest_41 : decode cX9_digest 41 = .ok (.imul, 1) := by decide +kernel
theorem dX9_digest_42 : decode cX9_digest 42 = .ok (.if_icmp .ge 24, 3) := by decide +kernel
theorem dX9_digest_45 : decode cX9_digest 45 = .ok (.aload_n 0, 1) := by decide +kernel
theorem dX9_digest_46 : decode cX9_digest 46 = .ok (.aload_n 0, 1) := by decide +kernel
theorem dX9_digest_47 : decode cX9_digest 47 = .ok (.iload_n 1, 1) := by decide +kernel
theorem dX9_digest_48 : decode cX9_digest 48 = .ok (.iconst 3, 1) := by decide +kernel
theorem dX9_digest_49 : decode cX9_digest 49 = .ok (.idiv, 1) := by decide +kernel
theorem dX9_digest_50 : decode cX9_digest 50 = .ok (.iload_n 1, 1) := by decide +kernel
theorem dX9_digest_51 : decode cX9_digest 51 = .ok (.iconst 3, 1) := by decide +kernel
theorem dX9_digest_52 : decode cX9_digest 52 = .ok (.irem, 1) := by decide +kernel
theorem dX9_digest_53 : decode cX9_digest 53 = .ok (.invokevirtual 192, 3) := by decide +kernel
theorem dX9_digest_56 : decode cX9_digest 56 = .ok (.i2l, 1) := by decide +kernel
theorem dX9_digest_57 : decode cX9_digest 57 = .ok (.invokevirtual 188, 3) := by decide +kernel
theorem dX9_digest_60 : decode cX9_digest 60 = .ok (.iinc 1 1, 3) := by decide +kernel
theorem dX9_digest_63 : decode cX9_digest 63 = .ok (.goto (-30), 3) := by decide +kernel
theorem dX9_digest_66 : decode cX9_digest 66 = .ok (.aload_n 0, 1) := by decide +kernel
theorem dX9_digest_67 : decode cX9_digest 67 = .ok (.aload_n 0, 1) := by decide +kernel
theorem dX9_digest_68 : decode cX9_digest 68 = .ok (.invokevirtual 196, 3) := by decide +kernel
theorem dX9_digest_71 : decode cX9_digest 71 = .ok (.i2l, 1) := by decide +kernel
theorem dX9_digest_72 : decode cX9_digest 72 = .ok (.invokevirtual 188, 3) := by decide +kernel
theorem dX9_digest_75 : decode cX9_digest 75 = .ok (.iconst 0, 1) := by decide +kernel
theorem dX9_digest_76 : decode cX9_digest 76 = .ok (.istore_n 1, 1) := by decide +kernel
theorem dX9_digest_77 : decode cX9_digest 77 = .ok (.iload_n 1, 1) := by decide +kernel
theorem dX9_digest_78 : decode cX9_digest 78 = .ok (.aload_n 0, 1) := by decide +kernel
theorem dX9_digest_79 : decode cX9_digest 79 = .ok (.getfield 7, 3) := by decide +kernel
theorem dX9_digest_82 : decode cX9_digest 82 = .ok (.sipush 170, 3) := by decide +kernel
theorem dX9_digest_85 : decode cX9_digest 85 = .ok (.iaload, 1) := by decide +kernel
theorem dX9_digest_86 : decode cX9_digest 86 = .ok (.if_icmp .ge 24, 3) := by decide +kernel
theorem dX9_digest_89 : decode cX9_digest 89 = .ok (.aload_n 0, 1) := by decide +kernel
theorem dX9_digest_90 : decode cX9_digest 90 = .ok (.aload_n 0, 1) := by decide +kernel
theorem dX9_digest_91 : decode cX9_digest 91 = .ok (.getfield 7, 3) := by decide +kernel
theorem dX9_digest_94 : decode cX9_digest 94 = .ok (.sipush 171, 3) := by decide +kernel
theorem dX9_digest_97 : decode cX9_digest 97 = .ok (.iload_n 1, 1) := by decide +kernel
theorem dX9_digest_98 : decode cX9_digest 98 = .ok (.iadd, 1) := by decide +kernel
theorem dX9_digest_99 : decode cX9_digest 99 = .ok (.iaload, 1) := by decide +kernel
theorem dX9_digest_100 : decode cX9_digest 100 = .ok (.i2l, 1) := by decide +kernel
theorem dX9_digest_101 : decode cX9_digest 101 = .ok (.invokevirtual 188, 3) := by decide +kernel
theorem dX9_digest_104 : decode cX9_digest 104 = .ok (.iinc 1 1, 3) := by decide +kernel
theorem dX9_digest_107 : decode cX9_digest 107 = .ok (.goto (-30), 3) := by decide +kernel
theorem dX9_digest_110 : decode cX9_digest 110 = .ok (.iconst 0, 1) := by decide +kernel
theorem dX9_digest_111 : decode cX9_digest 111 = .ok (.istore_n 1, 1) := by decide +kernel
theorem dX9_digest_112 : decode cX9_digest 112 = .ok (.iload_n 1, 1) := by decide +kernel
theorem dX9_digest_113 : decode cX9_digest 113 = .ok (.bipush 6, 2) := by decide +kernel
theorem dX9_digest_115 : decode cX9_digest 115 = .ok (.if_icmp .ge 24, 3) := by decide +kernel
theorem dX9_digest_118 : decode cX9_digest 118 = .ok (.aload_n 0, 1) := by decide +kernel
theorem dX9_digest_119 : decode cX9_digest 119 = .ok (.aload_n 0, 1) := by decide +kernel
theorem dX9_digest_120 : decode cX9_digest 120 = .ok (.getfield 7, 3) := by decide +kernel
theorem dX9_digest_123 : decode cX9_digest 123 = .ok (.sipush 198, 3) := by decide +kernel
theorem dX9_digest_126 : decode cX9_digest 126 = .ok (.iload_n 1, 1) := by decide +kernel
theorem dX9_digest_127 : decode cX9_digest 127 = .ok (.iadd, 1) := by decide +kernel
theorem dX9_digest_128 : decode cX9_digest 128 = .ok (.iaload, 1) := by decide +kernel
theorem dX9_digest_129 : decode cX9_digest 129 = .ok (.i2l, 1) := by decide +kernel
theorem dX9_digest_130 : decode cX9_digest 130 = .ok (.invokevirtual 188, 3) := by decide +kernel
theorem dX9_digest_133 : decode cX9_digest 133 = .ok (.iinc 1 1, 3) := by decide +kernel
theorem dX9_digest_136 : decode cX9_digest 136 = .ok (.goto (-24), 3) := by decide +kernel
theorem dX9_digest_139 : decode cX9_digest 139 = .ok (.iconst 0, 1) := by decide +kernel
theorem dX9_digest_140 : decode cX9_digest 140 = .ok (.istore_n 1, 1) := by decide +kernel
theorem dX9_digest_141 : decode cX9_digest 141 = .ok (.iload_n 1, 1) := by decide +kernel
theorem dX9_digest_142 : decode cX9_digest 142 = .ok (.iconst 4, 1) := by decide +kernel
theorem dX9_digest_143 : decode cX9_digest 143 = .ok (.if_icmp .ge 24, 3) := by decide +kernel
theorem dX9_digest_146 : decode cX9_digest 146 = .ok (.aload_n 0, 1) := by decide +kernel
theorem dX9_digest_147 : decode cX9_digest 147 = .ok (.aload_n 0, 1) := by decide +kernel
theorem dX9_digest_148 : decode cX9_digest 148 = .ok (.bipush 20, 2) := by decide +kernel
theorem dX9_digest_150 : decode cX9_digest 150 = .ok (.sipush 300, 3) := by decide +kernel
theorem dX9_digest_153 : decode cX9_digest 153 = .ok (.iload_n 1, 1) := by decide +kernel
theorem dX9_digest_154 : decode cX9_digest 154 = .ok (.invokevirtual 198, 3) := by decide +kernel
