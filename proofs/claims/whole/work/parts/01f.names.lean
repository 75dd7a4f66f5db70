theorem dX9_readsPart_55 : decode cX9_readsPart 55 = .ok (.aload_n 0, 1) := by decide +kernel
theorem dX9_readsPart_56 : decode cX9_readsPart 56 = .ok (.getfield 61, 3) := by decide +kernel
theorem dX9_readsPart_59 : decode cX9_readsPart 59 = .ok (.iconst (-1), 1) := by decide +kernel
theorem dX9_readsPart_60 : decode cX9_readsPart 60 = .ok (.if_icmp .ne 22, 3) := by decide +kernel
theorem dX9_readsPart_63 : decode cX9_readsPart 63 = .ok (.aload_n 0, 1) := by decide +kernel
theorem dX9_readsPart_64 : decode cX9_readsPart 64 = .ok (.invokevirtual 54, 3) := by decide +kernel
theorem dX9_readsPart_67 : decode cX9_readsPart 67 = .ok (.invokestatic 71, 3) := by decide +kernel
theorem dX9_readsPart_70 : decode cX9_readsPart 70 = .ok (.iconst (-1), 1) := by decide +kernel
theorem dX9_readsPart_71 : decode cX9_readsPart 71 = .ok (.if_icmp .eq 11, 3) := by decide +kernel
theorem dX9_readsPart_74 : decode cX9_readsPart 74 = .ok (.aload_n 0, 1) := by decide +kernel
theorem dX9_readsPart_75 : decode cX9_readsPart 75 = .ok (.iload_n 1, 1) := by decide +kernel
theorem dX9_readsPart_76 : decode cX9_readsPart 76 = .ok (.invokevirtual 85, 3) := by decide +kernel
theorem dX9_readsPart_79 : decode cX9_readsPart 79 = .ok (.goto 76, 3) := by decide +kernel
theorem dX9_readsPart_82 : decode cX9_readsPart 82 = .ok (.aload_n 0, 1) := by decide +kernel
theorem dX9_readsPart_83 : decode cX9_readsPart 83 = .ok (.getfield 61, 3) := by decide +kernel
theorem dX9_readsPart_86 : decode cX9_readsPart 86 = .ok (.iconst (-1), 1) := by decide +kernel
theorem dX9_readsPart_87 : decode cX9_readsPart 87 = .ok (.if_icmp .ne 60, 3) := by decide +kernel
theorem dX9_readsPart_90 : decode cX9_readsPart 90 = .ok (.aload_n 0, 1) := by decide +kernel
theorem dX9_readsPart_91 : decode cX9_readsPart 91 = .ok (.invokevirtual 54, 3) := by decide +kernel
theorem dX9_readsPart_94 : decode cX9_readsPart 94 = .ok (.bipush 40, 2) := by decide +kernel
theorem dX9_readsPart_96 : decode cX9_readsPart 96 = .ok (.if_icmp .ne 51, 3) := by decide +kernel
theorem dX9_readsPart_99 : decode cX9_readsPart 99 = .ok (.aload_n 0, 1) := by decide +kernel
theorem dX9_readsPart_100 : decode cX9_readsPart 100 = .ok (.getfield 88, 3) := by decide +kernel
theorem dX9_readsPart_103 : decode cX9_readsPart 103 = .ok (.iconst 3, 1) := by decide +kernel
theorem dX9_readsPart_104 : decode cX9_readsPart 104 = .ok (.if_icmp .ge 43, 3) := by decide +kernel
theorem dX9_readsPart_107 : decode cX9_readsPart 107 = .ok (.aload_n 0, 1) := by decide +kernel
theorem dX9_readsPart_108 : decode cX9_readsPart 108 = .ok (.getfield 37, 3) := by decide +kernel
theorem dX9_readsPart_111 : decode cX9_readsPart 111 = .ok (.aload_n 0, 1) := by decide +kernel
theorem dX9_readsPart_112 : decode cX9_readsPart 112 = .ok (.getfield 88, 3) := by decide +kernel
theorem dX9_readsPart_115 : decode cX9_readsPart 115 = .ok (.iload_n 1, 1) := by decide +kernel
theorem dX9_readsPart_116 : decode cX9_readsPart 116 = .ok (.iastore, 1) := by decide +kernel
theorem dX9_readsPart_117 : decode cX9_readsPart 117 = .ok (.aload_n 0, 1) := by decide +kernel
theorem dX9_readsPart_118 : decode cX9_readsPart 118 = .ok (.getfield 40, 3) := by decide +kernel
theorem dX9_readsPart_121 : decode cX9_readsPart 121 = .ok (.aload_n 0, 1) := by decide +kernel
theorem dX9_readsPart_122 : decode cX9_readsPart 122 = .ok (.getfield 88, 3) := by decide +kernel
theorem dX9_readsPart_125 : decode cX9_readsPart 125 = .ok (.aload_n 0, 1) := by decide +kernel
theorem dX9_readsPart_126 : decode cX9_readsPart 126 = .ok (.getfield 68, 3) := by decide +kernel
theorem dX9_readsPart_129 : decode cX9_readsPart 129 = .ok (.iastore, 1) := by decide +kernel
theorem dX9_readsPart_130 : decode cX9_readsPart 130 = .ok (.aload_n 0, 1) := by decide +kernel
theorem dX9_readsPart_131 : decode cX9_readsPart 131 = .ok (.dup, 1) := by decide +kernel
theorem dX9_readsPart_132 : decode cX9_readsPart 132 = .ok (.getfield 88, 3) := by decide +kernel
theorem dX9_readsPart_135 : decode cX9_readsPart 135 = .ok (.iconst 1, 1) := by decide +kernel
theorem dX9_readsPart_136 : decode cX9_readsPart 136 = .ok (.iadd, 1) := by decide +kernel
theorem dX9_readsPart_137 : decode cX9_readsPart 137 = .ok (.putfield 88, 3) := by decide +kernel
theorem dX9_readsPart_140 : decode cX9_readsPart 140 = .ok (.aload_n 0, 1) := by decide +kernel
theorem dX9_readsPart_141 : decode cX9_readsPart 141 = .ok (.invokevirtual 75, 3) := by decide +kernel
theorem dX9_readsPart_144 : decode cX9_readsPart 144 = .ok (.goto 11, 3) := by decide +kernel
theorem dX9_readsPart_147 : decode cX9_readsPart 147 = .ok (.aload_n 0, 1) := by decide +kernel
theorem dX9_readsPart_148 : decode cX9_readsPart 148 = .ok (.aload_n 0, 1) := by decide +kernel
theorem dX9_readsPart_149 : decode cX9_readsPart 149 = .ok (.getfield 51, 3) := by decide +kernel
theorem dX9_readsPart_152 : decode cX9_readsPart 152 = .ok (.invokevirtual 64, 3) := by decide +kernel
theorem dX9_readsPart_155 : decode cX9_readsPart 155 = .ok (.return_, 1) := by decide +kernel
set_option maxRecDepth 20000 in
theorem ggX9_reads_X9_skips : GoodIn wsX9_reads wsX9_skips := goodIn_r _ [12, 1, 13, 14, 15, 11, 16, 5, 17, 50, 51, 52, 53, 54, 55, 56, 57, 58, 59, 60, 61, 62, 63, 64, 65, 66, 67, 68, 69, 70, 71, 72, 73] (by decide +kernel) (by decide +kernel)
set_option maxRecDepth 20000 in
theorem gX9_reads_X9_skips : GoodIn wsX9_reads (wsV RX9 58 RX9 yX9_skips wsX9_skips) := goodIn_app (goodIn_of _ (by decide +kernel)) ggX9_reads_X9_skips
set_option maxRecDepth 20000 in
theorem ggX9_reads_X9_next : GoodIn wsX9_reads wsX9_next := goodIn_r _ [16, 1, 5, 17, 50, 51, 52, 53, 54, 55, 56, 57, 58, 59, 60, 61, 62, 63, 64, 65, 66, 67, 68, 69, 70, 71, 72, 73] (by decide +kernel) (by decide +kernel)
set_option maxRecDepth 20000 in
theorem gX9_reads_X9_next : GoodIn wsX9_reads (wsV RX9 54 RX9 yX9_next wsX9_next) := goodIn_app (goodIn_of _ (by decide +kernel)) ggX9_reads_X9_next
set_option maxRecDepth 20000 in
theorem ggX9_reads_X9_passes : GoodIn wsX9_reads wsX9_passes := goodIn_r _ [21, 1, 8, 9, 10, 11, 12, 13, 14, 15, 16, 5, 17, 50, 51, 52, 53, 54, 55, 56, 57, 58, 59, 60, 61, 62, 63, 64, 65, 66, 67, 68, 69, 70, 71, 72, 73] (by decide +kernel) (by decide +kernel)
set_option maxRecDepth 20000 in
theorem gX9_reads_X9_passes : GoodIn wsX9_reads (wsV RX9 75 RX9 yX9_passes wsX9_passes) := goodIn_app (goodIn_of _ (by decide +kernel)) ggX9_reads_X9_passes
set_option maxRecDepth 20000 in
theorem ggX9_reads_X9_repeats : GoodIn wsX9_reads wsX9_repeats := goodIn_r _ [25, 3, 26, 27, 50, 51, 52, 53, 54, 55, 56, 57, 58, 59, 60, 61, 62, 63, 64, 65, 66, 67, 68, 69, 70, 71, 72, 73] (by decide +kernel) (by decide +kernel)
set_option maxRecDepth 20000 in
theorem gX9_reads_X9_repeats : GoodIn wsX9_reads (wsV RX9 81 RX9 yX9_repeats wsX9_repeats) := goodIn_app (goodIn_of _ (by decide +kernel)) ggX9_reads_X9_repeats
set_option maxRecDepth 20000 in
theorem ggX9_reads_X9_readsPart : GoodIn wsX9_reads wsX9_readsPart := goodIn_r _ [31, 2, 1, 4, 7, 6, 3, 13, 14, 15, 11, 16, 5, 17, 32, 33, 34, 35, 36, 37, 38, 39, 40, 41, 42, 8, 9, 10, 12, 18, 19, 20, 21, 43, 44, 45, 46, 47, 48, 49, 26, 27, 22, 23, 24, 25, 50, 51, 52, 53, 54, 55, 56, 57, 58, 59, 60, 61, 62, 63, 64, 65, 66, 67, 68, 69, 70, 71, 72, 73] (by decide +kernel) (by decide +kernel)
set_option maxRecDepth 20000 in
theorem gX9_reads_X9_readsPart : GoodIn wsX9_reads (wsV RX9 91 RX9 yX9_readsPart wsX9_readsPart) := goodIn_app (goodIn_of _ (by decide +kernel)) ggX9_reads_X9_readsPart
set_option maxRecDepth 20000 in
theorem ggX9_reads_X9_fails : GoodIn wsX9_reads wsX9_fails := goodIn_r _ [42, 2, 50, 51, 52, 53, 54, 55, 56, 57, 58, 59, 60, 61, 62, 63, 64, 65, 66, 67, 68, 69, 70, 71, 72, 73] (by decide +kernel) (by decide +kernel)
set_option maxRecDepth 20000 in
theorem gX9_reads_X9_fails : GoodIn wsX9_reads (wsV RX9 64 RX9 yX9_fails wsX9_fails) := goodIn_app (goodIn_of _ (by decide +kernel)) ggX9_reads_X9_fails
theorem dX9_reads_0 : decode cX9_reads 0 = .ok (.aload_n 0, 1) := by decide +kernel
theorem dX9_reads_1 : decode cX9_reads 1 = .ok (.iconst 0, 1) := by decide +kernel
theorem dX9_reads_2 : decode cX9_reads 2 = .ok (.putfield 51, 3) := by decide +kernel
theorem dX9_reads_5 : decode cX9_reads 5 = .ok (.aload_n 0, 1) := by decide +kernel
theorem dX9_reads_6 : decode cX9_reads 6 = .ok (.iconst (-1), 1) := by decide +kernel
theorem dX9_reads_7 : decode cX9_reads 7 = .ok (.putfield 61, 3) := by decide +kernel
theorem dX9_reads_10 : decode cX9_reads 10 = .ok (.aload_n 0, 1) := by decide +kernel
theorem dX9_reads_11 : decode cX9_reads 11 = .ok (.iconst 0, 1) := by decide +kernel
theorem dX9_reads_12 : decode cX9_reads 12 = .ok (.putfield 68, 3) := by decide +kernel
theorem dX9_reads_15 : decode cX9_reads 15 = .ok (.aload_n 0, 1) := by decide +kernel
theorem dX9_reads_16 : decode cX9_reads 16 = .ok (.iconst 0, 1) := by decide +kernel
theorem dX9_reads_17 : decode cX9_reads 17 = .ok (.putfield 88, 3) := by decide +kernel
theorem dX9_reads_20 : decode cX9_reads 20 = .ok (.aload_n 0, 1) := by decide +kernel
theorem dX9_reads_21 : decode cX9_reads 21 = .ok (.invokevirtual 58, 3) := by decide +kernel
theorem dX9_reads_24 : decode cX9_reads 24 = .ok (.aload_n 0, 1) := by decide +kernel
theorem dX9_reads_25 : decode cX9_reads 25 = .ok (.getfield 51, 3) := by decide +kernel
theorem dX9_reads_28 : decode cX9_reads 28 = .ok (.aload_n 0, 1) := by decide +kernel
theorem dX9_reads_29 : decode cX9_reads 29 = .ok (.getfield 47, 3) := by decide +kernel
theorem dX9_reads_32 : decode cX9_reads 32 = .ok (.if_icmp .ge 89, 3) := by decide +kernel
theorem dX9_reads_35 : decode cX9_reads 35 = .ok (.aload_n 0, 1) := by decide +kernel
theorem dX9_reads_36 : decode cX9_reads 36 = .ok (.getfield 61, 3) := by decide +kernel
theorem dX9_reads_39 : decode cX9_reads 39 = .ok (.iconst (-1), 1) := by decide +kernel
theorem dX9_reads_40 : decode cX9_reads 40 = .ok (.if_icmp .ne 81, 3) := by decide +kernel
theorem dX9_reads_43 : decode cX9_reads 43 = .ok (.aload_n 0, 1) := by decide +kernel
theorem dX9_reads_44 : decode cX9_reads 44 = .ok (.invokevirtual 54, 3) := by decide +kernel
theorem dX9_reads_47 : decode cX9_reads 47 = .ok (.bipush 41, 2) := by decide +kernel
theorem dX9_reads_49 : decode cX9_reads 49 = .ok (.if_icmp .ne 65, 3) := by decide +kernel
theorem dX9_reads_52 : decode cX9_reads 52 = .ok (.aload_n 0, 1) := by decide +kernel
theorem dX9_reads_53 : decode cX9_reads 53 = .ok (.getfield 88, 3) := by decide +kernel
theorem dX9_reads_56 : decode cX9_reads 56 = .ok (.ifCond .le 58, 3) := by decide +kernel
theorem dX9_reads_59 : decode cX9_reads 59 = .ok (.aload_n 0, 1) := by decide +kernel
theorem dX9_reads_60 : decode cX9_reads 60 = .ok (.dup, 1) := by decide +kernel
theorem dX9_reads_61 : decode cX9_reads 61 = .ok (.getfield 88, 3) := by decide +kernel
theorem dX9_reads_64 : decode cX9_reads 64 = .ok (.iconst 1, 1) := by decide +kernel
theorem dX9_reads_65 : decode cX9_reads 65 = .ok (.isub, 1) := by decide +kernel
theorem dX9_reads_66 : decode cX9_reads 66 = .ok (.putfield 88, 3) := by decide +kernel
theorem dX9_reads_69 : decode cX9_reads 69 = .ok (.aload_n 0, 1) := by decide +kernel
theorem dX9_reads_70 : decode cX9_reads 70 = .ok (.invokevirtual 75, 3) := by decide +kernel
theorem dX9_reads_73 : decode cX9_reads 73 = .ok (.aload_n 0, 1) := by decide +kernel
theorem dX9_reads_74 : decode cX9_reads 74 = .ok (.getfield 68, 3) := by decide +kernel
theorem dX9_reads_77 : decode cX9_reads 77 = .ok (.aload_n 0, 1) := by decide +kernel
theorem dX9_reads_78 : decode cX9_reads 78 = .ok (.getfield 40, 3) := by decide +kernel
theorem dX9_reads_81 : decode cX9_reads 81 = .ok (.aload_n 0, 1) := by decide +kernel
theorem dX9_reads_82 : decode cX9_reads 82 = .ok (.getfield 88, 3) := by decide +kernel
theorem dX9_reads_85 : decode cX9_reads 85 = .ok (.iaload, 1) := by decide +kernel
theorem dX9_reads_86 : decode cX9_reads 86 = .ok (.if_icmp .le (-62), 3) := by decide +kernel
theorem dX9_reads_89 : decode cX9_reads 89 = .ok (.aload_n 0, 1) := by decide +kernel
theorem dX9_reads_90 : decode cX9_reads 90 = .ok (.aload_n 0, 1) := by decide +kernel
theorem dX9_reads_91 : decode cX9_reads 91 = .ok (.getfield 40, 3) := by decide +kernel
theorem dX9_reads_94 : decode cX9_reads 94 = .ok (.aload_n 0, 1) := by decide +kernel
theorem dX9_reads_95 : decode cX9_reads 95 = .ok (.getfield 88, 3) := by decide +kernel
theorem dX9_reads_98 : decode cX9_reads 98 = .ok (.iaload, 1) := by decide +kernel
theorem dX9_reads_99 : decode cX9_reads 99 = .ok (.aload_n 0, 1) := by decide +kernel
theorem dX9_reads_100 : decode cX9_reads 100 = .ok (.getfield 37, 3) := by decide +kernel
theorem dX9_reads_103 : decode cX9_reads 103 = .ok (.aload_n 0, 1) := by decide +kernel
theorem dX9_reads_104 : decode cX9_reads 104 = .ok (.getfield 88, 3) := by decide +kernel
theorem dX9_reads_107 : decode cX9_reads 107 = .ok (.iaload, 1) := by decide +kernel
theorem dX9_reads_108 : decode cX9_reads 108 = .ok (.invokevirtual 81, 3) := by decide +kernel
theorem dX9_reads_111 : decode cX9_reads 111 = .ok (.goto (-87), 3) := by decide +kernel
theorem dX9_reads_114 : decode cX9_reads 114 = .ok (.aload_n 0, 1) := by decide +kernel
theorem dX9_reads_115 : decode cX9_reads 115 = .ok (.invokevirtual 91, 3) := by decide +kernel
theorem dX9_reads_118 : decode cX9_reads 118 = .ok (.goto (-94), 3) := by decide +kernel
theorem dX9_reads_121 : decode cX9_reads 121 = .ok (.aload_n 0, 1) := by decide +kernel
theorem dX9_reads_122 : decode cX9_reads 122 = .ok (.getfield 88, 3) := by decide +kernel
theorem dX9_reads_125 : decode cX9_reads 125 = .ok (.ifCond .le 11, 3) := by decide +kernel
theorem dX9_reads_128 : decode cX9_reads 128 = .ok (.aload_n 0, 1) := by decide +kernel
theorem dX9_reads_129 : decode cX9_reads 129 = .ok (.aload_n 0, 1) := by decide +kernel
theorem dX9_reads_130 : decode cX9_reads 130 = .ok (.getfield 47, 3) := by decide +kernel
theorem dX9_reads_133 : decode cX9_reads 133 = .ok (.invokevirtual 64, 3) := by decide +kernel
theorem dX9_reads_136 : decode cX9_reads 136 = .ok (.return_, 1) := by decide +kernel
set_option maxRecDepth 20000 in
theorem ggX9_load_X9_reads : GoodIn wsX9_load wsX9_reads := goodIn_r _ [10, 11, 1, 3, 12, 13, 14, 15, 16, 17, 18, 9, 19, 20, 21, 22, 23, 24, 25, 26, 27, 28, 29, 30, 31, 32, 4, 5, 33, 34, 35, 36, 37, 38, 39, 40, 41, 42, 43, 44, 45, 46, 47, 48, 49, 50, 51, 52, 53, 54, 55, 56, 57, 58, 59, 60, 61, 62, 63, 64, 65, 66, 67, 68, 69, 70, 71, 72, 73, 74, 75, 76, 77, 78] (by decide +kernel) (by decide +kernel)
set_option maxRecDepth 20000 in
theorem gX9_load_X9_reads : GoodIn wsX9_load (wsV RX9 94 RX9 yX9_reads wsX9_reads) := goodIn_app (goodIn_of _ (by decide +kernel)) ggX9_load_X9_reads
theorem dX9_load_0 : decode cX9_load 0 = .ok (.aload_n 0, 1) := by decide +kernel
theorem dX9_load_1 : decode cX9_load 1 = .ok (.invokevirtual 94, 3) := by decide +kernel
theorem dX9_load_4 : decode cX9_load 4 = .ok (.aload_n 0, 1) := by decide +kernel
theorem dX9_load_5 : decode cX9_load 5 = .ok (.getfield 61, 3) := by decide +kernel
theorem dX9_load_8 : decode cX9_load 8 = .ok (.iconst (-1), 1) := by decide +kernel
theorem dX9_load_9 : decode cX9_load 9 = .ok (.if_icmp .eq 12, 3) := by decide +kernel
theorem dX9_load_12 : decode cX9_load 12 = .ok (.sipush (-2000), 3) := by decide +kernel
theorem dX9_load_15 : decode cX9_load 15 = .ok (.aload_n 0, 1) := by decide +kernel
theorem dX9_load_16 : decode cX9_load 16 = .ok (.getfield 61, 3) := by decide +kernel
theorem dX9_load_19 : decode cX9_load 19 = .ok (.isub, 1) := by decide +kernel
theorem dX9_load_20 : decode cX9_load 20 = .ok (.ireturn, 1) := by decide +kernel
theorem dX9_load_21 : decode cX9_load 21 = .ok (.aload_n 0, 1) := by decide +kernel
theorem dX9_load_22 : decode cX9_load 22 = .ok (.getfield 7, 3) := by decide +kernel
theorem dX9_load_25 : decode cX9_load 25 = .ok (.iconst 0, 1) := by decide +kernel
theorem dX9_load_26 : decode cX9_load 26 = .ok (.iaload, 1) := by decide +kernel
theorem dX9_load_27 : decode cX9_load 27 = .ok (.aload_n 0, 1) := by decide +kernel
theorem dX9_load_28 : decode cX9_load 28 = .ok (.getfield 68, 3) := by decide +kernel
theorem dX9_load_31 : decode cX9_load 31 = .ok (.iadd, 1) := by decide +kernel
theorem dX9_load_32 : decode cX9_load 32 = .ok (.bipush 80, 2) := by decide +kernel
theorem dX9_load_34 : decode cX9_load 34 = .ok (.if_icmp .le 6, 3) := by decide +kernel
theorem dX9_load_37 : decode cX9_load 37 = .ok (.bipush (-4), 2) := by decide +kernel
theorem dX9_load_39 : decode cX9_load 39 = .ok (.ireturn, 1) := by decide +kernel
theorem dX9_load_40 : decode cX9_load 40 = .ok (.iconst 0, 1) := by decide +kernel
theorem dX9_load_41 : decode cX9_load 41 = .ok (.istore_n 1, 1) := by decide +kernel
theorem dX9_load_42 : decode cX9_load 42 = .ok (.iload_n 1, 1) := by decide +kernel
theorem dX9_load_43 : decode cX9_load 43 = .ok (.aload_n 0, 1) := by decide +kernel
theorem dX9_load_44 : decode cX9_load 44 = .ok (.getfield 68, 3) := by decide +kernel
theorem dX9_load_47 : decode cX9_load 47 = .ok (.if_icmp .ge 58, 3) := by decide +kernel
theorem dX9_load_50 : decode cX9_load 50 = .ok (.aload_n 0, 1) := by decide +kernel
theorem dX9_load_51 : decode cX9_load 51 = .ok (.getfield 7, 3) := by decide +kernel
theorem dX9_load_54 : decode cX9_load 54 = .ok (.iconst 1, 1) := by decide +kernel
theorem dX9_load_55 : decode cX9_load 55 = .ok (.aload_n 0, 1) := by decide +kernel
theorem dX9_load_56 : decode cX9_load 56 = .ok (.getfield 7, 3) := by decide +kernel
theorem dX9_load_59 : decode cX9_load 59 = .ok (.iconst 0, 1) := by decide +kernel
theorem dX9_load_60 : decode cX9_load 60 = .ok (.iaload, 1) := by decide +kernel
theorem dX9_load_61 : decode cX9_load 61 = .ok (.iadd, 1) := by decide +kernel
theorem dX9_load_62 : decode cX9_load 62 = .ok (.aload_n 0, 1) := by decide +kernel
theorem dX9_load_63 : decode cX9_load 63 = .ok (.getfield 31, 3) := by decide +kernel
theorem dX9_load_66 : decode cX9_load 66 = .ok (.iload_n 1, 1) := by decide +kernel
theorem dX9_load_67 : decode cX9_load 67 = .ok (.iaload, 1) := by decide +kernel
theorem dX9_load_68 : decode cX9_load 68 = .ok (.iastore, 1) := by decide +kernel
theorem dX9_load_69 : decode cX9_load 69 = .ok (.aload_n 0, 1) := by decide +kernel
theorem dX9_load_70 : decode cX9_load 70 = .ok (.getfield 7, 3) := by decide +kernel
theorem dX9_load_73 : decode cX9_load 73 = .ok (.bipush 81, 2) := by decide +kernel
theorem dX9_load_75 : decode cX9_load 75 = .ok (.aload_n 0, 1) := by decide +kernel
theorem dX9_load_76 : decode cX9_load 76 = .ok (.getfield 7, 3) := by decide +kernel
theorem dX9_load_79 : decode cX9_load 79 = .ok (.iconst 0, 1) := by decide +kernel
theorem dX9_load_80 : decode cX9_load 80 = .ok (.iaload, 1) := by decide +kernel
theorem dX9_load_81 : decode cX9_load 81 = .ok (.iadd, 1) := by decide +kernel
theorem dX9_load_82 : decode cX9_load 82 = .ok (.aload_n 0, 1) := by decide +kernel
theorem dX9_load_83 : decode cX9_load 83 = .ok (.getfield 34, 3) := by decide +kernel
theorem dX9_load_86 : decode cX9_load 86 = .ok (.iload_n 1, 1) := by decide +kernel
theorem dX9_load_87 : decode cX9_load 87 = .ok (.iaload, 1) := by decide +kernel
theorem dX9_load_88 : decode cX9_load 88 = .ok (.iastore, 1) := by decide +kernel
theorem dX9_load_89 : decode cX9_load 89 = .ok (.aload_n 0, 1) := by decide +kernel
theorem dX9_load_90 : decode cX9_load 90 = .ok (.getfield 7, 3) := by decide +kernel
theorem dX9_load_93 : decode cX9_load 93 = .ok (.iconst 0, 1) := by decide +kernel
theorem dX9_load_94 : decode cX9_load 94 = .ok (.dup2, 1) := by decide +kernel
theorem dX9_load_95 : decode cX9_load 95 = .ok (.iaload, 1) := by decide +kernel
theorem dX9_load_96 : decode cX9_load 96 = .ok (.iconst 1, 1) := by decide +kernel
theorem dX9_load_97 : decode cX9_load 97 = .ok (.iadd, 1) := by decide +kernel
theorem dX9_load_98 : decode cX9_load 98 = .ok (.iastore, 1) := by decide +kernel
theorem dX9_load_99 : decode cX9_load 99 = .ok (.iinc 1 1, 3) := by decide +kernel
theorem dX9_load_102 : decode cX9_load 102 = .ok (.goto (-60), 3) := by decide +kernel
theorem dX9_load_105 : decode cX9_load 105 = .ok (.aload_n 0, 1) := by decide +kernel
theorem dX9_load_106 : decode cX9_load 106 = .ok (.getfield 7, 3) := by decide +kernel
theorem dX9_load_109 : decode cX9_load 109 = .ok (.iconst 0, 1) := by decide +kernel
theorem dX9_load_110 : decode cX9_load 110 = .ok (.iaload, 1) := by decide +kernel
theorem dX9_load_111 : decode cX9_load 111 = .ok (.ireturn, 1) := by decide +kernel
theorem dX9_unload_0 : decode cX9_unload 0 = .ok (.aload_n 0, 1) := by decide +kernel
theorem dX9_unload_1 : decode cX9_unload 1 = .ok (.getfield 7, 3) := by decide +kernel
theorem dX9_unload_4 : decode cX9_unload 4 = .ok (.iconst 0, 1) := by decide +kernel
theorem dX9_unload_5 : decode cX9_unload 5 = .ok (.iaload, 1) := by decide +kernel
theorem dX9_unload_6 : decode cX9_unload 6 = .ok (.istore_n 1, 1) := by decide +kernel
theorem dX9_unload_7 : decode cX9_unload 7 = .ok (.aload_n 0, 1) := by decide +kernel
theorem dX9_unload_8 : decode cX9_unload 8 = .ok (.getfield 7, 3) := by decide +kernel
theorem dX9_unload_11 : decode cX9_unload 11 = .ok (.iconst 0, 1) := by decide +kernel
theorem dX9_unload_12 : decode cX9_unload 12 = .ok (.iconst 0, 1) := by decide +kernel
theorem dX9_unload_13 : decode cX9_unload 13 = .ok (.iastore, 1) := by decide +kernel
theorem dX9_unload_14 : decode cX9_unload 14 = .ok (.iload_n 1, 1) := by decide +kernel
theorem dX9_unload_15 : decode cX9_unload 15 = .ok (.ireturn, 1) := by decide +kernel
theorem dX9_lengthBefore_0 : decode cX9_lengthBefore 0 = .ok (.iconst 0, 1) := by decide +kernel
theorem dX9_lengthBefore_1 : decode cX9_lengthBefore 1 = .ok (.istore_n 2, 1) := by decide +kernel
theorem dX9_lengthBefore_2 : decode cX9_lengthBefore 2 = .ok (.iconst 0, 1) := by decide +kernel
theorem dX9_lengthBefore_3 : decode cX9_lengthBefore 3 = .ok (.istore_n 3, 1) := by decide +kernel
theorem dX9_lengthBefore_4 : decode cX9_lengthBefore 4 = .ok (.iload_n 3, 1) := by decide +kernel
theorem dX9_lengthBefore_5 : decode cX9_lengthBefore 5 = .ok (.iload_n 1, 1) := by decide +kernel
theorem dX9_lengthBefore_6 : decode cX9_lengthBefore 6 = .ok (.if_icmp .ge 21, 3) := by decide +kernel
theorem dX9_lengthBefore_9 : decode cX9_lengthBefore 9 = .ok (.iload_n 2, 1) := by decide +kernel
theorem dX9_lengthBefore_10 : decode cX9_lengthBefore 10 = .ok (.aload_n 0, 1) := by decide +kernel
theorem dX9_lengthBefore_11 : decode cX9_lengthBefore 11 = .ok (.getfield 7, 3) := by decide +kernel
theorem dX9_lengthBefore_14 : decode cX9_lengthBefore 14 = .ok (.bipush 81, 2) := by decide +kernel
theorem dX9_lengthBefore_16 : decode cX9_lengthBefore 16 = .ok (.iload_n 3, 1) := by decide +kernel
theorem dX9_lengthBefore_17 : decode cX9_lengthBefore 17 = .ok (.iadd, 1) := by decide +kernel
theorem dX9_lengthBefore_18 : decode cX9_lengthBefore 18 = .ok (.iaload, 1) := by decide +kernel
theorem dX9_lengthBefore_19 : decode cX9_lengthBefore 19 = .ok (.iadd, 1) := by decide +kernel
theorem dX9_lengthBefore_20 : decode cX9_lengthBefore 20 = .ok (.istore_n 2, 1) := by decide +kernel
theorem dX9_lengthBefore_21 : decode cX9_lengthBefore 21 = .ok (.iinc 3 1, 3) := by decide +kernel
theorem dX9_lengthBefore_24 : decode cX9_lengthBefore 24 = .ok (.goto (-20), 3) := by decide +kernel
theorem dX9_lengthBefore_27 : decode cX9_lengthBefore 27 = .ok (.iload_n 2, 1) := by decide +kernel
theorem dX9_lengthBefore_28 : decode cX9_lengthBefore 28 = .ok (.ireturn, 1) := by decide +kernel
set_option maxRecDepth 20000 in
theorem ggX9_item_X9_in : GoodIn wsX9_item wsX9_in := goodIn_r _ [5] (by decide +kernel) (by decide +kernel)
set_option maxRecDepth 20000 in
theorem gX9_item_X9_in : GoodIn wsX9_item (va_wsS RX9 43 yX9_in wsX9_in) := goodIn_app (goodIn_of _ (by decide +kernel)) ggX9_item_X9_in
set_option maxRecDepth 20000 in
theorem ggX9_item_X9_lengthBefore : GoodIn wsX9_item wsX9_lengthBefore := goodIn_r _ [9, 1, 10, 11, 12, 13, 14, 15, 16, 17, 18, 19, 20, 21, 22, 23, 24, 25, 26, 27, 28, 29, 30, 31, 32, 33] (by decide +kernel) (by decide +kernel)
set_option maxRecDepth 20000 in
theorem gX9_item_X9_lengthBefore : GoodIn wsX9_item (wsV RX9 97 RX9 yX9_lengthBefore wsX9_lengthBefore) := goodIn_app (goodIn_of _ (by decide +kernel)) ggX9_item_X9_lengthBefore
theorem dX9_item_0 : decode cX9_item 0 = .ok (.iload_n 1, 1) := by decide +kernel
theorem dX9_item_1 : decode cX9_item 1 = .ok (.ifCond .lt 12, 3) := by decide +kernel
theorem dX9_item_4 : decode cX9_item 4 = .ok (.iload_n 2, 1) := by decide +kernel
theorem dX9_item_5 : decode cX9_item 5 = .ok (.iconst 0, 1) := by decide +kernel
theorem dX9_item_6 : decode cX9_item 6 = .ok (.iconst 2, 1) := by decide +kernel
theorem dX9_item_7 : decode cX9_item 7 = .ok (.invokestatic 43, 3) := by decide +kernel
theorem dX9_item_10 : decode cX9_item 10 = .ok (.ifCond .ne 6, 3) := by decide +kernel
theorem dX9_item_13 : decode cX9_item 13 = .ok (.bipush (-2), 2) := by decide +kernel
theorem dX9_item_15 : decode cX9_item 15 = .ok (.ireturn, 1) := by decide +kernel
theorem dX9_item_16 : decode cX9_item 16 = .ok (.iload_n 1, 1) := by decide +kernel
theorem dX9_item_17 : decode cX9_item 17 = .ok (.aload_n 0, 1) := by decide +kernel
theorem dX9_item_18 : decode cX9_item 18 = .ok (.getfield 7, 3) := by decide +kernel
theorem dX9_item_21 : decode cX9_item 21 = .ok (.iconst 0, 1) := by decide +kernel
theorem dX9_item_22 : decode cX9_item 22 = .ok (.iaload, 1) := by decide +kernel
theorem dX9_item_23 : decode cX9_item 23 = .ok (.if_icmp .lt 5, 3) := by decide +kernel
theorem dX9_item_26 : decode cX9_item 26 = .ok (.iconst (-1), 1) := by decide +kernel
theorem dX9_item_27 : decode cX9_item 27 = .ok (.ireturn, 1) := by decide +kernel
theorem dX9_item_28 : decode cX9_item 28 = .ok (.iload_n 2, 1) := by decide +kernel
theorem dX9_item_29 : decode cX9_item 29 = .ok (.ifCond .ne 14, 3) := by decide +kernel
theorem dX9_item_32 : decode cX9_item 32 = .ok (.aload_n 0, 1) := by decide +kernel
theorem dX9_item_33 : decode cX9_item 33 = .ok (.getfield 7, 3) := by decide +kernel
theorem dX9_item_36 : decode cX9_item 36 = .ok (.iconst 1, 1) := by decide +kernel
theorem dX9_item_37 : decode cX9_item 37 = .ok (.iload_n 1, 1) := by decide +kernel
theorem dX9_item_38 : decode cX9_item 38 = .ok (.iadd, 1) := by decide +kernel
theorem dX9_item_39 : decode cX9_item 39 = .ok (.iaload, 1) := by decide +kernel
theorem dX9_item_40 : decode cX9_item 40 = .ok (.goto 25, 3) := by decide +kernel
theorem dX9_item_43 : decode cX9_item 43 = .ok (.iload_n 2, 1) := by decide +kernel
theorem dX9_item_44 : decode cX9_item 44 = .ok (.iconst 1, 1) := by decide +kernel
theorem dX9_item_45 : decode cX9_item 45 = .ok (.if_icmp .ne 15, 3) := by decide +kernel
theorem dX9_item_48 : decode cX9_item 48 = .ok (.aload_n 0, 1) := by decide +kernel
theorem dX9_item_49 : decode cX9_item 49 = .ok (.getfield 7, 3) := by decide +kernel
theorem dX9_item_52 : decode cX9_item 52 = .ok (.bipush 81, 2) := by decide +kernel
theorem dX9_item_54 : decode cX9_item 54 = .ok (.iload_n 1, 1) := by decide +kernel
theorem dX9_item_55 : decode cX9_item 55 = .ok (.iadd, 1) := by decide +kernel
theorem dX9_item_56 : decode cX9_item 56 = .ok (.iaload, 1) := by decide +kernel
theorem dX9_item_57 : decode cX9_item 57 = .ok (.goto 8, 3) := by decide +kernel
theorem dX9_item_60 : decode cX9_item 60 = .ok (.aload_n 0, 1) := by decide +kernel
theorem dX9_item_61 : decode cX9_item 61 = .ok (.iload_n 1, 1) := by decide +kernel
theorem dX9_item_62 : decode cX9_item 62 = .ok (.invokevirtual 97, 3) := by decide +kernel
theorem dX9_item_65 : decode cX9_item 65 = .ok (.ireturn, 1) := by decide +kernel
theorem dX9_least_0 : decode cX9_least 0 = .ok (.iload_n 0, 1) := by decide +kernel
theorem dX9_least_1 : decode cX9_least 1 = .ok (.iconst 2, 1) := by decide +kernel
theorem dX9_least_2 : decode cX9_least 2 = .ok (.if_icmp .ne 8, 3) := by decide +kernel
theorem dX9_least_5 : decode cX9_least 5 = .ok (.bipush 10, 2) := by decide +kernel
theorem dX9_least_7 : decode cX9_least 7 = .ok (.goto 24, 3) := by decide +kernel
theorem dX9_least_10 : decode cX9_least 10 = .ok (.iload_n 0, 1) := by decide +kernel
theorem dX9_least_11 : decode cX9_least 11 = .ok (.iconst 1, 1) := by decide +kernel
theorem dX9_least_12 : decode cX9_least 12 = .ok (.if_icmp .eq 14, 3) := by decide +kernel
theorem dX9_least_15 : decode cX9_least 15 = .ok (.iload_n 0, 1) := by decide +kernel
theorem dX9_least_16 : decode cX9_least 16 = .ok (.iconst 5, 1) := by decide +kernel
theorem dX9_least_17 : decode cX9_least 17 = .ok (.if_icmp .eq 9, 3) := by decide +kernel
theorem dX9_least_20 : decode cX9_least 20 = .ok (.iload_n 0, 1) := by decide +kernel
theorem dX9_least_21 : decode cX9_least 21 = .ok (.bipush 6, 2) := by decide +kernel
theorem dX9_least_23 : decode cX9_least 23 = .ok (.if_icmp .ne 7, 3) := by decide +kernel
theorem dX9_least_26 : decode cX9_least 26 = .ok (.iconst 0, 1) := by decide +kernel
theorem dX9_least_27 : decode cX9_least 27 = .ok (.goto 4, 3) := by decide +kernel
theorem dX9_least_30 : decode cX9_least 30 = .ok (.iconst 1, 1) := by decide +kernel
theorem dX9_least_31 : decode cX9_least 31 = .ok (.ireturn, 1) := by decide +kernel
theorem dX9_most_0 : decode cX9_most 0 = .ok (.iload_n 0, 1) := by decide +kernel
theorem dX9_most_1 : decode cX9_most 1 = .ok (.tableswitch 66 0 7 #[47, 50, 53, 66, 66, 57, 60, 63], 47) := by decide +kernel
theorem dX9_most_48 : decode cX9_most 48 = .ok (.bipush 30, 2) := by decide +kernel
theorem dX9_most_50 : decode cX9_most 50 = .ok (.ireturn, 1) := by decide +kernel
theorem dX9_most_51 : decode cX9_most 51 = .ok (.bipush 50, 2) := by decide +kernel
theorem dX9_most_53 : decode cX9_most 53 = .ok (.ireturn, 1) := by decide +kernel
theorem dX9_most_54 : decode cX9_most 54 = .ok (.sipush 400, 3) := by decide +kernel
theorem dX9_most_57 : decode cX9_most 57 = .ok (.ireturn, 1) := by decide +kernel
theorem dX9_most_58 : decode cX9_most 58 = .ok (.bipush 100, 2) := by decide +kernel
theorem dX9_most_60 : decode cX9_most 60 = .ok (.ireturn, 1) := by decide +kernel
theorem dX9_most_61 : decode cX9_most 61 = .ok (.bipush 8, 2) := by decide +kernel
theorem dX9_most_63 : decode cX9_most 63 = .ok (.ireturn, 1) := by decide +kernel
theorem dX9_most_64 : decode cX9_most 64 = .ok (.bipush 9, 2) := by decide +kernel
theorem dX9_most_66 : decode cX9_most 66 = .ok (.ireturn, 1) := by decide +kernel
theorem dX9_most_67 : decode cX9_most 67 = .ok (.sipush 1000, 3) := by decide +kernel
theorem dX9_most_70 : decode cX9_most 70 = .ok (.ireturn, 1) := by decide +kernel
set_option maxRecDepth 20000 in
theorem ggX9_set_X9_in : GoodIn wsX9_set wsX9_in := goodIn_r _ [5] (by decide +kernel) (by decide +kernel)
set_option maxRecDepth 20000 in
theorem gX9_set_X9_in : GoodIn wsX9_set (va_wsS RX9 43 yX9_in wsX9_in) := goodIn_app (goodIn_of _ (by decide +kernel)) ggX9_set_X9_in
set_option maxRecDepth 20000 in
theorem ggX9_set_X9_least : GoodIn wsX9_set wsX9_least := goodIn_r _ [8] (by decide +kernel) (by decide +kernel)
set_option maxRecDepth 20000 in
theorem gX9_set_X9_least : GoodIn wsX9_set (va_wsS RX9 100 yX9_least wsX9_least) := goodIn_app (goodIn_of _ (by decide +kernel)) ggX9_set_X9_least
set_option maxRecDepth 20000 in
theorem ggX9_set_X9_most : GoodIn wsX9_set wsX9_most := goodIn_r _ [11] (by decide +kernel) (by decide +kernel)
set_option maxRecDepth 20000 in
theorem gX9_set_X9_most : GoodIn wsX9_set (va_wsS RX9 103 yX9_most wsX9_most) := goodIn_app (goodIn_of _ (by decide +kernel)) ggX9_set_X9_most
theorem dX9_set_0 : decode cX9_set 0 = .ok (.iload_n 1, 1) := by decide +kernel
theorem dX9_set_1 : decode cX9_set 1 = .ok (.iconst 0, 1) := by decide +kernel
theorem dX9_set_2 : decode cX9_set 2 = .ok (.bipush 7, 2) := by decide +kernel
theorem dX9_set_4 : decode cX9_set 4 = .ok (.invokestatic 43, 3) := by decide +kernel
theorem dX9_set_7 : decode cX9_set 7 = .ok (.ifCond .eq 18, 3) := by decide +kernel
theorem dX9_set_10 : decode cX9_set 10 = .ok (.iload_n 2, 1) := by decide +kernel
theorem dX9_set_11 : decode cX9_set 11 = .ok (.iload_n 1, 1) := by decide +kernel
theorem dX9_set_12 : decode cX9_set 12 = .ok (.invokestatic 100, 3) := by decide +kernel
theorem dX9_set_15 : decode cX9_set 15 = .ok (.iload_n 1, 1) := by decide +kernel
theorem dX9_set_16 : decode cX9_set 16 = .ok (.invokestatic 103, 3) := by decide +kernel
theorem dX9_set_19 : decode cX9_set 19 = .ok (.invokestatic 43, 3) := by decide +kernel
theorem dX9_set_22 : decode cX9_set 22 = .ok (.ifCond .ne 6, 3) := by decide +kernel
theorem dX9_set_25 : decode cX9_set 25 = .ok (.bipush (-2), 2) := by decide +kernel
theorem dX9_set_27 : decode cX9_set 27 = .ok (.ireturn, 1) := by decide +kernel
theorem dX9_set_28 : decode cX9_set 28 = .ok (.aload_n 0, 1) := by decide +kernel
theorem dX9_set_29 : decode cX9_set 29 = .ok (.getfield 7, 3) := by decide +kernel
theorem dX9_set_32 : decode cX9_set 32 = .ok (.sipush 161, 3) := by decide +kernel
theorem dX9_set_35 : decode cX9_set 35 = .ok (.iload_n 1, 1) := by decide +kernel
theorem dX9_set_36 : decode cX9_set 36 = .ok (.iadd, 1) := by decide +kernel
theorem dX9_set_37 : decode cX9_set 37 = .ok (.iaload, 1) := by decide +kernel
theorem dX9_set_38 : decode cX9_set 38 = .ok (.istore_n 3, 1) := by decide +kernel
theorem dX9_set_39 : decode cX9_set 39 = .ok (.aload_n 0, 1) := by decide +kernel
theorem dX9_set_40 : decode cX9_set 40 = .ok (.getfield 7, 3) := by decide +kernel
theorem dX9_set_43 : decode cX9_set 43 = .ok (.sipush 161, 3) := by decide +kernel
theorem dX9_set_46 : decode cX9_set 46 = .ok (.iload_n 1, 1) := by decide +kernel
theorem dX9_set_47 : decode cX9_set 47 = .ok (.iadd, 1) := by decide +kernel
theorem dX9_set_48 : decode cX9_set 48 = .ok (.iload_n 2, 1) := by decide +kernel
theorem dX9_set_49 : decode cX9_set 49 = .ok (.iastore, 1) := by decide +kernel
theorem dX9_set_50 : decode cX9_set 50 = .ok (.iload_n 3, 1) := by decide +kernel
theorem dX9_set_51 : decode cX9_set 51 = .ok (.ireturn, 1) := by decide +kernel
set_option maxRecDepth 20000 in
theorem ggX9_setPitch_X9_in : GoodIn wsX9_setPitch wsX9_in := goodIn_r _ [6] (by decide +kernel) (by decide +kernel)
set_option maxRecDepth 20000 in
theorem gX9_setPitch_X9_in : GoodIn wsX9_setPitch (va_wsS RX9 43 yX9_in wsX9_in) := goodIn_app (goodIn_of _ (by decide +kernel)) ggX9_setPitch_X9_in
set_option maxRecDepth 20000 in
theorem ggX9_setPitch_Jxf58ca_floatToIntBits_5c35a : GoodIn wsX9_setPitch wsJxf58ca_floatToIntBits_5c35a := goodIn_r _ [10, 11, 12, 13, 14, 15, 16, 17, 9, 18] (by decide +kernel) (by decide +kernel)
set_option maxRecDepth 20000 in
theorem gX9_setPitch_Jxf58ca_floatToIntBits_5c35a : GoodIn wsX9_setPitch (va_wsS RX9 106 yJxf58ca_floatToIntBits_5c35a wsJxf58ca_floatToIntBits_5c35a) := goodIn_app (goodIn_of _ (by decide +kernel)) ggX9_setPitch_Jxf58ca_floatToIntBits_5c35a
theorem dX9_setPitch_0 : decode cX9_setPitch 0 = .ok (.iload_n 1, 1) := by decide +kernel
theorem dX9_setPitch_1 : decode cX9_setPitch 1 = .ok (.bipush 10, 2) := by decide +kernel
theorem dX9_setPitch_3 : decode cX9_setPitch 3 = .ok (.sipush 2000, 3) := by decide +kernel
theorem dX9_setPitch_6 : decode cX9_setPitch 6 = .ok (.invokestatic 43, 3) := by decide +kernel
theorem dX9_setPitch_9 : decode cX9_setPitch 9 = .ok (.ifCond .ne 6, 3) := by decide +kernel
theorem dX9_setPitch_12 : decode cX9_setPitch 12 = .ok (.bipush (-2), 2) := by decide +kernel
theorem dX9_setPitch_14 : decode cX9_setPitch 14 = .ok (.ireturn, 1) := by decide +kernel
theorem dX9_setPitch_15 : decode cX9_setPitch 15 = .ok (.aload_n 0, 1) := by decide +kernel
theorem dX9_setPitch_16 : decode cX9_setPitch 16 = .ok (.getfield 24, 3) := by decide +kernel
theorem dX9_setPitch_19 : decode cX9_setPitch 19 = .ok (.invokestatic 106, 3) := by decide +kernel
theorem dX9_setPitch_22 : decode cX9_setPitch 22 = .ok (.istore_n 2, 1) := by decide +kernel
theorem dX9_setPitch_23 : decode cX9_setPitch 23 = .ok (.aload_n 0, 1) := by decide +kernel
theorem dX9_setPitch_24 : decode cX9_setPitch 24 = .ok (.iload_n 1, 1) := by decide +kernel
theorem dX9_setPitch_25 : decode cX9_setPitch 25 = .ok (.i2f, 1) := by decide +kernel
theorem dX9_setPitch_26 : decode cX9_setPitch 26 = .ok (.ldc 112, 2) := by decide +kernel
theorem dX9_setPitch_28 : decode cX9_setPitch 28 = .ok (.fdiv, 1) := by decide +kernel
theorem dX9_setPitch_29 : decode cX9_setPitch 29 = .ok (.putfield 24, 3) := by decide +kernel
theorem dX9_setPitch_32 : decode cX9_setPitch 32 = .ok (.iload_n 2, 1) := by decide +kernel
theorem dX9_setPitch_33 : decode cX9_setPitch 33 = .ok (.ireturn, 1) := by decide +kernel
theorem dX9_leaves_0 : decode cX9_leaves 0 = .ok (.aload_n 0, 1) := by decide +kernel
theorem dX9_leaves_1 : decode cX9_leaves 1 = .ok (.getfield 7, 3) := by decide +kernel
theorem dX9_leaves_4 : decode cX9_leaves 4 = .ok (.sipush 182, 3) := by decide +kernel
theorem dX9_leaves_7 : decode cX9_leaves 7 = .ok (.dup2, 1) := by decide +kernel
theorem dX9_leaves_8 : decode cX9_leaves 8 = .ok (.iaload, 1) := by decide +kernel
theorem dX9_leaves_9 : decode cX9_leaves 9 = .ok (.iload_n 1, 1) := by decide +kernel
theorem dX9_leaves_10 : decode cX9_leaves 10 = .ok (.ifCond .ne 7, 3) := by decide +kernel
theorem dX9_leaves_13 : decode cX9_leaves 13 = .ok (.iconst 1, 1) := by decide +kernel
theorem dX9_leaves_14 : decode cX9_leaves 14 = .ok (.goto 4, 3) := by decide +kernel
theorem dX9_leaves_17 : decode cX9_leaves 17 = .ok (.iconst 0, 1) := by decide +kernel
theorem dX9_leaves_18 : decode cX9_leaves 18 = .ok (.iadd, 1) := by decide +kernel
theorem dX9_leaves_19 : decode cX9_leaves 19 = .ok (.iastore, 1) := by decide +kernel
theorem dX9_leaves_20 : decode cX9_leaves 20 = .ok (.aload_n 0, 1) := by decide +kernel
theorem dX9_leaves_21 : decode cX9_leaves 21 = .ok (.getfield 7, 3) := by decide +kernel
theorem dX9_leaves_24 : decode cX9_leaves 24 = .ok (.sipush 183, 3) := by decide +kernel
theorem dX9_leaves_27 : decode cX9_leaves 27 = .ok (.dup2, 1) := by decide +kernel
theorem dX9_leaves_28 : decode cX9_leaves 28 = .ok (.iaload, 1) := by decide +kernel
theorem dX9_leaves_29 : decode cX9_leaves 29 = .ok (.iload_n 1, 1) := by decide +kernel
theorem dX9_leaves_30 : decode cX9_leaves 30 = .ok (.ifCond .le 7, 3) := by decide +kernel
theorem dX9_leaves_33 : decode cX9_leaves 33 = .ok (.iconst 1, 1) := by decide +kernel
theorem dX9_leaves_34 : decode cX9_leaves 34 = .ok (.goto 4, 3) := by decide +kernel
theorem dX9_leaves_37 : decode cX9_leaves 37 = .ok (.iconst 0, 1) := by decide +kernel
theorem dX9_leaves_38 : decode cX9_leaves 38 = .ok (.iadd, 1) := by decide +kernel
theorem dX9_leaves_39 : decode cX9_leaves 39 = .ok (.iastore, 1) := by decide +kernel
theorem dX9_leaves_40 : decode cX9_leaves 40 = .ok (.return_, 1) := by decide +kernel
set_option maxRecDepth 20000 in
theorem ggX9_setRing_X9_in : GoodIn wsX9_setRing wsX9_in := goodIn_r _ [5] (by decide +kernel) (by decide +kernel)
set_option maxRecDepth 20000 in
theorem gX9_setRing_X9_in : GoodIn wsX9_setRing (va_wsS RX9 43 yX9_in wsX9_in) := goodIn_app (goodIn_of _ (by decide +kernel)) ggX9_setRing_X9_in
set_option maxRecDepth 20000 in
theorem ggX9_setRing_X9_leaves : GoodIn wsX9_setRing wsX9_leaves := goodIn_r _ [9, 1, 10, 11, 12, 13, 14, 15, 16, 17, 18, 19, 20, 21, 22, 23, 24, 25, 26, 27, 28, 29, 30, 31, 32, 33] (by decide +kernel) (by decide +kernel)
set_option maxRecDepth 20000 in
theorem gX9_setRing_X9_leaves : GoodIn wsX9_setRing (wsV RX9 113 RX9 yX9_leaves wsX9_leaves) := goodIn_app (goodIn_of _ (by decide +kernel)) ggX9_setRing_X9_leaves
theorem dX9_setRing_0 : decode cX9_setRing 0 = .ok (.iload_n 1, 1) := by decide +kernel
theorem dX9_setRing_1 : decode cX9_setRing 1 = .ok (.iconst 1, 1) := by decide +kernel
theorem dX9_setRing_2 : decode cX9_setRing 2 = .ok (.bipush 10, 2) := by decide +kernel
theorem dX9_setRing_4 : decode cX9_setRing 4 = .ok (.invokestatic 43, 3) := by decide +kernel
theorem dX9_setRing_7 : decode cX9_setRing 7 = .ok (.ifCond .ne 6, 3) := by decide +kernel
theorem dX9_setRing_10 : decode cX9_setRing 10 = .ok (.bipush (-2), 2) := by decide +kernel
theorem dX9_setRing_12 : decode cX9_setRing 12 = .ok (.ireturn, 1) := by decide +kernel
theorem dX9_setRing_13 : decode cX9_setRing 13 = .ok (.iconst 0, 1) := by decide +kernel
theorem dX9_setRing_14 : decode cX9_setRing 14 = .ok (.istore_n 2, 1) := by decide +kernel
theorem dX9_setRing_15 : decode cX9_setRing 15 = .ok (.aload_n 0, 1) := by decide +kernel
theorem dX9_setRing_16 : decode cX9_setRing 16 = .ok (.getfield 7, 3) := by decide +kernel
theorem dX9_setRing_19 : decode cX9_setRing 19 = .ok (.sipush 170, 3) := by decide +kernel
theorem dX9_setRing_22 : decode cX9_setRing 22 = .ok (.iaload, 1) := by decide +kernel
theorem dX9_setRing_23 : decode cX9_setRing 23 = .ok (.iconst 1, 1) := by decide +kernel
theorem dX9_setRing_24 : decode cX9_setRing 24 = .ok (.isub, 1) := by decide +kernel
theorem dX9_setRing_25 : decode cX9_setRing 25 = .ok (.istore_n 3, 1) := by decide +kernel
theorem dX9_setRing_26 : decode cX9_setRing 26 = .ok (.iload_n 3, 1) := by decide +kernel
theorem dX9_setRing_27 : decode cX9_setRing 27 = .ok (.ifCond .lt 56, 3) := by decide +kernel
theorem dX9_setRing_30 : decode cX9_setRing 30 = .ok (.iload_n 2, 1) := by decide +kernel
theorem dX9_setRing_31 : decode cX9_setRing 31 = .ok (.aload_n 0, 1) := by decide +kernel
theorem dX9_setRing_32 : decode cX9_setRing 32 = .ok (.getfield 7, 3) := by decide +kernel
theorem dX9_setRing_35 : decode cX9_setRing 35 = .ok (.sipush 171, 3) := by decide +kernel
theorem dX9_setRing_38 : decode cX9_setRing 38 = .ok (.iload_n 3, 1) := by decide +kernel
theorem dX9_setRing_39 : decode cX9_setRing 39 = .ok (.iadd, 1) := by decide +kernel
theorem dX9_setRing_40 : decode cX9_setRing 40 = .ok (.iaload, 1) := by decide +kernel
theorem dX9_setRing_41 : decode cX9_setRing 41 = .ok (.iconst (-1), 1) := by decide +kernel
theorem dX9_setRing_42 : decode cX9_setRing 42 = .ok (.if_icmp .ne 7, 3) := by decide +kernel
theorem dX9_setRing_45 : decode cX9_setRing 45 = .ok (.iconst 0, 1) := by decide +kernel
theorem dX9_setRing_46 : decode cX9_setRing 46 = .ok (.goto 4, 3) := by decide +kernel
theorem dX9_setRing_49 : decode cX9_setRing 49 = .ok (.iconst 1, 1) := by decide +kernel
theorem dX9_setRing_50 : decode cX9_setRing 50 = .ok (.iadd, 1) := by decide +kernel
theorem dX9_setRing_51 : decode cX9_setRing 51 = .ok (.istore_n 2, 1) := by decide +kernel
theorem dX9_setRing_52 : decode cX9_setRing 52 = .ok (.aload_n 0, 1) := by decide +kernel
theorem dX9_setRing_53 : decode cX9_setRing 53 = .ok (.aload_n 0, 1) := by decide +kernel
theorem dX9_setRing_54 : decode cX9_setRing 54 = .ok (.getfield 7, 3) := by decide +kernel
theorem dX9_setRing_57 : decode cX9_setRing 57 = .ok (.sipush 171, 3) := by decide +kernel
theorem dX9_setRing_60 : decode cX9_setRing 60 = .ok (.iload_n 3, 1) := by decide +kernel
theorem dX9_setRing_61 : decode cX9_setRing 61 = .ok (.iadd, 1) := by decide +kernel
theorem dX9_setRing_62 : decode cX9_setRing 62 = .ok (.iaload, 1) := by decide +kernel
theorem dX9_setRing_63 : decode cX9_setRing 63 = .ok (.invokevirtual 113, 3) := by decide +kernel
theorem dX9_setRing_66 : decode cX9_setRing 66 = .ok (.aload_n 0, 1) := by decide +kernel
theorem dX9_setRing_67 : decode cX9_setRing 67 = .ok (.getfield 7, 3) := by decide +kernel
theorem dX9_setRing_70 : decode cX9_setRing 70 = .ok (.sipush 171, 3) := by decide +kernel
theorem dX9_setRing_73 : decode cX9_setRing 73 = .ok (.iload_n 3, 1) := by decide +kernel
theorem dX9_setRing_74 : decode cX9_setRing 74 = .ok (.iadd, 1) := by decide +kernel
theorem dX9_setRing_75 : decode cX9_setRing 75 = .ok (.iconst (-1), 1) := by decide +kernel
theorem dX9_setRing_76 : decode cX9_setRing 76 = .ok (.iastore, 1) := by decide +kernel
theorem dX9_setRing_77 : decode cX9_setRing 77 = .ok (.iinc 3 (-1), 3) := by decide +kernel
theorem dX9_setRing_80 : decode cX9_setRing 80 = .ok (.goto (-54), 3) := by decide +kernel
theorem dX9_setRing_83 : decode cX9_setRing 83 = .ok (.aload_n 0, 1) := by decide +kernel
theorem dX9_setRing_84 : decode cX9_setRing 84 = .ok (.getfield 7, 3) := by decide +kernel
theorem dX9_setRing_87 : decode cX9_setRing 87 = .ok (.sipush 170, 3) := by decide +kernel
theorem dX9_setRing_90 : decode cX9_setRing 90 = .ok (.iload_n 1, 1) := by decide +kernel
theorem dX9_setRing_91 : decode cX9_setRing 91 = .ok (.iastore, 1) := by decide +kernel
theorem dX9_setRing_92 : decode cX9_setRing 92 = .ok (.iload_n 2, 1) := by decide +kernel
theorem dX9_setRing_93 : decode cX9_setRing 93 = .ok (.ireturn, 1) := by decide +kernel
theorem dX9_follows_0 : decode cX9_follows 0 = .ok (.aload_n 0, 1) := by decide +kernel
theorem dX9_follows_1 : decode cX9_follows 1 = .ok (.getfield 7, 3) := by decide +kernel
theorem dX9_follows_4 : decode cX9_follows 4 = .ok (.sipush 169, 3) := by decide +kernel
theorem dX9_follows_7 : decode cX9_follows 7 = .ok (.iaload, 1) := by decide +kernel
theorem dX9_follows_8 : decode cX9_follows 8 = .ok (.aload_n 0, 1) := by decide +kernel
theorem dX9_follows_9 : decode cX9_follows 9 = .ok (.getfield 7, 3) := by decide +kernel
theorem dX9_follows_12 : decode cX9_follows 12 = .ok (.sipush 165, 3) := by decide +kernel
theorem dX9_follows_15 : decode cX9_follows 15 = .ok (.iaload, 1) := by decide +kernel
theorem dX9_follows_16 : decode cX9_follows 16 = .ok (.isub, 1) := by decide +kernel
theorem dX9_follows_17 : decode cX9_follows 17 = .ok (.istore_n 2, 1) := by decide +kernel
theorem dX9_follows_18 : decode cX9_follows 18 = .ok (.aload_n 0, 1) := by decide +kernel
theorem dX9_follows_19 : decode cX9_follows 19 = .ok (.getfield 7, 3) := by decide +kernel
theorem dX9_follows_22 : decode cX9_follows 22 = .ok (.sipush 169, 3) := by decide +kernel
theorem dX9_follows_25 : decode cX9_follows 25 = .ok (.iaload, 1) := by decide +kernel
theorem dX9_follows_26 : decode cX9_follows 26 = .ok (.aload_n 0, 1) := by decide +kernel
theorem dX9_follows_27 : decode cX9_follows 27 = .ok (.getfield 7, 3) := by decide +kernel
theorem dX9_follows_30 : decode cX9_follows 30 = .ok (.sipush 165, 3) := by decide +kernel
theorem dX9_follows_33 : decode cX9_follows 33 = .ok (.iaload, 1) := by decide +kernel
theorem dX9_follows_34 : decode cX9_follows 34 = .ok (.iadd, 1) := by decide +kernel
theorem dX9_follows_35 : decode cX9_follows 35 = .ok (.istore_n 3, 1) := by decide +kernel
theorem dX9_follows_36 : decode cX9_follows 36 = .ok (.iload_n 2, 1) := by decide +kernel
theorem dX9_follows_37 : decode cX9_follows 37 = .ok (.ifCond .ge 7, 3) := by decide +kernel
theorem dX9_follows_40 : decode cX9_follows 40 = .ok (.iconst 0, 1) := by decide +kernel
theorem dX9_follows_41 : decode cX9_follows 41 = .ok (.goto 4, 3) := by decide +kernel
theorem dX9_follows_44 : decode cX9_follows 44 = .ok (.iload_n 2, 1) := by decide +kernel
theorem dX9_follows_45 : decode cX9_follows 45 = .ok (.istore_n 2, 1) := by decide +kernel
theorem dX9_follows_46 : decode cX9_follows 46 = .ok (.iload_n 3, 1) := by decide +kernel
theorem dX9_follows_47 : decode cX9_follows 47 = .ok (.aload_n 0, 1) := by decide +kernel
theorem dX9_follows_48 : decode cX9_follows 48 = .ok (.getfield 7, 3) := by decide +kernel
theorem dX9_follows_51 : decode cX9_follows 51 = .ok (.sipush 164, 3) := by decide +kernel
theorem dX9_follows_54 : decode cX9_follows 54 = .ok (.iaload, 1) := by decide +kernel
theorem dX9_follows_55 : decode cX9_follows 55 = .ok (.if_icmp .le 14, 3) := by decide +kernel
theorem dX9_follows_58 : decode cX9_follows 58 = .ok (.aload_n 0, 1) := by decide +kernel
theorem dX9_follows_59 : decode cX9_follows 59 = .ok (.getfield 7, 3) := by decide +kernel
theorem dX9_follows_62 : decode cX9_follows 62 = .ok (.sipush 164, 3) := by decide +kernel
theorem dX9_follows_65 : decode cX9_follows 65 = .ok (.iaload, 1) := by decide +kernel
theorem dX9_follows_66 : decode cX9_follows 66 = .ok (.goto 4, 3) := by decide +kernel
theorem dX9_follows_69 : decode cX9_follows 69 = .ok (.iload_n 3, 1) := by decide +kernel
theorem dX9_follows_70 : decode cX9_follows 70 = .ok (.istore_n 3, 1) := by decide +kernel
theorem dX9_follows_71 : decode cX9_follows 71 = .ok (.aload_n 0, 1) := by decide +kernel
theorem dX9_follows_72 : decode cX9_follows 72 = .ok (.getfield 7, 3) := by decide +kernel
theorem dX9_follows_75 : decode cX9_follows 75 = .ok (.sipush 169, 3) := by decide +kernel
theorem dX9_follows_78 : decode cX9_follows 78 = .ok (.iload_n 2, 1) := by decide +kernel
theorem dX9_follows_79 : decode cX9_follows 79 = .ok (.iload_n 3, 1) := by decide +kernel
theorem dX9_follows_80 : decode cX9_follows 80 = .ok (.if_icmp .le 14, 3) := by decide +kernel
theorem dX9_follows_83 : decode cX9_follows 83 = .ok (.aload_n 0, 1) := by decide +kernel
theorem dX9_follows_84 : decode cX9_follows 84 = .ok (.getfield 7, 3) := by decide +kernel
theorem dX9_follows_87 : decode cX9_follows 87 = .ok (.sipush 164, 3) := by decide +kernel
theorem dX9_follows_90 : decode cX9_follows 90 = .ok (.iaload, 1) := by decide +kernel
theorem dX9_follows_91 : decode cX9_follows 91 = .ok (.goto 22, 3) := by decide +kernel
theorem dX9_follows_94 : decode cX9_follows 94 = .ok (.iload_n 1, 1) := by decide +kernel
theorem dX9_follows_95 : decode cX9_follows 95 = .ok (.iload_n 2, 1) := by decide +kernel
theorem dX9_follows_96 : decode cX9_follows 96 = .ok (.if_icmp .ge 7, 3) := by decide +kernel
theorem dX9_follows_99 : decode cX9_follows 99 = .ok (.iload_n 2, 1) := by decide +kernel
theorem dX9_follows_100 : decode cX9_follows 100 = .ok (.goto 13, 3) := by decide +kernel
theorem dX9_follows_103 : decode cX9_follows 103 = .ok (.iload_n 1, 1) := by decide +kernel
theorem dX9_follows_104 : decode cX9_follows 104 = .ok (.iload_n 3, 1) := by decide +kernel
theorem dX9_follows_105 : decode cX9_follows 105 = .ok (.if_icmp .le 7, 3) := by decide +kernel
theorem dX9_follows_108 : decode cX9_follows 108 = .ok (.iload_n 3, 1) := by decide +kernel
theorem dX9_follows_109 : decode cX9_follows 109 = .ok (.goto 4, 3) := by decide +kernel
theorem dX9_follows_112 : decode cX9_follows 112 = .ok (.iload_n 1, 1) := by decide +kernel
theorem dX9_follows_113 : decode cX9_follows 113 = .ok (.iastore, 1) := by decide +kernel
theorem dX9_follows_114 : decode cX9_follows 114 = .ok (.return_, 1) := by decide +kernel
theorem dX9_feeds_0 : decode cX9_feeds 0 = .ok (.aload_n 0, 1) := by decide +kernel
theorem dX9_feeds_1 : decode cX9_feeds 1 = .ok (.iconst 0, 1) := by decide +kernel
theorem dX9_feeds_2 : decode cX9_feeds 2 = .ok (.putfield 116, 3) := by decide +kernel
theorem dX9_feeds_5 : decode cX9_feeds 5 = .ok (.aload_n 0, 1) := by decide +kernel
theorem dX9_feeds_6 : decode cX9_feeds 6 = .ok (.iconst 0, 1) := by decide +kernel
theorem dX9_feeds_7 : decode cX9_feeds 7 = .ok (.putfield 119, 3) := by decide +kernel
theorem dX9_feeds_10 : decode cX9_feeds 10 = .ok (.aload_n 0, 1) := by decide +kernel
theorem dX9_feeds_11 : decode cX9_feeds 11 = .ok (.iconst 0, 1) := by decide +kernel
theorem dX9_feeds_12 : decode cX9_feeds 12 = .ok (.putfield 122, 3) := by decide +kernel
theorem dX9_feeds_15 : decode cX9_feeds 15 = .ok (.aload_n 0, 1) := by decide +kernel
theorem dX9_feeds_16 : decode cX9_feeds 16 = .ok (.iconst 0, 1) := by decide +kernel
theorem dX9_feeds_17 : decode cX9_feeds 17 = .ok (.putfield 125, 3) := by decide +kernel
theorem dX9_feeds_20 : decode cX9_feeds 20 = .ok (.aload_n 0, 1) := by decide +kernel
theorem dX9_feeds_21 : decode cX9_feeds 21 = .ok (.iconst 0, 1) := by decide +kernel
theorem dX9_feeds_22 : decode cX9_feeds 22 = .ok (.putfield 129, 3) := by decide +kernel
theorem dX9_feeds_25 : decode cX9_feeds 25 = .ok (.aload_n 0, 1) := by decide +kernel
theorem dX9_feeds_26 : decode cX9_feeds 26 = .ok (.getfield 129, 3) := by decide +kernel
theorem dX9_feeds_29 : decode cX9_feeds 29 = .ok (.ifCond .ne 189, 3) := by decide +kernel
theorem dX9_feeds_32 : decode cX9_feeds 32 = .ok (.aload_n 0, 1) := by decide +kernel
theorem dX9_feeds_33 : decode cX9_feeds 33 = .ok (.getfield 119, 3) := by decide +kernel
theorem dX9_feeds_36 : decode cX9_feeds 36 = .ok (.aload_n 0, 1) := by decide +kernel
theorem dX9_feeds_37 : decode cX9_feeds 37 = .ok (.getfield 7, 3) := by decide +kernel
theorem dX9_feeds_40 : decode cX9_feeds 40 = .ok (.iconst 0, 1) := by decide +kernel
theorem dX9_feeds_41 : decode cX9_feeds 41 = .ok (.iaload, 1) := by decide +kernel
theorem dX9_feeds_42 : decode cX9_feeds 42 = .ok (.if_icmp .ne 11, 3) := by decide +kernel
theorem dX9_feeds_45 : decode cX9_feeds 45 = .ok (.aload_n 0, 1) := by decide +kernel
theorem dX9_feeds_46 : decode cX9_feeds 46 = .ok (.iconst 3, 1) := by decide +kernel
theorem dX9_feeds_47 : decode cX9_feeds 47 = .ok (.putfield 129, 3) := by decide +kernel
theorem dX9_feeds_50 : decode cX9_feeds 50 = .ok (.goto (-25), 3) := by decide +kernel
theorem dX9_feeds_53 : decode cX9_feeds 53 = .ok (.aload_n 0, 1) := by decide +kernel
theorem dX9_feeds_54 : decode cX9_feeds 54 = .ok (.getfield 7, 3) := by decide +kernel
theorem dX9_feeds_57 : decode cX9_feeds 57 = .ok (.iconst 1, 1) := by decide +kernel
theorem dX9_feeds_58 : decode cX9_feeds 58 = .ok (.aload_n 0, 1) := by decide +kernel
theorem dX9_feeds_59 : decode cX9_feeds 59 = .ok (.getfield 119, 3) := by decide +kernel
theorem dX9_feeds_62 : decode cX9_feeds 62 = .ok (.iadd, 1) := by decide +kernel
theorem dX9_feeds_63 : decode cX9_feeds 63 = .ok (.iaload, 1) := by decide +kernel
theorem dX9_feeds_64 : decode cX9_feeds 64 = .ok (.istore_n 1, 1) := by decide +kernel
theorem dX9_feeds_65 : decode cX9_feeds 65 = .ok (.aload_n 0, 1) := by decide +kernel
theorem dX9_feeds_66 : decode cX9_feeds 66 = .ok (.getfield 7, 3) := by decide +kernel
theorem dX9_feeds_69 : decode cX9_feeds 69 = .ok (.bipush 81, 2) := by decide +kernel
theorem dX9_feeds_71 : decode cX9_feeds 71 = .ok (.aload_n 0, 1) := by decide +kernel
theorem dX9_feeds_72 : decode cX9_feeds 72 = .ok (.getfield 119, 3) := by decide +kernel
theorem dX9_feeds_75 : decode cX9_feeds 75 = .ok (.iadd, 1) := by decide +kernel
theorem dX9_feeds_76 : decode cX9_feeds 76 = .ok (.iaload, 1) := by decide +kernel
theorem dX9_feeds_77 : decode cX9_feeds 77 = .ok (.istore_n 2, 1) := by decide +kernel
theorem dX9_feeds_78 : decode cX9_feeds 78 = .ok (.aload_n 0, 1) := by decide +kernel
theorem dX9_feeds_79 : decode cX9_feeds 79 = .ok (.dup, 1) := by decide +kernel
theorem dX9_feeds_80 : decode cX9_feeds 80 = .ok (.getfield 119, 3) := by decide +kernel
theorem dX9_feeds_83 : decode cX9_feeds 83 = .ok (.iconst 1, 1) := by decide +kernel
theorem dX9_feeds_84 : decode cX9_feeds 84 = .ok (.iadd, 1) := by decide +kernel
theorem dX9_feeds_85 : decode cX9_feeds 85 = .ok (.putfield 119, 3) := by decide +kernel
theorem dX9_feeds_88 : decode cX9_feeds 88 = .ok (.aload_n 0, 1) := by decide +kernel
theorem dX9_feeds_89 : decode cX9_feeds 89 = .ok (.dup, 1) := by decide +kernel
theorem dX9_feeds_90 : decode cX9_feeds 90 = .ok (.getfield 116, 3) := by decide +kernel
theorem dX9_feeds_93 : decode cX9_feeds 93 = .ok (.iload_n 2, 1) := by decide +kernel
theorem dX9_feeds_94 : decode cX9_feeds 94 = .ok (.iadd, 1) := by decide +kernel
theorem dX9_feeds_95 : decode cX9_feeds 95 = .ok (.putfield 116, 3) := by decide +kernel
theorem dX9_feeds_98 : decode cX9_feeds 98 = .ok (.aload_n 0, 1) := by decide +kernel
theorem dX9_feeds_99 : decode cX9_feeds 99 = .ok (.dup, 1) := by decide +kernel
theorem dX9_feeds_100 : decode cX9_feeds 100 = .ok (.getfield 122, 3) := by decide +kernel
theorem dX9_feeds_103 : decode cX9_feeds 103 = .ok (.iload_n 1, 1) := by decide +kernel
theorem dX9_feeds_104 : decode cX9_feeds 104 = .ok (.ifCond .ne 7, 3) := by decide +kernel
theorem dX9_feeds_107 : decode cX9_feeds 107 = .ok (.iconst 1, 1) := by decide +kernel
theorem dX9_feeds_108 : decode cX9_feeds 108 = .ok (.goto 4, 3) := by decide +kernel
theorem dX9_feeds_111 : decode cX9_feeds 111 = .ok (.iconst 0, 1) := by decide +kernel
theorem dX9_feeds_112 : decode cX9_feeds 112 = .ok (.iadd, 1) := by decide +kernel
theorem dX9_feeds_113 : decode cX9_feeds 113 = .ok (.putfield 122, 3) := by decide +kernel
theorem dX9_feeds_116 : decode cX9_feeds 116 = .ok (.aload_n 0, 1) := by decide +kernel
theorem dX9_feeds_117 : decode cX9_feeds 117 = .ok (.aload_n 0, 1) := by decide +kernel
theorem dX9_feeds_118 : decode cX9_feeds 118 = .ok (.getfield 125, 3) := by decide +kernel
theorem dX9_feeds_121 : decode cX9_feeds 121 = .ok (.ifCond .ne 8, 3) := by decide +kernel
theorem dX9_feeds_124 : decode cX9_feeds 124 = .ok (.iload_n 1, 1) := by decide +kernel
theorem dX9_feeds_125 : decode cX9_feeds 125 = .ok (.iconst 3, 1) := by decide +kernel
theorem dX9_feeds_126 : decode cX9_feeds 126 = .ok (.if_icmp .ne 7, 3) := by decide +kernel
theorem dX9_feeds_129 : decode cX9_feeds 129 = .ok (.iconst 1, 1) := by decide +kernel
theorem dX9_feeds_130 : decode cX9_feeds 130 = .ok (.goto 4, 3) := by decide +kernel
theorem dX9_feeds_133 : decode cX9_feeds 133 = .ok (.iconst 0, 1) := by decide +kernel
theorem dX9_feeds_134 : decode cX9_feeds 134 = .ok (.putfield 125, 3) := by decide +kernel
theorem dX9_feeds_137 : decode cX9_feeds 137 = .ok (.iload_n 1, 1) := by decide +kernel
theorem dX9_feeds_138 : decode cX9_feeds 138 = .ok (.iconst 1, 1) := by decide +kernel
theorem dX9_feeds_139 : decode cX9_feeds 139 = .ok (.if_icmp .ne 42, 3) := by decide +kernel
theorem dX9_feeds_142 : decode cX9_feeds 142 = .ok (.iload_n 2, 1) := by decide +kernel
theorem dX9_feeds_143 : decode cX9_feeds 143 = .ok (.aload_n 0, 1) := by decide +kernel
theorem dX9_feeds_144 : decode cX9_feeds 144 = .ok (.getfield 7, 3) := by decide +kernel
theorem dX9_feeds_147 : decode cX9_feeds 147 = .ok (.sipush 161, 3) := by decide +kernel
theorem dX9_feeds_150 : decode cX9_feeds 150 = .ok (.iaload, 1) := by decide +kernel
theorem dX9_feeds_151 : decode cX9_feeds 151 = .ok (.if_icmp .lt 30, 3) := by decide +kernel
theorem dX9_feeds_154 : decode cX9_feeds 154 = .ok (.aload_n 0, 1) := by decide +kernel
theorem dX9_feeds_155 : decode cX9_feeds 155 = .ok (.getfield 116, 3) := by decide +kernel
theorem dX9_feeds_158 : decode cX9_feeds 158 = .ok (.i2f, 1) := by decide +kernel
theorem dX9_feeds_159 : decode cX9_feeds 159 = .ok (.aload_n 0, 1) := by decide +kernel
theorem dX9_feeds_160 : decode cX9_feeds 160 = .ok (.getfield 24, 3) := by decide +kernel
theorem dX9_feeds_163 : decode cX9_feeds 163 = .ok (.aload_n 0, 1) := by decide +kernel
theorem dX9_feeds_164 : decode cX9_feeds 164 = .ok (.getfield 7, 3) := by decide +kernel
theorem dX9_feeds_167 : decode cX9_feeds 167 = .ok (.sipush 162, 3) := by decide +kernel
theorem dX9_feeds_170 : decode cX9_feeds 170 = .ok (.iaload, 1) := by decide +kernel
theorem dX9_feeds_171 : decode cX9_feeds 171 = .ok (.i2f, 1) := by decide +kernel
theorem dX9_feeds_172 : decode cX9_feeds 172 = .ok (.fsub, 1) := by decide +kernel
theorem dX9_feeds_173 : decode cX9_feeds 173 = .ok (.fcmp .l, 1) := by decide +kernel
theorem dX9_feeds_174 : decode cX9_feeds 174 = .ok (.ifCond .lt 7, 3) := by decide +kernel
theorem dX9_feeds_177 : decode cX9_feeds 177 = .ok (.iconst 1, 1) := by decide +kernel
theorem dX9_feeds_178 : decode cX9_feeds 178 = .ok (.goto 4, 3) := by decide +kernel
theorem dX9_feeds_181 : decode cX9_feeds 181 = .ok (.iconst 0, 1) := by decide +kernel
theorem dX9_feeds_182 : decode cX9_feeds 182 = .ok (.istore_n 3, 1) := by decide +kernel
theorem dX9_feeds_183 : decode cX9_feeds 183 = .ok (.aload_n 0, 1) := by decide +kernel
theorem dX9_feeds_184 : decode cX9_feeds 184 = .ok (.iload_n 3, 1) := by decide +kernel
theorem dX9_feeds_185 : decode cX9_feeds 185 = .ok (.ifCond .eq 7, 3) := by decide +kernel
theorem dX9_feeds_188 : decode cX9_feeds 188 = .ok (.iconst 1, 1) := by decide +kernel
theorem dX9_feeds_189 : decode cX9_feeds 189 = .ok (.goto 23, 3) := by decide +kernel
theorem dX9_feeds_192 : decode cX9_feeds 192 = .ok (.aload_n 0, 1) := by decide +kernel
theorem dX9_feeds_193 : decode cX9_feeds 193 = .ok (.getfield 116, 3) := by decide +kernel
theorem dX9_feeds_196 : decode cX9_feeds 196 = .ok (.aload_n 0, 1) := by decide +kernel
theorem dX9_feeds_197 : decode cX9_feeds 197 = .ok (.getfield 7, 3) := by decide +kernel
theorem dX9_feeds_200 : decode cX9_feeds 200 = .ok (.sipush 163, 3) := by decide +kernel
theorem dX9_feeds_203 : decode cX9_feeds 203 = .ok (.iaload, 1) := by decide +kernel
theorem dX9_feeds_204 : decode cX9_feeds 204 = .ok (.if_icmp .le 7, 3) := by decide +kernel
theorem dX9_feeds_207 : decode cX9_feeds 207 = .ok (.iconst 2, 1) := by decide +kernel
theorem dX9_feeds_208 : decode cX9_feeds 208 = .ok (.goto 4, 3) := by decide +kernel
theorem dX9_feeds_211 : decode cX9_feeds 211 = .ok (.iconst 0, 1) := by decide +kernel
theorem dX9_feeds_212 : decode cX9_feeds 212 = .ok (.putfield 129, 3) := by decide +kernel
theorem dX9_feeds_215 : decode cX9_feeds 215 = .ok (.goto (-190), 3) := by decide +kernel
theorem dX9_feeds_218 : decode cX9_feeds 218 = .ok (.aload_n 0, 1) := by decide +kernel
theorem dX9_feeds_219 : decode cX9_feeds 219 = .ok (.getfield 7, 3) := by decide +kernel
theorem dX9_feeds_222 : decode cX9_feeds 222 = .ok (.iconst 0, 1) := by decide +kernel
theorem dX9_feeds_223 : decode cX9_feeds 223 = .ok (.dup2, 1) := by decide +kernel
theorem dX9_feeds_224 : decode cX9_feeds 224 = .ok (.iaload, 1) := by decide +kernel
theorem dX9_feeds_225 : decode cX9_feeds 225 = .ok (.aload_n 0, 1) := by decide +kernel
theorem dX9_feeds_226 : decode cX9_feeds 226 = .ok (.getfield 119, 3) := by decide +kernel
theorem dX9_feeds_229 : decode cX9_feeds 229 = .ok (.isub, 1) := by decide +kernel
theorem dX9_feeds_230 : decode cX9_feeds 230 = .ok (.iastore, 1) := by decide +kernel
theorem dX9_feeds_231 : decode cX9_feeds 231 = .ok (.iconst 0, 1) := by decide +kernel
theorem dX9_feeds_232 : decode cX9_feeds 232 = .ok (.istore_n 1, 1) := by decide +kernel
theorem dX9_feeds_233 : decode cX9_feeds 233 = .ok (.iload_n 1, 1) := by decide +kernel
theorem dX9_feeds_234 : decode cX9_feeds 234 = .ok (.aload_n 0, 1) := by decide +kernel
theorem dX9_feeds_235 : decode cX9_feeds 235 = .ok (.getfield 7, 3) := by decide +kernel
theorem dX9_feeds_238 : decode cX9_feeds 238 = .ok (.iconst 0, 1) := by decide +kernel
theorem dX9_feeds_239 : decode cX9_feeds 239 = .ok (.iaload, 1) := by decide +kernel
theorem dX9_feeds_240 : decode cX9_feeds 240 = .ok (.if_icmp .ge 53, 3) := by decide +kernel
theorem dX9_feeds_243 : decode cX9_feeds 243 = .ok (.aload_n 0, 1) := by decide +kernel
theorem dX9_feeds_244 : decode cX9_feeds 244 = .ok (.getfield 7, 3) := by decide +kernel
theorem dX9_feeds_247 : decode cX9_feeds 247 = .ok (.iconst 1, 1) := by decide +kernel
theorem dX9_feeds_248 : decode cX9_feeds 248 = .ok (.iload_n 1, 1) := by decide +kernel
theorem dX9_feeds_249 : decode cX9_feeds 249 = .ok (.iadd, 1) := by decide +kernel
theorem dX9_feeds_250 : decode cX9_feeds 250 = .ok (.aload_n 0, 1) := by decide +kernel
theorem dX9_feeds_251 : decode cX9_feeds 251 = .ok (.getfield 7, 3) := by decide +kernel
theorem dX9_feeds_254 : decode cX9_feeds 254 = .ok (.iconst 1, 1) := by decide +kernel
theorem dX9_feeds_255 : decode cX9_feeds 255 = .ok (.iload_n 1, 1) := by decide +kernel
theorem dX9_feeds_256 : decode cX9_feeds 256 = .ok (.iadd, 1) := by decide +kernel
theorem dX9_feeds_257 : decode cX9_feeds 257 = .ok (.aload_n 0, 1) := by decide +kernel
theorem dX9_feeds_258 : decode cX9_feeds 258 = .ok (.getfield 119, 3) := by decide +kernel
theorem dX9_feeds_261 : decode cX9_feeds 261 = .ok (.iadd, 1) := by decide +kernel
theorem dX9_feeds_262 : decode cX9_feeds 262 = .ok (.iaload, 1) := by decide +kernel
theorem dX9_feeds_263 : decode cX9_feeds 263 = .ok (.iastore, 1) := by decide +kernel
theorem dX9_feeds_264 : decode cX9_feeds 264 = .ok (.aload_n 0, 1) := by decide +kernel
theorem dX9_feeds_265 : decode cX9_feeds 265 = .ok (.getfield 7, 3) := by decide +kernel
theorem dX9_feeds_268 : decode cX9_feeds 268 = .ok (.bipush 81, 2) := by decide +kernel
theorem dX9_feeds_270 : decode cX9_feeds 270 = .ok (.iload_n 1, 1) := by decide +kernel
theorem dX9_feeds_271 : decode cX9_feeds 271 = .ok (.iadd, 1) := by decide +kernel
theorem dX9_feeds_272 : decode cX9_feeds 272 = .ok (.aload_n 0, 1) := by decide +kernel
theorem dX9_feeds_273 : decode cX9_feeds 273 = .ok (.getfield 7, 3) := by decide +kernel
theorem dX9_feeds_276 : decode cX9_feeds 276 = .ok (.bipush 81, 2) := by decide +kernel
theorem dX9_feeds_278 : decode cX9_feeds 278 = .ok (.iload_n 1, 1) := by decide +kernel
theorem dX9_feeds_279 : decode cX9_feeds 279 = .ok (.iadd, 1) := by decide +kernel
theorem dX9_feeds_280 : decode cX9_feeds 280 = .ok (.aload_n 0, 1) := by decide +kernel
theorem dX9_feeds_281 : decode cX9_feeds 281 = .ok (.getfield 119, 3) := by decide +kernel
theorem dX9_feeds_284 : decode cX9_feeds 284 = .ok (.iadd, 1) := by decide +kernel
theorem dX9_feeds_285 : decode cX9_feeds 285 = .ok (.iaload, 1) := by decide +kernel
theorem dX9_feeds_286 : decode cX9_feeds 286 = .ok (.iastore, 1) := by decide +kernel
theorem dX9_feeds_287 : decode cX9_feeds 287 = .ok (.iinc 1 1, 3) := by decide +kernel
theorem dX9_feeds_290 : decode cX9_feeds 290 = .ok (.goto (-57), 3) := by decide +kernel
theorem dX9_feeds_293 : decode cX9_feeds 293 = .ok (.return_, 1) := by decide +kernel
theorem dX9_reasonAt_0 : decode cX9_reasonAt 0 = .ok (.aload_n 0, 1) := by decide +kernel
theorem dX9_reasonAt_1 : decode cX9_reasonAt 1 = .ok (.getfield 129, 3) := by decide +kernel
theorem dX9_reasonAt_4 : decode cX9_reasonAt 4 = .ok (.iconst 1, 1) := by decide +kernel
theorem dX9_reasonAt_5 : decode cX9_reasonAt 5 = .ok (.if_icmp .le 17, 3) := by decide +kernel
theorem dX9_reasonAt_8 : decode cX9_reasonAt 8 = .ok (.aload_n 0, 1) := by decide +kernel
theorem dX9_reasonAt_9 : decode cX9_reasonAt 9 = .ok (.getfield 129, 3) := by decide +kernel
theorem dX9_reasonAt_12 : decode cX9_reasonAt 12 = .ok (.iconst 3, 1) := by decide +kernel
theorem dX9_reasonAt_13 : decode cX9_reasonAt 13 = .ok (.if_icmp .ne 7, 3) := by decide +kernel
theorem dX9_reasonAt_16 : decode cX9_reasonAt 16 = .ok (.iconst 1, 1) := by decide +kernel
theorem dX9_reasonAt_17 : decode cX9_reasonAt 17 = .ok (.goto 4, 3) := by decide +kernel
theorem dX9_reasonAt_20 : decode cX9_reasonAt 20 = .ok (.iconst 2, 1) := by decide +kernel
theorem dX9_reasonAt_21 : decode cX9_reasonAt 21 = .ok (.ireturn, 1) := by decide +kernel
theorem dX9_reasonAt_22 : decode cX9_reasonAt 22 = .ok (.aload_n 0, 1) := by decide +kernel
theorem dX9_reasonAt_23 : decode cX9_reasonAt 23 = .ok (.getfield 125, 3) := by decide +kernel
theorem dX9_reasonAt_26 : decode cX9_reasonAt 26 = .ok (.ifCond .ne 10, 3) := by decide +kernel
theorem dX9_reasonAt_29 : decode cX9_reasonAt 29 = .ok (.aload_n 0, 1) := by decide +kernel
theorem dX9_reasonAt_30 : decode cX9_reasonAt 30 = .ok (.getfield 122, 3) := by decide +kernel
theorem dX9_reasonAt_33 : decode cX9_reasonAt 33 = .ok (.ifCond .ne 16, 3) := by decide +kernel
theorem dX9_reasonAt_36 : decode cX9_reasonAt 36 = .ok (.aload_n 0, 1) := by decide +kernel
theorem dX9_reasonAt_37 : decode cX9_reasonAt 37 = .ok (.getfield 125, 3) := by decide +kernel
theorem dX9_reasonAt_40 : decode cX9_reasonAt 40 = .ok (.ifCond .eq 7, 3) := by decide +kernel
theorem dX9_reasonAt_43 : decode cX9_reasonAt 43 = .ok (.iconst 3, 1) := by decide +kernel
theorem dX9_reasonAt_44 : decode cX9_reasonAt 44 = .ok (.goto 4, 3) := by decide +kernel
theorem dX9_reasonAt_47 : decode cX9_reasonAt 47 = .ok (.iconst 4, 1) := by decide +kernel
theorem dX9_reasonAt_48 : decode cX9_reasonAt 48 = .ok (.ireturn, 1) := by decide +kernel
theorem dX9_reasonAt_49 : decode cX9_reasonAt 49 = .ok (.aload_n 0, 1) := by decide +kernel
theorem dX9_reasonAt_50 : decode cX9_reasonAt 50 = .ok (.getfield 122, 3) := by decide +kernel
theorem dX9_reasonAt_53 : decode cX9_reasonAt 53 = .ok (.iconst 1, 1) := by decide +kernel
theorem dX9_reasonAt_54 : decode cX9_reasonAt 54 = .ok (.if_icmp .gt 7, 3) := by decide +kernel
theorem dX9_reasonAt_57 : decode cX9_reasonAt 57 = .ok (.iload_n 2, 1) := by decide +kernel
theorem dX9_reasonAt_58 : decode cX9_reasonAt 58 = .ok (.ifCond .eq 18, 3) := by decide +kernel
theorem dX9_reasonAt_61 : decode cX9_reasonAt 61 = .ok (.aload_n 0, 1) := by decide +kernel
theorem dX9_reasonAt_62 : decode cX9_reasonAt 62 = .ok (.getfield 122, 3) := by decide +kernel
theorem dX9_reasonAt_65 : decode cX9_reasonAt 65 = .ok (.iconst 1, 1) := by decide +kernel
theorem dX9_reasonAt_66 : decode cX9_reasonAt 66 = .ok (.if_icmp .le 7, 3) := by decide +kernel
theorem dX9_reasonAt_69 : decode cX9_reasonAt 69 = .ok (.iconst 5, 1) := by decide +kernel
theorem dX9_reasonAt_70 : decode cX9_reasonAt 70 = .ok (.goto 5, 3) := by decide +kernel
theorem dX9_reasonAt_73 : decode cX9_reasonAt 73 = .ok (.bipush 6, 2) := by decide +kernel
theorem dX9_reasonAt_75 : decode cX9_reasonAt 75 = .ok (.ireturn, 1) := by decide +kernel
theorem dX9_reasonAt_76 : decode cX9_reasonAt 76 = .ok (.aload_n 0, 1) := by decide +kernel
theorem dX9_reasonAt_77 : decode cX9_reasonAt 77 = .ok (.getfield 7, 3) := by decide +kernel
theorem dX9_reasonAt_80 : decode cX9_reasonAt 80 = .ok (.sipush 169, 3) := by decide +kernel
theorem dX9_reasonAt_83 : decode cX9_reasonAt 83 = .ok (.iaload, 1) := by decide +kernel
theorem dX9_reasonAt_84 : decode cX9_reasonAt 84 = .ok (.iload_n 1, 1) := by decide +kernel
theorem dX9_reasonAt_85 : decode cX9_reasonAt 85 = .ok (.isub, 1) := by decide +kernel
theorem dX9_reasonAt_86 : decode cX9_reasonAt 86 = .ok (.istore_n 3, 1) := by decide +kernel
theorem dX9_reasonAt_87 : decode cX9_reasonAt 87 = .ok (.iload_n 3, 1) := by decide +kernel
theorem dX9_reasonAt_88 : decode cX9_reasonAt 88 = .ok (.aload_n 0, 1) := by decide +kernel
theorem dX9_reasonAt_89 : decode cX9_reasonAt 89 = .ok (.getfield 7, 3) := by decide +kernel
theorem dX9_reasonAt_92 : decode cX9_reasonAt 92 = .ok (.sipush 166, 3) := by decide +kernel
theorem dX9_reasonAt_95 : decode cX9_reasonAt 95 = .ok (.iaload, 1) := by decide +kernel
theorem dX9_reasonAt_96 : decode cX9_reasonAt 96 = .ok (.if_icmp .gt 16, 3) := by decide +kernel
theorem dX9_reasonAt_99 : decode cX9_reasonAt 99 = .ok (.iload_n 3, 1) := by decide +kernel
theorem dX9_reasonAt_100 : decode cX9_reasonAt 100 = .ok (.ineg, 1) := by decide +kernel
theorem dX9_reasonAt_101 : decode cX9_reasonAt 101 = .ok (.aload_n 0, 1) := by decide +kernel
theorem dX9_reasonAt_102 : decode cX9_reasonAt 102 = .ok (.getfield 7, 3) := by decide +kernel
theorem dX9_reasonAt_105 : decode cX9_reasonAt 105 = .ok (.sipush 166, 3) := by decide +kernel
theorem dX9_reasonAt_108 : decode cX9_reasonAt 108 = .ok (.iaload, 1) := by decide +kernel
theorem dX9_reasonAt_109 : decode cX9_reasonAt 109 = .ok (.if_icmp .le 8, 3) := by decide +kernel
theorem dX9_reasonAt_112 : decode cX9_reasonAt 112 = .ok (.bipush 7, 2) := by decide +kernel
theorem dX9_reasonAt_114 : decode cX9_reasonAt 114 = .ok (.goto 4, 3) := by decide +kernel
theorem dX9_reasonAt_117 : decode cX9_reasonAt 117 = .ok (.iconst 0, 1) := by decide +kernel
theorem dX9_reasonAt_118 : decode cX9_reasonAt 118 = .ok (.ireturn, 1) := by decide +kernel
set_option maxRecDepth 20000 in
theorem ggX9_turns_X9_leaves : GoodIn wsX9_turns wsX9_leaves := goodIn_r _ [6, 1, 7, 8, 9, 10, 11, 12, 13, 14, 15, 16, 17, 18, 19, 20, 21, 22, 23, 24, 25, 26, 27, 28, 29, 30] (by decide +kernel) (by decide +kernel)
set_option maxRecDepth 20000 in
theorem gX9_turns_X9_leaves : GoodIn wsX9_turns (wsV RX9 113 RX9 yX9_leaves wsX9_leaves) := goodIn_app (goodIn_of _ (by decide +kernel)) ggX9_turns_X9_leaves
theorem dX9_turns_0 : decode cX9_turns 0 = .ok (.aload_n 0, 1) := by decide +kernel
theorem dX9_turns_1 : decode cX9_turns 1 = .ok (.aload_n 0, 1) := by decide +kernel
theorem dX9_turns_2 : decode cX9_turns 2 = .ok (.getfield 7, 3) := by decide +kernel
theorem dX9_turns_5 : decode cX9_turns 5 = .ok (.sipush 171, 3) := by decide +kernel
theorem dX9_turns_8 : decode cX9_turns 8 = .ok (.aload_n 0, 1) := by decide +kernel
theorem dX9_turns_9 : decode cX9_turns 9 = .ok (.getfield 7, 3) := by decide +kernel
theorem dX9_turns_12 : decode cX9_turns 12 = .ok (.sipush 170, 3) := by decide +kernel
theorem dX9_turns_15 : decode cX9_turns 15 = .ok (.iaload, 1) := by decide +kernel
theorem dX9_turns_16 : decode cX9_turns 16 = .ok (.iadd, 1) := by decide +kernel
theorem dX9_turns_17 : decode cX9_turns 17 = .ok (.iconst 1, 1) := by decide +kernel
theorem dX9_turns_18 : decode cX9_turns 18 = .ok (.isub, 1) := by decide +kernel
theorem dX9_turns_19 : decode cX9_turns 19 = .ok (.iaload, 1) := by decide +kernel
theorem dX9_turns_20 : decode cX9_turns 20 = .ok (.invokevirtual 113, 3) := by decide +kernel
theorem dX9_turns_23 : decode cX9_turns 23 = .ok (.aload_n 0, 1) := by decide +kernel
theorem dX9_turns_24 : decode cX9_turns 24 = .ok (.getfield 7, 3) := by decide +kernel
theorem dX9_turns_27 : decode cX9_turns 27 = .ok (.sipush 170, 3) := by decide +kernel
theorem dX9_turns_30 : decode cX9_turns 30 = .ok (.iaload, 1) := by decide +kernel
theorem dX9_turns_31 : decode cX9_turns 31 = .ok (.iconst 1, 1) := by decide +kernel
theorem dX9_turns_32 : decode cX9_turns 32 = .ok (.isub, 1) := by decide +kernel
theorem dX9_turns_33 : decode cX9_turns 33 = .ok (.istore_n 2, 1) := by decide +kernel
theorem dX9_turns_34 : decode cX9_turns 34 = .ok (.iload_n 2, 1) := by decide +kernel
theorem dX9_turns_35 : decode cX9_turns 35 = .ok (.ifCond .le 31, 3) := by decide +kernel
theorem dX9_turns_38 : decode cX9_turns 38 = .ok (.aload_n 0, 1) := by decide +kernel
theorem dX9_turns_39 : decode cX9_turns 39 = .ok (.getfield 7, 3) := by decide +kernel
theorem dX9_turns_42 : decode cX9_turns 42 = .ok (.sipush 171, 3) := by decide +kernel
theorem dX9_turns_45 : decode cX9_turns 45 = .ok (.iload_n 2, 1) := by decide +kernel
theorem dX9_turns_46 : decode cX9_turns 46 = .ok (.iadd, 1) := by decide +kernel
theorem dX9_turns_47 : decode cX9_turns 47 = .ok (.aload_n 0, 1) := by decide +kernel
theorem dX9_turns_48 : decode cX9_turns 48 = .ok (.getfield 7, 3) := by decide +kernel
theorem dX9_turns_51 : decode cX9_turns 51 = .ok (.sipush 171, 3) := by decide +kernel
theorem dX9_turns_54 : decode cX9_turns 54 = .ok (.iload_n 2, 1) := by decide +kernel
theorem dX9_turns_55 : decode cX9_turns 55 = .ok (.iadd, 1) := by decide +kernel
theorem dX9_turns_56 : decode cX9_turns 56 = .ok (.iconst 1, 1) := by decide +kernel
theorem dX9_turns_57 : decode cX9_turns 57 = .ok (.isub, 1) := by decide +kernel
theorem dX9_turns_58 : decode cX9_turns 58 = .ok (.iaload, 1) := by decide +kernel
theorem dX9_turns_59 : decode cX9_turns 59 = .ok (.iastore, 1) := by decide +kernel
theorem dX9_turns_60 : decode cX9_turns 60 = .ok (.iinc 2 (-1), 3) := by decide +kernel
theorem dX9_turns_63 : decode cX9_turns 63 = .ok (.goto (-29), 3) := by decide +kernel
theorem dX9_turns_66 : decode cX9_turns 66 = .ok (.aload_n 0, 1) := by decide +kernel
theorem dX9_turns_67 : decode cX9_turns 67 = .ok (.getfield 7, 3) := by decide +kernel
theorem dX9_turns_70 : decode cX9_turns 70 = .ok (.sipush 171, 3) := by decide +kernel
theorem dX9_turns_73 : decode cX9_turns 73 = .ok (.iload_n 1, 1) := by decide +kernel
theorem dX9_turns_74 : decode cX9_turns 74 = .ok (.iastore, 1) := by decide +kernel
theorem dX9_turns_75 : decode cX9_turns 75 = .ok (.return_, 1) := by decide +kernel
set_option maxRecDepth 20000 in
theorem ggX9_cycles_X9_follows : GoodIn wsX9_cycles wsX9_follows := goodIn_r _ [13, 4, 30, 31, 32, 33, 34, 35, 36, 37, 38, 39, 40, 41, 42, 43, 44, 45, 46, 47, 48, 49, 50, 51, 52, 53] (by decide +kernel) (by decide +kernel)
set_option maxRecDepth 20000 in
theorem gX9_cycles_X9_follows : GoodIn wsX9_cycles (wsV RX9 132 RX9 yX9_follows wsX9_follows) := goodIn_app (goodIn_of _ (by decide +kernel)) ggX9_cycles_X9_follows
set_option maxRecDepth 20000 in
theorem ggX9_cycles_X9_feeds : GoodIn wsX9_cycles wsX9_feeds := goodIn_r _ [17, 2, 8, 6, 7, 1, 4, 3, 30, 31, 32, 33, 34, 35, 36, 37, 38, 39, 40, 41, 42, 43, 44, 45, 46, 47, 48, 49, 50, 51, 52, 53] (by decide +kernel) (by decide +kernel)
set_option maxRecDepth 20000 in
theorem gX9_cycles_X9_feeds : GoodIn wsX9_cycles (wsV RX9 135 RX9 yX9_feeds wsX9_feeds) := goodIn_app (goodIn_of _ (by decide +kernel)) ggX9_cycles_X9_feeds
set_option maxRecDepth 20000 in
theorem ggX9_cycles_X9_reasonAt : GoodIn wsX9_cycles wsX9_reasonAt := goodIn_r _ [21, 1, 7, 6, 4, 30, 31, 32, 33, 34, 35, 36, 37, 38, 39, 40, 41, 42, 43, 44, 45, 46, 47, 48, 49, 50, 51, 52, 53] (by decide +kernel) (by decide +kernel)
set_option maxRecDepth 20000 in
theorem gX9_cycles_X9_reasonAt : GoodIn wsX9_cycles (wsV RX9 138 RX9 yX9_reasonAt wsX9_reasonAt) := goodIn_app (goodIn_of _ (by decide +kernel)) ggX9_cycles_X9_reasonAt
set_option maxRecDepth 20000 in
theorem ggX9_cycles_X9_turns : GoodIn wsX9_cycles wsX9_turns := goodIn_r _ [25, 4, 26, 27, 28, 12, 29, 30, 31, 32, 33, 34, 35, 36, 37, 38, 39, 40, 41, 42, 43, 44, 45, 46, 47, 48, 49, 50, 51, 52, 53] (by decide +kernel) (by decide +kernel)
set_option maxRecDepth 20000 in
theorem gX9_cycles_X9_turns : GoodIn wsX9_cycles (wsV RX9 143 RX9 yX9_turns wsX9_turns) := goodIn_app (goodIn_of _ (by decide +kernel)) ggX9_cycles_X9_turns
theorem dX9_cycles_0 : decode cX9_cycles 0 = .ok (.aload_n 0, 1) := by decide +kernel
theorem dX9_cycles_1 : decode cX9_cycles 1 = .ok (.iload_n 1, 1) := by decide +kernel
theorem dX9_cycles_2 : decode cX9_cycles 2 = .ok (.invokevirtual 132, 3) := by decide +kernel
theorem dX9_cycles_5 : decode cX9_cycles 5 = .ok (.aload_n 0, 1) := by decide +kernel
theorem dX9_cycles_6 : decode cX9_cycles 6 = .ok (.invokevirtual 135, 3) := by decide +kernel
theorem dX9_cycles_9 : decode cX9_cycles 9 = .ok (.aload_n 0, 1) := by decide +kernel
theorem dX9_cycles_10 : decode cX9_cycles 10 = .ok (.getfield 129, 3) := by decide +kernel
theorem dX9_cycles_13 : decode cX9_cycles 13 = .ok (.iconst 1, 1) := by decide +kernel
theorem dX9_cycles_14 : decode cX9_cycles 14 = .ok (.if_icmp .ne 30, 3) := by decide +kernel
theorem dX9_cycles_17 : decode cX9_cycles 17 = .ok (.aload_n 0, 1) := by decide +kernel
theorem dX9_cycles_18 : decode cX9_cycles 18 = .ok (.getfield 116, 3) := by decide +kernel
theorem dX9_cycles_21 : decode cX9_cycles 21 = .ok (.i2f, 1) := by decide +kernel
theorem dX9_cycles_22 : decode cX9_cycles 22 = .ok (.aload_n 0, 1) := by decide +kernel
theorem dX9_cycles_23 : decode cX9_cycles 23 = .ok (.getfield 24, 3) := by decide +kernel
theorem dX9_cycles_26 : decode cX9_cycles 26 = .ok (.aload_n 0, 1) := by decide +kernel
theorem dX9_cycles_27 : decode cX9_cycles 27 = .ok (.getfield 7, 3) := by decide +kernel
theorem dX9_cycles_30 : decode cX9_cycles 30 = .ok (.sipush 162, 3) := by decide +kernel
theorem dX9_cycles_33 : decode cX9_cycles 33 = .ok (.iaload, 1) := by decide +kernel
theorem dX9_cycles_34 : decode cX9_cycles 34 = .ok (.i2f, 1) := by decide +kernel
theorem dX9_cycles_35 : decode cX9_cycles 35 = .ok (.fadd, 1) := by decide +kernel
theorem dX9_cycles_36 : decode cX9_cycles 36 = .ok (.fcmp .l, 1) := by decide +kernel
theorem dX9_cycles_37 : decode cX9_cycles 37 = .ok (.ifCond .le 7, 3) := by decide +kernel
theorem dX9_cycles_40 : decode cX9_cycles 40 = .ok (.iconst 1, 1) := by decide +kernel
theorem dX9_cycles_41 : decode cX9_cycles 41 = .ok (.goto 4, 3) := by decide +kernel
theorem dX9_cycles_44 : decode cX9_cycles 44 = .ok (.iconst 0, 1) := by decide +kernel
theorem dX9_cycles_45 : decode cX9_cycles 45 = .ok (.istore_n 2, 1) := by decide +kernel
theorem dX9_cycles_46 : decode cX9_cycles 46 = .ok (.aload_n 0, 1) := by decide +kernel
theorem dX9_cycles_47 : decode cX9_cycles 47 = .ok (.iload_n 1, 1) := by decide +kernel
theorem dX9_cycles_48 : decode cX9_cycles 48 = .ok (.iload_n 2, 1) := by decide +kernel
theorem dX9_cycles_49 : decode cX9_cycles 49 = .ok (.invokevirtual 138, 3) := by decide +kernel
theorem dX9_cycles_52 : decode cX9_cycles 52 = .ok (.istore_n 3, 1) := by decide +kernel
theorem dX9_cycles_53 : decode cX9_cycles 53 = .ok (.iload_n 3, 1) := by decide +kernel
theorem dX9_cycles_54 : decode cX9_cycles 54 = .ok (.ifCond .ne 35, 3) := by decide +kernel
theorem dX9_cycles_57 : decode cX9_cycles 57 = .ok (.aload_n 0, 1) := by decide +kernel
theorem dX9_cycles_58 : decode cX9_cycles 58 = .ok (.aload_n 0, 1) := by decide +kernel
theorem dX9_cycles_59 : decode cX9_cycles 59 = .ok (.getfield 24, 3) := by decide +kernel
theorem dX9_cycles_62 : decode cX9_cycles 62 = .ok (.aload_n 0, 1) := by decide +kernel
theorem dX9_cycles_63 : decode cX9_cycles 63 = .ok (.getfield 116, 3) := by decide +kernel
theorem dX9_cycles_66 : decode cX9_cycles 66 = .ok (.i2f, 1) := by decide +kernel
theorem dX9_cycles_67 : decode cX9_cycles 67 = .ok (.aload_n 0, 1) := by decide +kernel
theorem dX9_cycles_68 : decode cX9_cycles 68 = .ok (.getfield 24, 3) := by decide +kernel
theorem dX9_cycles_71 : decode cX9_cycles 71 = .ok (.fsub, 1) := by decide +kernel
theorem dX9_cycles_72 : decode cX9_cycles 72 = .ok (.aload_n 0, 1) := by decide +kernel
theorem dX9_cycles_73 : decode cX9_cycles 73 = .ok (.getfield 7, 3) := by decide +kernel
theorem dX9_cycles_76 : decode cX9_cycles 76 = .ok (.sipush 167, 3) := by decide +kernel
theorem dX9_cycles_79 : decode cX9_cycles 79 = .ok (.iaload, 1) := by decide +kernel
theorem dX9_cycles_80 : decode cX9_cycles 80 = .ok (.i2f, 1) := by decide +kernel
theorem dX9_cycles_81 : decode cX9_cycles 81 = .ok (.ldc 142, 2) := by decide +kernel
