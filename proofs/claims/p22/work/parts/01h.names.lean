theorem dX2_countCycle_41 : decode cX2_countCycle 41 = .ok (.iload_n 1, 1) := by decide +kernel
theorem dX2_countCycle_42 : decode cX2_countCycle 42 = .ok (.ifCond .ne 22, 3) := by decide +kernel
theorem dX2_countCycle_45 : decode cX2_countCycle 45 = .ok (.aload_n 0, 1) := by decide +kernel
theorem dX2_countCycle_46 : decode cX2_countCycle 46 = .ok (.dup, 1) := by decide +kernel
theorem dX2_countCycle_47 : decode cX2_countCycle 47 = .ok (.getfield 85, 3) := by decide +kernel
theorem dX2_countCycle_50 : decode cX2_countCycle 50 = .ok (.aload_n 0, 1) := by decide +kernel
theorem dX2_countCycle_51 : decode cX2_countCycle 51 = .ok (.getfield 35, 3) := by decide +kernel
theorem dX2_countCycle_54 : decode cX2_countCycle 54 = .ok (.getfield 199, 3) := by decide +kernel
theorem dX2_countCycle_57 : decode cX2_countCycle 57 = .ok (.iadd, 1) := by decide +kernel
theorem dX2_countCycle_58 : decode cX2_countCycle 58 = .ok (.putfield 85, 3) := by decide +kernel
theorem dX2_countCycle_61 : decode cX2_countCycle 61 = .ok (.goto 19, 3) := by decide +kernel
theorem dX2_countCycle_64 : decode cX2_countCycle 64 = .ok (.aload_n 0, 1) := by decide +kernel
theorem dX2_countCycle_65 : decode cX2_countCycle 65 = .ok (.dup, 1) := by decide +kernel
theorem dX2_countCycle_66 : decode cX2_countCycle 66 = .ok (.getfield 88, 3) := by decide +kernel
theorem dX2_countCycle_69 : decode cX2_countCycle 69 = .ok (.aload_n 0, 1) := by decide +kernel
theorem dX2_countCycle_70 : decode cX2_countCycle 70 = .ok (.getfield 35, 3) := by decide +kernel
theorem dX2_countCycle_73 : decode cX2_countCycle 73 = .ok (.getfield 199, 3) := by decide +kernel
theorem dX2_countCycle_76 : decode cX2_countCycle 76 = .ok (.iadd, 1) := by decide +kernel
theorem dX2_countCycle_77 : decode cX2_countCycle 77 = .ok (.putfield 88, 3) := by decide +kernel
theorem dX2_countCycle_80 : decode cX2_countCycle 80 = .ok (.aload_n 0, 1) := by decide +kernel
theorem dX2_countCycle_81 : decode cX2_countCycle 81 = .ok (.getfield 35, 3) := by decide +kernel
theorem dX2_countCycle_84 : decode cX2_countCycle 84 = .ok (.getfield 196, 3) := by decide +kernel
theorem dX2_countCycle_87 : decode cX2_countCycle 87 = .ok (.ifCond .le 13, 3) := by decide +kernel
theorem dX2_countCycle_90 : decode cX2_countCycle 90 = .ok (.aload_n 0, 1) := by decide +kernel
theorem dX2_countCycle_91 : decode cX2_countCycle 91 = .ok (.dup, 1) := by decide +kernel
theorem dX2_countCycle_92 : decode cX2_countCycle 92 = .ok (.getfield 91, 3) := by decide +kernel
theorem dX2_countCycle_95 : decode cX2_countCycle 95 = .ok (.iconst 1, 1) := by decide +kernel
theorem dX2_countCycle_96 : decode cX2_countCycle 96 = .ok (.iadd, 1) := by decide +kernel
theorem dX2_countCycle_97 : decode cX2_countCycle 97 = .ok (.putfield 91, 3) := by decide +kernel
theorem dX2_countCycle_100 : decode cX2_countCycle 100 = .ok (.aload_n 0, 1) := by decide +kernel
theorem dX2_countCycle_101 : decode cX2_countCycle 101 = .ok (.getfield 35, 3) := by decide +kernel
theorem dX2_countCycle_104 : decode cX2_countCycle 104 = .ok (.getfield 148, 3) := by decide +kernel
theorem dX2_countCycle_107 : decode cX2_countCycle 107 = .ok (.ifCond .eq 13, 3) := by decide +kernel
theorem dX2_countCycle_110 : decode cX2_countCycle 110 = .ok (.aload_n 0, 1) := by decide +kernel
theorem dX2_countCycle_111 : decode cX2_countCycle 111 = .ok (.dup, 1) := by decide +kernel
theorem dX2_countCycle_112 : decode cX2_countCycle 112 = .ok (.getfield 94, 3) := by decide +kernel
theorem dX2_countCycle_115 : decode cX2_countCycle 115 = .ok (.iconst 1, 1) := by decide +kernel
theorem dX2_countCycle_116 : decode cX2_countCycle 116 = .ok (.iadd, 1) := by decide +kernel
theorem dX2_countCycle_117 : decode cX2_countCycle 117 = .ok (.putfield 94, 3) := by decide +kernel
theorem dX2_countCycle_120 : decode cX2_countCycle 120 = .ok (.return_, 1) := by decide +kernel
set_option maxRecDepth 20000 in
theorem ggX2_learnPitch_X5_value : GoodIn wsX2_learnPitch wsX5_value := goodIn_r _ [10, 11, 36] (by decide +kernel) (by decide +kernel)
set_option maxRecDepth 20000 in
theorem gX2_learnPitch_X5_value : GoodIn wsX2_learnPitch (wsV RX2 97 RX5 yX5_value wsX5_value) := goodIn_app (goodIn_of _ (by decide +kernel)) ggX2_learnPitch_X5_value
theorem dX2_learnPitch_0 : decode cX2_learnPitch 0 = .ok (.aload_n 0, 1) := by decide +kernel
theorem dX2_learnPitch_1 : decode cX2_learnPitch 1 = .ok (.getfield 21, 3) := by decide +kernel
theorem dX2_learnPitch_4 : decode cX2_learnPitch 4 = .ok (.bipush 6, 2) := by decide +kernel
theorem dX2_learnPitch_6 : decode cX2_learnPitch 6 = .ok (.invokevirtual 97, 3) := by decide +kernel
theorem dX2_learnPitch_9 : decode cX2_learnPitch 9 = .ok (.i2f, 1) := by decide +kernel
theorem dX2_learnPitch_10 : decode cX2_learnPitch 10 = .ok (.ldc 204, 2) := by decide +kernel
theorem dX2_learnPitch_12 : decode cX2_learnPitch 12 = .ok (.fdiv, 1) := by decide +kernel
theorem dX2_learnPitch_13 : decode cX2_learnPitch 13 = .ok (.fstore_n 1, 1) := by decide +kernel
theorem dX2_learnPitch_14 : decode cX2_learnPitch 14 = .ok (.aload_n 0, 1) := by decide +kernel
theorem dX2_learnPitch_15 : decode cX2_learnPitch 15 = .ok (.aload_n 0, 1) := by decide +kernel
theorem dX2_learnPitch_16 : decode cX2_learnPitch 16 = .ok (.getfield 44, 3) := by decide +kernel
theorem dX2_learnPitch_19 : decode cX2_learnPitch 19 = .ok (.aload_n 0, 1) := by decide +kernel
theorem dX2_learnPitch_20 : decode cX2_learnPitch 20 = .ok (.getfield 35, 3) := by decide +kernel
theorem dX2_learnPitch_23 : decode cX2_learnPitch 23 = .ok (.getfield 145, 3) := by decide +kernel
theorem dX2_learnPitch_26 : decode cX2_learnPitch 26 = .ok (.i2f, 1) := by decide +kernel
theorem dX2_learnPitch_27 : decode cX2_learnPitch 27 = .ok (.aload_n 0, 1) := by decide +kernel
theorem dX2_learnPitch_28 : decode cX2_learnPitch 28 = .ok (.getfield 44, 3) := by decide +kernel
theorem dX2_learnPitch_31 : decode cX2_learnPitch 31 = .ok (.fsub, 1) := by decide +kernel
theorem dX2_learnPitch_32 : decode cX2_learnPitch 32 = .ok (.fload_n 1, 1) := by decide +kernel
theorem dX2_learnPitch_33 : decode cX2_learnPitch 33 = .ok (.fmul, 1) := by decide +kernel
theorem dX2_learnPitch_34 : decode cX2_learnPitch 34 = .ok (.fadd, 1) := by decide +kernel
theorem dX2_learnPitch_35 : decode cX2_learnPitch 35 = .ok (.putfield 44, 3) := by decide +kernel
theorem dX2_learnPitch_38 : decode cX2_learnPitch 38 = .ok (.return_, 1) := by decide +kernel
theorem dX2_passGate_0 : decode cX2_passGate 0 = .ok (.iload_n 1, 1) := by decide +kernel
theorem dX2_passGate_1 : decode cX2_passGate 1 = .ok (.ifCond .ne 16, 3) := by decide +kernel
theorem dX2_passGate_4 : decode cX2_passGate 4 = .ok (.aload_n 0, 1) := by decide +kernel
theorem dX2_passGate_5 : decode cX2_passGate 5 = .ok (.dup, 1) := by decide +kernel
theorem dX2_passGate_6 : decode cX2_passGate 6 = .ok (.getfield 79, 3) := by decide +kernel
theorem dX2_passGate_9 : decode cX2_passGate 9 = .ok (.iconst 1, 1) := by decide +kernel
theorem dX2_passGate_10 : decode cX2_passGate 10 = .ok (.iadd, 1) := by decide +kernel
theorem dX2_passGate_11 : decode cX2_passGate 11 = .ok (.putfield 79, 3) := by decide +kernel
theorem dX2_passGate_14 : decode cX2_passGate 14 = .ok (.goto 18, 3) := by decide +kernel
theorem dX2_passGate_17 : decode cX2_passGate 17 = .ok (.iload_n 1, 1) := by decide +kernel
theorem dX2_passGate_18 : decode cX2_passGate 18 = .ok (.iconst (-1), 1) := by decide +kernel
theorem dX2_passGate_19 : decode cX2_passGate 19 = .ok (.if_icmp .eq 13, 3) := by decide +kernel
theorem dX2_passGate_22 : decode cX2_passGate 22 = .ok (.aload_n 0, 1) := by decide +kernel
theorem dX2_passGate_23 : decode cX2_passGate 23 = .ok (.dup, 1) := by decide +kernel
theorem dX2_passGate_24 : decode cX2_passGate 24 = .ok (.getfield 82, 3) := by decide +kernel
theorem dX2_passGate_27 : decode cX2_passGate 27 = .ok (.iconst 1, 1) := by decide +kernel
theorem dX2_passGate_28 : decode cX2_passGate 28 = .ok (.iadd, 1) := by decide +kernel
theorem dX2_passGate_29 : decode cX2_passGate 29 = .ok (.putfield 82, 3) := by decide +kernel
theorem dX2_passGate_32 : decode cX2_passGate 32 = .ok (.return_, 1) := by decide +kernel
set_option maxRecDepth 20000 in
theorem ggX2_hasTooManyFaults_X5_value : GoodIn wsX2_hasTooManyFaults wsX5_value := goodIn_r _ [7, 8, 25] (by decide +kernel) (by decide +kernel)
set_option maxRecDepth 20000 in
theorem gX2_hasTooManyFaults_X5_value : GoodIn wsX2_hasTooManyFaults (wsV RX2 97 RX5 yX5_value wsX5_value) := goodIn_app (goodIn_of _ (by decide +kernel)) ggX2_hasTooManyFaults_X5_value
theorem dX2_hasTooManyFaults_0 : decode cX2_hasTooManyFaults 0 = .ok (.aload_n 0, 1) := by decide +kernel
theorem dX2_hasTooManyFaults_1 : decode cX2_hasTooManyFaults 1 = .ok (.getfield 69, 3) := by decide +kernel
theorem dX2_hasTooManyFaults_4 : decode cX2_hasTooManyFaults 4 = .ok (.aload_n 0, 1) := by decide +kernel
theorem dX2_hasTooManyFaults_5 : decode cX2_hasTooManyFaults 5 = .ok (.getfield 21, 3) := by decide +kernel
theorem dX2_hasTooManyFaults_8 : decode cX2_hasTooManyFaults 8 = .ok (.bipush 7, 2) := by decide +kernel
theorem dX2_hasTooManyFaults_10 : decode cX2_hasTooManyFaults 10 = .ok (.invokevirtual 97, 3) := by decide +kernel
theorem dX2_hasTooManyFaults_13 : decode cX2_hasTooManyFaults 13 = .ok (.if_icmp .lt 7, 3) := by decide +kernel
theorem dX2_hasTooManyFaults_16 : decode cX2_hasTooManyFaults 16 = .ok (.iconst 1, 1) := by decide +kernel
theorem dX2_hasTooManyFaults_17 : decode cX2_hasTooManyFaults 17 = .ok (.goto 4, 3) := by decide +kernel
theorem dX2_hasTooManyFaults_20 : decode cX2_hasTooManyFaults 20 = .ok (.iconst 0, 1) := by decide +kernel
theorem dX2_hasTooManyFaults_21 : decode cX2_hasTooManyFaults 21 = .ok (.ireturn, 1) := by decide +kernel
theorem dX2_isFault_0 : decode cX2_isFault 0 = .ok (.iload_n 0, 1) := by decide +kernel
theorem dX2_isFault_1 : decode cX2_isFault 1 = .ok (.iconst 1, 1) := by decide +kernel
theorem dX2_isFault_2 : decode cX2_isFault 2 = .ok (.if_icmp .eq 19, 3) := by decide +kernel
theorem dX2_isFault_5 : decode cX2_isFault 5 = .ok (.iload_n 0, 1) := by decide +kernel
theorem dX2_isFault_6 : decode cX2_isFault 6 = .ok (.iconst 2, 1) := by decide +kernel
theorem dX2_isFault_7 : decode cX2_isFault 7 = .ok (.if_icmp .eq 14, 3) := by decide +kernel
theorem dX2_isFault_10 : decode cX2_isFault 10 = .ok (.iload_n 0, 1) := by decide +kernel
theorem dX2_isFault_11 : decode cX2_isFault 11 = .ok (.iconst 4, 1) := by decide +kernel
theorem dX2_isFault_12 : decode cX2_isFault 12 = .ok (.if_icmp .eq 9, 3) := by decide +kernel
theorem dX2_isFault_15 : decode cX2_isFault 15 = .ok (.iload_n 0, 1) := by decide +kernel
theorem dX2_isFault_16 : decode cX2_isFault 16 = .ok (.bipush 6, 2) := by decide +kernel
theorem dX2_isFault_18 : decode cX2_isFault 18 = .ok (.if_icmp .ne 7, 3) := by decide +kernel
theorem dX2_isFault_21 : decode cX2_isFault 21 = .ok (.iconst 1, 1) := by decide +kernel
theorem dX2_isFault_22 : decode cX2_isFault 22 = .ok (.goto 4, 3) := by decide +kernel
theorem dX2_isFault_25 : decode cX2_isFault 25 = .ok (.iconst 0, 1) := by decide +kernel
theorem dX2_isFault_26 : decode cX2_isFault 26 = .ok (.ireturn, 1) := by decide +kernel
set_option maxRecDepth 20000 in
theorem ggX3_init_X7_init : GoodIn wsX3_init wsX7_init := goodIn_r _ [17, 18, 2, 3, 19, 20, 27, 28] (by decide +kernel) (by decide +kernel)
set_option maxRecDepth 20000 in
theorem gX3_init_X7_init : GoodIn wsX3_init (wsX7_init) := ggX3_init_X7_init
set_option maxRecDepth 20000 in
theorem ggX3_init_X1_init : GoodIn wsX3_init wsX1_init := goodIn_r _ [23, 24, 2, 3, 12, 25, 26, 37, 38, 39, 40] (by decide +kernel) (by decide +kernel)
set_option maxRecDepth 20000 in
theorem gX3_init_X1_init : GoodIn wsX3_init (wsX1_init) := ggX3_init_X1_init
theorem dX3_init_0 : decode cX3_init 0 = .ok (.aload_n 0, 1) := by decide +kernel
theorem dX3_init_1 : decode cX3_init 1 = .ok (.invokespecial 3, 3) := by decide +kernel
theorem dX3_init_4 : decode cX3_init 4 = .ok (.aload_n 0, 1) := by decide +kernel
theorem dX3_init_5 : decode cX3_init 5 = .ok (.new 9, 3) := by decide +kernel
theorem dX3_init_8 : decode cX3_init 8 = .ok (.dup, 1) := by decide +kernel
theorem dX3_init_9 : decode cX3_init 9 = .ok (.invokespecial 11, 3) := by decide +kernel
theorem dX3_init_12 : decode cX3_init 12 = .ok (.putfield 12, 3) := by decide +kernel
theorem dX3_init_15 : decode cX3_init 15 = .ok (.aload_n 0, 1) := by decide +kernel
theorem dX3_init_16 : decode cX3_init 16 = .ok (.new 18, 3) := by decide +kernel
theorem dX3_init_19 : decode cX3_init 19 = .ok (.dup, 1) := by decide +kernel
theorem dX3_init_20 : decode cX3_init 20 = .ok (.invokespecial 20, 3) := by decide +kernel
theorem dX3_init_23 : decode cX3_init 23 = .ok (.putfield 21, 3) := by decide +kernel
theorem dX3_init_26 : decode cX3_init 26 = .ok (.aload_n 0, 1) := by decide +kernel
theorem dX3_init_27 : decode cX3_init 27 = .ok (.iconst 3, 1) := by decide +kernel
theorem dX3_init_28 : decode cX3_init 28 = .ok (.newarray .int, 2) := by decide +kernel
theorem dX3_init_30 : decode cX3_init 30 = .ok (.putfield 25, 3) := by decide +kernel
theorem dX3_init_33 : decode cX3_init 33 = .ok (.aload_n 0, 1) := by decide +kernel
theorem dX3_init_34 : decode cX3_init 34 = .ok (.iconst 3, 1) := by decide +kernel
theorem dX3_init_35 : decode cX3_init 35 = .ok (.newarray .int, 2) := by decide +kernel
theorem dX3_init_37 : decode cX3_init 37 = .ok (.putfield 29, 3) := by decide +kernel
theorem dX3_init_40 : decode cX3_init 40 = .ok (.return_, 1) := by decide +kernel
set_option maxRecDepth 20000 in
theorem ggX3_read_X1_removeAll : GoodIn wsX3_read wsX1_removeAll := goodIn_r _ [12, 13, 14, 95, 96, 97, 98] (by decide +kernel) (by decide +kernel)
set_option maxRecDepth 20000 in
theorem gX3_read_X1_removeAll : GoodIn wsX3_read (wsV RX3 32 RX1 yX1_removeAll wsX1_removeAll) := goodIn_app (goodIn_of _ (by decide +kernel)) ggX3_read_X1_removeAll
set_option maxRecDepth 20000 in
theorem ggX3_read_X3_skipBlanks : GoodIn wsX3_read wsX3_skipBlanks := goodIn_r _ [19, 5, 6, 7, 20, 21, 22, 23, 24, 25, 26, 85, 86, 87, 88, 89, 90, 91, 92, 93, 94] (by decide +kernel) (by decide +kernel)
set_option maxRecDepth 20000 in
theorem gX3_read_X3_skipBlanks : GoodIn wsX3_read (wsV RX3 49 RX3 yX3_skipBlanks wsX3_skipBlanks) := goodIn_app (goodIn_of _ (by decide +kernel)) ggX3_read_X3_skipBlanks
set_option maxRecDepth 20000 in
theorem ggX3_read_X7_byteAt : GoodIn wsX3_read wsX7_byteAt := goodIn_r _ [24, 25, 26, 93, 94] (by decide +kernel) (by decide +kernel)
set_option maxRecDepth 20000 in
theorem gX3_read_X7_byteAt : GoodIn wsX3_read (wsV RX3 55 RX7 yX7_byteAt wsX7_byteAt) := goodIn_app (goodIn_of _ (by decide +kernel)) ggX3_read_X7_byteAt
set_option maxRecDepth 20000 in
theorem ggX3_read_X3_closeParenthesis : GoodIn wsX3_read wsX3_closeParenthesis := goodIn_r _ [30, 4, 31, 32, 5, 3, 33, 34, 35, 18, 36, 1, 2, 37, 38, 39, 11, 40, 14, 13, 41, 42, 43, 44, 45, 46, 47, 48, 49, 50, 51, 52, 53, 54, 85, 86, 87, 88, 89, 90, 91, 92, 95, 96, 97, 98] (by decide +kernel) (by decide +kernel)
set_option maxRecDepth 20000 in
theorem gX3_read_X3_closeParenthesis : GoodIn wsX3_read (wsV RX3 59 RX3 yX3_closeParenthesis wsX3_closeParenthesis) := goodIn_app (goodIn_of _ (by decide +kernel)) ggX3_read_X3_closeParenthesis
set_option maxRecDepth 20000 in
theorem ggX3_read_X3_readPart : GoodIn wsX3_read wsX3_readPart := goodIn_r _ [58, 5, 3, 6, 59, 60, 61, 18, 62, 20, 21, 22, 23, 24, 25, 26, 63, 64, 65, 66, 67, 68, 69, 70, 71, 72, 73, 15, 16, 17, 19, 7, 74, 75, 76, 77, 4, 31, 32, 1, 37, 38, 39, 11, 40, 14, 13, 78, 79, 80, 81, 2, 82, 83, 84, 51, 52, 53, 54, 45, 50, 33, 34, 35, 36, 41, 42, 43, 44, 46, 47, 48, 49, 85, 86, 87, 88, 89, 90, 91, 92, 93, 94, 95, 96, 97, 98] (by decide +kernel) (by decide +kernel)
set_option maxRecDepth 20000 in
theorem gX3_read_X3_readPart : GoodIn wsX3_read (wsV RX3 62 RX3 yX3_readPart wsX3_readPart) := goodIn_app (goodIn_of _ (by decide +kernel)) ggX3_read_X3_readPart
theorem dX3_read_0 : decode cX3_read 0 = .ok (.aload_n 0, 1) := by decide +kernel
theorem dX3_read_1 : decode cX3_read 1 = .ok (.getfield 21, 3) := by decide +kernel
theorem dX3_read_4 : decode cX3_read 4 = .ok (.invokevirtual 32, 3) := by decide +kernel
theorem dX3_read_7 : decode cX3_read 7 = .ok (.aload_n 0, 1) := by decide +kernel
theorem dX3_read_8 : decode cX3_read 8 = .ok (.iconst 0, 1) := by decide +kernel
theorem dX3_read_9 : decode cX3_read 9 = .ok (.putfield 35, 3) := by decide +kernel
theorem dX3_read_12 : decode cX3_read 12 = .ok (.aload_n 0, 1) := by decide +kernel
theorem dX3_read_13 : decode cX3_read 13 = .ok (.iconst (-1), 1) := by decide +kernel
theorem dX3_read_14 : decode cX3_read 14 = .ok (.putfield 39, 3) := by decide +kernel
theorem dX3_read_17 : decode cX3_read 17 = .ok (.aload_n 0, 1) := by decide +kernel
theorem dX3_read_18 : decode cX3_read 18 = .ok (.iconst 0, 1) := by decide +kernel
theorem dX3_read_19 : decode cX3_read 19 = .ok (.putfield 43, 3) := by decide +kernel
theorem dX3_read_22 : decode cX3_read 22 = .ok (.aload_n 0, 1) := by decide +kernel
theorem dX3_read_23 : decode cX3_read 23 = .ok (.iconst 0, 1) := by decide +kernel
theorem dX3_read_24 : decode cX3_read 24 = .ok (.putfield 46, 3) := by decide +kernel
theorem dX3_read_27 : decode cX3_read 27 = .ok (.aload_n 0, 1) := by decide +kernel
theorem dX3_read_28 : decode cX3_read 28 = .ok (.invokevirtual 49, 3) := by decide +kernel
theorem dX3_read_31 : decode cX3_read 31 = .ok (.iconst 0, 1) := by decide +kernel
theorem dX3_read_32 : decode cX3_read 32 = .ok (.istore_n 1, 1) := by decide +kernel
theorem dX3_read_33 : decode cX3_read 33 = .ok (.iload_n 1, 1) := by decide +kernel
theorem dX3_read_34 : decode cX3_read 34 = .ok (.bipush 80, 2) := by decide +kernel
theorem dX3_read_36 : decode cX3_read 36 = .ok (.if_icmp .ge 62, 3) := by decide +kernel
theorem dX3_read_39 : decode cX3_read 39 = .ok (.aload_n 0, 1) := by decide +kernel
theorem dX3_read_40 : decode cX3_read 40 = .ok (.getfield 46, 3) := by decide +kernel
theorem dX3_read_43 : decode cX3_read 43 = .ok (.aload_n 0, 1) := by decide +kernel
theorem dX3_read_44 : decode cX3_read 44 = .ok (.getfield 12, 3) := by decide +kernel
theorem dX3_read_47 : decode cX3_read 47 = .ok (.getfield 52, 3) := by decide +kernel
theorem dX3_read_50 : decode cX3_read 50 = .ok (.if_icmp .ge 48, 3) := by decide +kernel
theorem dX3_read_53 : decode cX3_read 53 = .ok (.aload_n 0, 1) := by decide +kernel
theorem dX3_read_54 : decode cX3_read 54 = .ok (.getfield 39, 3) := by decide +kernel
theorem dX3_read_57 : decode cX3_read 57 = .ok (.iconst (-1), 1) := by decide +kernel
theorem dX3_read_58 : decode cX3_read 58 = .ok (.if_icmp .ne 40, 3) := by decide +kernel
theorem dX3_read_61 : decode cX3_read 61 = .ok (.aload_n 0, 1) := by decide +kernel
theorem dX3_read_62 : decode cX3_read 62 = .ok (.getfield 12, 3) := by decide +kernel
theorem dX3_read_65 : decode cX3_read 65 = .ok (.aload_n 0, 1) := by decide +kernel
theorem dX3_read_66 : decode cX3_read 66 = .ok (.getfield 46, 3) := by decide +kernel
theorem dX3_read_69 : decode cX3_read 69 = .ok (.invokevirtual 55, 3) := by decide +kernel
theorem dX3_read_72 : decode cX3_read 72 = .ok (.bipush 41, 2) := by decide +kernel
theorem dX3_read_74 : decode cX3_read 74 = .ok (.if_icmp .ne 10, 3) := by decide +kernel
theorem dX3_read_77 : decode cX3_read 77 = .ok (.aload_n 0, 1) := by decide +kernel
theorem dX3_read_78 : decode cX3_read 78 = .ok (.invokevirtual 59, 3) := by decide +kernel
theorem dX3_read_81 : decode cX3_read 81 = .ok (.goto 7, 3) := by decide +kernel
theorem dX3_read_84 : decode cX3_read 84 = .ok (.aload_n 0, 1) := by decide +kernel
theorem dX3_read_85 : decode cX3_read 85 = .ok (.invokevirtual 62, 3) := by decide +kernel
theorem dX3_read_88 : decode cX3_read 88 = .ok (.aload_n 0, 1) := by decide +kernel
theorem dX3_read_89 : decode cX3_read 89 = .ok (.invokevirtual 49, 3) := by decide +kernel
theorem dX3_read_92 : decode cX3_read 92 = .ok (.iinc 1 1, 3) := by decide +kernel
theorem dX3_read_95 : decode cX3_read 95 = .ok (.goto (-62), 3) := by decide +kernel
theorem dX3_read_98 : decode cX3_read 98 = .ok (.aload_n 0, 1) := by decide +kernel
theorem dX3_read_99 : decode cX3_read 99 = .ok (.getfield 39, 3) := by decide +kernel
theorem dX3_read_102 : decode cX3_read 102 = .ok (.iconst (-1), 1) := by decide +kernel
theorem dX3_read_103 : decode cX3_read 103 = .ok (.if_icmp .ne 21, 3) := by decide +kernel
theorem dX3_read_106 : decode cX3_read 106 = .ok (.aload_n 0, 1) := by decide +kernel
theorem dX3_read_107 : decode cX3_read 107 = .ok (.getfield 43, 3) := by decide +kernel
theorem dX3_read_110 : decode cX3_read 110 = .ok (.ifCond .le 14, 3) := by decide +kernel
theorem dX3_read_113 : decode cX3_read 113 = .ok (.aload_n 0, 1) := by decide +kernel
theorem dX3_read_114 : decode cX3_read 114 = .ok (.aload_n 0, 1) := by decide +kernel
theorem dX3_read_115 : decode cX3_read 115 = .ok (.getfield 12, 3) := by decide +kernel
theorem dX3_read_118 : decode cX3_read 118 = .ok (.getfield 52, 3) := by decide +kernel
theorem dX3_read_121 : decode cX3_read 121 = .ok (.putfield 39, 3) := by decide +kernel
theorem dX3_read_124 : decode cX3_read 124 = .ok (.return_, 1) := by decide +kernel
set_option maxRecDepth 20000 in
theorem ggX3_readPart_X3_digitAt : GoodIn wsX3_readPart wsX3_digitAt := goodIn_r _ [8, 3, 9, 10, 11, 12, 13, 14, 15, 16, 17, 18, 73, 74, 75, 76, 77, 78, 79, 80, 81, 82] (by decide +kernel) (by decide +kernel)
set_option maxRecDepth 20000 in
theorem gX3_readPart_X3_digitAt : GoodIn wsX3_readPart (wsV RX3 65 RX3 yX3_digitAt wsX3_digitAt) := goodIn_app (goodIn_of _ (by decide +kernel)) ggX3_readPart_X3_digitAt
set_option maxRecDepth 20000 in
theorem ggX3_readPart_X3_readTimes : GoodIn wsX3_readPart wsX3_readTimes := goodIn_r _ [22, 2, 3, 1, 23, 24, 25, 7, 26, 4, 5, 6, 8, 9, 10, 11, 12, 13, 14, 15, 16, 17, 18, 27, 28, 29, 30, 31, 73, 74, 75, 76, 77, 78, 79, 80, 81, 82] (by decide +kernel) (by decide +kernel)
set_option maxRecDepth 20000 in
theorem gX3_readPart_X3_readTimes : GoodIn wsX3_readPart (wsV RX3 68 RX3 yX3_readTimes wsX3_readTimes) := goodIn_app (goodIn_of _ (by decide +kernel)) ggX3_readPart_X3_readTimes
set_option maxRecDepth 20000 in
theorem ggX3_readPart_X7_byteAt : GoodIn wsX3_readPart wsX7_byteAt := goodIn_r _ [13, 14, 15, 81, 82] (by decide +kernel) (by decide +kernel)
set_option maxRecDepth 20000 in
theorem gX3_readPart_X7_byteAt : GoodIn wsX3_readPart (wsV RX3 55 RX7 yX7_byteAt wsX7_byteAt) := goodIn_app (goodIn_of _ (by decide +kernel)) ggX3_readPart_X7_byteAt
set_option maxRecDepth 20000 in
theorem ggX3_readPart_X3_openParenthesis : GoodIn wsX3_readPart wsX3_openParenthesis := goodIn_r _ [35, 36, 37, 38, 1, 2, 39, 40, 41, 42, 43, 44, 45, 46, 73, 74, 75, 76, 77, 78, 79, 80, 83, 84, 85, 86] (by decide +kernel) (by decide +kernel)
set_option maxRecDepth 20000 in
theorem gX3_readPart_X3_openParenthesis : GoodIn wsX3_readPart (wsV RX3 72 RX3 yX3_openParenthesis wsX3_openParenthesis) := goodIn_app (goodIn_of _ (by decide +kernel)) ggX3_readPart_X3_openParenthesis
set_option maxRecDepth 20000 in
theorem ggX3_readPart_X3_readItem : GoodIn wsX3_readPart wsX3_readItem := goodIn_r _ [50, 3, 1, 2, 39, 51, 9, 10, 11, 12, 13, 14, 15, 52, 53, 7, 54, 27, 28, 29, 30, 31, 23, 24, 25, 26, 4, 5, 6, 8, 16, 17, 18, 40, 41, 42, 43, 44, 45, 46, 55, 56, 57, 58, 59, 60, 61, 62, 63, 64, 65, 66, 67, 68, 69, 70, 71, 72, 73, 74, 75, 76, 77, 78, 79, 80, 81, 82, 83, 84, 85, 86] (by decide +kernel) (by decide +kernel)
set_option maxRecDepth 20000 in
theorem gX3_readPart_X3_readItem : GoodIn wsX3_readPart (wsV RX3 76 RX3 yX3_readItem wsX3_readItem) := goodIn_app (goodIn_of _ (by decide +kernel)) ggX3_readPart_X3_readItem
theorem dX3_readPart_0 : decode cX3_readPart 0 = .ok (.aload_n 0, 1) := by decide +kernel
theorem dX3_readPart_1 : decode cX3_readPart 1 = .ok (.aload_n 0, 1) := by decide +kernel
theorem dX3_readPart_2 : decode cX3_readPart 2 = .ok (.getfield 46, 3) := by decide +kernel
theorem dX3_readPart_5 : decode cX3_readPart 5 = .ok (.invokevirtual 65, 3) := by decide +kernel
theorem dX3_readPart_8 : decode cX3_readPart 8 = .ok (.iconst (-1), 1) := by decide +kernel
theorem dX3_readPart_9 : decode cX3_readPart 9 = .ok (.if_icmp .ne 7, 3) := by decide +kernel
theorem dX3_readPart_12 : decode cX3_readPart 12 = .ok (.iconst 1, 1) := by decide +kernel
theorem dX3_readPart_13 : decode cX3_readPart 13 = .ok (.goto 7, 3) := by decide +kernel
theorem dX3_readPart_16 : decode cX3_readPart 16 = .ok (.aload_n 0, 1) := by decide +kernel
theorem dX3_readPart_17 : decode cX3_readPart 17 = .ok (.invokevirtual 68, 3) := by decide +kernel
theorem dX3_readPart_20 : decode cX3_readPart 20 = .ok (.istore_n 1, 1) := by decide +kernel
theorem dX3_readPart_21 : decode cX3_readPart 21 = .ok (.aload_n 0, 1) := by decide +kernel
theorem dX3_readPart_22 : decode cX3_readPart 22 = .ok (.getfield 39, 3) := by decide +kernel
theorem dX3_readPart_25 : decode cX3_readPart 25 = .ok (.iconst (-1), 1) := by decide +kernel
theorem dX3_readPart_26 : decode cX3_readPart 26 = .ok (.if_icmp .eq 4, 3) := by decide +kernel
theorem dX3_readPart_29 : decode cX3_readPart 29 = .ok (.return_, 1) := by decide +kernel
theorem dX3_readPart_30 : decode cX3_readPart 30 = .ok (.aload_n 0, 1) := by decide +kernel
theorem dX3_readPart_31 : decode cX3_readPart 31 = .ok (.getfield 12, 3) := by decide +kernel
theorem dX3_readPart_34 : decode cX3_readPart 34 = .ok (.aload_n 0, 1) := by decide +kernel
theorem dX3_readPart_35 : decode cX3_readPart 35 = .ok (.getfield 46, 3) := by decide +kernel
theorem dX3_readPart_38 : decode cX3_readPart 38 = .ok (.invokevirtual 55, 3) := by decide +kernel
theorem dX3_readPart_41 : decode cX3_readPart 41 = .ok (.bipush 40, 2) := by decide +kernel
theorem dX3_readPart_43 : decode cX3_readPart 43 = .ok (.if_icmp .ne 11, 3) := by decide +kernel
theorem dX3_readPart_46 : decode cX3_readPart 46 = .ok (.aload_n 0, 1) := by decide +kernel
theorem dX3_readPart_47 : decode cX3_readPart 47 = .ok (.iload_n 1, 1) := by decide +kernel
theorem dX3_readPart_48 : decode cX3_readPart 48 = .ok (.invokevirtual 72, 3) := by decide +kernel
theorem dX3_readPart_51 : decode cX3_readPart 51 = .ok (.goto 8, 3) := by decide +kernel
theorem dX3_readPart_54 : decode cX3_readPart 54 = .ok (.aload_n 0, 1) := by decide +kernel
theorem dX3_readPart_55 : decode cX3_readPart 55 = .ok (.iload_n 1, 1) := by decide +kernel
theorem dX3_readPart_56 : decode cX3_readPart 56 = .ok (.invokevirtual 76, 3) := by decide +kernel
theorem dX3_readPart_59 : decode cX3_readPart 59 = .ok (.return_, 1) := by decide +kernel
set_option maxRecDepth 20000 in
theorem ggX3_readTimes_X3_readNumber : GoodIn wsX3_readTimes wsX3_readNumber := goodIn_r _ [8, 3, 1, 9, 10, 11, 7, 12, 2, 13, 14, 15, 16, 17, 18, 19, 20, 21, 22, 28, 29, 30, 31, 32, 33, 34, 35, 36, 37] (by decide +kernel) (by decide +kernel)
set_option maxRecDepth 20000 in
theorem gX3_readTimes_X3_readNumber : GoodIn wsX3_readTimes (wsV RX3 79 RX3 yX3_readNumber wsX3_readNumber) := goodIn_app (goodIn_of _ (by decide +kernel)) ggX3_readTimes_X3_readNumber
set_option maxRecDepth 20000 in
theorem ggX3_readTimes_X3_skipBlanks : GoodIn wsX3_readTimes wsX3_skipBlanks := goodIn_r _ [26, 3, 2, 27, 13, 14, 15, 16, 17, 18, 19, 28, 29, 30, 31, 32, 33, 34, 35, 36, 37] (by decide +kernel) (by decide +kernel)
set_option maxRecDepth 20000 in
theorem gX3_readTimes_X3_skipBlanks : GoodIn wsX3_readTimes (wsV RX3 49 RX3 yX3_skipBlanks wsX3_skipBlanks) := goodIn_app (goodIn_of _ (by decide +kernel)) ggX3_readTimes_X3_skipBlanks
set_option maxRecDepth 20000 in
theorem ggX3_readTimes_X7_byteAt : GoodIn wsX3_readTimes wsX7_byteAt := goodIn_r _ [17, 18, 19, 36, 37] (by decide +kernel) (by decide +kernel)
set_option maxRecDepth 20000 in
theorem gX3_readTimes_X7_byteAt : GoodIn wsX3_readTimes (wsV RX3 55 RX7 yX7_byteAt wsX7_byteAt) := goodIn_app (goodIn_of _ (by decide +kernel)) ggX3_readTimes_X7_byteAt
theorem dX3_readTimes_0 : decode cX3_readTimes 0 = .ok (.aload_n 0, 1) := by decide +kernel
theorem dX3_readTimes_1 : decode cX3_readTimes 1 = .ok (.bipush 99, 2) := by decide +kernel
theorem dX3_readTimes_3 : decode cX3_readTimes 3 = .ok (.invokevirtual 79, 3) := by decide +kernel
theorem dX3_readTimes_6 : decode cX3_readTimes 6 = .ok (.istore_n 1, 1) := by decide +kernel
theorem dX3_readTimes_7 : decode cX3_readTimes 7 = .ok (.aload_n 0, 1) := by decide +kernel
theorem dX3_readTimes_8 : decode cX3_readTimes 8 = .ok (.invokevirtual 49, 3) := by decide +kernel
theorem dX3_readTimes_11 : decode cX3_readTimes 11 = .ok (.aload_n 0, 1) := by decide +kernel
theorem dX3_readTimes_12 : decode cX3_readTimes 12 = .ok (.getfield 39, 3) := by decide +kernel
theorem dX3_readTimes_15 : decode cX3_readTimes 15 = .ok (.iconst (-1), 1) := by decide +kernel
theorem dX3_readTimes_16 : decode cX3_readTimes 16 = .ok (.if_icmp .ne 27, 3) := by decide +kernel
theorem dX3_readTimes_19 : decode cX3_readTimes 19 = .ok (.aload_n 0, 1) := by decide +kernel
theorem dX3_readTimes_20 : decode cX3_readTimes 20 = .ok (.getfield 12, 3) := by decide +kernel
theorem dX3_readTimes_23 : decode cX3_readTimes 23 = .ok (.aload_n 0, 1) := by decide +kernel
theorem dX3_readTimes_24 : decode cX3_readTimes 24 = .ok (.getfield 46, 3) := by decide +kernel
theorem dX3_readTimes_27 : decode cX3_readTimes 27 = .ok (.invokevirtual 55, 3) := by decide +kernel
theorem dX3_readTimes_30 : decode cX3_readTimes 30 = .ok (.bipush 42, 2) := by decide +kernel
theorem dX3_readTimes_32 : decode cX3_readTimes 32 = .ok (.if_icmp .eq 11, 3) := by decide +kernel
theorem dX3_readTimes_35 : decode cX3_readTimes 35 = .ok (.aload_n 0, 1) := by decide +kernel
theorem dX3_readTimes_36 : decode cX3_readTimes 36 = .ok (.aload_n 0, 1) := by decide +kernel
theorem dX3_readTimes_37 : decode cX3_readTimes 37 = .ok (.getfield 46, 3) := by decide +kernel
theorem dX3_readTimes_40 : decode cX3_readTimes 40 = .ok (.putfield 39, 3) := by decide +kernel
theorem dX3_readTimes_43 : decode cX3_readTimes 43 = .ok (.aload_n 0, 1) := by decide +kernel
theorem dX3_readTimes_44 : decode cX3_readTimes 44 = .ok (.dup, 1) := by decide +kernel
theorem dX3_readTimes_45 : decode cX3_readTimes 45 = .ok (.getfield 46, 3) := by decide +kernel
theorem dX3_readTimes_48 : decode cX3_readTimes 48 = .ok (.iconst 1, 1) := by decide +kernel
theorem dX3_readTimes_49 : decode cX3_readTimes 49 = .ok (.iadd, 1) := by decide +kernel
theorem dX3_readTimes_50 : decode cX3_readTimes 50 = .ok (.putfield 46, 3) := by decide +kernel
theorem dX3_readTimes_53 : decode cX3_readTimes 53 = .ok (.aload_n 0, 1) := by decide +kernel
theorem dX3_readTimes_54 : decode cX3_readTimes 54 = .ok (.invokevirtual 49, 3) := by decide +kernel
theorem dX3_readTimes_57 : decode cX3_readTimes 57 = .ok (.iload_n 1, 1) := by decide +kernel
theorem dX3_readTimes_58 : decode cX3_readTimes 58 = .ok (.ireturn, 1) := by decide +kernel
set_option maxRecDepth 20000 in
theorem ggX3_readItem_X7_byteAt : GoodIn wsX3_readItem wsX7_byteAt := goodIn_r _ [10, 11, 12, 66, 67] (by decide +kernel) (by decide +kernel)
set_option maxRecDepth 20000 in
theorem gX3_readItem_X7_byteAt : GoodIn wsX3_readItem (wsV RX3 55 RX7 yX7_byteAt wsX7_byteAt) := goodIn_app (goodIn_of _ (by decide +kernel)) ggX3_readItem_X7_byteAt
set_option maxRecDepth 20000 in
theorem ggX3_readItem_X3_kindNamed : GoodIn wsX3_readItem wsX3_kindNamed := goodIn_r _ [16] (by decide +kernel) (by decide +kernel)
set_option maxRecDepth 20000 in
theorem gX3_readItem_X3_kindNamed : GoodIn wsX3_readItem (va_wsS RX3 82 yX3_kindNamed wsX3_kindNamed) := goodIn_app (goodIn_of _ (by decide +kernel)) ggX3_readItem_X3_kindNamed
set_option maxRecDepth 20000 in
theorem ggX3_readItem_X3_skipBlanks : GoodIn wsX3_readItem wsX3_skipBlanks := goodIn_r _ [20, 2, 1, 21, 6, 7, 8, 9, 10, 11, 12, 58, 59, 60, 61, 62, 63, 64, 65, 66, 67] (by decide +kernel) (by decide +kernel)
set_option maxRecDepth 20000 in
theorem gX3_readItem_X3_skipBlanks : GoodIn wsX3_readItem (wsV RX3 49 RX3 yX3_skipBlanks wsX3_skipBlanks) := goodIn_app (goodIn_of _ (by decide +kernel)) ggX3_readItem_X3_skipBlanks
set_option maxRecDepth 20000 in
theorem ggX3_readItem_X3_readNumber : GoodIn wsX3_readItem wsX3_readNumber := goodIn_r _ [25, 2, 3, 26, 27, 28, 15, 29, 1, 6, 7, 8, 9, 10, 11, 12, 30, 31, 32, 58, 59, 60, 61, 62, 63, 64, 65, 66, 67] (by decide +kernel) (by decide +kernel)
set_option maxRecDepth 20000 in
theorem gX3_readItem_X3_readNumber : GoodIn wsX3_readItem (wsV RX3 79 RX3 yX3_readNumber wsX3_readNumber) := goodIn_app (goodIn_of _ (by decide +kernel)) ggX3_readItem_X3_readNumber
set_option maxRecDepth 20000 in
theorem ggX3_readItem_X1_size : GoodIn wsX3_readItem wsX1_size := goodIn_r _ [37, 38, 39, 68, 69, 70, 71] (by decide +kernel) (by decide +kernel)
set_option maxRecDepth 20000 in
theorem gX3_readItem_X1_size : GoodIn wsX3_readItem (wsV RX3 85 RX1 yX1_size wsX1_size) := goodIn_app (goodIn_of _ (by decide +kernel)) ggX3_readItem_X1_size
set_option maxRecDepth 20000 in
theorem ggX3_readItem_X1_append : GoodIn wsX3_readItem wsX1_append := goodIn_r _ [43, 38, 44, 45, 68, 69, 70, 71] (by decide +kernel) (by decide +kernel)
set_option maxRecDepth 20000 in
theorem gX3_readItem_X1_append : GoodIn wsX3_readItem (wsV RX3 88 RX1 yX1_append wsX1_append) := goodIn_app (goodIn_of _ (by decide +kernel)) ggX3_readItem_X1_append
set_option maxRecDepth 20000 in
theorem ggX3_readItem_X3_repeat : GoodIn wsX3_readItem wsX3_repeat := goodIn_r _ [49, 4, 5, 33, 34, 35, 36, 37, 38, 39, 50, 51, 52, 53, 44, 54, 55, 56, 57, 45, 40, 41, 42, 43, 58, 59, 60, 61, 62, 63, 64, 65, 68, 69, 70, 71] (by decide +kernel) (by decide +kernel)
set_option maxRecDepth 20000 in
theorem gX3_readItem_X3_repeat : GoodIn wsX3_readItem (wsV RX3 92 RX3 yX3_repeat wsX3_repeat) := goodIn_app (goodIn_of _ (by decide +kernel)) ggX3_readItem_X3_repeat
theorem dX3_readItem_0 : decode cX3_readItem 0 = .ok (.aload_n 0, 1) := by decide +kernel
theorem dX3_readItem_1 : decode cX3_readItem 1 = .ok (.getfield 12, 3) := by decide +kernel
theorem dX3_readItem_4 : decode cX3_readItem 4 = .ok (.aload_n 0, 1) := by decide +kernel
theorem dX3_readItem_5 : decode cX3_readItem 5 = .ok (.getfield 46, 3) := by decide +kernel
theorem dX3_readItem_8 : decode cX3_readItem 8 = .ok (.invokevirtual 55, 3) := by decide +kernel
theorem dX3_readItem_11 : decode cX3_readItem 11 = .ok (.invokestatic 82, 3) := by decide +kernel
theorem dX3_readItem_14 : decode cX3_readItem 14 = .ok (.istore_n 2, 1) := by decide +kernel
theorem dX3_readItem_15 : decode cX3_readItem 15 = .ok (.iload_n 2, 1) := by decide +kernel
theorem dX3_readItem_16 : decode cX3_readItem 16 = .ok (.iconst (-1), 1) := by decide +kernel
theorem dX3_readItem_17 : decode cX3_readItem 17 = .ok (.if_icmp .ne 12, 3) := by decide +kernel
theorem dX3_readItem_20 : decode cX3_readItem 20 = .ok (.aload_n 0, 1) := by decide +kernel
theorem dX3_readItem_21 : decode cX3_readItem 21 = .ok (.aload_n 0, 1) := by decide +kernel
theorem dX3_readItem_22 : decode cX3_readItem 22 = .ok (.getfield 46, 3) := by decide +kernel
theorem dX3_readItem_25 : decode cX3_readItem 25 = .ok (.putfield 39, 3) := by decide +kernel
theorem dX3_readItem_28 : decode cX3_readItem 28 = .ok (.return_, 1) := by decide +kernel
theorem dX3_readItem_29 : decode cX3_readItem 29 = .ok (.aload_n 0, 1) := by decide +kernel
theorem dX3_readItem_30 : decode cX3_readItem 30 = .ok (.dup, 1) := by decide +kernel
theorem dX3_readItem_31 : decode cX3_readItem 31 = .ok (.getfield 46, 3) := by decide +kernel
theorem dX3_readItem_34 : decode cX3_readItem 34 = .ok (.iconst 1, 1) := by decide +kernel
theorem dX3_readItem_35 : decode cX3_readItem 35 = .ok (.iadd, 1) := by decide +kernel
theorem dX3_readItem_36 : decode cX3_readItem 36 = .ok (.putfield 46, 3) := by decide +kernel
theorem dX3_readItem_39 : decode cX3_readItem 39 = .ok (.aload_n 0, 1) := by decide +kernel
theorem dX3_readItem_40 : decode cX3_readItem 40 = .ok (.invokevirtual 49, 3) := by decide +kernel
theorem dX3_readItem_43 : decode cX3_readItem 43 = .ok (.aload_n 0, 1) := by decide +kernel
theorem dX3_readItem_44 : decode cX3_readItem 44 = .ok (.iload_n 2, 1) := by decide +kernel
theorem dX3_readItem_45 : decode cX3_readItem 45 = .ok (.iconst 1, 1) := by decide +kernel
theorem dX3_readItem_46 : decode cX3_readItem 46 = .ok (.if_icmp .eq 8, 3) := by decide +kernel
theorem dX3_readItem_49 : decode cX3_readItem 49 = .ok (.iload_n 2, 1) := by decide +kernel
theorem dX3_readItem_50 : decode cX3_readItem 50 = .ok (.iconst 3, 1) := by decide +kernel
theorem dX3_readItem_51 : decode cX3_readItem 51 = .ok (.if_icmp .ne 8, 3) := by decide +kernel
theorem dX3_readItem_54 : decode cX3_readItem 54 = .ok (.bipush 30, 2) := by decide +kernel
theorem dX3_readItem_56 : decode cX3_readItem 56 = .ok (.goto 5, 3) := by decide +kernel
theorem dX3_readItem_59 : decode cX3_readItem 59 = .ok (.bipush 99, 2) := by decide +kernel
theorem dX3_readItem_61 : decode cX3_readItem 61 = .ok (.invokevirtual 79, 3) := by decide +kernel
theorem dX3_readItem_64 : decode cX3_readItem 64 = .ok (.istore_n 3, 1) := by decide +kernel
theorem dX3_readItem_65 : decode cX3_readItem 65 = .ok (.aload_n 0, 1) := by decide +kernel
theorem dX3_readItem_66 : decode cX3_readItem 66 = .ok (.getfield 39, 3) := by decide +kernel
theorem dX3_readItem_69 : decode cX3_readItem 69 = .ok (.iconst (-1), 1) := by decide +kernel
theorem dX3_readItem_70 : decode cX3_readItem 70 = .ok (.if_icmp .eq 4, 3) := by decide +kernel
theorem dX3_readItem_73 : decode cX3_readItem 73 = .ok (.return_, 1) := by decide +kernel
theorem dX3_readItem_74 : decode cX3_readItem 74 = .ok (.aload_n 0, 1) := by decide +kernel
theorem dX3_readItem_75 : decode cX3_readItem 75 = .ok (.getfield 21, 3) := by decide +kernel
theorem dX3_readItem_78 : decode cX3_readItem 78 = .ok (.invokevirtual 85, 3) := by decide +kernel
theorem dX3_readItem_81 : decode cX3_readItem 81 = .ok (.istore 4, 2) := by decide +kernel
theorem dX3_readItem_83 : decode cX3_readItem 83 = .ok (.aload_n 0, 1) := by decide +kernel
theorem dX3_readItem_84 : decode cX3_readItem 84 = .ok (.getfield 21, 3) := by decide +kernel
theorem dX3_readItem_87 : decode cX3_readItem 87 = .ok (.iload_n 2, 1) := by decide +kernel
theorem dX3_readItem_88 : decode cX3_readItem 88 = .ok (.iload_n 3, 1) := by decide +kernel
theorem dX3_readItem_89 : decode cX3_readItem 89 = .ok (.invokevirtual 88, 3) := by decide +kernel
theorem dX3_readItem_92 : decode cX3_readItem 92 = .ok (.ifCond .ne 8, 3) := by decide +kernel
theorem dX3_readItem_95 : decode cX3_readItem 95 = .ok (.aload_n 0, 1) := by decide +kernel
theorem dX3_readItem_96 : decode cX3_readItem 96 = .ok (.iconst 1, 1) := by decide +kernel
theorem dX3_readItem_97 : decode cX3_readItem 97 = .ok (.putfield 35, 3) := by decide +kernel
theorem dX3_readItem_100 : decode cX3_readItem 100 = .ok (.aload_n 0, 1) := by decide +kernel
theorem dX3_readItem_101 : decode cX3_readItem 101 = .ok (.iload 4, 2) := by decide +kernel
theorem dX3_readItem_103 : decode cX3_readItem 103 = .ok (.iload_n 1, 1) := by decide +kernel
theorem dX3_readItem_104 : decode cX3_readItem 104 = .ok (.invokevirtual 92, 3) := by decide +kernel
theorem dX3_readItem_107 : decode cX3_readItem 107 = .ok (.return_, 1) := by decide +kernel
set_option maxRecDepth 20000 in
theorem ggX3_openParenthesis_X1_size : GoodIn wsX3_openParenthesis wsX1_size := goodIn_r _ [11, 12, 13, 22, 23, 24, 25] (by decide +kernel) (by decide +kernel)
set_option maxRecDepth 20000 in
theorem gX3_openParenthesis_X1_size : GoodIn wsX3_openParenthesis (wsV RX3 85 RX1 yX1_size wsX1_size) := goodIn_app (goodIn_of _ (by decide +kernel)) ggX3_openParenthesis_X1_size
theorem dX3_openParenthesis_0 : decode cX3_openParenthesis 0 = .ok (.aload_n 0, 1) := by decide +kernel
theorem dX3_openParenthesis_1 : decode cX3_openParenthesis 1 = .ok (.getfield 43, 3) := by decide +kernel
theorem dX3_openParenthesis_4 : decode cX3_openParenthesis 4 = .ok (.ifCond .lt 27, 3) := by decide +kernel
theorem dX3_openParenthesis_7 : decode cX3_openParenthesis 7 = .ok (.aload_n 0, 1) := by decide +kernel
theorem dX3_openParenthesis_8 : decode cX3_openParenthesis 8 = .ok (.getfield 43, 3) := by decide +kernel
theorem dX3_openParenthesis_11 : decode cX3_openParenthesis 11 = .ok (.aload_n 0, 1) := by decide +kernel
theorem dX3_openParenthesis_12 : decode cX3_openParenthesis 12 = .ok (.getfield 25, 3) := by decide +kernel
theorem dX3_openParenthesis_15 : decode cX3_openParenthesis 15 = .ok (.arraylength, 1) := by decide +kernel
theorem dX3_openParenthesis_16 : decode cX3_openParenthesis 16 = .ok (.if_icmp .ge 15, 3) := by decide +kernel
theorem dX3_openParenthesis_19 : decode cX3_openParenthesis 19 = .ok (.aload_n 0, 1) := by decide +kernel
theorem dX3_openParenthesis_20 : decode cX3_openParenthesis 20 = .ok (.getfield 43, 3) := by decide +kernel
theorem dX3_openParenthesis_23 : decode cX3_openParenthesis 23 = .ok (.aload_n 0, 1) := by decide +kernel
theorem dX3_openParenthesis_24 : decode cX3_openParenthesis 24 = .ok (.getfield 29, 3) := by decide +kernel
theorem dX3_openParenthesis_27 : decode cX3_openParenthesis 27 = .ok (.arraylength, 1) := by decide +kernel
theorem dX3_openParenthesis_28 : decode cX3_openParenthesis 28 = .ok (.if_icmp .lt 12, 3) := by decide +kernel
theorem dX3_openParenthesis_31 : decode cX3_openParenthesis 31 = .ok (.aload_n 0, 1) := by decide +kernel
theorem dX3_openParenthesis_32 : decode cX3_openParenthesis 32 = .ok (.aload_n 0, 1) := by decide +kernel
theorem dX3_openParenthesis_33 : decode cX3_openParenthesis 33 = .ok (.getfield 46, 3) := by decide +kernel
theorem dX3_openParenthesis_36 : decode cX3_openParenthesis 36 = .ok (.putfield 39, 3) := by decide +kernel
theorem dX3_openParenthesis_39 : decode cX3_openParenthesis 39 = .ok (.return_, 1) := by decide +kernel
theorem dX3_openParenthesis_40 : decode cX3_openParenthesis 40 = .ok (.aload_n 0, 1) := by decide +kernel
theorem dX3_openParenthesis_41 : decode cX3_openParenthesis 41 = .ok (.getfield 25, 3) := by decide +kernel
theorem dX3_openParenthesis_44 : decode cX3_openParenthesis 44 = .ok (.aload_n 0, 1) := by decide +kernel
theorem dX3_openParenthesis_45 : decode cX3_openParenthesis 45 = .ok (.getfield 43, 3) := by decide +kernel
theorem dX3_openParenthesis_48 : decode cX3_openParenthesis 48 = .ok (.aload_n 0, 1) := by decide +kernel
theorem dX3_openParenthesis_49 : decode cX3_openParenthesis 49 = .ok (.getfield 21, 3) := by decide +kernel
theorem dX3_openParenthesis_52 : decode cX3_openParenthesis 52 = .ok (.invokevirtual 85, 3) := by decide +kernel
theorem dX3_openParenthesis_55 : decode cX3_openParenthesis 55 = .ok (.iastore, 1) := by decide +kernel
theorem dX3_openParenthesis_56 : decode cX3_openParenthesis 56 = .ok (.aload_n 0, 1) := by decide +kernel
theorem dX3_openParenthesis_57 : decode cX3_openParenthesis 57 = .ok (.getfield 29, 3) := by decide +kernel
theorem dX3_openParenthesis_60 : decode cX3_openParenthesis 60 = .ok (.aload_n 0, 1) := by decide +kernel
theorem dX3_openParenthesis_61 : decode cX3_openParenthesis 61 = .ok (.getfield 43, 3) := by decide +kernel
theorem dX3_openParenthesis_64 : decode cX3_openParenthesis 64 = .ok (.iload_n 1, 1) := by decide +kernel
theorem dX3_openParenthesis_65 : decode cX3_openParenthesis 65 = .ok (.iastore, 1) := by decide +kernel
theorem dX3_openParenthesis_66 : decode cX3_openParenthesis 66 = .ok (.aload_n 0, 1) := by decide +kernel
theorem dX3_openParenthesis_67 : decode cX3_openParenthesis 67 = .ok (.dup, 1) := by decide +kernel
theorem dX3_openParenthesis_68 : decode cX3_openParenthesis 68 = .ok (.getfield 43, 3) := by decide +kernel
theorem dX3_openParenthesis_71 : decode cX3_openParenthesis 71 = .ok (.iconst 1, 1) := by decide +kernel
theorem dX3_openParenthesis_72 : decode cX3_openParenthesis 72 = .ok (.iadd, 1) := by decide +kernel
theorem dX3_openParenthesis_73 : decode cX3_openParenthesis 73 = .ok (.putfield 43, 3) := by decide +kernel
theorem dX3_openParenthesis_76 : decode cX3_openParenthesis 76 = .ok (.aload_n 0, 1) := by decide +kernel
theorem dX3_openParenthesis_77 : decode cX3_openParenthesis 77 = .ok (.dup, 1) := by decide +kernel
theorem dX3_openParenthesis_78 : decode cX3_openParenthesis 78 = .ok (.getfield 46, 3) := by decide +kernel
theorem dX3_openParenthesis_81 : decode cX3_openParenthesis 81 = .ok (.iconst 1, 1) := by decide +kernel
theorem dX3_openParenthesis_82 : decode cX3_openParenthesis 82 = .ok (.iadd, 1) := by decide +kernel
theorem dX3_openParenthesis_83 : decode cX3_openParenthesis 83 = .ok (.putfield 46, 3) := by decide +kernel
theorem dX3_openParenthesis_86 : decode cX3_openParenthesis 86 = .ok (.return_, 1) := by decide +kernel
set_option maxRecDepth 20000 in
theorem ggX3_closeParenthesis_X3_repeat : GoodIn wsX3_closeParenthesis wsX3_repeat := goodIn_r _ [10, 11, 12, 13, 14, 15, 16, 17, 18, 19, 20, 21, 22, 23, 24, 25, 26, 27, 28, 29, 30, 31, 32, 33, 34, 35, 36, 37, 38, 39, 40, 41, 42, 43, 44, 45] (by decide +kernel) (by decide +kernel)
set_option maxRecDepth 20000 in
theorem gX3_closeParenthesis_X3_repeat : GoodIn wsX3_closeParenthesis (wsV RX3 92 RX3 yX3_repeat wsX3_repeat) := goodIn_app (goodIn_of _ (by decide +kernel)) ggX3_closeParenthesis_X3_repeat
theorem dX3_closeParenthesis_0 : decode cX3_closeParenthesis 0 = .ok (.aload_n 0, 1) := by decide +kernel
theorem dX3_closeParenthesis_1 : decode cX3_closeParenthesis 1 = .ok (.getfield 43, 3) := by decide +kernel
theorem dX3_closeParenthesis_4 : decode cX3_closeParenthesis 4 = .ok (.iconst 1, 1) := by decide +kernel
theorem dX3_closeParenthesis_5 : decode cX3_closeParenthesis 5 = .ok (.isub, 1) := by decide +kernel
theorem dX3_closeParenthesis_6 : decode cX3_closeParenthesis 6 = .ok (.istore_n 1, 1) := by decide +kernel
theorem dX3_closeParenthesis_7 : decode cX3_closeParenthesis 7 = .ok (.iload_n 1, 1) := by decide +kernel
theorem dX3_closeParenthesis_8 : decode cX3_closeParenthesis 8 = .ok (.ifCond .lt 21, 3) := by decide +kernel
theorem dX3_closeParenthesis_11 : decode cX3_closeParenthesis 11 = .ok (.iload_n 1, 1) := by decide +kernel
theorem dX3_closeParenthesis_12 : decode cX3_closeParenthesis 12 = .ok (.aload_n 0, 1) := by decide +kernel
theorem dX3_closeParenthesis_13 : decode cX3_closeParenthesis 13 = .ok (.getfield 25, 3) := by decide +kernel
theorem dX3_closeParenthesis_16 : decode cX3_closeParenthesis 16 = .ok (.arraylength, 1) := by decide +kernel
theorem dX3_closeParenthesis_17 : decode cX3_closeParenthesis 17 = .ok (.if_icmp .ge 12, 3) := by decide +kernel
theorem dX3_closeParenthesis_20 : decode cX3_closeParenthesis 20 = .ok (.iload_n 1, 1) := by decide +kernel
theorem dX3_closeParenthesis_21 : decode cX3_closeParenthesis 21 = .ok (.aload_n 0, 1) := by decide +kernel
theorem dX3_closeParenthesis_22 : decode cX3_closeParenthesis 22 = .ok (.getfield 29, 3) := by decide +kernel
theorem dX3_closeParenthesis_25 : decode cX3_closeParenthesis 25 = .ok (.arraylength, 1) := by decide +kernel
theorem dX3_closeParenthesis_26 : decode cX3_closeParenthesis 26 = .ok (.if_icmp .lt 12, 3) := by decide +kernel
theorem dX3_closeParenthesis_29 : decode cX3_closeParenthesis 29 = .ok (.aload_n 0, 1) := by decide +kernel
theorem dX3_closeParenthesis_30 : decode cX3_closeParenthesis 30 = .ok (.aload_n 0, 1) := by decide +kernel
theorem dX3_closeParenthesis_31 : decode cX3_closeParenthesis 31 = .ok (.getfield 46, 3) := by decide +kernel
theorem dX3_closeParenthesis_34 : decode cX3_closeParenthesis 34 = .ok (.putfield 39, 3) := by decide +kernel
theorem dX3_closeParenthesis_37 : decode cX3_closeParenthesis 37 = .ok (.return_, 1) := by decide +kernel
theorem dX3_closeParenthesis_38 : decode cX3_closeParenthesis 38 = .ok (.aload_n 0, 1) := by decide +kernel
theorem dX3_closeParenthesis_39 : decode cX3_closeParenthesis 39 = .ok (.iload_n 1, 1) := by decide +kernel
theorem dX3_closeParenthesis_40 : decode cX3_closeParenthesis 40 = .ok (.putfield 43, 3) := by decide +kernel
theorem dX3_closeParenthesis_43 : decode cX3_closeParenthesis 43 = .ok (.aload_n 0, 1) := by decide +kernel
theorem dX3_closeParenthesis_44 : decode cX3_closeParenthesis 44 = .ok (.dup, 1) := by decide +kernel
theorem dX3_closeParenthesis_45 : decode cX3_closeParenthesis 45 = .ok (.getfield 46, 3) := by decide +kernel
theorem dX3_closeParenthesis_48 : decode cX3_closeParenthesis 48 = .ok (.iconst 1, 1) := by decide +kernel
theorem dX3_closeParenthesis_49 : decode cX3_closeParenthesis 49 = .ok (.iadd, 1) := by decide +kernel
theorem dX3_closeParenthesis_50 : decode cX3_closeParenthesis 50 = .ok (.putfield 46, 3) := by decide +kernel
theorem dX3_closeParenthesis_53 : decode cX3_closeParenthesis 53 = .ok (.aload_n 0, 1) := by decide +kernel
theorem dX3_closeParenthesis_54 : decode cX3_closeParenthesis 54 = .ok (.aload_n 0, 1) := by decide +kernel
theorem dX3_closeParenthesis_55 : decode cX3_closeParenthesis 55 = .ok (.getfield 25, 3) := by decide +kernel
theorem dX3_closeParenthesis_58 : decode cX3_closeParenthesis 58 = .ok (.iload_n 1, 1) := by decide +kernel
theorem dX3_closeParenthesis_59 : decode cX3_closeParenthesis 59 = .ok (.iaload, 1) := by decide +kernel
theorem dX3_closeParenthesis_60 : decode cX3_closeParenthesis 60 = .ok (.aload_n 0, 1) := by decide +kernel
theorem dX3_closeParenthesis_61 : decode cX3_closeParenthesis 61 = .ok (.getfield 29, 3) := by decide +kernel
theorem dX3_closeParenthesis_64 : decode cX3_closeParenthesis 64 = .ok (.iload_n 1, 1) := by decide +kernel
theorem dX3_closeParenthesis_65 : decode cX3_closeParenthesis 65 = .ok (.iaload, 1) := by decide +kernel
theorem dX3_closeParenthesis_66 : decode cX3_closeParenthesis 66 = .ok (.invokevirtual 92, 3) := by decide +kernel
theorem dX3_closeParenthesis_69 : decode cX3_closeParenthesis 69 = .ok (.return_, 1) := by decide +kernel
set_option maxRecDepth 20000 in
theorem ggX3_repeat_X1_size : GoodIn wsX3_repeat wsX1_size := goodIn_r _ [7, 8, 9, 32, 33, 34, 35] (by decide +kernel) (by decide +kernel)
set_option maxRecDepth 20000 in
theorem gX3_repeat_X1_size : GoodIn wsX3_repeat (wsV RX3 85 RX1 yX1_size wsX1_size) := goodIn_app (goodIn_of _ (by decide +kernel)) ggX3_repeat_X1_size
set_option maxRecDepth 20000 in
theorem ggX3_repeat_X1_kindOf : GoodIn wsX3_repeat wsX1_kindOf := goodIn_r _ [13, 9, 14, 32, 33, 34, 35] (by decide +kernel) (by decide +kernel)
set_option maxRecDepth 20000 in
theorem gX3_repeat_X1_kindOf : GoodIn wsX3_repeat (wsV RX3 96 RX1 yX1_kindOf wsX1_kindOf) := goodIn_app (goodIn_of _ (by decide +kernel)) ggX3_repeat_X1_kindOf
set_option maxRecDepth 20000 in
theorem ggX3_repeat_X1_lengthOf : GoodIn wsX3_repeat wsX1_lengthOf := goodIn_r _ [18, 9, 19, 32, 33, 34, 35] (by decide +kernel) (by decide +kernel)
set_option maxRecDepth 20000 in
theorem gX3_repeat_X1_lengthOf : GoodIn wsX3_repeat (wsV RX3 99 RX1 yX1_lengthOf wsX1_lengthOf) := goodIn_app (goodIn_of _ (by decide +kernel)) ggX3_repeat_X1_lengthOf
set_option maxRecDepth 20000 in
theorem ggX3_repeat_X1_append : GoodIn wsX3_repeat wsX1_append := goodIn_r _ [23, 8, 14, 19, 32, 33, 34, 35] (by decide +kernel) (by decide +kernel)
set_option maxRecDepth 20000 in
theorem gX3_repeat_X1_append : GoodIn wsX3_repeat (wsV RX3 88 RX1 yX1_append wsX1_append) := goodIn_app (goodIn_of _ (by decide +kernel)) ggX3_repeat_X1_append
theorem dX3_repeat_0 : decode cX3_repeat 0 = .ok (.aload_n 0, 1) := by decide +kernel
theorem dX3_repeat_1 : decode cX3_repeat 1 = .ok (.getfield 21, 3) := by decide +kernel
theorem dX3_repeat_4 : decode cX3_repeat 4 = .ok (.invokevirtual 85, 3) := by decide +kernel
theorem dX3_repeat_7 : decode cX3_repeat 7 = .ok (.iload_n 1, 1) := by decide +kernel
theorem dX3_repeat_8 : decode cX3_repeat 8 = .ok (.isub, 1) := by decide +kernel
theorem dX3_repeat_9 : decode cX3_repeat 9 = .ok (.istore_n 3, 1) := by decide +kernel
theorem dX3_repeat_10 : decode cX3_repeat 10 = .ok (.iload_n 1, 1) := by decide +kernel
theorem dX3_repeat_11 : decode cX3_repeat 11 = .ok (.iload_n 3, 1) := by decide +kernel
theorem dX3_repeat_12 : decode cX3_repeat 12 = .ok (.iload_n 2, 1) := by decide +kernel
theorem dX3_repeat_13 : decode cX3_repeat 13 = .ok (.imul, 1) := by decide +kernel
theorem dX3_repeat_14 : decode cX3_repeat 14 = .ok (.iadd, 1) := by decide +kernel
theorem dX3_repeat_15 : decode cX3_repeat 15 = .ok (.bipush 80, 2) := by decide +kernel
theorem dX3_repeat_17 : decode cX3_repeat 17 = .ok (.if_icmp .le 9, 3) := by decide +kernel
theorem dX3_repeat_20 : decode cX3_repeat 20 = .ok (.aload_n 0, 1) := by decide +kernel
theorem dX3_repeat_21 : decode cX3_repeat 21 = .ok (.iconst 1, 1) := by decide +kernel
theorem dX3_repeat_22 : decode cX3_repeat 22 = .ok (.putfield 35, 3) := by decide +kernel
theorem dX3_repeat_25 : decode cX3_repeat 25 = .ok (.return_, 1) := by decide +kernel
theorem dX3_repeat_26 : decode cX3_repeat 26 = .ok (.iconst 0, 1) := by decide +kernel
theorem dX3_repeat_27 : decode cX3_repeat 27 = .ok (.istore 4, 2) := by decide +kernel
theorem dX3_repeat_29 : decode cX3_repeat 29 = .ok (.iload 4, 2) := by decide +kernel
theorem dX3_repeat_31 : decode cX3_repeat 31 = .ok (.iload_n 3, 1) := by decide +kernel
theorem dX3_repeat_32 : decode cX3_repeat 32 = .ok (.iload_n 2, 1) := by decide +kernel
theorem dX3_repeat_33 : decode cX3_repeat 33 = .ok (.iconst 1, 1) := by decide +kernel
theorem dX3_repeat_34 : decode cX3_repeat 34 = .ok (.isub, 1) := by decide +kernel
theorem dX3_repeat_35 : decode cX3_repeat 35 = .ok (.imul, 1) := by decide +kernel
theorem dX3_repeat_36 : decode cX3_repeat 36 = .ok (.if_icmp .ge 39, 3) := by decide +kernel
theorem dX3_repeat_39 : decode cX3_repeat 39 = .ok (.aload_n 0, 1) := by decide +kernel
theorem dX3_repeat_40 : decode cX3_repeat 40 = .ok (.getfield 21, 3) := by decide +kernel
theorem dX3_repeat_43 : decode cX3_repeat 43 = .ok (.aload_n 0, 1) := by decide +kernel
theorem dX3_repeat_44 : decode cX3_repeat 44 = .ok (.getfield 21, 3) := by decide +kernel
theorem dX3_repeat_47 : decode cX3_repeat 47 = .ok (.iload_n 1, 1) := by decide +kernel
theorem dX3_repeat_48 : decode cX3_repeat 48 = .ok (.iload 4, 2) := by decide +kernel
theorem dX3_repeat_50 : decode cX3_repeat 50 = .ok (.iadd, 1) := by decide +kernel
theorem dX3_repeat_51 : decode cX3_repeat 51 = .ok (.invokevirtual 96, 3) := by decide +kernel
theorem dX3_repeat_54 : decode cX3_repeat 54 = .ok (.aload_n 0, 1) := by decide +kernel
theorem dX3_repeat_55 : decode cX3_repeat 55 = .ok (.getfield 21, 3) := by decide +kernel
theorem dX3_repeat_58 : decode cX3_repeat 58 = .ok (.iload_n 1, 1) := by decide +kernel
theorem dX3_repeat_59 : decode cX3_repeat 59 = .ok (.iload 4, 2) := by decide +kernel
theorem dX3_repeat_61 : decode cX3_repeat 61 = .ok (.iadd, 1) := by decide +kernel
theorem dX3_repeat_62 : decode cX3_repeat 62 = .ok (.invokevirtual 99, 3) := by decide +kernel
theorem dX3_repeat_65 : decode cX3_repeat 65 = .ok (.invokevirtual 88, 3) := by decide +kernel
theorem dX3_repeat_68 : decode cX3_repeat 68 = .ok (.pop, 1) := by decide +kernel
theorem dX3_repeat_69 : decode cX3_repeat 69 = .ok (.iinc 4 1, 3) := by decide +kernel
theorem dX3_repeat_72 : decode cX3_repeat 72 = .ok (.goto (-43), 3) := by decide +kernel
theorem dX3_repeat_75 : decode cX3_repeat 75 = .ok (.return_, 1) := by decide +kernel
set_option maxRecDepth 20000 in
theorem ggX3_readNumber_X3_digitAt : GoodIn wsX3_readNumber wsX3_digitAt := goodIn_r _ [7, 8, 9, 10, 11, 12, 13, 14, 15, 16, 17, 18, 19, 20, 21, 22, 23, 24, 25, 26, 27, 28] (by decide +kernel) (by decide +kernel)
set_option maxRecDepth 20000 in
theorem gX3_readNumber_X3_digitAt : GoodIn wsX3_readNumber (wsV RX3 65 RX3 yX3_digitAt wsX3_digitAt) := goodIn_app (goodIn_of _ (by decide +kernel)) ggX3_readNumber_X3_digitAt
theorem dX3_readNumber_0 : decode cX3_readNumber 0 = .ok (.aload_n 0, 1) := by decide +kernel
theorem dX3_readNumber_1 : decode cX3_readNumber 1 = .ok (.getfield 46, 3) := by decide +kernel
theorem dX3_readNumber_4 : decode cX3_readNumber 4 = .ok (.istore_n 2, 1) := by decide +kernel
theorem dX3_readNumber_5 : decode cX3_readNumber 5 = .ok (.aload_n 0, 1) := by decide +kernel
theorem dX3_readNumber_6 : decode cX3_readNumber 6 = .ok (.aload_n 0, 1) := by decide +kernel
theorem dX3_readNumber_7 : decode cX3_readNumber 7 = .ok (.getfield 46, 3) := by decide +kernel
theorem dX3_readNumber_10 : decode cX3_readNumber 10 = .ok (.invokevirtual 65, 3) := by decide +kernel
theorem dX3_readNumber_13 : decode cX3_readNumber 13 = .ok (.istore_n 3, 1) := by decide +kernel
theorem dX3_readNumber_14 : decode cX3_readNumber 14 = .ok (.iload_n 3, 1) := by decide +kernel
theorem dX3_readNumber_15 : decode cX3_readNumber 15 = .ok (.iconst (-1), 1) := by decide +kernel
theorem dX3_readNumber_16 : decode cX3_readNumber 16 = .ok (.if_icmp .ne 13, 3) := by decide +kernel
theorem dX3_readNumber_19 : decode cX3_readNumber 19 = .ok (.aload_n 0, 1) := by decide +kernel
theorem dX3_readNumber_20 : decode cX3_readNumber 20 = .ok (.aload_n 0, 1) := by decide +kernel
theorem dX3_readNumber_21 : decode cX3_readNumber 21 = .ok (.getfield 46, 3) := by decide +kernel
theorem dX3_readNumber_24 : decode cX3_readNumber 24 = .ok (.putfield 39, 3) := by decide +kernel
theorem dX3_readNumber_27 : decode cX3_readNumber 27 = .ok (.iconst 0, 1) := by decide +kernel
theorem dX3_readNumber_28 : decode cX3_readNumber 28 = .ok (.ireturn, 1) := by decide +kernel
theorem dX3_readNumber_29 : decode cX3_readNumber 29 = .ok (.aload_n 0, 1) := by decide +kernel
theorem dX3_readNumber_30 : decode cX3_readNumber 30 = .ok (.dup, 1) := by decide +kernel
theorem dX3_readNumber_31 : decode cX3_readNumber 31 = .ok (.getfield 46, 3) := by decide +kernel
theorem dX3_readNumber_34 : decode cX3_readNumber 34 = .ok (.iconst 1, 1) := by decide +kernel
theorem dX3_readNumber_35 : decode cX3_readNumber 35 = .ok (.iadd, 1) := by decide +kernel
theorem dX3_readNumber_36 : decode cX3_readNumber 36 = .ok (.putfield 46, 3) := by decide +kernel
theorem dX3_readNumber_39 : decode cX3_readNumber 39 = .ok (.aload_n 0, 1) := by decide +kernel
theorem dX3_readNumber_40 : decode cX3_readNumber 40 = .ok (.aload_n 0, 1) := by decide +kernel
theorem dX3_readNumber_41 : decode cX3_readNumber 41 = .ok (.getfield 46, 3) := by decide +kernel
theorem dX3_readNumber_44 : decode cX3_readNumber 44 = .ok (.invokevirtual 65, 3) := by decide +kernel
theorem dX3_readNumber_47 : decode cX3_readNumber 47 = .ok (.iconst (-1), 1) := by decide +kernel
theorem dX3_readNumber_48 : decode cX3_readNumber 48 = .ok (.if_icmp .eq 27, 3) := by decide +kernel
theorem dX3_readNumber_51 : decode cX3_readNumber 51 = .ok (.bipush 10, 2) := by decide +kernel
theorem dX3_readNumber_53 : decode cX3_readNumber 53 = .ok (.iload_n 3, 1) := by decide +kernel
theorem dX3_readNumber_54 : decode cX3_readNumber 54 = .ok (.imul, 1) := by decide +kernel
theorem dX3_readNumber_55 : decode cX3_readNumber 55 = .ok (.aload_n 0, 1) := by decide +kernel
theorem dX3_readNumber_56 : decode cX3_readNumber 56 = .ok (.aload_n 0, 1) := by decide +kernel
theorem dX3_readNumber_57 : decode cX3_readNumber 57 = .ok (.getfield 46, 3) := by decide +kernel
theorem dX3_readNumber_60 : decode cX3_readNumber 60 = .ok (.invokevirtual 65, 3) := by decide +kernel
theorem dX3_readNumber_63 : decode cX3_readNumber 63 = .ok (.iadd, 1) := by decide +kernel
theorem dX3_readNumber_64 : decode cX3_readNumber 64 = .ok (.istore_n 3, 1) := by decide +kernel
theorem dX3_readNumber_65 : decode cX3_readNumber 65 = .ok (.aload_n 0, 1) := by decide +kernel
theorem dX3_readNumber_66 : decode cX3_readNumber 66 = .ok (.dup, 1) := by decide +kernel
theorem dX3_readNumber_67 : decode cX3_readNumber 67 = .ok (.getfield 46, 3) := by decide +kernel
theorem dX3_readNumber_70 : decode cX3_readNumber 70 = .ok (.iconst 1, 1) := by decide +kernel
theorem dX3_readNumber_71 : decode cX3_readNumber 71 = .ok (.iadd, 1) := by decide +kernel
theorem dX3_readNumber_72 : decode cX3_readNumber 72 = .ok (.putfield 46, 3) := by decide +kernel
theorem dX3_readNumber_75 : decode cX3_readNumber 75 = .ok (.iload_n 3, 1) := by decide +kernel
theorem dX3_readNumber_76 : decode cX3_readNumber 76 = .ok (.ifCond .eq 8, 3) := by decide +kernel
theorem dX3_readNumber_79 : decode cX3_readNumber 79 = .ok (.iload_n 3, 1) := by decide +kernel
theorem dX3_readNumber_80 : decode cX3_readNumber 80 = .ok (.iload_n 1, 1) := by decide +kernel
theorem dX3_readNumber_81 : decode cX3_readNumber 81 = .ok (.if_icmp .le 11, 3) := by decide +kernel
theorem dX3_readNumber_84 : decode cX3_readNumber 84 = .ok (.aload_n 0, 1) := by decide +kernel
theorem dX3_readNumber_85 : decode cX3_readNumber 85 = .ok (.iload_n 2, 1) := by decide +kernel
theorem dX3_readNumber_86 : decode cX3_readNumber 86 = .ok (.putfield 39, 3) := by decide +kernel
theorem dX3_readNumber_89 : decode cX3_readNumber 89 = .ok (.goto 23, 3) := by decide +kernel
theorem dX3_readNumber_92 : decode cX3_readNumber 92 = .ok (.aload_n 0, 1) := by decide +kernel
theorem dX3_readNumber_93 : decode cX3_readNumber 93 = .ok (.aload_n 0, 1) := by decide +kernel
theorem dX3_readNumber_94 : decode cX3_readNumber 94 = .ok (.getfield 46, 3) := by decide +kernel
theorem dX3_readNumber_97 : decode cX3_readNumber 97 = .ok (.invokevirtual 65, 3) := by decide +kernel
theorem dX3_readNumber_100 : decode cX3_readNumber 100 = .ok (.iconst (-1), 1) := by decide +kernel
theorem dX3_readNumber_101 : decode cX3_readNumber 101 = .ok (.if_icmp .eq 11, 3) := by decide +kernel
theorem dX3_readNumber_104 : decode cX3_readNumber 104 = .ok (.aload_n 0, 1) := by decide +kernel
theorem dX3_readNumber_105 : decode cX3_readNumber 105 = .ok (.aload_n 0, 1) := by decide +kernel
theorem dX3_readNumber_106 : decode cX3_readNumber 106 = .ok (.getfield 46, 3) := by decide +kernel
theorem dX3_readNumber_109 : decode cX3_readNumber 109 = .ok (.putfield 39, 3) := by decide +kernel
theorem dX3_readNumber_112 : decode cX3_readNumber 112 = .ok (.iload_n 3, 1) := by decide +kernel
theorem dX3_readNumber_113 : decode cX3_readNumber 113 = .ok (.ireturn, 1) := by decide +kernel
set_option maxRecDepth 20000 in
theorem ggX3_digitAt_X7_byteAt : GoodIn wsX3_digitAt wsX7_byteAt := goodIn_r _ [6, 7, 8, 20, 21] (by decide +kernel) (by decide +kernel)
set_option maxRecDepth 20000 in
theorem gX3_digitAt_X7_byteAt : GoodIn wsX3_digitAt (wsV RX3 55 RX7 yX7_byteAt wsX7_byteAt) := goodIn_app (goodIn_of _ (by decide +kernel)) ggX3_digitAt_X7_byteAt
set_option maxRecDepth 20000 in
theorem ggX3_digitAt_X8_isWithin : GoodIn wsX3_digitAt wsX8_isWithin := goodIn_r _ [11] (by decide +kernel) (by decide +kernel)
set_option maxRecDepth 20000 in
theorem gX3_digitAt_X8_isWithin_n102 : GoodIn wsX3_digitAt (wsX8_isWithin) := ggX3_digitAt_X8_isWithin
theorem dX3_digitAt_0 : decode cX3_digitAt 0 = .ok (.aload_n 0, 1) := by decide +kernel
theorem dX3_digitAt_1 : decode cX3_digitAt 1 = .ok (.getfield 12, 3) := by decide +kernel
theorem dX3_digitAt_4 : decode cX3_digitAt 4 = .ok (.iload_n 1, 1) := by decide +kernel
theorem dX3_digitAt_5 : decode cX3_digitAt 5 = .ok (.invokevirtual 55, 3) := by decide +kernel
theorem dX3_digitAt_8 : decode cX3_digitAt 8 = .ok (.istore_n 2, 1) := by decide +kernel
theorem dX3_digitAt_9 : decode cX3_digitAt 9 = .ok (.iload_n 2, 1) := by decide +kernel
theorem dX3_digitAt_10 : decode cX3_digitAt 10 = .ok (.bipush 48, 2) := by decide +kernel
theorem dX3_digitAt_12 : decode cX3_digitAt 12 = .ok (.bipush 57, 2) := by decide +kernel
theorem dX3_digitAt_14 : decode cX3_digitAt 14 = .ok (.invokestatic 102, 3) := by decide +kernel
theorem dX3_digitAt_17 : decode cX3_digitAt 17 = .ok (.ifCond .eq 10, 3) := by decide +kernel
theorem dX3_digitAt_20 : decode cX3_digitAt 20 = .ok (.iload_n 2, 1) := by decide +kernel
theorem dX3_digitAt_21 : decode cX3_digitAt 21 = .ok (.bipush 48, 2) := by decide +kernel
theorem dX3_digitAt_23 : decode cX3_digitAt 23 = .ok (.isub, 1) := by decide +kernel
theorem dX3_digitAt_24 : decode cX3_digitAt 24 = .ok (.goto 4, 3) := by decide +kernel
theorem dX3_digitAt_27 : decode cX3_digitAt 27 = .ok (.iconst (-1), 1) := by decide +kernel
theorem dX3_digitAt_28 : decode cX3_digitAt 28 = .ok (.ireturn, 1) := by decide +kernel
set_option maxRecDepth 20000 in
theorem ggX3_skipBlanks_X7_byteAt : GoodIn wsX3_skipBlanks wsX7_byteAt := goodIn_r _ [8, 9, 10, 19, 20] (by decide +kernel) (by decide +kernel)
set_option maxRecDepth 20000 in
theorem gX3_skipBlanks_X7_byteAt : GoodIn wsX3_skipBlanks (wsV RX3 55 RX7 yX7_byteAt wsX7_byteAt) := goodIn_app (goodIn_of _ (by decide +kernel)) ggX3_skipBlanks_X7_byteAt
theorem dX3_skipBlanks_0 : decode cX3_skipBlanks 0 = .ok (.aload_n 0, 1) := by decide +kernel
theorem dX3_skipBlanks_1 : decode cX3_skipBlanks 1 = .ok (.getfield 46, 3) := by decide +kernel
theorem dX3_skipBlanks_4 : decode cX3_skipBlanks 4 = .ok (.aload_n 0, 1) := by decide +kernel
theorem dX3_skipBlanks_5 : decode cX3_skipBlanks 5 = .ok (.getfield 12, 3) := by decide +kernel
theorem dX3_skipBlanks_8 : decode cX3_skipBlanks 8 = .ok (.getfield 52, 3) := by decide +kernel
theorem dX3_skipBlanks_11 : decode cX3_skipBlanks 11 = .ok (.if_icmp .ge 32, 3) := by decide +kernel
theorem dX3_skipBlanks_14 : decode cX3_skipBlanks 14 = .ok (.aload_n 0, 1) := by decide +kernel
theorem dX3_skipBlanks_15 : decode cX3_skipBlanks 15 = .ok (.getfield 12, 3) := by decide +kernel
theorem dX3_skipBlanks_18 : decode cX3_skipBlanks 18 = .ok (.aload_n 0, 1) := by decide +kernel
theorem dX3_skipBlanks_19 : decode cX3_skipBlanks 19 = .ok (.getfield 46, 3) := by decide +kernel
theorem dX3_skipBlanks_22 : decode cX3_skipBlanks 22 = .ok (.invokevirtual 55, 3) := by decide +kernel
theorem dX3_skipBlanks_25 : decode cX3_skipBlanks 25 = .ok (.bipush 32, 2) := by decide +kernel
theorem dX3_skipBlanks_27 : decode cX3_skipBlanks 27 = .ok (.if_icmp .ne 16, 3) := by decide +kernel
theorem dX3_skipBlanks_30 : decode cX3_skipBlanks 30 = .ok (.aload_n 0, 1) := by decide +kernel
theorem dX3_skipBlanks_31 : decode cX3_skipBlanks 31 = .ok (.dup, 1) := by decide +kernel
theorem dX3_skipBlanks_32 : decode cX3_skipBlanks 32 = .ok (.getfield 46, 3) := by decide +kernel
theorem dX3_skipBlanks_35 : decode cX3_skipBlanks 35 = .ok (.iconst 1, 1) := by decide +kernel
theorem dX3_skipBlanks_36 : decode cX3_skipBlanks 36 = .ok (.iadd, 1) := by decide +kernel
theorem dX3_skipBlanks_37 : decode cX3_skipBlanks 37 = .ok (.putfield 46, 3) := by decide +kernel
theorem dX3_skipBlanks_40 : decode cX3_skipBlanks 40 = .ok (.goto (-40), 3) := by decide +kernel
theorem dX3_skipBlanks_43 : decode cX3_skipBlanks 43 = .ok (.return_, 1) := by decide +kernel
theorem dX3_kindNamed_0 : decode cX3_kindNamed 0 = .ok (.iload_n 0, 1) := by decide +kernel
theorem dX3_kindNamed_1 : decode cX3_kindNamed 1 = .ok (.lookupswitch 51 #[(98, 47), (103, 45), (108, 43), (115, 49)], 43) := by decide +kernel
theorem dX3_kindNamed_44 : decode cX3_kindNamed 44 = .ok (.iconst 0, 1) := by decide +kernel
theorem dX3_kindNamed_45 : decode cX3_kindNamed 45 = .ok (.ireturn, 1) := by decide +kernel
theorem dX3_kindNamed_46 : decode cX3_kindNamed 46 = .ok (.iconst 1, 1) := by decide +kernel
theorem dX3_kindNamed_47 : decode cX3_kindNamed 47 = .ok (.ireturn, 1) := by decide +kernel
theorem dX3_kindNamed_48 : decode cX3_kindNamed 48 = .ok (.iconst 2, 1) := by decide +kernel
theorem dX3_kindNamed_49 : decode cX3_kindNamed 49 = .ok (.ireturn, 1) := by decide +kernel
theorem dX3_kindNamed_50 : decode cX3_kindNamed 50 = .ok (.iconst 3, 1) := by decide +kernel
theorem dX3_kindNamed_51 : decode cX3_kindNamed 51 = .ok (.ireturn, 1) := by decide +kernel
theorem dX3_kindNamed_52 : decode cX3_kindNamed 52 = .ok (.iconst (-1), 1) := by decide +kernel
theorem dX3_kindNamed_53 : decode cX3_kindNamed 53 = .ok (.ireturn, 1) := by decide +kernel
set_option maxRecDepth 20000 in
theorem ggX4_init_X4_makeEmpty : GoodIn wsX4_init wsX4_makeEmpty := goodIn_r _ [10, 11, 5, 12, 13] (by decide +kernel) (by decide +kernel)
set_option maxRecDepth 20000 in
theorem gX4_init_X4_makeEmpty : GoodIn wsX4_init (wsV RX4 15 RX4 yX4_makeEmpty wsX4_makeEmpty) := goodIn_app (goodIn_of _ (by decide +kernel)) ggX4_init_X4_makeEmpty
theorem dX4_init_0 : decode cX4_init 0 = .ok (.aload_n 0, 1) := by decide +kernel
theorem dX4_init_1 : decode cX4_init 1 = .ok (.invokespecial 3, 3) := by decide +kernel
theorem dX4_init_4 : decode cX4_init 4 = .ok (.aload_n 0, 1) := by decide +kernel
theorem dX4_init_5 : decode cX4_init 5 = .ok (.bipush 10, 2) := by decide +kernel
theorem dX4_init_7 : decode cX4_init 7 = .ok (.newarray .int, 2) := by decide +kernel
theorem dX4_init_9 : decode cX4_init 9 = .ok (.putfield 9, 3) := by decide +kernel
theorem dX4_init_12 : decode cX4_init 12 = .ok (.aload_n 0, 1) := by decide +kernel
theorem dX4_init_13 : decode cX4_init 13 = .ok (.iconst 4, 1) := by decide +kernel
theorem dX4_init_14 : decode cX4_init 14 = .ok (.invokevirtual 15, 3) := by decide +kernel
theorem dX4_init_17 : decode cX4_init 17 = .ok (.return_, 1) := by decide +kernel
theorem dX4_makeEmpty_0 : decode cX4_makeEmpty 0 = .ok (.aload_n 0, 1) := by decide +kernel
theorem dX4_makeEmpty_1 : decode cX4_makeEmpty 1 = .ok (.iload_n 1, 1) := by decide +kernel
theorem dX4_makeEmpty_2 : decode cX4_makeEmpty 2 = .ok (.putfield 19, 3) := by decide +kernel
theorem dX4_makeEmpty_5 : decode cX4_makeEmpty 5 = .ok (.iconst 0, 1) := by decide +kernel
theorem dX4_makeEmpty_6 : decode cX4_makeEmpty 6 = .ok (.istore_n 2, 1) := by decide +kernel
theorem dX4_makeEmpty_7 : decode cX4_makeEmpty 7 = .ok (.iload_n 2, 1) := by decide +kernel
theorem dX4_makeEmpty_8 : decode cX4_makeEmpty 8 = .ok (.aload_n 0, 1) := by decide +kernel
theorem dX4_makeEmpty_9 : decode cX4_makeEmpty 9 = .ok (.getfield 9, 3) := by decide +kernel
theorem dX4_makeEmpty_12 : decode cX4_makeEmpty 12 = .ok (.arraylength, 1) := by decide +kernel
theorem dX4_makeEmpty_13 : decode cX4_makeEmpty 13 = .ok (.if_icmp .ge 16, 3) := by decide +kernel
theorem dX4_makeEmpty_16 : decode cX4_makeEmpty 16 = .ok (.aload_n 0, 1) := by decide +kernel
theorem dX4_makeEmpty_17 : decode cX4_makeEmpty 17 = .ok (.getfield 9, 3) := by decide +kernel
theorem dX4_makeEmpty_20 : decode cX4_makeEmpty 20 = .ok (.iload_n 2, 1) := by decide +kernel
theorem dX4_makeEmpty_21 : decode cX4_makeEmpty 21 = .ok (.iconst (-1), 1) := by decide +kernel
theorem dX4_makeEmpty_22 : decode cX4_makeEmpty 22 = .ok (.iastore, 1) := by decide +kernel
theorem dX4_makeEmpty_23 : decode cX4_makeEmpty 23 = .ok (.iinc 2 1, 3) := by decide +kernel
theorem dX4_makeEmpty_26 : decode cX4_makeEmpty 26 = .ok (.goto (-19), 3) := by decide +kernel
theorem dX4_makeEmpty_29 : decode cX4_makeEmpty 29 = .ok (.return_, 1) := by decide +kernel
theorem dX4_reasonAt_0 : decode cX4_reasonAt 0 = .ok (.iload_n 1, 1) := by decide +kernel
theorem dX4_reasonAt_1 : decode cX4_reasonAt 1 = .ok (.ifCond .lt 21, 3) := by decide +kernel
theorem dX4_reasonAt_4 : decode cX4_reasonAt 4 = .ok (.iload_n 1, 1) := by decide +kernel
theorem dX4_reasonAt_5 : decode cX4_reasonAt 5 = .ok (.aload_n 0, 1) := by decide +kernel
theorem dX4_reasonAt_6 : decode cX4_reasonAt 6 = .ok (.getfield 9, 3) := by decide +kernel
theorem dX4_reasonAt_9 : decode cX4_reasonAt 9 = .ok (.arraylength, 1) := by decide +kernel
theorem dX4_reasonAt_10 : decode cX4_reasonAt 10 = .ok (.if_icmp .ge 12, 3) := by decide +kernel
theorem dX4_reasonAt_13 : decode cX4_reasonAt 13 = .ok (.aload_n 0, 1) := by decide +kernel
theorem dX4_reasonAt_14 : decode cX4_reasonAt 14 = .ok (.getfield 9, 3) := by decide +kernel
theorem dX4_reasonAt_17 : decode cX4_reasonAt 17 = .ok (.iload_n 1, 1) := by decide +kernel
theorem dX4_reasonAt_18 : decode cX4_reasonAt 18 = .ok (.iaload, 1) := by decide +kernel
theorem dX4_reasonAt_19 : decode cX4_reasonAt 19 = .ok (.goto 4, 3) := by decide +kernel
theorem dX4_reasonAt_22 : decode cX4_reasonAt 22 = .ok (.iconst (-1), 1) := by decide +kernel
theorem dX4_reasonAt_23 : decode cX4_reasonAt 23 = .ok (.ireturn, 1) := by decide +kernel
set_option maxRecDepth 20000 in
theorem ggX4_products_X4_reasonAt : GoodIn wsX4_products wsX4_reasonAt := goodIn_r _ [6, 7, 8, 9] (by decide +kernel) (by decide +kernel)
set_option maxRecDepth 20000 in
theorem gX4_products_X4_reasonAt : GoodIn wsX4_products (wsV RX4 23 RX4 yX4_reasonAt wsX4_reasonAt) := goodIn_app (goodIn_of _ (by decide +kernel)) ggX4_products_X4_reasonAt
theorem dX4_products_0 : decode cX4_products 0 = .ok (.iconst 0, 1) := by decide +kernel
theorem dX4_products_1 : decode cX4_products 1 = .ok (.istore_n 1, 1) := by decide +kernel
theorem dX4_products_2 : decode cX4_products 2 = .ok (.iconst 0, 1) := by decide +kernel
theorem dX4_products_3 : decode cX4_products 3 = .ok (.istore_n 2, 1) := by decide +kernel
theorem dX4_products_4 : decode cX4_products 4 = .ok (.iload_n 2, 1) := by decide +kernel
theorem dX4_products_5 : decode cX4_products 5 = .ok (.aload_n 0, 1) := by decide +kernel
theorem dX4_products_6 : decode cX4_products 6 = .ok (.getfield 19, 3) := by decide +kernel
theorem dX4_products_9 : decode cX4_products 9 = .ok (.if_icmp .ge 21, 3) := by decide +kernel
theorem dX4_products_12 : decode cX4_products 12 = .ok (.aload_n 0, 1) := by decide +kernel
theorem dX4_products_13 : decode cX4_products 13 = .ok (.iload_n 2, 1) := by decide +kernel
theorem dX4_products_14 : decode cX4_products 14 = .ok (.invokevirtual 23, 3) := by decide +kernel
theorem dX4_products_17 : decode cX4_products 17 = .ok (.iconst (-1), 1) := by decide +kernel
theorem dX4_products_18 : decode cX4_products 18 = .ok (.if_icmp .eq 6, 3) := by decide +kernel
theorem dX4_products_21 : decode cX4_products 21 = .ok (.iinc 1 1, 3) := by decide +kernel
theorem dX4_products_24 : decode cX4_products 24 = .ok (.iinc 2 1, 3) := by decide +kernel
theorem dX4_products_27 : decode cX4_products 27 = .ok (.goto (-23), 3) := by decide +kernel
theorem dX4_products_30 : decode cX4_products 30 = .ok (.iload_n 1, 1) := by decide +kernel
theorem dX4_products_31 : decode cX4_products 31 = .ok (.ireturn, 1) := by decide +kernel
theorem dX4_moveOn_0 : decode cX4_moveOn 0 = .ok (.iload_n 1, 1) := by decide +kernel
theorem dX4_moveOn_1 : decode cX4_moveOn 1 = .ok (.istore_n 2, 1) := by decide +kernel
theorem dX4_moveOn_2 : decode cX4_moveOn 2 = .ok (.iconst 0, 1) := by decide +kernel
theorem dX4_moveOn_3 : decode cX4_moveOn 3 = .ok (.istore_n 3, 1) := by decide +kernel
theorem dX4_moveOn_4 : decode cX4_moveOn 4 = .ok (.iload_n 3, 1) := by decide +kernel
theorem dX4_moveOn_5 : decode cX4_moveOn 5 = .ok (.aload_n 0, 1) := by decide +kernel
theorem dX4_moveOn_6 : decode cX4_moveOn 6 = .ok (.getfield 19, 3) := by decide +kernel
theorem dX4_moveOn_9 : decode cX4_moveOn 9 = .ok (.if_icmp .ge 36, 3) := by decide +kernel
theorem dX4_moveOn_12 : decode cX4_moveOn 12 = .ok (.iload_n 3, 1) := by decide +kernel
theorem dX4_moveOn_13 : decode cX4_moveOn 13 = .ok (.aload_n 0, 1) := by decide +kernel
theorem dX4_moveOn_14 : decode cX4_moveOn 14 = .ok (.getfield 9, 3) := by decide +kernel
theorem dX4_moveOn_17 : decode cX4_moveOn 17 = .ok (.arraylength, 1) := by decide +kernel
theorem dX4_moveOn_18 : decode cX4_moveOn 18 = .ok (.if_icmp .ge 27, 3) := by decide +kernel
theorem dX4_moveOn_21 : decode cX4_moveOn 21 = .ok (.aload_n 0, 1) := by decide +kernel
theorem dX4_moveOn_22 : decode cX4_moveOn 22 = .ok (.getfield 9, 3) := by decide +kernel
theorem dX4_moveOn_25 : decode cX4_moveOn 25 = .ok (.iload_n 3, 1) := by decide +kernel
theorem dX4_moveOn_26 : decode cX4_moveOn 26 = .ok (.iaload, 1) := by decide +kernel
theorem dX4_moveOn_27 : decode cX4_moveOn 27 = .ok (.istore 4, 2) := by decide +kernel
theorem dX4_moveOn_29 : decode cX4_moveOn 29 = .ok (.aload_n 0, 1) := by decide +kernel
theorem dX4_moveOn_30 : decode cX4_moveOn 30 = .ok (.getfield 9, 3) := by decide +kernel
theorem dX4_moveOn_33 : decode cX4_moveOn 33 = .ok (.iload_n 3, 1) := by decide +kernel
theorem dX4_moveOn_34 : decode cX4_moveOn 34 = .ok (.iload_n 2, 1) := by decide +kernel
theorem dX4_moveOn_35 : decode cX4_moveOn 35 = .ok (.iastore, 1) := by decide +kernel
theorem dX4_moveOn_36 : decode cX4_moveOn 36 = .ok (.iload 4, 2) := by decide +kernel
theorem dX4_moveOn_38 : decode cX4_moveOn 38 = .ok (.istore_n 2, 1) := by decide +kernel
theorem dX4_moveOn_39 : decode cX4_moveOn 39 = .ok (.iinc 3 1, 3) := by decide +kernel
theorem dX4_moveOn_42 : decode cX4_moveOn 42 = .ok (.goto (-38), 3) := by decide +kernel
theorem dX4_moveOn_45 : decode cX4_moveOn 45 = .ok (.iload_n 2, 1) := by decide +kernel
theorem dX4_moveOn_46 : decode cX4_moveOn 46 = .ok (.ireturn, 1) := by decide +kernel
theorem dX5_init_0 : decode cX5_init 0 = .ok (.aload_n 0, 1) := by decide +kernel
theorem dX5_init_1 : decode cX5_init 1 = .ok (.invokespecial 3, 3) := by decide +kernel
theorem dX5_init_4 : decode cX5_init 4 = .ok (.aload_n 0, 1) := by decide +kernel
theorem dX5_init_5 : decode cX5_init 5 = .ok (.bipush 8, 2) := by decide +kernel
theorem dX5_init_7 : decode cX5_init 7 = .ok (.newarray .int, 2) := by decide +kernel
theorem dX5_init_9 : decode cX5_init 9 = .ok (.dup, 1) := by decide +kernel
theorem dX5_init_10 : decode cX5_init 10 = .ok (.iconst 0, 1) := by decide +kernel
theorem dX5_init_11 : decode cX5_init 11 = .ok (.iconst 3, 1) := by decide +kernel
theorem dX5_init_12 : decode cX5_init 12 = .ok (.iastore, 1) := by decide +kernel
theorem dX5_init_13 : decode cX5_init 13 = .ok (.dup, 1) := by decide +kernel
theorem dX5_init_14 : decode cX5_init 14 = .ok (.iconst 1, 1) := by decide +kernel
theorem dX5_init_15 : decode cX5_init 15 = .ok (.iconst 5, 1) := by decide +kernel
theorem dX5_init_16 : decode cX5_init 16 = .ok (.iastore, 1) := by decide +kernel
theorem dX5_init_17 : decode cX5_init 17 = .ok (.dup, 1) := by decide +kernel
theorem dX5_init_18 : decode cX5_init 18 = .ok (.iconst 2, 1) := by decide +kernel
theorem dX5_init_19 : decode cX5_init 19 = .ok (.sipush 150, 3) := by decide +kernel
theorem dX5_init_22 : decode cX5_init 22 = .ok (.iastore, 1) := by decide +kernel
theorem dX5_init_23 : decode cX5_init 23 = .ok (.dup, 1) := by decide +kernel
theorem dX5_init_24 : decode cX5_init 24 = .ok (.iconst 3, 1) := by decide +kernel
theorem dX5_init_25 : decode cX5_init 25 = .ok (.sipush 400, 3) := by decide +kernel
theorem dX5_init_28 : decode cX5_init 28 = .ok (.iastore, 1) := by decide +kernel
theorem dX5_init_29 : decode cX5_init 29 = .ok (.dup, 1) := by decide +kernel
theorem dX5_init_30 : decode cX5_init 30 = .ok (.iconst 4, 1) := by decide +kernel
theorem dX5_init_31 : decode cX5_init 31 = .ok (.bipush 100, 2) := by decide +kernel
theorem dX5_init_33 : decode cX5_init 33 = .ok (.iastore, 1) := by decide +kernel
theorem dX5_init_34 : decode cX5_init 34 = .ok (.dup, 1) := by decide +kernel
theorem dX5_init_35 : decode cX5_init 35 = .ok (.iconst 5, 1) := by decide +kernel
theorem dX5_init_36 : decode cX5_init 36 = .ok (.bipush 10, 2) := by decide +kernel
theorem dX5_init_38 : decode cX5_init 38 = .ok (.iastore, 1) := by decide +kernel
theorem dX5_init_39 : decode cX5_init 39 = .ok (.dup, 1) := by decide +kernel
theorem dX5_init_40 : decode cX5_init 40 = .ok (.bipush 6, 2) := by decide +kernel
theorem dX5_init_42 : decode cX5_init 42 = .ok (.iconst 2, 1) := by decide +kernel
theorem dX5_init_43 : decode cX5_init 43 = .ok (.iastore, 1) := by decide +kernel
theorem dX5_init_44 : decode cX5_init 44 = .ok (.dup, 1) := by decide +kernel
theorem dX5_init_45 : decode cX5_init 45 = .ok (.bipush 7, 2) := by decide +kernel
theorem dX5_init_47 : decode cX5_init 47 = .ok (.iconst 3, 1) := by decide +kernel
theorem dX5_init_48 : decode cX5_init 48 = .ok (.iastore, 1) := by decide +kernel
theorem dX5_init_49 : decode cX5_init 49 = .ok (.putfield 9, 3) := by decide +kernel
theorem dX5_init_52 : decode cX5_init 52 = .ok (.return_, 1) := by decide +kernel
set_option maxRecDepth 20000 in
theorem ggX5_allows_X8_isWithin : GoodIn wsX5_allows wsX8_isWithin := goodIn_r _ [3] (by decide +kernel) (by decide +kernel)
set_option maxRecDepth 20000 in
theorem gX5_allows_X8_isWithin_n15 : GoodIn wsX5_allows (wsX8_isWithin) := ggX5_allows_X8_isWithin
set_option maxRecDepth 20000 in
theorem ggX5_allows_X5_least : GoodIn wsX5_allows wsX5_least := goodIn_r _ [8, 9] (by decide +kernel) (by decide +kernel)
set_option maxRecDepth 20000 in
theorem gX5_allows_X5_least : GoodIn wsX5_allows (wsV RX5 19 RX5 yX5_least wsX5_least) := goodIn_app (goodIn_of _ (by decide +kernel)) ggX5_allows_X5_least
set_option maxRecDepth 20000 in
theorem ggX5_allows_X5_greatest : GoodIn wsX5_allows wsX5_greatest := goodIn_r _ [13, 14] (by decide +kernel) (by decide +kernel)
set_option maxRecDepth 20000 in
theorem gX5_allows_X5_greatest : GoodIn wsX5_allows (wsV RX5 23 RX5 yX5_greatest wsX5_greatest) := goodIn_app (goodIn_of _ (by decide +kernel)) ggX5_allows_X5_greatest
theorem dX5_allows_0 : decode cX5_allows 0 = .ok (.iload_n 1, 1) := by decide +kernel
theorem dX5_allows_1 : decode cX5_allows 1 = .ok (.iconst 0, 1) := by decide +kernel
theorem dX5_allows_2 : decode cX5_allows 2 = .ok (.bipush 7, 2) := by decide +kernel
theorem dX5_allows_4 : decode cX5_allows 4 = .ok (.invokestatic 15, 3) := by decide +kernel
theorem dX5_allows_7 : decode cX5_allows 7 = .ok (.ifCond .eq 24, 3) := by decide +kernel
theorem dX5_allows_10 : decode cX5_allows 10 = .ok (.iload_n 2, 1) := by decide +kernel
theorem dX5_allows_11 : decode cX5_allows 11 = .ok (.aload_n 0, 1) := by decide +kernel
theorem dX5_allows_12 : decode cX5_allows 12 = .ok (.iload_n 1, 1) := by decide +kernel
theorem dX5_allows_13 : decode cX5_allows 13 = .ok (.invokevirtual 19, 3) := by decide +kernel
theorem dX5_allows_16 : decode cX5_allows 16 = .ok (.aload_n 0, 1) := by decide +kernel
theorem dX5_allows_17 : decode cX5_allows 17 = .ok (.iload_n 1, 1) := by decide +kernel
theorem dX5_allows_18 : decode cX5_allows 18 = .ok (.invokevirtual 23, 3) := by decide +kernel
theorem dX5_allows_21 : decode cX5_allows 21 = .ok (.invokestatic 15, 3) := by decide +kernel
theorem dX5_allows_24 : decode cX5_allows 24 = .ok (.ifCond .eq 7, 3) := by decide +kernel
theorem dX5_allows_27 : decode cX5_allows 27 = .ok (.iconst 1, 1) := by decide +kernel
theorem dX5_allows_28 : decode cX5_allows 28 = .ok (.goto 4, 3) := by decide +kernel
theorem dX5_allows_31 : decode cX5_allows 31 = .ok (.iconst 0, 1) := by decide +kernel
theorem dX5_allows_32 : decode cX5_allows 32 = .ok (.ireturn, 1) := by decide +kernel
theorem dX5_least_0 : decode cX5_least 0 = .ok (.iload_n 1, 1) := by decide +kernel
theorem dX5_least_1 : decode cX5_least 1 = .ok (.ifCond .lt 19, 3) := by decide +kernel
theorem dX5_least_4 : decode cX5_least 4 = .ok (.iload_n 1, 1) := by decide +kernel
theorem dX5_least_5 : decode cX5_least 5 = .ok (.getstatic 26, 3) := by decide +kernel
theorem dX5_least_8 : decode cX5_least 8 = .ok (.arraylength, 1) := by decide +kernel
theorem dX5_least_9 : decode cX5_least 9 = .ok (.if_icmp .ge 11, 3) := by decide +kernel
theorem dX5_least_12 : decode cX5_least 12 = .ok (.getstatic 26, 3) := by decide +kernel
theorem dX5_least_15 : decode cX5_least 15 = .ok (.iload_n 1, 1) := by decide +kernel
theorem dX5_least_16 : decode cX5_least 16 = .ok (.iaload, 1) := by decide +kernel
theorem dX5_least_17 : decode cX5_least 17 = .ok (.goto 4, 3) := by decide +kernel
theorem dX5_least_20 : decode cX5_least 20 = .ok (.iconst 0, 1) := by decide +kernel
theorem dX5_least_21 : decode cX5_least 21 = .ok (.ireturn, 1) := by decide +kernel
theorem dX5_greatest_0 : decode cX5_greatest 0 = .ok (.iload_n 1, 1) := by decide +kernel
theorem dX5_greatest_1 : decode cX5_greatest 1 = .ok (.ifCond .lt 19, 3) := by decide +kernel
theorem dX5_greatest_4 : decode cX5_greatest 4 = .ok (.iload_n 1, 1) := by decide +kernel
theorem dX5_greatest_5 : decode cX5_greatest 5 = .ok (.getstatic 29, 3) := by decide +kernel
theorem dX5_greatest_8 : decode cX5_greatest 8 = .ok (.arraylength, 1) := by decide +kernel
theorem dX5_greatest_9 : decode cX5_greatest 9 = .ok (.if_icmp .ge 11, 3) := by decide +kernel
theorem dX5_greatest_12 : decode cX5_greatest 12 = .ok (.getstatic 29, 3) := by decide +kernel
theorem dX5_greatest_15 : decode cX5_greatest 15 = .ok (.iload_n 1, 1) := by decide +kernel
theorem dX5_greatest_16 : decode cX5_greatest 16 = .ok (.iaload, 1) := by decide +kernel
theorem dX5_greatest_17 : decode cX5_greatest 17 = .ok (.goto 4, 3) := by decide +kernel
theorem dX5_greatest_20 : decode cX5_greatest 20 = .ok (.iconst 0, 1) := by decide +kernel
theorem dX5_greatest_21 : decode cX5_greatest 21 = .ok (.ireturn, 1) := by decide +kernel
theorem dX5_value_0 : decode cX5_value 0 = .ok (.iload_n 1, 1) := by decide +kernel
theorem dX5_value_1 : decode cX5_value 1 = .ok (.ifCond .lt 21, 3) := by decide +kernel
theorem dX5_value_4 : decode cX5_value 4 = .ok (.iload_n 1, 1) := by decide +kernel
theorem dX5_value_5 : decode cX5_value 5 = .ok (.aload_n 0, 1) := by decide +kernel
theorem dX5_value_6 : decode cX5_value 6 = .ok (.getfield 9, 3) := by decide +kernel
theorem dX5_value_9 : decode cX5_value 9 = .ok (.arraylength, 1) := by decide +kernel
theorem dX5_value_10 : decode cX5_value 10 = .ok (.if_icmp .ge 12, 3) := by decide +kernel
theorem dX5_value_13 : decode cX5_value 13 = .ok (.aload_n 0, 1) := by decide +kernel
theorem dX5_value_14 : decode cX5_value 14 = .ok (.getfield 9, 3) := by decide +kernel
theorem dX5_value_17 : decode cX5_value 17 = .ok (.iload_n 1, 1) := by decide +kernel
theorem dX5_value_18 : decode cX5_value 18 = .ok (.iaload, 1) := by decide +kernel
theorem dX5_value_19 : decode cX5_value 19 = .ok (.goto 4, 3) := by decide +kernel
theorem dX5_value_22 : decode cX5_value 22 = .ok (.iconst 0, 1) := by decide +kernel
theorem dX5_value_23 : decode cX5_value 23 = .ok (.ireturn, 1) := by decide +kernel
theorem dX5_put_0 : decode cX5_put 0 = .ok (.iload_n 1, 1) := by decide +kernel
