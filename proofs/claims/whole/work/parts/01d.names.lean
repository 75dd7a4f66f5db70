set_option maxRecDepth 20000 in
theorem ggX3_digitAt_X8_isWithin : GoodIn wsX3_digitAt wsX8_isWithin := goodIn_r _ [11] (by decide +kernel) (by decide +kernel)
set_option maxRecDepth 20000 in
theorem gX3_digitAt_X8_isWithin_n102 : GoodIn wsX3_digitAt (wsX8_isWithin) := ggX3_digitAt_X8_isWithin
theorem dX3_digitAt_0 : decode cX3_digitAt 0 = .ok (.aload_n 0, 1) := by decide +kernel
theorem dX3_digitAt_1 : decode cX3_digitAt 1 = .ok (.getfield 12, 3) := by decide +kernel
theorem dX3_digitAt_4 : decode cX3_digitAt 4 = .ok (.iload_n 1, 1) := by decide +kernel
theorem dX3_digitAt_5 : decode cX3_digitAt 5 = .ok (.invokevirtual 55, 3) := by decide +kernel
theorem dX3_digitAt_8 : decode cX3_digitAt 8 = .ok (.istore_n 2, 1) := by decide +kernel
theorem dX3_digitAt_9 : decode cX3_digitAt 9 = .ok (.iload_n 2, 1) := by decide +kernel
theorem dX3_digitAt_10 : decode cX3_digitAt 10 = .ok (.bipush 48, 2) := by decide +kernel
theorem dX3_digitAt_12 : decode cX3_digitAt 12 = .ok (.bipush 57, 2) := by decide +kernel
theorem dX3_digitAt_14 : decode cX3_digitAt 14 = .ok (.invokestatic 102, 3) := by decide +kernel
theorem dX3_digitAt_17 : decode cX3_digitAt 17 = .ok (.ifCond .eq 10, 3) := by decide +kernel
theorem dX3_digitAt_20 : decode cX3_digitAt 20 = .ok (.iload_n 2, 1) := by decide +kernel
theorem dX3_digitAt_21 : decode cX3_digitAt 21 = .ok (.bipush 48, 2) := by decide +kernel
theorem dX3_digitAt_23 : decode cX3_digitAt 23 = .ok (.isub, 1) := by decide +kernel
theorem dX3_digitAt_24 : decode cX3_digitAt 24 = .ok (.goto 4, 3) := by decide +kernel
theorem dX3_digitAt_27 : decode cX3_digitAt 27 = .ok (.iconst (-1), 1) := by decide +kernel
theorem dX3_digitAt_28 : decode cX3_digitAt 28 = .ok (.ireturn, 1) := by decide +kernel
set_option maxRecDepth 20000 in
theorem ggX3_skipBlanks_X7_byteAt : GoodIn wsX3_skipBlanks wsX7_byteAt := goodIn_r _ [8, 9, 10, 19, 20] (by decide +kernel) (by decide +kernel)
set_option maxRecDepth 20000 in
theorem gX3_skipBlanks_X7_byteAt : GoodIn wsX3_skipBlanks (wsV RX3 55 RX7 yX7_byteAt wsX7_byteAt) := goodIn_app (goodIn_of _ (by decide +kernel)) ggX3_skipBlanks_X7_byteAt
theorem dX3_skipBlanks_0 : decode cX3_skipBlanks 0 = .ok (.aload_n 0, 1) := by decide +kernel
theorem dX3_skipBlanks_1 : decode cX3_skipBlanks 1 = .ok (.getfield 46, 3) := by decide +kernel
theorem dX3_skipBlanks_4 : decode cX3_skipBlanks 4 = .ok (.aload_n 0, 1) := by decide +kernel
theorem dX3_skipBlanks_5 : decode cX3_skipBlanks 5 = .ok (.getfield 12, 3) := by decide +kernel
theorem dX3_skipBlanks_8 : decode cX3_skipBlanks 8 = .ok (.getfield 52, 3) := by decide +kernel
theorem dX3_skipBlanks_11 : decode cX3_skipBlanks 11 = .ok (.if_icmp .ge 32, 3) := by decide +kernel
theorem dX3_skipBlanks_14 : decode cX3_skipBlanks 14 = .ok (.aload_n 0, 1) := by decide +kernel
theorem dX3_skipBlanks_15 : decode cX3_skipBlanks 15 = .ok (.getfield 12, 3) := by decide +kernel
theorem dX3_skipBlanks_18 : decode cX3_skipBlanks 18 = .ok (.aload_n 0, 1) := by decide +kernel
theorem dX3_skipBlanks_19 : decode cX3_skipBlanks 19 = .ok (.getfield 46, 3) := by decide +kernel
theorem dX3_skipBlanks_22 : decode cX3_skipBlanks 22 = .ok (.invokevirtual 55, 3) := by decide +kernel
theorem dX3_skipBlanks_25 : decode cX3_skipBlanks 25 = .ok (.bipush 32, 2) := by decide +kernel
theorem dX3_skipBlanks_27 : decode cX3_skipBlanks 27 = .ok (.if_icmp .ne 16, 3) := by decide +kernel
theorem dX3_skipBlanks_30 : decode cX3_skipBlanks 30 = .ok (.aload_n 0, 1) := by decide +kernel
theorem dX3_skipBlanks_31 : decode cX3_skipBlanks 31 = .ok (.dup, 1) := by decide +kernel
theorem dX3_skipBlanks_32 : decode cX3_skipBlanks 32 = .ok (.getfield 46, 3) := by decide +kernel
theorem dX3_skipBlanks_35 : decode cX3_skipBlanks 35 = .ok (.iconst 1, 1) := by decide +kernel
theorem dX3_skipBlanks_36 : decode cX3_skipBlanks 36 = .ok (.iadd, 1) := by decide +kernel
theorem dX3_skipBlanks_37 : decode cX3_skipBlanks 37 = .ok (.putfield 46, 3) := by decide +kernel
theorem dX3_skipBlanks_40 : decode cX3_skipBlanks 40 = .ok (.goto (-40), 3) := by decide +kernel
theorem dX3_skipBlanks_43 : decode cX3_skipBlanks 43 = .ok (.return_, 1) := by decide +kernel
theorem dX3_kindNamed_0 : decode cX3_kindNamed 0 = .ok (.iload_n 0, 1) := by decide +kernel
theorem dX3_kindNamed_1 : decode cX3_kindNamed 1 = .ok (.lookupswitch 51 #[(98, 47), (103, 45), (108, 43), (115, 49)], 43) := by decide +kernel
theorem dX3_kindNamed_44 : decode cX3_kindNamed 44 = .ok (.iconst 0, 1) := by decide +kernel
theorem dX3_kindNamed_45 : decode cX3_kindNamed 45 = .ok (.ireturn, 1) := by decide +kernel
theorem dX3_kindNamed_46 : decode cX3_kindNamed 46 = .ok (.iconst 1, 1) := by decide +kernel
theorem dX3_kindNamed_47 : decode cX3_kindNamed 47 = .ok (.ireturn, 1) := by decide +kernel
theorem dX3_kindNamed_48 : decode cX3_kindNamed 48 = .ok (.iconst 2, 1) := by decide +kernel
theorem dX3_kindNamed_49 : decode cX3_kindNamed 49 = .ok (.ireturn, 1) := by decide +kernel
theorem dX3_kindNamed_50 : decode cX3_kindNamed 50 = .ok (.iconst 3, 1) := by decide +kernel
theorem dX3_kindNamed_51 : decode cX3_kindNamed 51 = .ok (.ireturn, 1) := by decide +kernel
theorem dX3_kindNamed_52 : decode cX3_kindNamed 52 = .ok (.iconst (-1), 1) := by decide +kernel
theorem dX3_kindNamed_53 : decode cX3_kindNamed 53 = .ok (.ireturn, 1) := by decide +kernel
set_option maxRecDepth 20000 in
theorem ggX4_init_X4_makeEmpty : GoodIn wsX4_init wsX4_makeEmpty := goodIn_r _ [10, 11, 5, 12, 13] (by decide +kernel) (by decide +kernel)
set_option maxRecDepth 20000 in
theorem gX4_init_X4_makeEmpty : GoodIn wsX4_init (wsV RX4 15 RX4 yX4_makeEmpty wsX4_makeEmpty) := goodIn_app (goodIn_of _ (by decide +kernel)) ggX4_init_X4_makeEmpty
theorem dX4_init_0 : decode cX4_init 0 = .ok (.aload_n 0, 1) := by decide +kernel
theorem dX4_init_1 : decode cX4_init 1 = .ok (.invokespecial 3, 3) := by decide +kernel
theorem dX4_init_4 : decode cX4_init 4 = .ok (.aload_n 0, 1) := by decide +kernel
theorem dX4_init_5 : decode cX4_init 5 = .ok (.bipush 10, 2) := by decide +kernel
theorem dX4_init_7 : decode cX4_init 7 = .ok (.newarray .int, 2) := by decide +kernel
theorem dX4_init_9 : decode cX4_init 9 = .ok (.putfield 9, 3) := by decide +kernel
theorem dX4_init_12 : decode cX4_init 12 = .ok (.aload_n 0, 1) := by decide +kernel
theorem dX4_init_13 : decode cX4_init 13 = .ok (.iconst 4, 1) := by decide +kernel
theorem dX4_init_14 : decode cX4_init 14 = .ok (.invokevirtual 15, 3) := by decide +kernel
theorem dX4_init_17 : decode cX4_init 17 = .ok (.return_, 1) := by decide +kernel
theorem dX4_makeEmpty_0 : decode cX4_makeEmpty 0 = .ok (.aload_n 0, 1) := by decide +kernel
theorem dX4_makeEmpty_1 : decode cX4_makeEmpty 1 = .ok (.iload_n 1, 1) := by decide +kernel
theorem dX4_makeEmpty_2 : decode cX4_makeEmpty 2 = .ok (.putfield 19, 3) := by decide +kernel
theorem dX4_makeEmpty_5 : decode cX4_makeEmpty 5 = .ok (.iconst 0, 1) := by decide +kernel
theorem dX4_makeEmpty_6 : decode cX4_makeEmpty 6 = .ok (.istore_n 2, 1) := by decide +kernel
theorem dX4_makeEmpty_7 : decode cX4_makeEmpty 7 = .ok (.iload_n 2, 1) := by decide +kernel
theorem dX4_makeEmpty_8 : decode cX4_makeEmpty 8 = .ok (.aload_n 0, 1) := by decide +kernel
theorem dX4_makeEmpty_9 : decode cX4_makeEmpty 9 = .ok (.getfield 9, 3) := by decide +kernel
theorem dX4_makeEmpty_12 : decode cX4_makeEmpty 12 = .ok (.arraylength, 1) := by decide +kernel
theorem dX4_makeEmpty_13 : decode cX4_makeEmpty 13 = .ok (.if_icmp .ge 16, 3) := by decide +kernel
theorem dX4_makeEmpty_16 : decode cX4_makeEmpty 16 = .ok (.aload_n 0, 1) := by decide +kernel
theorem dX4_makeEmpty_17 : decode cX4_makeEmpty 17 = .ok (.getfield 9, 3) := by decide +kernel
theorem dX4_makeEmpty_20 : decode cX4_makeEmpty 20 = .ok (.iload_n 2, 1) := by decide +kernel
theorem dX4_makeEmpty_21 : decode cX4_makeEmpty 21 = .ok (.iconst (-1), 1) := by decide +kernel
theorem dX4_makeEmpty_22 : decode cX4_makeEmpty 22 = .ok (.iastore, 1) := by decide +kernel
theorem dX4_makeEmpty_23 : decode cX4_makeEmpty 23 = .ok (.iinc 2 1, 3) := by decide +kernel
theorem dX4_makeEmpty_26 : decode cX4_makeEmpty 26 = .ok (.goto (-19), 3) := by decide +kernel
theorem dX4_makeEmpty_29 : decode cX4_makeEmpty 29 = .ok (.return_, 1) := by decide +kernel
theorem dX4_reasonAt_0 : decode cX4_reasonAt 0 = .ok (.iload_n 1, 1) := by decide +kernel
theorem dX4_reasonAt_1 : decode cX4_reasonAt 1 = .ok (.ifCond .lt 21, 3) := by decide +kernel
theorem dX4_reasonAt_4 : decode cX4_reasonAt 4 = .ok (.iload_n 1, 1) := by decide +kernel
theorem dX4_reasonAt_5 : decode cX4_reasonAt 5 = .ok (.aload_n 0, 1) := by decide +kernel
theorem dX4_reasonAt_6 : decode cX4_reasonAt 6 = .ok (.getfield 9, 3) := by decide +kernel
theorem dX4_reasonAt_9 : decode cX4_reasonAt 9 = .ok (.arraylength, 1) := by decide +kernel
theorem dX4_reasonAt_10 : decode cX4_reasonAt 10 = .ok (.if_icmp .ge 12, 3) := by decide +kernel
theorem dX4_reasonAt_13 : decode cX4_reasonAt 13 = .ok (.aload_n 0, 1) := by decide +kernel
theorem dX4_reasonAt_14 : decode cX4_reasonAt 14 = .ok (.getfield 9, 3) := by decide +kernel
theorem dX4_reasonAt_17 : decode cX4_reasonAt 17 = .ok (.iload_n 1, 1) := by decide +kernel
theorem dX4_reasonAt_18 : decode cX4_reasonAt 18 = .ok (.iaload, 1) := by decide +kernel
theorem dX4_reasonAt_19 : decode cX4_reasonAt 19 = .ok (.goto 4, 3) := by decide +kernel
theorem dX4_reasonAt_22 : decode cX4_reasonAt 22 = .ok (.iconst (-1), 1) := by decide +kernel
theorem dX4_reasonAt_23 : decode cX4_reasonAt 23 = .ok (.ireturn, 1) := by decide +kernel
set_option maxRecDepth 20000 in
theorem ggX4_products_X4_reasonAt : GoodIn wsX4_products wsX4_reasonAt := goodIn_r _ [6, 7, 8, 9] (by decide +kernel) (by decide +kernel)
set_option maxRecDepth 20000 in
theorem gX4_products_X4_reasonAt : GoodIn wsX4_products (wsV RX4 23 RX4 yX4_reasonAt wsX4_reasonAt) := goodIn_app (goodIn_of _ (by decide +kernel)) ggX4_products_X4_reasonAt
theorem dX4_products_0 : decode cX4_products 0 = .ok (.iconst 0, 1) := by decide +kernel
theorem dX4_products_1 : decode cX4_products 1 = .ok (.istore_n 1, 1) := by decide +kernel
theorem dX4_products_2 : decode cX4_products 2 = .ok (.iconst 0, 1) := by decide +kernel
theorem dX4_products_3 : decode cX4_products 3 = .ok (.istore_n 2, 1) := by decide +kernel
theorem dX4_products_4 : decode cX4_products 4 = .ok (.iload_n 2, 1) := by decide +kernel
theorem dX4_products_5 : decode cX4_products 5 = .ok (.aload_n 0, 1) := by decide +kernel
theorem dX4_products_6 : decode cX4_products 6 = .ok (.getfield 19, 3) := by decide +kernel
theorem dX4_products_9 : decode cX4_products 9 = .ok (.if_icmp .ge 21, 3) := by decide +kernel
theorem dX4_products_12 : decode cX4_products 12 = .ok (.aload_n 0, 1) := by decide +kernel
theorem dX4_products_13 : decode cX4_products 13 = .ok (.iload_n 2, 1) := by decide +kernel
theorem dX4_products_14 : decode cX4_products 14 = .ok (.invokevirtual 23, 3) := by decide +kernel
theorem dX4_products_17 : decode cX4_products 17 = .ok (.iconst (-1), 1) := by decide +kernel
theorem dX4_products_18 : decode cX4_products 18 = .ok (.if_icmp .eq 6, 3) := by decide +kernel
theorem dX4_products_21 : decode cX4_products 21 = .ok (.iinc 1 1, 3) := by decide +kernel
theorem dX4_products_24 : decode cX4_products 24 = .ok (.iinc 2 1, 3) := by decide +kernel
theorem dX4_products_27 : decode cX4_products 27 = .ok (.goto (-23), 3) := by decide +kernel
theorem dX4_products_30 : decode cX4_products 30 = .ok (.iload_n 1, 1) := by decide +kernel
theorem dX4_products_31 : decode cX4_products 31 = .ok (.ireturn, 1) := by decide +kernel
theorem dX4_moveOn_0 : decode cX4_moveOn 0 = .ok (.iload_n 1, 1) := by decide +kernel
theorem dX4_moveOn_1 : decode cX4_moveOn 1 = .ok (.istore_n 2, 1) := by decide +kernel
theorem dX4_moveOn_2 : decode cX4_moveOn 2 = .ok (.iconst 0, 1) := by decide +kernel
theorem dX4_moveOn_3 : decode cX4_moveOn 3 = .ok (.istore_n 3, 1) := by decide +kernel
theorem dX4_moveOn_4 : decode cX4_moveOn 4 = .ok (.iload_n 3, 1) := by decide +kernel
theorem dX4_moveOn_5 : decode cX4_moveOn 5 = .ok (.aload_n 0, 1) := by decide +kernel
theorem dX4_moveOn_6 : decode cX4_moveOn 6 = .ok (.getfield 19, 3) := by decide +kernel
theorem dX4_moveOn_9 : decode cX4_moveOn 9 = .ok (.if_icmp .ge 36, 3) := by decide +kernel
theorem dX4_moveOn_12 : decode cX4_moveOn 12 = .ok (.iload_n 3, 1) := by decide +kernel
theorem dX4_moveOn_13 : decode cX4_moveOn 13 = .ok (.aload_n 0, 1) := by decide +kernel
theorem dX4_moveOn_14 : decode cX4_moveOn 14 = .ok (.getfield 9, 3) := by decide +kernel
theorem dX4_moveOn_17 : decode cX4_moveOn 17 = .ok (.arraylength, 1) := by decide +kernel
theorem dX4_moveOn_18 : decode cX4_moveOn 18 = .ok (.if_icmp .ge 27, 3) := by decide +kernel
theorem dX4_moveOn_21 : decode cX4_moveOn 21 = .ok (.aload_n 0, 1) := by decide +kernel
theorem dX4_moveOn_22 : decode cX4_moveOn 22 = .ok (.getfield 9, 3) := by decide +kernel
theorem dX4_moveOn_25 : decode cX4_moveOn 25 = .ok (.iload_n 3, 1) := by decide +kernel
theorem dX4_moveOn_26 : decode cX4_moveOn 26 = .ok (.iaload, 1) := by decide +kernel
theorem dX4_moveOn_27 : decode cX4_moveOn 27 = .ok (.istore 4, 2) := by decide +kernel
theorem dX4_moveOn_29 : decode cX4_moveOn 29 = .ok (.aload_n 0, 1) := by decide +kernel
theorem dX4_moveOn_30 : decode cX4_moveOn 30 = .ok (.getfield 9, 3) := by decide +kernel
theorem dX4_moveOn_33 : decode cX4_moveOn 33 = .ok (.iload_n 3, 1) := by decide +kernel
theorem dX4_moveOn_34 : decode cX4_moveOn 34 = .ok (.iload_n 2, 1) := by decide +kernel
theorem dX4_moveOn_35 : decode cX4_moveOn 35 = .ok (.iastore, 1) := by decide +kernel
theorem dX4_moveOn_36 : decode cX4_moveOn 36 = .ok (.iload 4, 2) := by decide +kernel
theorem dX4_moveOn_38 : decode cX4_moveOn 38 = .ok (.istore_n 2, 1) := by decide +kernel
theorem dX4_moveOn_39 : decode cX4_moveOn 39 = .ok (.iinc 3 1, 3) := by decide +kernel
theorem dX4_moveOn_42 : decode cX4_moveOn 42 = .ok (.goto (-38), 3) := by decide +kernel
theorem dX4_moveOn_45 : decode cX4_moveOn 45 = .ok (.iload_n 2, 1) := by decide +kernel
theorem dX4_moveOn_46 : decode cX4_moveOn 46 = .ok (.ireturn, 1) := by decide +kernel
set_option maxRecDepth 20000 in
theorem ggX4_copyFrom_X4_reasonAt : GoodIn wsX4_copyFrom wsX4_reasonAt := goodIn_r _ [7, 2, 8, 9] (by decide +kernel) (by decide +kernel)
set_option maxRecDepth 20000 in
theorem gX4_copyFrom_X4_reasonAt : GoodIn wsX4_copyFrom (wsV RX4 23 RX4 yX4_reasonAt wsX4_reasonAt) := goodIn_app (goodIn_of _ (by decide +kernel)) ggX4_copyFrom_X4_reasonAt
theorem dX4_copyFrom_0 : decode cX4_copyFrom 0 = .ok (.aload_n 0, 1) := by decide +kernel
theorem dX4_copyFrom_1 : decode cX4_copyFrom 1 = .ok (.aload_n 1, 1) := by decide +kernel
theorem dX4_copyFrom_2 : decode cX4_copyFrom 2 = .ok (.getfield 19, 3) := by decide +kernel
theorem dX4_copyFrom_5 : decode cX4_copyFrom 5 = .ok (.putfield 19, 3) := by decide +kernel
theorem dX4_copyFrom_8 : decode cX4_copyFrom 8 = .ok (.iconst 0, 1) := by decide +kernel
theorem dX4_copyFrom_9 : decode cX4_copyFrom 9 = .ok (.istore_n 2, 1) := by decide +kernel
theorem dX4_copyFrom_10 : decode cX4_copyFrom 10 = .ok (.iload_n 2, 1) := by decide +kernel
theorem dX4_copyFrom_11 : decode cX4_copyFrom 11 = .ok (.aload_n 0, 1) := by decide +kernel
theorem dX4_copyFrom_12 : decode cX4_copyFrom 12 = .ok (.getfield 9, 3) := by decide +kernel
theorem dX4_copyFrom_15 : decode cX4_copyFrom 15 = .ok (.arraylength, 1) := by decide +kernel
theorem dX4_copyFrom_16 : decode cX4_copyFrom 16 = .ok (.if_icmp .ge 20, 3) := by decide +kernel
theorem dX4_copyFrom_19 : decode cX4_copyFrom 19 = .ok (.aload_n 0, 1) := by decide +kernel
theorem dX4_copyFrom_20 : decode cX4_copyFrom 20 = .ok (.getfield 9, 3) := by decide +kernel
theorem dX4_copyFrom_23 : decode cX4_copyFrom 23 = .ok (.iload_n 2, 1) := by decide +kernel
theorem dX4_copyFrom_24 : decode cX4_copyFrom 24 = .ok (.aload_n 1, 1) := by decide +kernel
theorem dX4_copyFrom_25 : decode cX4_copyFrom 25 = .ok (.iload_n 2, 1) := by decide +kernel
theorem dX4_copyFrom_26 : decode cX4_copyFrom 26 = .ok (.invokevirtual 23, 3) := by decide +kernel
theorem dX4_copyFrom_29 : decode cX4_copyFrom 29 = .ok (.iastore, 1) := by decide +kernel
theorem dX4_copyFrom_30 : decode cX4_copyFrom 30 = .ok (.iinc 2 1, 3) := by decide +kernel
theorem dX4_copyFrom_33 : decode cX4_copyFrom 33 = .ok (.goto (-23), 3) := by decide +kernel
theorem dX4_copyFrom_36 : decode cX4_copyFrom 36 = .ok (.return_, 1) := by decide +kernel
theorem dX5_init_0 : decode cX5_init 0 = .ok (.aload_n 0, 1) := by decide +kernel
theorem dX5_init_1 : decode cX5_init 1 = .ok (.invokespecial 3, 3) := by decide +kernel
theorem dX5_init_4 : decode cX5_init 4 = .ok (.aload_n 0, 1) := by decide +kernel
theorem dX5_init_5 : decode cX5_init 5 = .ok (.bipush 8, 2) := by decide +kernel
theorem dX5_init_7 : decode cX5_init 7 = .ok (.newarray .int, 2) := by decide +kernel
theorem dX5_init_9 : decode cX5_init 9 = .ok (.dup, 1) := by decide +kernel
theorem dX5_init_10 : decode cX5_init 10 = .ok (.iconst 0, 1) := by decide +kernel
theorem dX5_init_11 : decode cX5_init 11 = .ok (.iconst 3, 1) := by decide +kernel
theorem dX5_init_12 : decode cX5_init 12 = .ok (.iastore, 1) := by decide +kernel
theorem dX5_init_13 : decode cX5_init 13 = .ok (.dup, 1) := by decide +kernel
theorem dX5_init_14 : decode cX5_init 14 = .ok (.iconst 1, 1) := by decide +kernel
theorem dX5_init_15 : decode cX5_init 15 = .ok (.iconst 5, 1) := by decide +kernel
theorem dX5_init_16 : decode cX5_init 16 = .ok (.iastore, 1) := by decide +kernel
theorem dX5_init_17 : decode cX5_init 17 = .ok (.dup, 1) := by decide +kernel
theorem dX5_init_18 : decode cX5_init 18 = .ok (.iconst 2, 1) := by decide +kernel
theorem dX5_init_19 : decode cX5_init 19 = .ok (.sipush 150, 3) := by decide +kernel
theorem dX5_init_22 : decode cX5_init 22 = .ok (.iastore, 1) := by decide +kernel
theorem dX5_init_23 : decode cX5_init 23 = .ok (.dup, 1) := by decide +kernel
theorem dX5_init_24 : decode cX5_init 24 = .ok (.iconst 3, 1) := by decide +kernel
theorem dX5_init_25 : decode cX5_init 25 = .ok (.sipush 400, 3) := by decide +kernel
theorem dX5_init_28 : decode cX5_init 28 = .ok (.iastore, 1) := by decide +kernel
theorem dX5_init_29 : decode cX5_init 29 = .ok (.dup, 1) := by decide +kernel
theorem dX5_init_30 : decode cX5_init 30 = .ok (.iconst 4, 1) := by decide +kernel
theorem dX5_init_31 : decode cX5_init 31 = .ok (.bipush 100, 2) := by decide +kernel
theorem dX5_init_33 : decode cX5_init 33 = .ok (.iastore, 1) := by decide +kernel
theorem dX5_init_34 : decode cX5_init 34 = .ok (.dup, 1) := by decide +kernel
theorem dX5_init_35 : decode cX5_init 35 = .ok (.iconst 5, 1) := by decide +kernel
theorem dX5_init_36 : decode cX5_init 36 = .ok (.bipush 10, 2) := by decide +kernel
theorem dX5_init_38 : decode cX5_init 38 = .ok (.iastore, 1) := by decide +kernel
theorem dX5_init_39 : decode cX5_init 39 = .ok (.dup, 1) := by decide +kernel
theorem dX5_init_40 : decode cX5_init 40 = .ok (.bipush 6, 2) := by decide +kernel
theorem dX5_init_42 : decode cX5_init 42 = .ok (.iconst 2, 1) := by decide +kernel
theorem dX5_init_43 : decode cX5_init 43 = .ok (.iastore, 1) := by decide +kernel
theorem dX5_init_44 : decode cX5_init 44 = .ok (.dup, 1) := by decide +kernel
theorem dX5_init_45 : decode cX5_init 45 = .ok (.bipush 7, 2) := by decide +kernel
theorem dX5_init_47 : decode cX5_init 47 = .ok (.iconst 3, 1) := by decide +kernel
theorem dX5_init_48 : decode cX5_init 48 = .ok (.iastore, 1) := by decide +kernel
theorem dX5_init_49 : decode cX5_init 49 = .ok (.putfield 9, 3) := by decide +kernel
theorem dX5_init_52 : decode cX5_init 52 = .ok (.return_, 1) := by decide +kernel
set_option maxRecDepth 20000 in
theorem ggX5_allows_X8_isWithin : GoodIn wsX5_allows wsX8_isWithin := goodIn_r _ [3] (by decide +kernel) (by decide +kernel)
set_option maxRecDepth 20000 in
theorem gX5_allows_X8_isWithin_n15 : GoodIn wsX5_allows (wsX8_isWithin) := ggX5_allows_X8_isWithin
set_option maxRecDepth 20000 in
theorem ggX5_allows_X5_least : GoodIn wsX5_allows wsX5_least := goodIn_r _ [8, 9] (by decide +kernel) (by decide +kernel)
set_option maxRecDepth 20000 in
theorem gX5_allows_X5_least : GoodIn wsX5_allows (wsV RX5 19 RX5 yX5_least wsX5_least) := goodIn_app (goodIn_of _ (by decide +kernel)) ggX5_allows_X5_least
set_option maxRecDepth 20000 in
theorem ggX5_allows_X5_greatest : GoodIn wsX5_allows wsX5_greatest := goodIn_r _ [13, 14] (by decide +kernel) (by decide +kernel)
set_option maxRecDepth 20000 in
theorem gX5_allows_X5_greatest : GoodIn wsX5_allows (wsV RX5 23 RX5 yX5_greatest wsX5_greatest) := goodIn_app (goodIn_of _ (by decide +kernel)) ggX5_allows_X5_greatest
theorem dX5_allows_0 : decode cX5_allows 0 = .ok (.iload_n 1, 1) := by decide +kernel
theorem dX5_allows_1 : decode cX5_allows 1 = .ok (.iconst 0, 1) := by decide +kernel
theorem dX5_allows_2 : decode cX5_allows 2 = .ok (.bipush 7, 2) := by decide +kernel
theorem dX5_allows_4 : decode cX5_allows 4 = .ok (.invokestatic 15, 3) := by decide +kernel
theorem dX5_allows_7 : decode cX5_allows 7 = .ok (.ifCond .eq 24, 3) := by decide +kernel
theorem dX5_allows_10 : decode cX5_allows 10 = .ok (.iload_n 2, 1) := by decide +kernel
theorem dX5_allows_11 : decode cX5_allows 11 = .ok (.aload_n 0, 1) := by decide +kernel
theorem dX5_allows_12 : decode cX5_allows 12 = .ok (.iload_n 1, 1) := by decide +kernel
theorem dX5_allows_13 : decode cX5_allows 13 = .ok (.invokevirtual 19, 3) := by decide +kernel
theorem dX5_allows_16 : decode cX5_allows 16 = .ok (.aload_n 0, 1) := by decide +kernel
theorem dX5_allows_17 : decode cX5_allows 17 = .ok (.iload_n 1, 1) := by decide +kernel
theorem dX5_allows_18 : decode cX5_allows 18 = .ok (.invokevirtual 23, 3) := by decide +kernel
theorem dX5_allows_21 : decode cX5_allows 21 = .ok (.invokestatic 15, 3) := by decide +kernel
theorem dX5_allows_24 : decode cX5_allows 24 = .ok (.ifCond .eq 7, 3) := by decide +kernel
theorem dX5_allows_27 : decode cX5_allows 27 = .ok (.iconst 1, 1) := by decide +kernel
theorem dX5_allows_28 : decode cX5_allows 28 = .ok (.goto 4, 3) := by decide +kernel
theorem dX5_allows_31 : decode cX5_allows 31 = .ok (.iconst 0, 1) := by decide +kernel
theorem dX5_allows_32 : decode cX5_allows 32 = .ok (.ireturn, 1) := by decide +kernel
theorem dX5_least_0 : decode cX5_least 0 = .ok (.iload_n 1, 1) := by decide +kernel
theorem dX5_least_1 : decode cX5_least 1 = .ok (.ifCond .lt 19, 3) := by decide +kernel
theorem dX5_least_4 : decode cX5_least 4 = .ok (.iload_n 1, 1) := by decide +kernel
theorem dX5_least_5 : decode cX5_least 5 = .ok (.getstatic 26, 3) := by decide +kernel
theorem dX5_least_8 : decode cX5_least 8 = .ok (.arraylength, 1) := by decide +kernel
theorem dX5_least_9 : decode cX5_least 9 = .ok (.if_icmp .ge 11, 3) := by decide +kernel
theorem dX5_least_12 : decode cX5_least 12 = .ok (.getstatic 26, 3) := by decide +kernel
theorem dX5_least_15 : decode cX5_least 15 = .ok (.iload_n 1, 1) := by decide +kernel
theorem dX5_least_16 : decode cX5_least 16 = .ok (.iaload, 1) := by decide +kernel
theorem dX5_least_17 : decode cX5_least 17 = .ok (.goto 4, 3) := by decide +kernel
theorem dX5_least_20 : decode cX5_least 20 = .ok (.iconst 0, 1) := by decide +kernel
theorem dX5_least_21 : decode cX5_least 21 = .ok (.ireturn, 1) := by decide +kernel
theorem dX5_greatest_0 : decode cX5_greatest 0 = .ok (.iload_n 1, 1) := by decide +kernel
theorem dX5_greatest_1 : decode cX5_greatest 1 = .ok (.ifCond .lt 19, 3) := by decide +kernel
theorem dX5_greatest_4 : decode cX5_greatest 4 = .ok (.iload_n 1, 1) := by decide +kernel
theorem dX5_greatest_5 : decode cX5_greatest 5 = .ok (.getstatic 29, 3) := by decide +kernel
theorem dX5_greatest_8 : decode cX5_greatest 8 = .ok (.arraylength, 1) := by decide +kernel
theorem dX5_greatest_9 : decode cX5_greatest 9 = .ok (.if_icmp .ge 11, 3) := by decide +kernel
theorem dX5_greatest_12 : decode cX5_greatest 12 = .ok (.getstatic 29, 3) := by decide +kernel
theorem dX5_greatest_15 : decode cX5_greatest 15 = .ok (.iload_n 1, 1) := by decide +kernel
theorem dX5_greatest_16 : decode cX5_greatest 16 = .ok (.iaload, 1) := by decide +kernel
theorem dX5_greatest_17 : decode cX5_greatest 17 = .ok (.goto 4, 3) := by decide +kernel
theorem dX5_greatest_20 : decode cX5_greatest 20 = .ok (.iconst 0, 1) := by decide +kernel
theorem dX5_greatest_21 : decode cX5_greatest 21 = .ok (.ireturn, 1) := by decide +kernel
theorem dX5_value_0 : decode cX5_value 0 = .ok (.iload_n 1, 1) := by decide +kernel
theorem dX5_value_1 : decode cX5_value 1 = .ok (.ifCond .lt 21, 3) := by decide +kernel
theorem dX5_value_4 : decode cX5_value 4 = .ok (.iload_n 1, 1) := by decide +kernel
theorem dX5_value_5 : decode cX5_value 5 = .ok (.aload_n 0, 1) := by decide +kernel
theorem dX5_value_6 : decode cX5_value 6 = .ok (.getfield 9, 3) := by decide +kernel
theorem dX5_value_9 : decode cX5_value 9 = .ok (.arraylength, 1) := by decide +kernel
theorem dX5_value_10 : decode cX5_value 10 = .ok (.if_icmp .ge 12, 3) := by decide +kernel
theorem dX5_value_13 : decode cX5_value 13 = .ok (.aload_n 0, 1) := by decide +kernel
theorem dX5_value_14 : decode cX5_value 14 = .ok (.getfield 9, 3) := by decide +kernel
theorem dX5_value_17 : decode cX5_value 17 = .ok (.iload_n 1, 1) := by decide +kernel
theorem dX5_value_18 : decode cX5_value 18 = .ok (.iaload, 1) := by decide +kernel
theorem dX5_value_19 : decode cX5_value 19 = .ok (.goto 4, 3) := by decide +kernel
theorem dX5_value_22 : decode cX5_value 22 = .ok (.iconst 0, 1) := by decide +kernel
theorem dX5_value_23 : decode cX5_value 23 = .ok (.ireturn, 1) := by decide +kernel
theorem dX5_put_0 : decode cX5_put 0 = .ok (.iload_n 1, 1) := by decide +kernel
theorem dX5_put_1 : decode cX5_put 1 = .ok (.ifCond .lt 19, 3) := by decide +kernel
theorem dX5_put_4 : decode cX5_put 4 = .ok (.iload_n 1, 1) := by decide +kernel
theorem dX5_put_5 : decode cX5_put 5 = .ok (.aload_n 0, 1) := by decide +kernel
theorem dX5_put_6 : decode cX5_put 6 = .ok (.getfield 9, 3) := by decide +kernel
theorem dX5_put_9 : decode cX5_put 9 = .ok (.arraylength, 1) := by decide +kernel
theorem dX5_put_10 : decode cX5_put 10 = .ok (.if_icmp .ge 10, 3) := by decide +kernel
theorem dX5_put_13 : decode cX5_put 13 = .ok (.aload_n 0, 1) := by decide +kernel
theorem dX5_put_14 : decode cX5_put 14 = .ok (.getfield 9, 3) := by decide +kernel
theorem dX5_put_17 : decode cX5_put 17 = .ok (.iload_n 1, 1) := by decide +kernel
theorem dX5_put_18 : decode cX5_put 18 = .ok (.iload_n 2, 1) := by decide +kernel
theorem dX5_put_19 : decode cX5_put 19 = .ok (.iastore, 1) := by decide +kernel
theorem dX5_put_20 : decode cX5_put 20 = .ok (.return_, 1) := by decide +kernel
set_option maxRecDepth 20000 in
theorem ggX5_copyFrom_X5_value : GoodIn wsX5_copyFrom wsX5_value := goodIn_r _ [6, 1, 7] (by decide +kernel) (by decide +kernel)
set_option maxRecDepth 20000 in
theorem gX5_copyFrom_X5_value : GoodIn wsX5_copyFrom (wsV RX5 32 RX5 yX5_value wsX5_value) := goodIn_app (goodIn_of _ (by decide +kernel)) ggX5_copyFrom_X5_value
theorem dX5_copyFrom_0 : decode cX5_copyFrom 0 = .ok (.iconst 0, 1) := by decide +kernel
theorem dX5_copyFrom_1 : decode cX5_copyFrom 1 = .ok (.istore_n 2, 1) := by decide +kernel
theorem dX5_copyFrom_2 : decode cX5_copyFrom 2 = .ok (.iload_n 2, 1) := by decide +kernel
theorem dX5_copyFrom_3 : decode cX5_copyFrom 3 = .ok (.aload_n 0, 1) := by decide +kernel
theorem dX5_copyFrom_4 : decode cX5_copyFrom 4 = .ok (.getfield 9, 3) := by decide +kernel
theorem dX5_copyFrom_7 : decode cX5_copyFrom 7 = .ok (.arraylength, 1) := by decide +kernel
theorem dX5_copyFrom_8 : decode cX5_copyFrom 8 = .ok (.if_icmp .ge 20, 3) := by decide +kernel
theorem dX5_copyFrom_11 : decode cX5_copyFrom 11 = .ok (.aload_n 0, 1) := by decide +kernel
theorem dX5_copyFrom_12 : decode cX5_copyFrom 12 = .ok (.getfield 9, 3) := by decide +kernel
theorem dX5_copyFrom_15 : decode cX5_copyFrom 15 = .ok (.iload_n 2, 1) := by decide +kernel
theorem dX5_copyFrom_16 : decode cX5_copyFrom 16 = .ok (.aload_n 1, 1) := by decide +kernel
theorem dX5_copyFrom_17 : decode cX5_copyFrom 17 = .ok (.iload_n 2, 1) := by decide +kernel
theorem dX5_copyFrom_18 : decode cX5_copyFrom 18 = .ok (.invokevirtual 32, 3) := by decide +kernel
theorem dX5_copyFrom_21 : decode cX5_copyFrom 21 = .ok (.iastore, 1) := by decide +kernel
theorem dX5_copyFrom_22 : decode cX5_copyFrom 22 = .ok (.iinc 2 1, 3) := by decide +kernel
theorem dX5_copyFrom_25 : decode cX5_copyFrom 25 = .ok (.goto (-23), 3) := by decide +kernel
theorem dX5_copyFrom_28 : decode cX5_copyFrom 28 = .ok (.return_, 1) := by decide +kernel
set_option maxRecDepth 20000 in
theorem ggX6_init_X2_init : GoodIn wsX6_init wsX2_init := goodIn_r _ [10, 11, 2, 3, 12, 13, 14, 15, 16, 17, 18, 19, 20, 21, 22, 23, 24, 25, 26, 27, 28, 29, 30, 31, 32, 33, 34, 35, 36, 37, 38, 39, 40, 41, 42, 43, 44, 45, 46, 47, 48, 49, 50, 51, 52, 53, 54, 55, 74, 75, 76, 77, 56, 57, 58, 59, 60, 61, 62, 63, 64, 65, 66, 67, 68, 69, 70, 71, 78, 79, 80, 81, 82, 83, 84, 85, 86, 87, 88] (by decide +kernel) (by decide +kernel)
set_option maxRecDepth 20000 in
theorem gX6_init_X2_init : GoodIn wsX6_init (wsX2_init) := ggX6_init_X2_init
theorem dX6_init_0 : decode cX6_init 0 = .ok (.aload_n 0, 1) := by decide +kernel
theorem dX6_init_1 : decode cX6_init 1 = .ok (.invokespecial 1, 3) := by decide +kernel
theorem dX6_init_4 : decode cX6_init 4 = .ok (.aload_n 0, 1) := by decide +kernel
theorem dX6_init_5 : decode cX6_init 5 = .ok (.new 7, 3) := by decide +kernel
theorem dX6_init_8 : decode cX6_init 8 = .ok (.dup, 1) := by decide +kernel
theorem dX6_init_9 : decode cX6_init 9 = .ok (.invokespecial 9, 3) := by decide +kernel
theorem dX6_init_12 : decode cX6_init 12 = .ok (.putfield 10, 3) := by decide +kernel
theorem dX6_init_15 : decode cX6_init 15 = .ok (.return_, 1) := by decide +kernel
theorem dX7_init_0 : decode cX7_init 0 = .ok (.aload_n 0, 1) := by decide +kernel
theorem dX7_init_1 : decode cX7_init 1 = .ok (.invokespecial 3, 3) := by decide +kernel
theorem dX7_init_4 : decode cX7_init 4 = .ok (.aload_n 0, 1) := by decide +kernel
theorem dX7_init_5 : decode cX7_init 5 = .ok (.bipush 80, 2) := by decide +kernel
theorem dX7_init_7 : decode cX7_init 7 = .ok (.newarray .byte, 2) := by decide +kernel
theorem dX7_init_9 : decode cX7_init 9 = .ok (.putfield 9, 3) := by decide +kernel
theorem dX7_init_12 : decode cX7_init 12 = .ok (.return_, 1) := by decide +kernel
theorem dX7_append_0 : decode cX7_append 0 = .ok (.aload_n 0, 1) := by decide +kernel
theorem dX7_append_1 : decode cX7_append 1 = .ok (.getfield 15, 3) := by decide +kernel
theorem dX7_append_4 : decode cX7_append 4 = .ok (.ifCond .lt 15, 3) := by decide +kernel
theorem dX7_append_7 : decode cX7_append 7 = .ok (.aload_n 0, 1) := by decide +kernel
theorem dX7_append_8 : decode cX7_append 8 = .ok (.getfield 15, 3) := by decide +kernel
theorem dX7_append_11 : decode cX7_append 11 = .ok (.aload_n 0, 1) := by decide +kernel
theorem dX7_append_12 : decode cX7_append 12 = .ok (.getfield 9, 3) := by decide +kernel
theorem dX7_append_15 : decode cX7_append 15 = .ok (.arraylength, 1) := by decide +kernel
theorem dX7_append_16 : decode cX7_append 16 = .ok (.if_icmp .lt 5, 3) := by decide +kernel
theorem dX7_append_19 : decode cX7_append 19 = .ok (.iconst 0, 1) := by decide +kernel
theorem dX7_append_20 : decode cX7_append 20 = .ok (.ireturn, 1) := by decide +kernel
theorem dX7_append_21 : decode cX7_append 21 = .ok (.aload_n 0, 1) := by decide +kernel
theorem dX7_append_22 : decode cX7_append 22 = .ok (.getfield 9, 3) := by decide +kernel
theorem dX7_append_25 : decode cX7_append 25 = .ok (.aload_n 0, 1) := by decide +kernel
theorem dX7_append_26 : decode cX7_append 26 = .ok (.getfield 15, 3) := by decide +kernel
theorem dX7_append_29 : decode cX7_append 29 = .ok (.iload_n 1, 1) := by decide +kernel
theorem dX7_append_30 : decode cX7_append 30 = .ok (.i2b, 1) := by decide +kernel
theorem dX7_append_31 : decode cX7_append 31 = .ok (.bastore, 1) := by decide +kernel
theorem dX7_append_32 : decode cX7_append 32 = .ok (.aload_n 0, 1) := by decide +kernel
theorem dX7_append_33 : decode cX7_append 33 = .ok (.dup, 1) := by decide +kernel
theorem dX7_append_34 : decode cX7_append 34 = .ok (.getfield 15, 3) := by decide +kernel
theorem dX7_append_37 : decode cX7_append 37 = .ok (.iconst 1, 1) := by decide +kernel
theorem dX7_append_38 : decode cX7_append 38 = .ok (.iadd, 1) := by decide +kernel
theorem dX7_append_39 : decode cX7_append 39 = .ok (.putfield 15, 3) := by decide +kernel
theorem dX7_append_42 : decode cX7_append 42 = .ok (.iconst 1, 1) := by decide +kernel
theorem dX7_append_43 : decode cX7_append 43 = .ok (.ireturn, 1) := by decide +kernel
theorem dX7_byteAt_0 : decode cX7_byteAt 0 = .ok (.iload_n 1, 1) := by decide +kernel
theorem dX7_byteAt_1 : decode cX7_byteAt 1 = .ok (.ifCond .lt 29, 3) := by decide +kernel
theorem dX7_byteAt_4 : decode cX7_byteAt 4 = .ok (.iload_n 1, 1) := by decide +kernel
theorem dX7_byteAt_5 : decode cX7_byteAt 5 = .ok (.aload_n 0, 1) := by decide +kernel
theorem dX7_byteAt_6 : decode cX7_byteAt 6 = .ok (.getfield 15, 3) := by decide +kernel
theorem dX7_byteAt_9 : decode cX7_byteAt 9 = .ok (.if_icmp .ge 21, 3) := by decide +kernel
theorem dX7_byteAt_12 : decode cX7_byteAt 12 = .ok (.iload_n 1, 1) := by decide +kernel
theorem dX7_byteAt_13 : decode cX7_byteAt 13 = .ok (.aload_n 0, 1) := by decide +kernel
theorem dX7_byteAt_14 : decode cX7_byteAt 14 = .ok (.getfield 9, 3) := by decide +kernel
theorem dX7_byteAt_17 : decode cX7_byteAt 17 = .ok (.arraylength, 1) := by decide +kernel
theorem dX7_byteAt_18 : decode cX7_byteAt 18 = .ok (.if_icmp .ge 12, 3) := by decide +kernel
theorem dX7_byteAt_21 : decode cX7_byteAt 21 = .ok (.aload_n 0, 1) := by decide +kernel
theorem dX7_byteAt_22 : decode cX7_byteAt 22 = .ok (.getfield 9, 3) := by decide +kernel
theorem dX7_byteAt_25 : decode cX7_byteAt 25 = .ok (.iload_n 1, 1) := by decide +kernel
theorem dX7_byteAt_26 : decode cX7_byteAt 26 = .ok (.baload, 1) := by decide +kernel
theorem dX7_byteAt_27 : decode cX7_byteAt 27 = .ok (.goto 4, 3) := by decide +kernel
theorem dX7_byteAt_30 : decode cX7_byteAt 30 = .ok (.iconst (-1), 1) := by decide +kernel
theorem dX7_byteAt_31 : decode cX7_byteAt 31 = .ok (.ireturn, 1) := by decide +kernel
set_option maxRecDepth 20000 in
theorem ggX8_init_X3_init : GoodIn wsX8_init wsX3_init := goodIn_r _ [22, 23, 2, 3, 24, 25, 26, 27, 28, 29, 30, 31, 32, 33, 34, 35, 36, 37, 38, 39, 40, 41, 42, 43, 44, 45, 46, 126, 127, 94, 95, 96, 97, 98, 99, 100, 101, 128, 129, 130, 131] (by decide +kernel) (by decide +kernel)
set_option maxRecDepth 20000 in
theorem gX8_init_X3_init : GoodIn wsX8_init (wsX3_init) := ggX8_init_X3_init
set_option maxRecDepth 20000 in
theorem ggX8_init_X2_init : GoodIn wsX8_init wsX2_init := goodIn_r _ [49, 50, 2, 3, 51, 29, 30, 52, 53, 54, 55, 56, 57, 58, 59, 60, 61, 62, 63, 64, 32, 65, 66, 67, 68, 42, 43, 44, 45, 46, 69, 70, 71, 72, 73, 74, 75, 76, 77, 78, 79, 80, 81, 82, 83, 84, 85, 86, 128, 129, 130, 131, 108, 109, 110, 111, 112, 113, 114, 115, 116, 117, 118, 119, 120, 121, 122, 123, 132, 133, 134, 135, 136, 137, 138, 139, 140, 141, 142] (by decide +kernel) (by decide +kernel)
set_option maxRecDepth 20000 in
theorem gX8_init_X2_init : GoodIn wsX8_init (wsX2_init) := ggX8_init_X2_init
set_option maxRecDepth 20000 in
theorem ggX8_init_X6_init : GoodIn wsX8_init wsX6_init := goodIn_r _ [89, 90, 2, 3, 91, 11, 12, 92, 93, 48, 49, 50, 51, 29, 30, 52, 53, 54, 55, 56, 57, 58, 59, 60, 61, 62, 63, 64, 32, 65, 66, 67, 68, 42, 43, 44, 45, 46, 69, 70, 71, 72, 73, 74, 75, 76, 77, 78, 79, 80, 81, 82, 83, 84, 85, 86, 108, 109, 110, 111, 112, 113, 114, 115, 116, 117, 118, 119, 120, 121, 122, 123, 124, 125, 128, 129, 130, 131, 132, 133, 134, 135, 136, 137, 138, 139, 140, 141, 142] (by decide +kernel) (by decide +kernel)
set_option maxRecDepth 20000 in
theorem gX8_init_X6_init : GoodIn wsX8_init (wsX6_init) := ggX8_init_X6_init
theorem dX8_init_0 : decode cX8_init 0 = .ok (.aload_n 0, 1) := by decide +kernel
theorem dX8_init_1 : decode cX8_init 1 = .ok (.invokespecial 1, 3) := by decide +kernel
theorem dX8_init_4 : decode cX8_init 4 = .ok (.aload_n 0, 1) := by decide +kernel
theorem dX8_init_5 : decode cX8_init 5 = .ok (.new 7, 3) := by decide +kernel
theorem dX8_init_8 : decode cX8_init 8 = .ok (.dup, 1) := by decide +kernel
theorem dX8_init_9 : decode cX8_init 9 = .ok (.invokespecial 9, 3) := by decide +kernel
theorem dX8_init_12 : decode cX8_init 12 = .ok (.putfield 10, 3) := by decide +kernel
theorem dX8_init_15 : decode cX8_init 15 = .ok (.aload_n 0, 1) := by decide +kernel
theorem dX8_init_16 : decode cX8_init 16 = .ok (.aload_n 0, 1) := by decide +kernel
theorem dX8_init_17 : decode cX8_init 17 = .ok (.getfield 10, 3) := by decide +kernel
theorem dX8_init_20 : decode cX8_init 20 = .ok (.getfield 16, 3) := by decide +kernel
theorem dX8_init_23 : decode cX8_init 23 = .ok (.putfield 20, 3) := by decide +kernel
theorem dX8_init_26 : decode cX8_init 26 = .ok (.aload_n 0, 1) := by decide +kernel
theorem dX8_init_27 : decode cX8_init 27 = .ok (.new 21, 3) := by decide +kernel
theorem dX8_init_30 : decode cX8_init 30 = .ok (.dup, 1) := by decide +kernel
theorem dX8_init_31 : decode cX8_init 31 = .ok (.invokespecial 23, 3) := by decide +kernel
theorem dX8_init_34 : decode cX8_init 34 = .ok (.putfield 24, 3) := by decide +kernel
theorem dX8_init_37 : decode cX8_init 37 = .ok (.aload_n 0, 1) := by decide +kernel
theorem dX8_init_38 : decode cX8_init 38 = .ok (.new 21, 3) := by decide +kernel
theorem dX8_init_41 : decode cX8_init 41 = .ok (.dup, 1) := by decide +kernel
theorem dX8_init_42 : decode cX8_init 42 = .ok (.invokespecial 23, 3) := by decide +kernel
theorem dX8_init_45 : decode cX8_init 45 = .ok (.putfield 28, 3) := by decide +kernel
theorem dX8_init_48 : decode cX8_init 48 = .ok (.aload_n 0, 1) := by decide +kernel
theorem dX8_init_49 : decode cX8_init 49 = .ok (.new 31, 3) := by decide +kernel
theorem dX8_init_52 : decode cX8_init 52 = .ok (.dup, 1) := by decide +kernel
theorem dX8_init_53 : decode cX8_init 53 = .ok (.invokespecial 33, 3) := by decide +kernel
theorem dX8_init_56 : decode cX8_init 56 = .ok (.putfield 34, 3) := by decide +kernel
theorem dX8_init_59 : decode cX8_init 59 = .ok (.aload_n 0, 1) := by decide +kernel
theorem dX8_init_60 : decode cX8_init 60 = .ok (.new 31, 3) := by decide +kernel
theorem dX8_init_63 : decode cX8_init 63 = .ok (.dup, 1) := by decide +kernel
theorem dX8_init_64 : decode cX8_init 64 = .ok (.invokespecial 33, 3) := by decide +kernel
theorem dX8_init_67 : decode cX8_init 67 = .ok (.putfield 38, 3) := by decide +kernel
theorem dX8_init_70 : decode cX8_init 70 = .ok (.return_, 1) := by decide +kernel
set_option maxRecDepth 20000 in
theorem ggX8_type_X8_isWithin : GoodIn wsX8_type wsX8_isWithin := goodIn_r _ [6] (by decide +kernel) (by decide +kernel)
set_option maxRecDepth 20000 in
theorem gX8_type_X8_isWithin : GoodIn wsX8_type (va_wsS RX8 41 yX8_isWithin wsX8_isWithin) := goodIn_app (goodIn_of _ (by decide +kernel)) ggX8_type_X8_isWithin
set_option maxRecDepth 20000 in
theorem ggX8_type_X7_append : GoodIn wsX8_type wsX7_append := goodIn_r _ [11, 12, 13, 20, 21] (by decide +kernel) (by decide +kernel)
set_option maxRecDepth 20000 in
theorem gX8_type_X7_append : GoodIn wsX8_type (wsV RX8 45 RX7 yX7_append wsX7_append) := goodIn_app (goodIn_of _ (by decide +kernel)) ggX8_type_X7_append
theorem dX8_type_0 : decode cX8_type 0 = .ok (.iload_n 1, 1) := by decide +kernel
theorem dX8_type_1 : decode cX8_type 1 = .ok (.iconst 0, 1) := by decide +kernel
theorem dX8_type_2 : decode cX8_type 2 = .ok (.bipush 127, 2) := by decide +kernel
theorem dX8_type_4 : decode cX8_type 4 = .ok (.invokestatic 41, 3) := by decide +kernel
theorem dX8_type_7 : decode cX8_type 7 = .ok (.ifCond .ne 6, 3) := by decide +kernel
theorem dX8_type_10 : decode cX8_type 10 = .ok (.bipush (-2), 2) := by decide +kernel
theorem dX8_type_12 : decode cX8_type 12 = .ok (.ireturn, 1) := by decide +kernel
theorem dX8_type_13 : decode cX8_type 13 = .ok (.aload_n 0, 1) := by decide +kernel
theorem dX8_type_14 : decode cX8_type 14 = .ok (.getfield 20, 3) := by decide +kernel
theorem dX8_type_17 : decode cX8_type 17 = .ok (.iload_n 1, 1) := by decide +kernel
theorem dX8_type_18 : decode cX8_type 18 = .ok (.invokevirtual 45, 3) := by decide +kernel
theorem dX8_type_21 : decode cX8_type 21 = .ok (.ifCond .eq 13, 3) := by decide +kernel
theorem dX8_type_24 : decode cX8_type 24 = .ok (.aload_n 0, 1) := by decide +kernel
theorem dX8_type_25 : decode cX8_type 25 = .ok (.getfield 20, 3) := by decide +kernel
theorem dX8_type_28 : decode cX8_type 28 = .ok (.getfield 51, 3) := by decide +kernel
theorem dX8_type_31 : decode cX8_type 31 = .ok (.goto 5, 3) := by decide +kernel
theorem dX8_type_34 : decode cX8_type 34 = .ok (.bipush (-4), 2) := by decide +kernel
theorem dX8_type_36 : decode cX8_type 36 = .ok (.ireturn, 1) := by decide +kernel
theorem dX8_clear_0 : decode cX8_clear 0 = .ok (.aload_n 0, 1) := by decide +kernel
theorem dX8_clear_1 : decode cX8_clear 1 = .ok (.getfield 20, 3) := by decide +kernel
theorem dX8_clear_4 : decode cX8_clear 4 = .ok (.getfield 51, 3) := by decide +kernel
theorem dX8_clear_7 : decode cX8_clear 7 = .ok (.istore_n 1, 1) := by decide +kernel
theorem dX8_clear_8 : decode cX8_clear 8 = .ok (.aload_n 0, 1) := by decide +kernel
theorem dX8_clear_9 : decode cX8_clear 9 = .ok (.getfield 20, 3) := by decide +kernel
theorem dX8_clear_12 : decode cX8_clear 12 = .ok (.iconst 0, 1) := by decide +kernel
theorem dX8_clear_13 : decode cX8_clear 13 = .ok (.putfield 51, 3) := by decide +kernel
theorem dX8_clear_16 : decode cX8_clear 16 = .ok (.iload_n 1, 1) := by decide +kernel
theorem dX8_clear_17 : decode cX8_clear 17 = .ok (.ireturn, 1) := by decide +kernel
set_option maxRecDepth 20000 in
theorem ggX8_load_X3_read : GoodIn wsX8_load wsX3_read := goodIn_r _ [11, 12, 13, 14, 15, 16, 17, 18, 19, 20, 21, 22, 23, 24, 25, 26, 27, 28, 10, 29, 30, 31, 32, 33, 34, 35, 36, 37, 38, 39, 40, 41, 42, 43, 44, 45, 46, 47, 48, 49, 50, 51, 52, 53, 54, 55, 56, 57, 58, 59, 60, 61, 62, 63, 64, 65, 66, 67, 68, 69, 70, 71, 72, 73, 74, 75, 76, 77, 78, 79, 80, 81, 82, 83, 84, 85, 86, 87, 88, 89, 90, 91, 92, 93, 94, 115, 116, 117, 118, 119, 120, 121, 122, 139, 140, 141, 142, 143, 144] (by decide +kernel) (by decide +kernel)
set_option maxRecDepth 20000 in
theorem gX8_load_X3_read : GoodIn wsX8_load (wsV RX8 55 RX3 yX3_read wsX3_read) := goodIn_app (goodIn_of _ (by decide +kernel)) ggX8_load_X3_read
set_option maxRecDepth 20000 in
theorem ggX8_load_X1_size : GoodIn wsX8_load wsX1_size := goodIn_r _ [50, 25, 24, 141, 142, 143, 144] (by decide +kernel) (by decide +kernel)
set_option maxRecDepth 20000 in
theorem gX8_load_X1_size : GoodIn wsX8_load (wsV RX8 69 RX1 yX1_size wsX1_size) := goodIn_app (goodIn_of _ (by decide +kernel)) ggX8_load_X1_size
set_option maxRecDepth 20000 in
theorem ggX8_load_X1_appendAll : GoodIn wsX8_load wsX1_appendAll := goodIn_r _ [99, 100, 101, 102, 22, 103, 24, 104, 48, 49, 50, 25, 105, 20, 21, 23, 106, 52, 53, 54, 55, 107, 57, 58, 59, 60, 108, 62, 63, 64, 141, 142, 143, 144] (by decide +kernel) (by decide +kernel)
set_option maxRecDepth 20000 in
theorem gX8_load_X1_appendAll : GoodIn wsX8_load (wsV RX8 78 RX1 yX1_appendAll wsX1_appendAll) := goodIn_app (goodIn_of _ (by decide +kernel)) ggX8_load_X1_appendAll
theorem dX8_load_0 : decode cX8_load 0 = .ok (.aload_n 0, 1) := by decide +kernel
theorem dX8_load_1 : decode cX8_load 1 = .ok (.getfield 10, 3) := by decide +kernel
theorem dX8_load_4 : decode cX8_load 4 = .ok (.invokevirtual 55, 3) := by decide +kernel
theorem dX8_load_7 : decode cX8_load 7 = .ok (.aload_n 0, 1) := by decide +kernel
theorem dX8_load_8 : decode cX8_load 8 = .ok (.getfield 10, 3) := by decide +kernel
theorem dX8_load_11 : decode cX8_load 11 = .ok (.getfield 58, 3) := by decide +kernel
theorem dX8_load_14 : decode cX8_load 14 = .ok (.iconst (-1), 1) := by decide +kernel
theorem dX8_load_15 : decode cX8_load 15 = .ok (.if_icmp .eq 15, 3) := by decide +kernel
theorem dX8_load_18 : decode cX8_load 18 = .ok (.sipush (-2000), 3) := by decide +kernel
theorem dX8_load_21 : decode cX8_load 21 = .ok (.aload_n 0, 1) := by decide +kernel
theorem dX8_load_22 : decode cX8_load 22 = .ok (.getfield 10, 3) := by decide +kernel
theorem dX8_load_25 : decode cX8_load 25 = .ok (.getfield 58, 3) := by decide +kernel
theorem dX8_load_28 : decode cX8_load 28 = .ok (.isub, 1) := by decide +kernel
theorem dX8_load_29 : decode cX8_load 29 = .ok (.ireturn, 1) := by decide +kernel
theorem dX8_load_30 : decode cX8_load 30 = .ok (.aload_n 0, 1) := by decide +kernel
theorem dX8_load_31 : decode cX8_load 31 = .ok (.getfield 10, 3) := by decide +kernel
theorem dX8_load_34 : decode cX8_load 34 = .ok (.getfield 61, 3) := by decide +kernel
theorem dX8_load_37 : decode cX8_load 37 = .ok (.ifCond .ne 29, 3) := by decide +kernel
theorem dX8_load_40 : decode cX8_load 40 = .ok (.aload_n 0, 1) := by decide +kernel
theorem dX8_load_41 : decode cX8_load 41 = .ok (.getfield 24, 3) := by decide +kernel
theorem dX8_load_44 : decode cX8_load 44 = .ok (.getfield 65, 3) := by decide +kernel
theorem dX8_load_47 : decode cX8_load 47 = .ok (.invokevirtual 69, 3) := by decide +kernel
theorem dX8_load_50 : decode cX8_load 50 = .ok (.aload_n 0, 1) := by decide +kernel
theorem dX8_load_51 : decode cX8_load 51 = .ok (.getfield 10, 3) := by decide +kernel
theorem dX8_load_54 : decode cX8_load 54 = .ok (.getfield 75, 3) := by decide +kernel
theorem dX8_load_57 : decode cX8_load 57 = .ok (.invokevirtual 69, 3) := by decide +kernel
theorem dX8_load_60 : decode cX8_load 60 = .ok (.iadd, 1) := by decide +kernel
theorem dX8_load_61 : decode cX8_load 61 = .ok (.bipush 80, 2) := by decide +kernel
theorem dX8_load_63 : decode cX8_load 63 = .ok (.if_icmp .le 6, 3) := by decide +kernel
theorem dX8_load_66 : decode cX8_load 66 = .ok (.bipush (-4), 2) := by decide +kernel
theorem dX8_load_68 : decode cX8_load 68 = .ok (.ireturn, 1) := by decide +kernel
theorem dX8_load_69 : decode cX8_load 69 = .ok (.aload_n 0, 1) := by decide +kernel
theorem dX8_load_70 : decode cX8_load 70 = .ok (.getfield 24, 3) := by decide +kernel
theorem dX8_load_73 : decode cX8_load 73 = .ok (.getfield 65, 3) := by decide +kernel
theorem dX8_load_76 : decode cX8_load 76 = .ok (.aload_n 0, 1) := by decide +kernel
theorem dX8_load_77 : decode cX8_load 77 = .ok (.getfield 10, 3) := by decide +kernel
theorem dX8_load_80 : decode cX8_load 80 = .ok (.getfield 75, 3) := by decide +kernel
theorem dX8_load_83 : decode cX8_load 83 = .ok (.invokevirtual 78, 3) := by decide +kernel
theorem dX8_load_86 : decode cX8_load 86 = .ok (.aload_n 0, 1) := by decide +kernel
theorem dX8_load_87 : decode cX8_load 87 = .ok (.getfield 24, 3) := by decide +kernel
theorem dX8_load_90 : decode cX8_load 90 = .ok (.getfield 65, 3) := by decide +kernel
theorem dX8_load_93 : decode cX8_load 93 = .ok (.invokevirtual 69, 3) := by decide +kernel
theorem dX8_load_96 : decode cX8_load 96 = .ok (.ireturn, 1) := by decide +kernel
set_option maxRecDepth 20000 in
theorem ggX8_unload_X1_size : GoodIn wsX8_unload wsX1_size := goodIn_r _ [7, 8, 9, 36, 37, 38, 39] (by decide +kernel) (by decide +kernel)
set_option maxRecDepth 20000 in
theorem gX8_unload_X1_size : GoodIn wsX8_unload (wsV RX8 69 RX1 yX1_size wsX1_size) := goodIn_app (goodIn_of _ (by decide +kernel)) ggX8_unload_X1_size
set_option maxRecDepth 20000 in
theorem ggX8_unload_X1_removeAll : GoodIn wsX8_unload wsX1_removeAll := goodIn_r _ [13, 9, 8, 36, 37, 38, 39] (by decide +kernel) (by decide +kernel)
set_option maxRecDepth 20000 in
theorem gX8_unload_X1_removeAll : GoodIn wsX8_unload (wsV RX8 82 RX1 yX1_removeAll wsX1_removeAll) := goodIn_app (goodIn_of _ (by decide +kernel)) ggX8_unload_X1_removeAll
theorem dX8_unload_0 : decode cX8_unload 0 = .ok (.aload_n 0, 1) := by decide +kernel
theorem dX8_unload_1 : decode cX8_unload 1 = .ok (.getfield 24, 3) := by decide +kernel
theorem dX8_unload_4 : decode cX8_unload 4 = .ok (.getfield 65, 3) := by decide +kernel
theorem dX8_unload_7 : decode cX8_unload 7 = .ok (.invokevirtual 69, 3) := by decide +kernel
theorem dX8_unload_10 : decode cX8_unload 10 = .ok (.istore_n 1, 1) := by decide +kernel
theorem dX8_unload_11 : decode cX8_unload 11 = .ok (.aload_n 0, 1) := by decide +kernel
theorem dX8_unload_12 : decode cX8_unload 12 = .ok (.getfield 24, 3) := by decide +kernel
theorem dX8_unload_15 : decode cX8_unload 15 = .ok (.getfield 65, 3) := by decide +kernel
theorem dX8_unload_18 : decode cX8_unload 18 = .ok (.invokevirtual 82, 3) := by decide +kernel
theorem dX8_unload_21 : decode cX8_unload 21 = .ok (.iload_n 1, 1) := by decide +kernel
theorem dX8_unload_22 : decode cX8_unload 22 = .ok (.ireturn, 1) := by decide +kernel
set_option maxRecDepth 20000 in
theorem ggX8_item_X8_isWithin : GoodIn wsX8_item wsX8_isWithin := goodIn_r _ [6] (by decide +kernel) (by decide +kernel)
set_option maxRecDepth 20000 in
theorem gX8_item_X8_isWithin : GoodIn wsX8_item (va_wsS RX8 41 yX8_isWithin wsX8_isWithin) := goodIn_app (goodIn_of _ (by decide +kernel)) ggX8_item_X8_isWithin
set_option maxRecDepth 20000 in
theorem ggX8_item_X1_size : GoodIn wsX8_item wsX1_size := goodIn_r _ [11, 12, 13, 51, 52, 53, 54] (by decide +kernel) (by decide +kernel)
set_option maxRecDepth 20000 in
theorem gX8_item_X1_size : GoodIn wsX8_item (wsV RX8 69 RX1 yX1_size wsX1_size) := goodIn_app (goodIn_of _ (by decide +kernel)) ggX8_item_X1_size
set_option maxRecDepth 20000 in
theorem ggX8_item_X1_kindOf : GoodIn wsX8_item wsX1_kindOf := goodIn_r _ [17, 13, 18, 51, 52, 53, 54] (by decide +kernel) (by decide +kernel)
set_option maxRecDepth 20000 in
theorem gX8_item_X1_kindOf : GoodIn wsX8_item (wsV RX8 85 RX1 yX1_kindOf wsX1_kindOf) := goodIn_app (goodIn_of _ (by decide +kernel)) ggX8_item_X1_kindOf
set_option maxRecDepth 20000 in
theorem ggX8_item_X1_lengthOf : GoodIn wsX8_item wsX1_lengthOf := goodIn_r _ [22, 13, 23, 51, 52, 53, 54] (by decide +kernel) (by decide +kernel)
set_option maxRecDepth 20000 in
theorem gX8_item_X1_lengthOf : GoodIn wsX8_item (wsV RX8 89 RX1 yX1_lengthOf wsX1_lengthOf) := goodIn_app (goodIn_of _ (by decide +kernel)) ggX8_item_X1_lengthOf
set_option maxRecDepth 20000 in
theorem ggX8_item_X1_lengthAhead : GoodIn wsX8_item wsX1_lengthAhead := goodIn_r _ [27, 28, 20, 21, 10, 22, 13, 23, 51, 52, 53, 54] (by decide +kernel) (by decide +kernel)
set_option maxRecDepth 20000 in
theorem gX8_item_X1_lengthAhead : GoodIn wsX8_item (wsV RX8 92 RX1 yX1_lengthAhead wsX1_lengthAhead) := goodIn_app (goodIn_of _ (by decide +kernel)) ggX8_item_X1_lengthAhead
theorem dX8_item_0 : decode cX8_item 0 = .ok (.iload_n 1, 1) := by decide +kernel
theorem dX8_item_1 : decode cX8_item 1 = .ok (.ifCond .lt 12, 3) := by decide +kernel
theorem dX8_item_4 : decode cX8_item 4 = .ok (.iload_n 2, 1) := by decide +kernel
theorem dX8_item_5 : decode cX8_item 5 = .ok (.iconst 0, 1) := by decide +kernel
theorem dX8_item_6 : decode cX8_item 6 = .ok (.iconst 2, 1) := by decide +kernel
theorem dX8_item_7 : decode cX8_item 7 = .ok (.invokestatic 41, 3) := by decide +kernel
theorem dX8_item_10 : decode cX8_item 10 = .ok (.ifCond .ne 6, 3) := by decide +kernel
theorem dX8_item_13 : decode cX8_item 13 = .ok (.bipush (-2), 2) := by decide +kernel
theorem dX8_item_15 : decode cX8_item 15 = .ok (.ireturn, 1) := by decide +kernel
theorem dX8_item_16 : decode cX8_item 16 = .ok (.iload_n 1, 1) := by decide +kernel
theorem dX8_item_17 : decode cX8_item 17 = .ok (.aload_n 0, 1) := by decide +kernel
theorem dX8_item_18 : decode cX8_item 18 = .ok (.getfield 24, 3) := by decide +kernel
theorem dX8_item_21 : decode cX8_item 21 = .ok (.getfield 65, 3) := by decide +kernel
theorem dX8_item_24 : decode cX8_item 24 = .ok (.invokevirtual 69, 3) := by decide +kernel
theorem dX8_item_27 : decode cX8_item 27 = .ok (.if_icmp .lt 5, 3) := by decide +kernel
theorem dX8_item_30 : decode cX8_item 30 = .ok (.iconst (-1), 1) := by decide +kernel
theorem dX8_item_31 : decode cX8_item 31 = .ok (.ireturn, 1) := by decide +kernel
theorem dX8_item_32 : decode cX8_item 32 = .ok (.iload_n 2, 1) := by decide +kernel
theorem dX8_item_33 : decode cX8_item 33 = .ok (.lookupswitch 51 #[(0, 27), (1, 39)], 27) := by decide +kernel
theorem dX8_item_60 : decode cX8_item 60 = .ok (.aload_n 0, 1) := by decide +kernel
theorem dX8_item_61 : decode cX8_item 61 = .ok (.getfield 24, 3) := by decide +kernel
theorem dX8_item_64 : decode cX8_item 64 = .ok (.getfield 65, 3) := by decide +kernel
theorem dX8_item_67 : decode cX8_item 67 = .ok (.iload_n 1, 1) := by decide +kernel
theorem dX8_item_68 : decode cX8_item 68 = .ok (.invokevirtual 85, 3) := by decide +kernel
theorem dX8_item_71 : decode cX8_item 71 = .ok (.ireturn, 1) := by decide +kernel
theorem dX8_item_72 : decode cX8_item 72 = .ok (.aload_n 0, 1) := by decide +kernel
theorem dX8_item_73 : decode cX8_item 73 = .ok (.getfield 24, 3) := by decide +kernel
theorem dX8_item_76 : decode cX8_item 76 = .ok (.getfield 65, 3) := by decide +kernel
theorem dX8_item_79 : decode cX8_item 79 = .ok (.iload_n 1, 1) := by decide +kernel
theorem dX8_item_80 : decode cX8_item 80 = .ok (.invokevirtual 89, 3) := by decide +kernel
theorem dX8_item_83 : decode cX8_item 83 = .ok (.ireturn, 1) := by decide +kernel
theorem dX8_item_84 : decode cX8_item 84 = .ok (.aload_n 0, 1) := by decide +kernel
theorem dX8_item_85 : decode cX8_item 85 = .ok (.getfield 24, 3) := by decide +kernel
theorem dX8_item_88 : decode cX8_item 88 = .ok (.getfield 65, 3) := by decide +kernel
theorem dX8_item_91 : decode cX8_item 91 = .ok (.iload_n 1, 1) := by decide +kernel
theorem dX8_item_92 : decode cX8_item 92 = .ok (.invokevirtual 92, 3) := by decide +kernel
theorem dX8_item_95 : decode cX8_item 95 = .ok (.ireturn, 1) := by decide +kernel
set_option maxRecDepth 20000 in
theorem ggX8_set_X5_allows : GoodIn wsX8_set wsX5_allows := goodIn_r _ [7, 8, 9, 10, 11, 12, 13, 6, 14, 15, 16, 17, 18, 19, 20] (by decide +kernel) (by decide +kernel)
set_option maxRecDepth 20000 in
theorem gX8_set_X5_allows : GoodIn wsX8_set (wsV RX8 99 RX5 yX5_allows wsX5_allows) := goodIn_app (goodIn_of _ (by decide +kernel)) ggX8_set_X5_allows
set_option maxRecDepth 20000 in
theorem ggX8_set_X5_value : GoodIn wsX8_set wsX5_value := goodIn_r _ [24, 25, 52] (by decide +kernel) (by decide +kernel)
set_option maxRecDepth 20000 in
theorem gX8_set_X5_value : GoodIn wsX8_set (wsV RX8 105 RX5 yX5_value wsX5_value) := goodIn_app (goodIn_of _ (by decide +kernel)) ggX8_set_X5_value
set_option maxRecDepth 20000 in
theorem ggX8_set_X5_put : GoodIn wsX8_set wsX5_put := goodIn_r _ [29, 25, 52] (by decide +kernel) (by decide +kernel)
set_option maxRecDepth 20000 in
theorem gX8_set_X5_put : GoodIn wsX8_set (wsV RX8 108 RX5 yX5_put wsX5_put) := goodIn_app (goodIn_of _ (by decide +kernel)) ggX8_set_X5_put
theorem dX8_set_0 : decode cX8_set 0 = .ok (.aload_n 0, 1) := by decide +kernel
theorem dX8_set_1 : decode cX8_set 1 = .ok (.getfield 24, 3) := by decide +kernel
theorem dX8_set_4 : decode cX8_set 4 = .ok (.getfield 95, 3) := by decide +kernel
theorem dX8_set_7 : decode cX8_set 7 = .ok (.iload_n 1, 1) := by decide +kernel
theorem dX8_set_8 : decode cX8_set 8 = .ok (.iload_n 2, 1) := by decide +kernel
theorem dX8_set_9 : decode cX8_set 9 = .ok (.invokevirtual 99, 3) := by decide +kernel
theorem dX8_set_12 : decode cX8_set 12 = .ok (.ifCond .ne 6, 3) := by decide +kernel
theorem dX8_set_15 : decode cX8_set 15 = .ok (.bipush (-2), 2) := by decide +kernel
theorem dX8_set_17 : decode cX8_set 17 = .ok (.ireturn, 1) := by decide +kernel
theorem dX8_set_18 : decode cX8_set 18 = .ok (.aload_n 0, 1) := by decide +kernel
theorem dX8_set_19 : decode cX8_set 19 = .ok (.getfield 24, 3) := by decide +kernel
theorem dX8_set_22 : decode cX8_set 22 = .ok (.getfield 95, 3) := by decide +kernel
theorem dX8_set_25 : decode cX8_set 25 = .ok (.iload_n 1, 1) := by decide +kernel
theorem dX8_set_26 : decode cX8_set 26 = .ok (.invokevirtual 105, 3) := by decide +kernel
theorem dX8_set_29 : decode cX8_set 29 = .ok (.istore_n 3, 1) := by decide +kernel
theorem dX8_set_30 : decode cX8_set 30 = .ok (.aload_n 0, 1) := by decide +kernel
theorem dX8_set_31 : decode cX8_set 31 = .ok (.getfield 24, 3) := by decide +kernel
theorem dX8_set_34 : decode cX8_set 34 = .ok (.getfield 95, 3) := by decide +kernel
theorem dX8_set_37 : decode cX8_set 37 = .ok (.iload_n 1, 1) := by decide +kernel
theorem dX8_set_38 : decode cX8_set 38 = .ok (.iload_n 2, 1) := by decide +kernel
theorem dX8_set_39 : decode cX8_set 39 = .ok (.invokevirtual 108, 3) := by decide +kernel
theorem dX8_set_42 : decode cX8_set 42 = .ok (.iload_n 3, 1) := by decide +kernel
theorem dX8_set_43 : decode cX8_set 43 = .ok (.ireturn, 1) := by decide +kernel
set_option maxRecDepth 20000 in
theorem ggX8_setPitch_X8_isWithin : GoodIn wsX8_setPitch wsX8_isWithin := goodIn_r _ [7] (by decide +kernel) (by decide +kernel)
set_option maxRecDepth 20000 in
theorem gX8_setPitch_X8_isWithin : GoodIn wsX8_setPitch (va_wsS RX8 41 yX8_isWithin wsX8_isWithin) := goodIn_app (goodIn_of _ (by decide +kernel)) ggX8_setPitch_X8_isWithin
set_option maxRecDepth 20000 in
theorem ggX8_setPitch_X8_bitsOf : GoodIn wsX8_setPitch wsX8_bitsOf := goodIn_r _ [10, 11] (by decide +kernel) (by decide +kernel)
set_option maxRecDepth 20000 in
theorem gX8_setPitch_X8_bitsOf : GoodIn wsX8_setPitch (va_wsS RX8 116 yX8_bitsOf wsX8_bitsOf) := goodIn_app (goodIn_of _ (by decide +kernel)) ggX8_setPitch_X8_bitsOf
theorem dX8_setPitch_0 : decode cX8_setPitch 0 = .ok (.iload_n 1, 1) := by decide +kernel
theorem dX8_setPitch_1 : decode cX8_setPitch 1 = .ok (.bipush 10, 2) := by decide +kernel
theorem dX8_setPitch_3 : decode cX8_setPitch 3 = .ok (.sipush 2000, 3) := by decide +kernel
theorem dX8_setPitch_6 : decode cX8_setPitch 6 = .ok (.invokestatic 41, 3) := by decide +kernel
theorem dX8_setPitch_9 : decode cX8_setPitch 9 = .ok (.ifCond .ne 6, 3) := by decide +kernel
theorem dX8_setPitch_12 : decode cX8_setPitch 12 = .ok (.bipush (-2), 2) := by decide +kernel
theorem dX8_setPitch_14 : decode cX8_setPitch 14 = .ok (.ireturn, 1) := by decide +kernel
theorem dX8_setPitch_15 : decode cX8_setPitch 15 = .ok (.aload_n 0, 1) := by decide +kernel
theorem dX8_setPitch_16 : decode cX8_setPitch 16 = .ok (.getfield 24, 3) := by decide +kernel
theorem dX8_setPitch_19 : decode cX8_setPitch 19 = .ok (.getfield 112, 3) := by decide +kernel
theorem dX8_setPitch_22 : decode cX8_setPitch 22 = .ok (.invokestatic 116, 3) := by decide +kernel
theorem dX8_setPitch_25 : decode cX8_setPitch 25 = .ok (.istore_n 2, 1) := by decide +kernel
theorem dX8_setPitch_26 : decode cX8_setPitch 26 = .ok (.aload_n 0, 1) := by decide +kernel
theorem dX8_setPitch_27 : decode cX8_setPitch 27 = .ok (.getfield 24, 3) := by decide +kernel
theorem dX8_setPitch_30 : decode cX8_setPitch 30 = .ok (.iload_n 1, 1) := by decide +kernel
theorem dX8_setPitch_31 : decode cX8_setPitch 31 = .ok (.i2f, 1) := by decide +kernel
theorem dX8_setPitch_32 : decode cX8_setPitch 32 = .ok (.ldc 120, 2) := by decide +kernel
theorem dX8_setPitch_34 : decode cX8_setPitch 34 = .ok (.fdiv, 1) := by decide +kernel
theorem dX8_setPitch_35 : decode cX8_setPitch 35 = .ok (.putfield 112, 3) := by decide +kernel
theorem dX8_setPitch_38 : decode cX8_setPitch 38 = .ok (.iload_n 2, 1) := by decide +kernel
theorem dX8_setPitch_39 : decode cX8_setPitch 39 = .ok (.ireturn, 1) := by decide +kernel
set_option maxRecDepth 20000 in
theorem ggX8_setRing_X8_isWithin : GoodIn wsX8_setRing wsX8_isWithin := goodIn_r _ [5] (by decide +kernel) (by decide +kernel)
set_option maxRecDepth 20000 in
theorem gX8_setRing_X8_isWithin : GoodIn wsX8_setRing (va_wsS RX8 41 yX8_isWithin wsX8_isWithin) := goodIn_app (goodIn_of _ (by decide +kernel)) ggX8_setRing_X8_isWithin
set_option maxRecDepth 20000 in
theorem ggX8_setRing_X2_rebuildRing : GoodIn wsX8_setRing wsX2_rebuildRing := goodIn_r _ [10, 11, 12, 13, 14, 15, 16, 17, 18, 19, 20, 21, 22, 23, 24, 25, 26, 27, 9, 28, 29, 30, 31, 32, 33, 34, 41, 42, 43, 44, 45, 46, 47, 48, 49, 50, 51, 52, 53, 54, 55, 56, 57, 58] (by decide +kernel) (by decide +kernel)
set_option maxRecDepth 20000 in
theorem gX8_setRing_X2_rebuildRing : GoodIn wsX8_setRing (wsV RX8 121 RX2 yX2_rebuildRing wsX2_rebuildRing) := goodIn_app (goodIn_of _ (by decide +kernel)) ggX8_setRing_X2_rebuildRing
theorem dX8_setRing_0 : decode cX8_setRing 0 = .ok (.iload_n 1, 1) := by decide +kernel
theorem dX8_setRing_1 : decode cX8_setRing 1 = .ok (.iconst 1, 1) := by decide +kernel
theorem dX8_setRing_2 : decode cX8_setRing 2 = .ok (.bipush 10, 2) := by decide +kernel
theorem dX8_setRing_4 : decode cX8_setRing 4 = .ok (.invokestatic 41, 3) := by decide +kernel
theorem dX8_setRing_7 : decode cX8_setRing 7 = .ok (.ifCond .ne 6, 3) := by decide +kernel
theorem dX8_setRing_10 : decode cX8_setRing 10 = .ok (.bipush (-2), 2) := by decide +kernel
theorem dX8_setRing_12 : decode cX8_setRing 12 = .ok (.ireturn, 1) := by decide +kernel
theorem dX8_setRing_13 : decode cX8_setRing 13 = .ok (.aload_n 0, 1) := by decide +kernel
theorem dX8_setRing_14 : decode cX8_setRing 14 = .ok (.getfield 24, 3) := by decide +kernel
theorem dX8_setRing_17 : decode cX8_setRing 17 = .ok (.iload_n 1, 1) := by decide +kernel
theorem dX8_setRing_18 : decode cX8_setRing 18 = .ok (.invokevirtual 121, 3) := by decide +kernel
theorem dX8_setRing_21 : decode cX8_setRing 21 = .ok (.ireturn, 1) := by decide +kernel
set_option maxRecDepth 20000 in
theorem ggX8_run_X8_canCome : GoodIn wsX8_run wsX8_canCome := goodIn_r _ [6, 7, 8, 5, 9] (by decide +kernel) (by decide +kernel)
set_option maxRecDepth 20000 in
theorem gX8_run_X8_canCome : GoodIn wsX8_run (va_wsS RX8 124 yX8_canCome wsX8_canCome) := goodIn_app (goodIn_of _ (by decide +kernel)) ggX8_run_X8_canCome
set_option maxRecDepth 20000 in
theorem ggX8_run_X2_serve : GoodIn wsX8_run wsX2_serve := goodIn_r _ [14, 15, 16, 17, 18, 19, 20, 21, 22, 23, 24, 25, 26, 27, 28, 13, 29, 30, 31, 32, 33, 34, 35, 36, 37, 38, 39, 40, 41, 42, 43, 44, 45, 46, 47, 48, 49, 50, 51, 52, 53, 54, 55, 56, 57, 58, 59, 60, 61, 62, 63, 64, 65, 66, 67, 68, 69, 70, 71, 72, 73, 74, 75, 76, 77, 78, 79, 80, 81, 82, 83, 84, 85, 86, 87, 88, 89, 90, 91, 92, 93, 94, 95, 96, 97, 98, 99, 100, 101, 102, 103, 104, 105, 106, 107, 108, 109, 110, 111, 112, 113, 114, 115, 116, 117, 118, 119, 120, 121, 122, 123, 124, 125, 126, 127, 128, 129, 130, 131, 132, 139, 140, 141, 142, 143, 144, 145, 146, 147, 148, 149, 150, 151, 152, 153, 154, 155, 156, 157, 158, 159, 160, 161, 162, 163, 164, 165, 166, 167, 168, 169] (by decide +kernel) (by decide +kernel)
set_option maxRecDepth 20000 in
theorem gX8_run_X2_serve : GoodIn wsX8_run (wsV RX8 130 RX2 yX2_serve wsX2_serve) := goodIn_app (goodIn_of _ (by decide +kernel)) ggX8_run_X2_serve
theorem dX8_run_0 : decode cX8_run 0 = .ok (.iload_n 1, 1) := by decide +kernel
theorem dX8_run_1 : decode cX8_run 1 = .ok (.iload_n 2, 1) := by decide +kernel
theorem dX8_run_2 : decode cX8_run 2 = .ok (.invokestatic 124, 3) := by decide +kernel
theorem dX8_run_5 : decode cX8_run 5 = .ok (.ifCond .ne 6, 3) := by decide +kernel
theorem dX8_run_8 : decode cX8_run 8 = .ok (.bipush (-2), 2) := by decide +kernel
theorem dX8_run_10 : decode cX8_run 10 = .ok (.ireturn, 1) := by decide +kernel
theorem dX8_run_11 : decode cX8_run 11 = .ok (.aload_n 0, 1) := by decide +kernel
theorem dX8_run_12 : decode cX8_run 12 = .ok (.getfield 24, 3) := by decide +kernel
theorem dX8_run_15 : decode cX8_run 15 = .ok (.getfield 127, 3) := by decide +kernel
theorem dX8_run_18 : decode cX8_run 18 = .ok (.ifCond .eq 6, 3) := by decide +kernel
theorem dX8_run_21 : decode cX8_run 21 = .ok (.bipush (-3), 2) := by decide +kernel
theorem dX8_run_23 : decode cX8_run 23 = .ok (.ireturn, 1) := by decide +kernel
theorem dX8_run_24 : decode cX8_run 24 = .ok (.iconst 0, 1) := by decide +kernel
theorem dX8_run_25 : decode cX8_run 25 = .ok (.istore_n 3, 1) := by decide +kernel
theorem dX8_run_26 : decode cX8_run 26 = .ok (.iload_n 3, 1) := by decide +kernel
theorem dX8_run_27 : decode cX8_run 27 = .ok (.iload_n 1, 1) := by decide +kernel
theorem dX8_run_28 : decode cX8_run 28 = .ok (.if_icmp .ge 27, 3) := by decide +kernel
theorem dX8_run_31 : decode cX8_run 31 = .ok (.aload_n 0, 1) := by decide +kernel
theorem dX8_run_32 : decode cX8_run 32 = .ok (.getfield 24, 3) := by decide +kernel
theorem dX8_run_35 : decode cX8_run 35 = .ok (.getfield 127, 3) := by decide +kernel
theorem dX8_run_38 : decode cX8_run 38 = .ok (.ifCond .ne 17, 3) := by decide +kernel
theorem dX8_run_41 : decode cX8_run 41 = .ok (.aload_n 0, 1) := by decide +kernel
theorem dX8_run_42 : decode cX8_run 42 = .ok (.getfield 24, 3) := by decide +kernel
theorem dX8_run_45 : decode cX8_run 45 = .ok (.iload_n 2, 1) := by decide +kernel
theorem dX8_run_46 : decode cX8_run 46 = .ok (.invokevirtual 130, 3) := by decide +kernel
theorem dX8_run_49 : decode cX8_run 49 = .ok (.iinc 3 1, 3) := by decide +kernel
theorem dX8_run_52 : decode cX8_run 52 = .ok (.goto (-26), 3) := by decide +kernel
theorem dX8_run_55 : decode cX8_run 55 = .ok (.iload_n 3, 1) := by decide +kernel
theorem dX8_run_56 : decode cX8_run 56 = .ok (.ireturn, 1) := by decide +kernel
theorem dX8_clearFaults_0 : decode cX8_clearFaults 0 = .ok (.aload_n 0, 1) := by decide +kernel
theorem dX8_clearFaults_1 : decode cX8_clearFaults 1 = .ok (.getfield 24, 3) := by decide +kernel
theorem dX8_clearFaults_4 : decode cX8_clearFaults 4 = .ok (.getfield 134, 3) := by decide +kernel
theorem dX8_clearFaults_7 : decode cX8_clearFaults 7 = .ok (.istore_n 1, 1) := by decide +kernel
theorem dX8_clearFaults_8 : decode cX8_clearFaults 8 = .ok (.aload_n 0, 1) := by decide +kernel
theorem dX8_clearFaults_9 : decode cX8_clearFaults 9 = .ok (.getfield 24, 3) := by decide +kernel
theorem dX8_clearFaults_12 : decode cX8_clearFaults 12 = .ok (.iconst 0, 1) := by decide +kernel
theorem dX8_clearFaults_13 : decode cX8_clearFaults 13 = .ok (.putfield 134, 3) := by decide +kernel
theorem dX8_clearFaults_16 : decode cX8_clearFaults 16 = .ok (.aload_n 0, 1) := by decide +kernel
theorem dX8_clearFaults_17 : decode cX8_clearFaults 17 = .ok (.getfield 24, 3) := by decide +kernel
theorem dX8_clearFaults_20 : decode cX8_clearFaults 20 = .ok (.iconst 0, 1) := by decide +kernel
theorem dX8_clearFaults_21 : decode cX8_clearFaults 21 = .ok (.putfield 127, 3) := by decide +kernel
theorem dX8_clearFaults_24 : decode cX8_clearFaults 24 = .ok (.iload_n 1, 1) := by decide +kernel
theorem dX8_clearFaults_25 : decode cX8_clearFaults 25 = .ok (.ireturn, 1) := by decide +kernel
set_option maxRecDepth 20000 in
theorem ggX8_latest_X8_isWithin : GoodIn wsX8_latest wsX8_isWithin := goodIn_r _ [7] (by decide +kernel) (by decide +kernel)
set_option maxRecDepth 20000 in
theorem gX8_latest_X8_isWithin : GoodIn wsX8_latest (va_wsS RX8 41 yX8_isWithin wsX8_isWithin) := goodIn_app (goodIn_of _ (by decide +kernel)) ggX8_latest_X8_isWithin
set_option maxRecDepth 20000 in
theorem ggX8_latest_X0_number : GoodIn wsX8_latest wsX0_number := goodIn_r _ [12, 13, 14, 15, 16, 17, 18, 41, 42, 43, 44, 45, 46, 47, 48] (by decide +kernel) (by decide +kernel)
set_option maxRecDepth 20000 in
theorem gX8_latest_X0_number : GoodIn wsX8_latest (wsV RX8 146 RX0 yX0_number wsX0_number) := goodIn_app (goodIn_of _ (by decide +kernel)) ggX8_latest_X0_number
theorem dX8_latest_0 : decode cX8_latest 0 = .ok (.iload_n 1, 1) := by decide +kernel
theorem dX8_latest_1 : decode cX8_latest 1 = .ok (.iconst 0, 1) := by decide +kernel
theorem dX8_latest_2 : decode cX8_latest 2 = .ok (.iconst 5, 1) := by decide +kernel
theorem dX8_latest_3 : decode cX8_latest 3 = .ok (.invokestatic 41, 3) := by decide +kernel
theorem dX8_latest_6 : decode cX8_latest 6 = .ok (.ifCond .ne 6, 3) := by decide +kernel
theorem dX8_latest_9 : decode cX8_latest 9 = .ok (.bipush (-2), 2) := by decide +kernel
theorem dX8_latest_11 : decode cX8_latest 11 = .ok (.ireturn, 1) := by decide +kernel
theorem dX8_latest_12 : decode cX8_latest 12 = .ok (.aload_n 0, 1) := by decide +kernel
theorem dX8_latest_13 : decode cX8_latest 13 = .ok (.getfield 24, 3) := by decide +kernel
theorem dX8_latest_16 : decode cX8_latest 16 = .ok (.getfield 137, 3) := by decide +kernel
theorem dX8_latest_19 : decode cX8_latest 19 = .ok (.getfield 141, 3) := by decide +kernel
theorem dX8_latest_22 : decode cX8_latest 22 = .ok (.ifCond .ne 7, 3) := by decide +kernel
theorem dX8_latest_25 : decode cX8_latest 25 = .ok (.iconst (-1), 1) := by decide +kernel
theorem dX8_latest_26 : decode cX8_latest 26 = .ok (.goto 14, 3) := by decide +kernel
theorem dX8_latest_29 : decode cX8_latest 29 = .ok (.aload_n 0, 1) := by decide +kernel
theorem dX8_latest_30 : decode cX8_latest 30 = .ok (.getfield 24, 3) := by decide +kernel
theorem dX8_latest_33 : decode cX8_latest 33 = .ok (.getfield 137, 3) := by decide +kernel
theorem dX8_latest_36 : decode cX8_latest 36 = .ok (.iload_n 1, 1) := by decide +kernel
theorem dX8_latest_37 : decode cX8_latest 37 = .ok (.invokevirtual 146, 3) := by decide +kernel
theorem dX8_latest_40 : decode cX8_latest 40 = .ok (.ireturn, 1) := by decide +kernel
set_option maxRecDepth 20000 in
theorem ggX8_station_X8_isWithin : GoodIn wsX8_station wsX8_isWithin := goodIn_r _ [7] (by decide +kernel) (by decide +kernel)
set_option maxRecDepth 20000 in
theorem gX8_station_X8_isWithin : GoodIn wsX8_station (va_wsS RX8 41 yX8_isWithin wsX8_isWithin) := goodIn_app (goodIn_of _ (by decide +kernel)) ggX8_station_X8_isWithin
set_option maxRecDepth 20000 in
theorem ggX8_station_X4_reasonAt : GoodIn wsX8_station wsX4_reasonAt := goodIn_r _ [12, 13, 36, 37] (by decide +kernel) (by decide +kernel)
set_option maxRecDepth 20000 in
theorem gX8_station_X4_reasonAt : GoodIn wsX8_station (wsV RX8 158 RX4 yX4_reasonAt wsX4_reasonAt) := goodIn_app (goodIn_of _ (by decide +kernel)) ggX8_station_X4_reasonAt
theorem dX8_station_0 : decode cX8_station 0 = .ok (.iload_n 1, 1) := by decide +kernel
theorem dX8_station_1 : decode cX8_station 1 = .ok (.iconst 0, 1) := by decide +kernel
theorem dX8_station_2 : decode cX8_station 2 = .ok (.aload_n 0, 1) := by decide +kernel
theorem dX8_station_3 : decode cX8_station 3 = .ok (.getfield 24, 3) := by decide +kernel
theorem dX8_station_6 : decode cX8_station 6 = .ok (.getfield 149, 3) := by decide +kernel
theorem dX8_station_9 : decode cX8_station 9 = .ok (.getfield 153, 3) := by decide +kernel
theorem dX8_station_12 : decode cX8_station 12 = .ok (.iconst 1, 1) := by decide +kernel
theorem dX8_station_13 : decode cX8_station 13 = .ok (.isub, 1) := by decide +kernel
theorem dX8_station_14 : decode cX8_station 14 = .ok (.invokestatic 41, 3) := by decide +kernel
theorem dX8_station_17 : decode cX8_station 17 = .ok (.ifCond .ne 6, 3) := by decide +kernel
theorem dX8_station_20 : decode cX8_station 20 = .ok (.bipush (-2), 2) := by decide +kernel
theorem dX8_station_22 : decode cX8_station 22 = .ok (.ireturn, 1) := by decide +kernel
theorem dX8_station_23 : decode cX8_station 23 = .ok (.aload_n 0, 1) := by decide +kernel
theorem dX8_station_24 : decode cX8_station 24 = .ok (.getfield 24, 3) := by decide +kernel
theorem dX8_station_27 : decode cX8_station 27 = .ok (.getfield 149, 3) := by decide +kernel
theorem dX8_station_30 : decode cX8_station 30 = .ok (.iload_n 1, 1) := by decide +kernel
theorem dX8_station_31 : decode cX8_station 31 = .ok (.invokevirtual 158, 3) := by decide +kernel
theorem dX8_station_34 : decode cX8_station 34 = .ok (.ireturn, 1) := by decide +kernel
set_option maxRecDepth 20000 in
theorem ggX8_pitch_X8_bitsOf : GoodIn wsX8_pitch wsX8_bitsOf := goodIn_r _ [6, 7] (by decide +kernel) (by decide +kernel)
set_option maxRecDepth 20000 in
theorem gX8_pitch_X8_bitsOf : GoodIn wsX8_pitch (va_wsS RX8 116 yX8_bitsOf wsX8_bitsOf) := goodIn_app (goodIn_of _ (by decide +kernel)) ggX8_pitch_X8_bitsOf
theorem dX8_pitch_0 : decode cX8_pitch 0 = .ok (.aload_n 0, 1) := by decide +kernel
theorem dX8_pitch_1 : decode cX8_pitch 1 = .ok (.getfield 24, 3) := by decide +kernel
theorem dX8_pitch_4 : decode cX8_pitch 4 = .ok (.getfield 112, 3) := by decide +kernel
theorem dX8_pitch_7 : decode cX8_pitch 7 = .ok (.invokestatic 116, 3) := by decide +kernel
theorem dX8_pitch_10 : decode cX8_pitch 10 = .ok (.ireturn, 1) := by decide +kernel
set_option maxRecDepth 20000 in
theorem ggX8_foretell_X8_canCome : GoodIn wsX8_foretell wsX8_canCome := goodIn_r _ [8, 9, 10, 7, 11] (by decide +kernel) (by decide +kernel)
set_option maxRecDepth 20000 in
theorem gX8_foretell_X8_canCome : GoodIn wsX8_foretell (va_wsS RX8 124 yX8_canCome wsX8_canCome) := goodIn_app (goodIn_of _ (by decide +kernel)) ggX8_foretell_X8_canCome
set_option maxRecDepth 20000 in
theorem ggX8_foretell_X8_isWithin : GoodIn wsX8_foretell wsX8_isWithin := goodIn_r _ [11] (by decide +kernel) (by decide +kernel)
set_option maxRecDepth 20000 in
theorem gX8_foretell_X8_isWithin : GoodIn wsX8_foretell (va_wsS RX8 41 yX8_isWithin wsX8_isWithin) := goodIn_app (goodIn_of _ (by decide +kernel)) ggX8_foretell_X8_isWithin
set_option maxRecDepth 20000 in
theorem ggX8_foretell_X2_copyFrom : GoodIn wsX8_foretell wsX2_copyFrom := goodIn_r _ [16, 17, 18, 19, 20, 21, 22, 23, 24, 25, 26, 27, 28, 29, 30, 31, 32, 33, 34, 35, 36, 37, 38, 39, 40, 41, 42, 43, 44, 45, 46, 47, 48, 49, 50, 51, 52, 53, 54, 55, 56, 57, 58, 59, 60, 61, 62, 63, 64, 65, 66, 67, 68, 69, 70, 71, 72, 73, 74, 75, 76, 77, 78, 79, 80, 81, 82, 83, 84, 85, 86, 87, 88, 89, 90, 91, 92, 93, 94, 95, 96, 97, 98, 99, 100, 101, 102, 103, 104, 105, 106, 15, 107, 197, 198, 199, 200, 201, 202, 203, 204, 205, 206, 207, 208, 209, 210, 211, 212, 213, 214, 215, 216, 217, 218, 219, 220, 221, 222, 223, 224, 225, 226, 227] (by decide +kernel) (by decide +kernel)
set_option maxRecDepth 20000 in
theorem gX8_foretell_X2_copyFrom : GoodIn wsX8_foretell (wsV RX8 161 RX2 yX2_copyFrom wsX2_copyFrom) := goodIn_app (goodIn_of _ (by decide +kernel)) ggX8_foretell_X2_copyFrom
set_option maxRecDepth 20000 in
theorem ggX8_foretell_X2_serveAll : GoodIn wsX8_foretell wsX2_serveAll := goodIn_r _ [111, 112, 113, 114, 15, 115, 23, 20, 116, 117, 22, 18, 118, 119, 19, 24, 25, 120, 121, 122, 123, 124, 125, 126, 127, 128, 129, 130, 131, 77, 78, 73, 79, 75, 132, 133, 134, 94, 135, 96, 97, 98, 99, 100, 101, 136, 137, 138, 139, 17, 140, 141, 53, 54, 36, 55, 43, 42, 142, 57, 58, 59, 60, 143, 62, 63, 64, 65, 144, 145, 146, 147, 148, 149, 150, 151, 152, 153, 154, 155, 156, 157, 158, 159, 160, 161, 162, 163, 164, 165, 166, 167, 168, 26, 21, 29, 30, 31, 32, 169, 170, 171, 172, 173, 174, 175, 176, 83, 177, 85, 86, 178, 179, 180, 181, 27, 28, 182, 183, 184, 185, 186, 187, 188, 197, 198, 199, 200, 201, 202, 203, 204, 205, 206, 207, 208, 209, 210, 211, 212, 220, 221, 222, 223, 224, 225, 226, 227, 217, 213, 214, 215, 216, 218, 219] (by decide +kernel) (by decide +kernel)
set_option maxRecDepth 20000 in
theorem gX8_foretell_X2_serveAll : GoodIn wsX8_foretell (wsV RX8 165 RX2 yX2_serveAll wsX2_serveAll) := goodIn_app (goodIn_of _ (by decide +kernel)) ggX8_foretell_X2_serveAll
set_option maxRecDepth 20000 in
theorem ggX8_foretell_X2_cameWith : GoodIn wsX8_foretell wsX2_cameWith := goodIn_r _ [107, 21, 197, 198, 199, 200, 201, 202, 203, 204, 205, 206, 207, 208, 209, 210, 211, 212] (by decide +kernel) (by decide +kernel)
set_option maxRecDepth 20000 in
theorem gX8_foretell_X2_cameWith : GoodIn wsX8_foretell (wsV RX8 169 RX2 yX2_cameWith wsX2_cameWith) := goodIn_app (goodIn_of _ (by decide +kernel)) ggX8_foretell_X2_cameWith
set_option maxRecDepth 20000 in
theorem ggX8_foretell_X1_size : GoodIn wsX8_foretell wsX1_size := goodIn_r _ [55, 43, 42, 213, 214, 215, 216] (by decide +kernel) (by decide +kernel)
set_option maxRecDepth 20000 in
theorem gX8_foretell_X1_size : GoodIn wsX8_foretell (wsV RX8 69 RX1 yX1_size wsX1_size) := goodIn_app (goodIn_of _ (by decide +kernel)) ggX8_foretell_X1_size
theorem dX8_foretell_0 : decode cX8_foretell 0 = .ok (.iload_n 1, 1) := by decide +kernel
theorem dX8_foretell_1 : decode cX8_foretell 1 = .ok (.iload_n 2, 1) := by decide +kernel
theorem dX8_foretell_2 : decode cX8_foretell 2 = .ok (.invokestatic 124, 3) := by decide +kernel
theorem dX8_foretell_5 : decode cX8_foretell 5 = .ok (.ifCond .eq 12, 3) := by decide +kernel
theorem dX8_foretell_8 : decode cX8_foretell 8 = .ok (.iload_n 3, 1) := by decide +kernel
theorem dX8_foretell_9 : decode cX8_foretell 9 = .ok (.iconst 0, 1) := by decide +kernel
theorem dX8_foretell_10 : decode cX8_foretell 10 = .ok (.iconst 3, 1) := by decide +kernel
theorem dX8_foretell_11 : decode cX8_foretell 11 = .ok (.invokestatic 41, 3) := by decide +kernel
theorem dX8_foretell_14 : decode cX8_foretell 14 = .ok (.ifCond .ne 6, 3) := by decide +kernel
theorem dX8_foretell_17 : decode cX8_foretell 17 = .ok (.bipush (-2), 2) := by decide +kernel
theorem dX8_foretell_19 : decode cX8_foretell 19 = .ok (.ireturn, 1) := by decide +kernel
theorem dX8_foretell_20 : decode cX8_foretell 20 = .ok (.aload_n 0, 1) := by decide +kernel
theorem dX8_foretell_21 : decode cX8_foretell 21 = .ok (.getfield 28, 3) := by decide +kernel
theorem dX8_foretell_24 : decode cX8_foretell 24 = .ok (.aload_n 0, 1) := by decide +kernel
theorem dX8_foretell_25 : decode cX8_foretell 25 = .ok (.getfield 24, 3) := by decide +kernel
theorem dX8_foretell_28 : decode cX8_foretell 28 = .ok (.invokevirtual 161, 3) := by decide +kernel
theorem dX8_foretell_31 : decode cX8_foretell 31 = .ok (.aload_n 0, 1) := by decide +kernel
theorem dX8_foretell_32 : decode cX8_foretell 32 = .ok (.getfield 28, 3) := by decide +kernel
theorem dX8_foretell_35 : decode cX8_foretell 35 = .ok (.iload_n 1, 1) := by decide +kernel
theorem dX8_foretell_36 : decode cX8_foretell 36 = .ok (.iload_n 2, 1) := by decide +kernel
theorem dX8_foretell_37 : decode cX8_foretell 37 = .ok (.invokevirtual 165, 3) := by decide +kernel
theorem dX8_foretell_40 : decode cX8_foretell 40 = .ok (.istore 4, 2) := by decide +kernel
theorem dX8_foretell_42 : decode cX8_foretell 42 = .ok (.iload_n 3, 1) := by decide +kernel
theorem dX8_foretell_43 : decode cX8_foretell 43 = .ok (.tableswitch 70 0 2 #[25, 43, 59], 25) := by decide +kernel
theorem dX8_foretell_68 : decode cX8_foretell 68 = .ok (.aload_n 0, 1) := by decide +kernel
theorem dX8_foretell_69 : decode cX8_foretell 69 = .ok (.getfield 28, 3) := by decide +kernel
theorem dX8_foretell_72 : decode cX8_foretell 72 = .ok (.iconst 0, 1) := by decide +kernel
theorem dX8_foretell_73 : decode cX8_foretell 73 = .ok (.invokevirtual 169, 3) := by decide +kernel
theorem dX8_foretell_76 : decode cX8_foretell 76 = .ok (.aload_n 0, 1) := by decide +kernel
theorem dX8_foretell_77 : decode cX8_foretell 77 = .ok (.getfield 24, 3) := by decide +kernel
theorem dX8_foretell_80 : decode cX8_foretell 80 = .ok (.iconst 0, 1) := by decide +kernel
theorem dX8_foretell_81 : decode cX8_foretell 81 = .ok (.invokevirtual 169, 3) := by decide +kernel
theorem dX8_foretell_84 : decode cX8_foretell 84 = .ok (.isub, 1) := by decide +kernel
theorem dX8_foretell_85 : decode cX8_foretell 85 = .ok (.ireturn, 1) := by decide +kernel
theorem dX8_foretell_86 : decode cX8_foretell 86 = .ok (.aload_n 0, 1) := by decide +kernel
theorem dX8_foretell_87 : decode cX8_foretell 87 = .ok (.getfield 28, 3) := by decide +kernel
theorem dX8_foretell_90 : decode cX8_foretell 90 = .ok (.getfield 172, 3) := by decide +kernel
theorem dX8_foretell_93 : decode cX8_foretell 93 = .ok (.aload_n 0, 1) := by decide +kernel
theorem dX8_foretell_94 : decode cX8_foretell 94 = .ok (.getfield 24, 3) := by decide +kernel
theorem dX8_foretell_97 : decode cX8_foretell 97 = .ok (.getfield 172, 3) := by decide +kernel
theorem dX8_foretell_100 : decode cX8_foretell 100 = .ok (.isub, 1) := by decide +kernel
theorem dX8_foretell_101 : decode cX8_foretell 101 = .ok (.ireturn, 1) := by decide +kernel
theorem dX8_foretell_102 : decode cX8_foretell 102 = .ok (.aload_n 0, 1) := by decide +kernel
theorem dX8_foretell_103 : decode cX8_foretell 103 = .ok (.getfield 28, 3) := by decide +kernel
theorem dX8_foretell_106 : decode cX8_foretell 106 = .ok (.getfield 65, 3) := by decide +kernel
theorem dX8_foretell_109 : decode cX8_foretell 109 = .ok (.invokevirtual 69, 3) := by decide +kernel
theorem dX8_foretell_112 : decode cX8_foretell 112 = .ok (.ireturn, 1) := by decide +kernel
theorem dX8_foretell_113 : decode cX8_foretell 113 = .ok (.iload 4, 2) := by decide +kernel
theorem dX8_foretell_115 : decode cX8_foretell 115 = .ok (.ireturn, 1) := by decide +kernel
set_option maxRecDepth 20000 in
theorem ggX8_best_X8_canCome : GoodIn wsX8_best wsX8_canCome := goodIn_r _ [6, 7, 8, 5, 9] (by decide +kernel) (by decide +kernel)
set_option maxRecDepth 20000 in
theorem gX8_best_X8_canCome : GoodIn wsX8_best (va_wsS RX8 124 yX8_canCome wsX8_canCome) := goodIn_app (goodIn_of _ (by decide +kernel)) ggX8_best_X8_canCome
set_option maxRecDepth 20000 in
theorem ggX8_best_X5_least : GoodIn wsX8_best wsX5_least := goodIn_r _ [14, 15] (by decide +kernel) (by decide +kernel)
set_option maxRecDepth 20000 in
theorem gX8_best_X5_least : GoodIn wsX8_best (wsV RX8 175 RX5 yX5_least wsX5_least) := goodIn_app (goodIn_of _ (by decide +kernel)) ggX8_best_X5_least
set_option maxRecDepth 20000 in
theorem ggX8_best_X5_greatest : GoodIn wsX8_best wsX5_greatest := goodIn_r _ [19, 20] (by decide +kernel) (by decide +kernel)
set_option maxRecDepth 20000 in
theorem gX8_best_X5_greatest : GoodIn wsX8_best (wsV RX8 178 RX5 yX5_greatest wsX5_greatest) := goodIn_app (goodIn_of _ (by decide +kernel)) ggX8_best_X5_greatest
set_option maxRecDepth 20000 in
theorem ggX8_best_X8_goodWith : GoodIn wsX8_best wsX8_goodWith := goodIn_r _ [24, 25, 1, 2, 26, 27, 28, 29, 30, 31, 32, 33, 34, 35, 36, 37, 38, 39, 40, 41, 42, 43, 44, 45, 46, 47, 48, 49, 50, 51, 52, 53, 54, 55, 56, 57, 58, 59, 60, 61, 62, 63, 64, 65, 66, 67, 68, 69, 70, 71, 72, 73, 74, 75, 76, 77, 78, 79, 80, 81, 82, 83, 84, 85, 86, 13, 87, 88, 89, 90, 91, 92, 93, 94, 95, 96, 97, 98, 99, 100, 101, 102, 103, 104, 105, 106, 107, 108, 109, 110, 111, 112, 113, 114, 115, 116, 117, 118, 119, 120, 121, 122, 123, 124, 125, 126, 127, 128, 129, 130, 131, 132, 133, 134, 135, 136, 137, 138, 139, 140, 141, 142, 143, 144, 145, 146, 147, 148, 149, 150, 151, 152, 153, 154, 155, 156, 157, 158, 159, 160, 161, 162, 163, 164, 165, 166, 167, 168, 169, 170, 171, 172, 173, 174, 175, 176, 177, 178, 179, 180, 181, 182, 183, 184, 185, 186, 187, 188, 189, 190, 191, 192, 193, 194, 195, 196, 197, 198, 199, 200, 201, 202, 203, 204, 205, 206, 207, 208, 209, 210, 211, 212, 213, 214, 215, 216, 217, 218, 219, 220, 221, 222, 223, 224, 225, 226, 227, 228, 229, 230, 231, 232, 233, 234, 235, 236, 237, 238, 239, 240, 241, 242, 243] (by decide +kernel) (by decide +kernel)
set_option maxRecDepth 20000 in
theorem gX8_best_X8_goodWith : GoodIn wsX8_best (wsV RX8 181 RX8 yX8_goodWith wsX8_goodWith) := goodIn_app (goodIn_of _ (by decide +kernel)) ggX8_best_X8_goodWith
theorem dX8_best_0 : decode cX8_best 0 = .ok (.iload_n 1, 1) := by decide +kernel
theorem dX8_best_1 : decode cX8_best 1 = .ok (.ifCond .eq 16, 3) := by decide +kernel
theorem dX8_best_4 : decode cX8_best 4 = .ok (.iload_n 1, 1) := by decide +kernel
theorem dX8_best_5 : decode cX8_best 5 = .ok (.iconst 1, 1) := by decide +kernel
theorem dX8_best_6 : decode cX8_best 6 = .ok (.if_icmp .eq 11, 3) := by decide +kernel
theorem dX8_best_9 : decode cX8_best 9 = .ok (.iload_n 1, 1) := by decide +kernel
theorem dX8_best_10 : decode cX8_best 10 = .ok (.iconst 5, 1) := by decide +kernel
theorem dX8_best_11 : decode cX8_best 11 = .ok (.if_icmp .eq 6, 3) := by decide +kernel
theorem dX8_best_14 : decode cX8_best 14 = .ok (.bipush (-2), 2) := by decide +kernel
theorem dX8_best_16 : decode cX8_best 16 = .ok (.ireturn, 1) := by decide +kernel
theorem dX8_best_17 : decode cX8_best 17 = .ok (.iload_n 2, 1) := by decide +kernel
theorem dX8_best_18 : decode cX8_best 18 = .ok (.iload_n 3, 1) := by decide +kernel
theorem dX8_best_19 : decode cX8_best 19 = .ok (.invokestatic 124, 3) := by decide +kernel
theorem dX8_best_22 : decode cX8_best 22 = .ok (.ifCond .ne 6, 3) := by decide +kernel
theorem dX8_best_25 : decode cX8_best 25 = .ok (.bipush (-2), 2) := by decide +kernel
theorem dX8_best_27 : decode cX8_best 27 = .ok (.ireturn, 1) := by decide +kernel
theorem dX8_best_28 : decode cX8_best 28 = .ok (.aload_n 0, 1) := by decide +kernel
theorem dX8_best_29 : decode cX8_best 29 = .ok (.getfield 24, 3) := by decide +kernel
