theorem dX5_put_1 : decode cX5_put 1 = .ok (.ifCond .lt 19, 3) := by decide +kernel
theorem dX5_put_4 : decode cX5_put 4 = .ok (.iload_n 1, 1) := by decide +kernel
theorem dX5_put_5 : decode cX5_put 5 = .ok (.aload_n 0, 1) := by decide +kernel
theorem dX5_put_6 : decode cX5_put 6 = .ok (.getfield 9, 3) := by decide +kernel
theorem dX5_put_9 : decode cX5_put 9 = .ok (.arraylength, 1) := by decide +kernel
theorem dX5_put_10 : decode cX5_put 10 = .ok (.if_icmp .ge 10, 3) := by decide +kernel
theorem dX5_put_13 : decode cX5_put 13 = .ok (.aload_n 0, 1) := by decide +kernel
theorem dX5_put_14 : decode cX5_put 14 = .ok (.getfield 9, 3) := by decide +kernel
theorem dX5_put_17 : decode cX5_put 17 = .ok (.iload_n 1, 1) := by decide +kernel
theorem dX5_put_18 : decode cX5_put 18 = .ok (.iload_n 2, 1) := by decide +kernel
theorem dX5_put_19 : decode cX5_put 19 = .ok (.iastore, 1) := by decide +kernel
theorem dX5_put_20 : decode cX5_put 20 = .ok (.return_, 1) := by decide +kernel
set_option maxRecDepth 20000 in
theorem ggX6_init_X2_init : GoodIn wsX6_init wsX2_init := goodIn_r _ [10, 11, 2, 3, 12, 13, 14, 15, 16, 17, 18, 19, 20, 21, 22, 23, 24, 25, 26, 27, 28, 29, 30, 31, 32, 33, 34, 35, 36, 37, 38, 39, 40, 41, 42, 43, 44, 45, 46, 47, 48, 49, 50, 51, 52, 53, 54, 55, 74, 75, 76, 77, 56, 57, 58, 59, 60, 61, 62, 63, 64, 65, 66, 67, 68, 69, 70, 71, 78, 79, 80, 81, 82, 83, 84, 85, 86, 87, 88] (by decide +kernel) (by decide +kernel)
set_option maxRecDepth 20000 in
theorem gX6_init_X2_init : GoodIn wsX6_init (wsX2_init) := ggX6_init_X2_init
theorem dX6_init_0 : decode cX6_init 0 = .ok (.aload_n 0, 1) := by decide +kernel
theorem dX6_init_1 : decode cX6_init 1 = .ok (.invokespecial 1, 3) := by decide +kernel
theorem dX6_init_4 : decode cX6_init 4 = .ok (.aload_n 0, 1) := by decide +kernel
theorem dX6_init_5 : decode cX6_init 5 = .ok (.new 7, 3) := by decide +kernel
theorem dX6_init_8 : decode cX6_init 8 = .ok (.dup, 1) := by decide +kernel
theorem dX6_init_9 : decode cX6_init 9 = .ok (.invokespecial 9, 3) := by decide +kernel
theorem dX6_init_12 : decode cX6_init 12 = .ok (.putfield 10, 3) := by decide +kernel
theorem dX6_init_15 : decode cX6_init 15 = .ok (.return_, 1) := by decide +kernel
theorem dX7_init_0 : decode cX7_init 0 = .ok (.aload_n 0, 1) := by decide +kernel
theorem dX7_init_1 : decode cX7_init 1 = .ok (.invokespecial 3, 3) := by decide +kernel
theorem dX7_init_4 : decode cX7_init 4 = .ok (.aload_n 0, 1) := by decide +kernel
theorem dX7_init_5 : decode cX7_init 5 = .ok (.bipush 80, 2) := by decide +kernel
theorem dX7_init_7 : decode cX7_init 7 = .ok (.newarray .byte, 2) := by decide +kernel
theorem dX7_init_9 : decode cX7_init 9 = .ok (.putfield 9, 3) := by decide +kernel
theorem dX7_init_12 : decode cX7_init 12 = .ok (.return_, 1) := by decide +kernel
theorem dX7_append_0 : decode cX7_append 0 = .ok (.aload_n 0, 1) := by decide +kernel
theorem dX7_append_1 : decode cX7_append 1 = .ok (.getfield 15, 3) := by decide +kernel
theorem dX7_append_4 : decode cX7_append 4 = .ok (.ifCond .lt 15, 3) := by decide +kernel
theorem dX7_append_7 : decode cX7_append 7 = .ok (.aload_n 0, 1) := by decide +kernel
theorem dX7_append_8 : decode cX7_append 8 = .ok (.getfield 15, 3) := by decide +kernel
theorem dX7_append_11 : decode cX7_append 11 = .ok (.aload_n 0, 1) := by decide +kernel
theorem dX7_append_12 : decode cX7_append 12 = .ok (.getfield 9, 3) := by decide +kernel
theorem dX7_append_15 : decode cX7_append 15 = .ok (.arraylength, 1) := by decide +kernel
theorem dX7_append_16 : decode cX7_append 16 = .ok (.if_icmp .lt 5, 3) := by decide +kernel
theorem dX7_append_19 : decode cX7_append 19 = .ok (.iconst 0, 1) := by decide +kernel
theorem dX7_append_20 : decode cX7_append 20 = .ok (.ireturn, 1) := by decide +kernel
theorem dX7_append_21 : decode cX7_append 21 = .ok (.aload_n 0, 1) := by decide +kernel
theorem dX7_append_22 : decode cX7_append 22 = .ok (.getfield 9, 3) := by decide +kernel
theorem dX7_append_25 : decode cX7_append 25 = .ok (.aload_n 0, 1) := by decide +kernel
theorem dX7_append_26 : decode cX7_append 26 = .ok (.getfield 15, 3) := by decide +kernel
theorem dX7_append_29 : decode cX7_append 29 = .ok (.iload_n 1, 1) := by decide +kernel
theorem dX7_append_30 : decode cX7_append 30 = .ok (.i2b, 1) := by decide +kernel
theorem dX7_append_31 : decode cX7_append 31 = .ok (.bastore, 1) := by decide +kernel
theorem dX7_append_32 : decode cX7_append 32 = .ok (.aload_n 0, 1) := by decide +kernel
theorem dX7_append_33 : decode cX7_append 33 = .ok (.dup, 1) := by decide +kernel
theorem dX7_append_34 : decode cX7_append 34 = .ok (.getfield 15, 3) := by decide +kernel
theorem dX7_append_37 : decode cX7_append 37 = .ok (.iconst 1, 1) := by decide +kernel
theorem dX7_append_38 : decode cX7_append 38 = .ok (.iadd, 1) := by decide +kernel
theorem dX7_append_39 : decode cX7_append 39 = .ok (.putfield 15, 3) := by decide +kernel
theorem dX7_append_42 : decode cX7_append 42 = .ok (.iconst 1, 1) := by decide +kernel
theorem dX7_append_43 : decode cX7_append 43 = .ok (.ireturn, 1) := by decide +kernel
theorem dX7_byteAt_0 : decode cX7_byteAt 0 = .ok (.iload_n 1, 1) := by decide +kernel
theorem dX7_byteAt_1 : decode cX7_byteAt 1 = .ok (.ifCond .lt 29, 3) := by decide +kernel
theorem dX7_byteAt_4 : decode cX7_byteAt 4 = .ok (.iload_n 1, 1) := by decide +kernel
theorem dX7_byteAt_5 : decode cX7_byteAt 5 = .ok (.aload_n 0, 1) := by decide +kernel
theorem dX7_byteAt_6 : decode cX7_byteAt 6 = .ok (.getfield 15, 3) := by decide +kernel
theorem dX7_byteAt_9 : decode cX7_byteAt 9 = .ok (.if_icmp .ge 21, 3) := by decide +kernel
theorem dX7_byteAt_12 : decode cX7_byteAt 12 = .ok (.iload_n 1, 1) := by decide +kernel
theorem dX7_byteAt_13 : decode cX7_byteAt 13 = .ok (.aload_n 0, 1) := by decide +kernel
theorem dX7_byteAt_14 : decode cX7_byteAt 14 = .ok (.getfield 9, 3) := by decide +kernel
theorem dX7_byteAt_17 : decode cX7_byteAt 17 = .ok (.arraylength, 1) := by decide +kernel
theorem dX7_byteAt_18 : decode cX7_byteAt 18 = .ok (.if_icmp .ge 12, 3) := by decide +kernel
theorem dX7_byteAt_21 : decode cX7_byteAt 21 = .ok (.aload_n 0, 1) := by decide +kernel
theorem dX7_byteAt_22 : decode cX7_byteAt 22 = .ok (.getfield 9, 3) := by decide +kernel
theorem dX7_byteAt_25 : decode cX7_byteAt 25 = .ok (.iload_n 1, 1) := by decide +kernel
theorem dX7_byteAt_26 : decode cX7_byteAt 26 = .ok (.baload, 1) := by decide +kernel
theorem dX7_byteAt_27 : decode cX7_byteAt 27 = .ok (.goto 4, 3) := by decide +kernel
theorem dX7_byteAt_30 : decode cX7_byteAt 30 = .ok (.iconst (-1), 1) := by decide +kernel
theorem dX7_byteAt_31 : decode cX7_byteAt 31 = .ok (.ireturn, 1) := by decide +kernel
set_option maxRecDepth 20000 in
theorem ggX8_init_X3_init : GoodIn wsX8_init wsX3_init := goodIn_r _ [22, 23, 2, 3, 24, 25, 26, 27, 28, 29, 30, 31, 32, 33, 34, 35, 36, 37, 38, 39, 40, 41, 42, 43, 44, 45, 46, 126, 127, 94, 95, 96, 97, 98, 99, 100, 101, 128, 129, 130, 131] (by decide +kernel) (by decide +kernel)
set_option maxRecDepth 20000 in
theorem gX8_init_X3_init : GoodIn wsX8_init (wsX3_init) := ggX8_init_X3_init
set_option maxRecDepth 20000 in
theorem ggX8_init_X2_init : GoodIn wsX8_init wsX2_init := goodIn_r _ [49, 50, 2, 3, 51, 29, 30, 52, 53, 54, 55, 56, 57, 58, 59, 60, 61, 62, 63, 64, 32, 65, 66, 67, 68, 42, 43, 44, 45, 46, 69, 70, 71, 72, 73, 74, 75, 76, 77, 78, 79, 80, 81, 82, 83, 84, 85, 86, 128, 129, 130, 131, 108, 109, 110, 111, 112, 113, 114, 115, 116, 117, 118, 119, 120, 121, 122, 123, 132, 133, 134, 135, 136, 137, 138, 139, 140, 141, 142] (by decide +kernel) (by decide +kernel)
set_option maxRecDepth 20000 in
theorem gX8_init_X2_init : GoodIn wsX8_init (wsX2_init) := ggX8_init_X2_init
set_option maxRecDepth 20000 in
theorem ggX8_init_X6_init : GoodIn wsX8_init wsX6_init := goodIn_r _ [89, 90, 2, 3, 91, 11, 12, 92, 93, 48, 49, 50, 51, 29, 30, 52, 53, 54, 55, 56, 57, 58, 59, 60, 61, 62, 63, 64, 32, 65, 66, 67, 68, 42, 43, 44, 45, 46, 69, 70, 71, 72, 73, 74, 75, 76, 77, 78, 79, 80, 81, 82, 83, 84, 85, 86, 108, 109, 110, 111, 112, 113, 114, 115, 116, 117, 118, 119, 120, 121, 122, 123, 124, 125, 128, 129, 130, 131, 132, 133, 134, 135, 136, 137, 138, 139, 140, 141, 142] (by decide +kernel) (by decide +kernel)
set_option maxRecDepth 20000 in
theorem gX8_init_X6_init : GoodIn wsX8_init (wsX6_init) := ggX8_init_X6_init
theorem dX8_init_0 : decode cX8_init 0 = .ok (.aload_n 0, 1) := by decide +kernel
theorem dX8_init_1 : decode cX8_init 1 = .ok (.invokespecial 1, 3) := by decide +kernel
theorem dX8_init_4 : decode cX8_init 4 = .ok (.aload_n 0, 1) := by decide +kernel
theorem dX8_init_5 : decode cX8_init 5 = .ok (.new 7, 3) := by decide +kernel
theorem dX8_init_8 : decode cX8_init 8 = .ok (.dup, 1) := by decide +kernel
theorem dX8_init_9 : decode cX8_init 9 = .ok (.invokespecial 9, 3) := by decide +kernel
theorem dX8_init_12 : decode cX8_init 12 = .ok (.putfield 10, 3) := by decide +kernel
theorem dX8_init_15 : decode cX8_init 15 = .ok (.aload_n 0, 1) := by decide +kernel
theorem dX8_init_16 : decode cX8_init 16 = .ok (.aload_n 0, 1) := by decide +kernel
theorem dX8_init_17 : decode cX8_init 17 = .ok (.getfield 10, 3) := by decide +kernel
theorem dX8_init_20 : decode cX8_init 20 = .ok (.getfield 16, 3) := by decide +kernel
theorem dX8_init_23 : decode cX8_init 23 = .ok (.putfield 20, 3) := by decide +kernel
theorem dX8_init_26 : decode cX8_init 26 = .ok (.aload_n 0, 1) := by decide +kernel
theorem dX8_init_27 : decode cX8_init 27 = .ok (.new 21, 3) := by decide +kernel
theorem dX8_init_30 : decode cX8_init 30 = .ok (.dup, 1) := by decide +kernel
theorem dX8_init_31 : decode cX8_init 31 = .ok (.invokespecial 23, 3) := by decide +kernel
theorem dX8_init_34 : decode cX8_init 34 = .ok (.putfield 24, 3) := by decide +kernel
theorem dX8_init_37 : decode cX8_init 37 = .ok (.aload_n 0, 1) := by decide +kernel
theorem dX8_init_38 : decode cX8_init 38 = .ok (.new 21, 3) := by decide +kernel
theorem dX8_init_41 : decode cX8_init 41 = .ok (.dup, 1) := by decide +kernel
theorem dX8_init_42 : decode cX8_init 42 = .ok (.invokespecial 23, 3) := by decide +kernel
theorem dX8_init_45 : decode cX8_init 45 = .ok (.putfield 28, 3) := by decide +kernel
theorem dX8_init_48 : decode cX8_init 48 = .ok (.aload_n 0, 1) := by decide +kernel
theorem dX8_init_49 : decode cX8_init 49 = .ok (.new 31, 3) := by decide +kernel
theorem dX8_init_52 : decode cX8_init 52 = .ok (.dup, 1) := by decide +kernel
theorem dX8_init_53 : decode cX8_init 53 = .ok (.invokespecial 33, 3) := by decide +kernel
theorem dX8_init_56 : decode cX8_init 56 = .ok (.putfield 34, 3) := by decide +kernel
theorem dX8_init_59 : decode cX8_init 59 = .ok (.aload_n 0, 1) := by decide +kernel
theorem dX8_init_60 : decode cX8_init 60 = .ok (.new 31, 3) := by decide +kernel
theorem dX8_init_63 : decode cX8_init 63 = .ok (.dup, 1) := by decide +kernel
theorem dX8_init_64 : decode cX8_init 64 = .ok (.invokespecial 33, 3) := by decide +kernel
theorem dX8_init_67 : decode cX8_init 67 = .ok (.putfield 38, 3) := by decide +kernel
theorem dX8_init_70 : decode cX8_init 70 = .ok (.return_, 1) := by decide +kernel
set_option maxRecDepth 20000 in
theorem ggX8_type_X8_isWithin : GoodIn wsX8_type wsX8_isWithin := goodIn_r _ [6] (by decide +kernel) (by decide +kernel)
set_option maxRecDepth 20000 in
theorem gX8_type_X8_isWithin : GoodIn wsX8_type (va_wsS RX8 41 yX8_isWithin wsX8_isWithin) := goodIn_app (goodIn_of _ (by decide +kernel)) ggX8_type_X8_isWithin
set_option maxRecDepth 20000 in
theorem ggX8_type_X7_append : GoodIn wsX8_type wsX7_append := goodIn_r _ [11, 12, 13, 20, 21] (by decide +kernel) (by decide +kernel)
set_option maxRecDepth 20000 in
theorem gX8_type_X7_append : GoodIn wsX8_type (wsV RX8 45 RX7 yX7_append wsX7_append) := goodIn_app (goodIn_of _ (by decide +kernel)) ggX8_type_X7_append
theorem dX8_type_0 : decode cX8_type 0 = .ok (.iload_n 1, 1) := by decide +kernel
theorem dX8_type_1 : decode cX8_type 1 = .ok (.iconst 0, 1) := by decide +kernel
theorem dX8_type_2 : decode cX8_type 2 = .ok (.bipush 127, 2) := by decide +kernel
theorem dX8_type_4 : decode cX8_type 4 = .ok (.invokestatic 41, 3) := by decide +kernel
theorem dX8_type_7 : decode cX8_type 7 = .ok (.ifCond .ne 6, 3) := by decide +kernel
theorem dX8_type_10 : decode cX8_type 10 = .ok (.bipush (-2), 2) := by decide +kernel
theorem dX8_type_12 : decode cX8_type 12 = .ok (.ireturn, 1) := by decide +kernel
theorem dX8_type_13 : decode cX8_type 13 = .ok (.aload_n 0, 1) := by decide +kernel
theorem dX8_type_14 : decode cX8_type 14 = .ok (.getfield 20, 3) := by decide +kernel
theorem dX8_type_17 : decode cX8_type 17 = .ok (.iload_n 1, 1) := by decide +kernel
theorem dX8_type_18 : decode cX8_type 18 = .ok (.invokevirtual 45, 3) := by decide +kernel
theorem dX8_type_21 : decode cX8_type 21 = .ok (.ifCond .eq 13, 3) := by decide +kernel
theorem dX8_type_24 : decode cX8_type 24 = .ok (.aload_n 0, 1) := by decide +kernel
theorem dX8_type_25 : decode cX8_type 25 = .ok (.getfield 20, 3) := by decide +kernel
theorem dX8_type_28 : decode cX8_type 28 = .ok (.getfield 51, 3) := by decide +kernel
theorem dX8_type_31 : decode cX8_type 31 = .ok (.goto 5, 3) := by decide +kernel
theorem dX8_type_34 : decode cX8_type 34 = .ok (.bipush (-4), 2) := by decide +kernel
theorem dX8_type_36 : decode cX8_type 36 = .ok (.ireturn, 1) := by decide +kernel
theorem dX8_clear_0 : decode cX8_clear 0 = .ok (.aload_n 0, 1) := by decide +kernel
theorem dX8_clear_1 : decode cX8_clear 1 = .ok (.getfield 20, 3) := by decide +kernel
theorem dX8_clear_4 : decode cX8_clear 4 = .ok (.getfield 51, 3) := by decide +kernel
theorem dX8_clear_7 : decode cX8_clear 7 = .ok (.istore_n 1, 1) := by decide +kernel
theorem dX8_clear_8 : decode cX8_clear 8 = .ok (.aload_n 0, 1) := by decide +kernel
theorem dX8_clear_9 : decode cX8_clear 9 = .ok (.getfield 20, 3) := by decide +kernel
theorem dX8_clear_12 : decode cX8_clear 12 = .ok (.iconst 0, 1) := by decide +kernel
theorem dX8_clear_13 : decode cX8_clear 13 = .ok (.putfield 51, 3) := by decide +kernel
theorem dX8_clear_16 : decode cX8_clear 16 = .ok (.iload_n 1, 1) := by decide +kernel
theorem dX8_clear_17 : decode cX8_clear 17 = .ok (.ireturn, 1) := by decide +kernel
set_option maxRecDepth 20000 in
theorem ggX8_load_X3_read : GoodIn wsX8_load wsX3_read := goodIn_r _ [11, 12, 13, 14, 15, 16, 17, 18, 19, 20, 21, 22, 23, 24, 25, 26, 27, 28, 10, 29, 30, 31, 32, 33, 34, 35, 36, 37, 38, 39, 40, 41, 42, 43, 44, 45, 46, 47, 48, 49, 50, 51, 52, 53, 54, 55, 56, 57, 58, 59, 60, 61, 62, 63, 64, 65, 66, 67, 68, 69, 70, 71, 72, 73, 74, 75, 76, 77, 78, 79, 80, 81, 82, 83, 84, 85, 86, 87, 88, 89, 90, 91, 92, 93, 94, 115, 116, 117, 118, 119, 120, 121, 122, 139, 140, 141, 142, 143, 144] (by decide +kernel) (by decide +kernel)
set_option maxRecDepth 20000 in
theorem gX8_load_X3_read : GoodIn wsX8_load (wsV RX8 55 RX3 yX3_read wsX3_read) := goodIn_app (goodIn_of _ (by decide +kernel)) ggX8_load_X3_read
set_option maxRecDepth 20000 in
theorem ggX8_load_X1_size : GoodIn wsX8_load wsX1_size := goodIn_r _ [50, 25, 24, 141, 142, 143, 144] (by decide +kernel) (by decide +kernel)
set_option maxRecDepth 20000 in
theorem gX8_load_X1_size : GoodIn wsX8_load (wsV RX8 69 RX1 yX1_size wsX1_size) := goodIn_app (goodIn_of _ (by decide +kernel)) ggX8_load_X1_size
set_option maxRecDepth 20000 in
theorem ggX8_load_X1_appendAll : GoodIn wsX8_load wsX1_appendAll := goodIn_r _ [99, 100, 101, 102, 22, 103, 24, 104, 48, 49, 50, 25, 105, 20, 21, 23, 106, 52, 53, 54, 55, 107, 57, 58, 59, 60, 108, 62, 63, 64, 141, 142, 143, 144] (by decide +kernel) (by decide +kernel)
set_option maxRecDepth 20000 in
theorem gX8_load_X1_appendAll : GoodIn wsX8_load (wsV RX8 78 RX1 yX1_appendAll wsX1_appendAll) := goodIn_app (goodIn_of _ (by decide +kernel)) ggX8_load_X1_appendAll
theorem dX8_load_0 : decode cX8_load 0 = .ok (.aload_n 0, 1) := by decide +kernel
theorem dX8_load_1 : decode cX8_load 1 = .ok (.getfield 10, 3) := by decide +kernel
theorem dX8_load_4 : decode cX8_load 4 = .ok (.invokevirtual 55, 3) := by decide +kernel
theorem dX8_load_7 : decode cX8_load 7 = .ok (.aload_n 0, 1) := by decide +kernel
theorem dX8_load_8 : decode cX8_load 8 = .ok (.getfield 10, 3) := by decide +kernel
theorem dX8_load_11 : decode cX8_load 11 = .ok (.getfield 58, 3) := by decide +kernel
theorem dX8_load_14 : decode cX8_load 14 = .ok (.iconst (-1), 1) := by decide +kernel
theorem dX8_load_15 : decode cX8_load 15 = .ok (.if_icmp .eq 15, 3) := by decide +kernel
theorem dX8_load_18 : decode cX8_load 18 = .ok (.sipush (-2000), 3) := by decide +kernel
theorem dX8_load_21 : decode cX8_load 21 = .ok (.aload_n 0, 1) := by decide +kernel
theorem dX8_load_22 : decode cX8_load 22 = .ok (.getfield 10, 3) := by decide +kernel
theorem dX8_load_25 : decode cX8_load 25 = .ok (.getfield 58, 3) := by decide +kernel
theorem dX8_load_28 : decode cX8_load 28 = .ok (.isub, 1) := by decide +kernel
theorem dX8_load_29 : decode cX8_load 29 = .ok (.ireturn, 1) := by decide +kernel
theorem dX8_load_30 : decode cX8_load 30 = .ok (.aload_n 0, 1) := by decide +kernel
theorem dX8_load_31 : decode cX8_load 31 = .ok (.getfield 10, 3) := by decide +kernel
theorem dX8_load_34 : decode cX8_load 34 = .ok (.getfield 61, 3) := by decide +kernel
theorem dX8_load_37 : decode cX8_load 37 = .ok (.ifCond .ne 29, 3) := by decide +kernel
theorem dX8_load_40 : decode cX8_load 40 = .ok (.aload_n 0, 1) := by decide +kernel
theorem dX8_load_41 : decode cX8_load 41 = .ok (.getfield 24, 3) := by decide +kernel
theorem dX8_load_44 : decode cX8_load 44 = .ok (.getfield 65, 3) := by decide +kernel
theorem dX8_load_47 : decode cX8_load 47 = .ok (.invokevirtual 69, 3) := by decide +kernel
theorem dX8_load_50 : decode cX8_load 50 = .ok (.aload_n 0, 1) := by decide +kernel
theorem dX8_load_51 : decode cX8_load 51 = .ok (.getfield 10, 3) := by decide +kernel
theorem dX8_load_54 : decode cX8_load 54 = .ok (.getfield 75, 3) := by decide +kernel
theorem dX8_load_57 : decode cX8_load 57 = .ok (.invokevirtual 69, 3) := by decide +kernel
theorem dX8_load_60 : decode cX8_load 60 = .ok (.iadd, 1) := by decide +kernel
theorem dX8_load_61 : decode cX8_load 61 = .ok (.bipush 80, 2) := by decide +kernel
theorem dX8_load_63 : decode cX8_load 63 = .ok (.if_icmp .le 6, 3) := by decide +kernel
theorem dX8_load_66 : decode cX8_load 66 = .ok (.bipush (-4), 2) := by decide +kernel
theorem dX8_load_68 : decode cX8_load 68 = .ok (.ireturn, 1) := by decide +kernel
theorem dX8_load_69 : decode cX8_load 69 = .ok (.aload_n 0, 1) := by decide +kernel
theorem dX8_load_70 : decode cX8_load 70 = .ok (.getfield 24, 3) := by decide +kernel
theorem dX8_load_73 : decode cX8_load 73 = .ok (.getfield 65, 3) := by decide +kernel
theorem dX8_load_76 : decode cX8_load 76 = .ok (.aload_n 0, 1) := by decide +kernel
theorem dX8_load_77 : decode cX8_load 77 = .ok (.getfield 10, 3) := by decide +kernel
theorem dX8_load_80 : decode cX8_load 80 = .ok (.getfield 75, 3) := by decide +kernel
theorem dX8_load_83 : decode cX8_load 83 = .ok (.invokevirtual 78, 3) := by decide +kernel
theorem dX8_load_86 : decode cX8_load 86 = .ok (.aload_n 0, 1) := by decide +kernel
theorem dX8_load_87 : decode cX8_load 87 = .ok (.getfield 24, 3) := by decide +kernel
theorem dX8_load_90 : decode cX8_load 90 = .ok (.getfield 65, 3) := by decide +kernel
theorem dX8_load_93 : decode cX8_load 93 = .ok (.invokevirtual 69, 3) := by decide +kernel
theorem dX8_load_96 : decode cX8_load 96 = .ok (.ireturn, 1) := by decide +kernel
set_option maxRecDepth 20000 in
theorem ggX8_unload_X1_size : GoodIn wsX8_unload wsX1_size := goodIn_r _ [7, 8, 9, 36, 37, 38, 39] (by decide +kernel) (by decide +kernel)
set_option maxRecDepth 20000 in
theorem gX8_unload_X1_size : GoodIn wsX8_unload (wsV RX8 69 RX1 yX1_size wsX1_size) := goodIn_app (goodIn_of _ (by decide +kernel)) ggX8_unload_X1_size
set_option maxRecDepth 20000 in
theorem ggX8_unload_X1_removeAll : GoodIn wsX8_unload wsX1_removeAll := goodIn_r _ [13, 9, 8, 36, 37, 38, 39] (by decide +kernel) (by decide +kernel)
set_option maxRecDepth 20000 in
theorem gX8_unload_X1_removeAll : GoodIn wsX8_unload (wsV RX8 82 RX1 yX1_removeAll wsX1_removeAll) := goodIn_app (goodIn_of _ (by decide +kernel)) ggX8_unload_X1_removeAll
theorem dX8_unload_0 : decode cX8_unload 0 = .ok (.aload_n 0, 1) := by decide +kernel
theorem dX8_unload_1 : decode cX8_unload 1 = .ok (.getfield 24, 3) := by decide +kernel
theorem dX8_unload_4 : decode cX8_unload 4 = .ok (.getfield 65, 3) := by decide +kernel
theorem dX8_unload_7 : decode cX8_unload 7 = .ok (.invokevirtual 69, 3) := by decide +kernel
theorem dX8_unload_10 : decode cX8_unload 10 = .ok (.istore_n 1, 1) := by decide +kernel
theorem dX8_unload_11 : decode cX8_unload 11 = .ok (.aload_n 0, 1) := by decide +kernel
theorem dX8_unload_12 : decode cX8_unload 12 = .ok (.getfield 24, 3) := by decide +kernel
theorem dX8_unload_15 : decode cX8_unload 15 = .ok (.getfield 65, 3) := by decide +kernel
theorem dX8_unload_18 : decode cX8_unload 18 = .ok (.invokevirtual 82, 3) := by decide +kernel
theorem dX8_unload_21 : decode cX8_unload 21 = .ok (.iload_n 1, 1) := by decide +kernel
theorem dX8_unload_22 : decode cX8_unload 22 = .ok (.ireturn, 1) := by decide +kernel
set_option maxRecDepth 20000 in
theorem ggX8_item_X8_isWithin : GoodIn wsX8_item wsX8_isWithin := goodIn_r _ [6] (by decide +kernel) (by decide +kernel)
set_option maxRecDepth 20000 in
theorem gX8_item_X8_isWithin : GoodIn wsX8_item (va_wsS RX8 41 yX8_isWithin wsX8_isWithin) := goodIn_app (goodIn_of _ (by decide +kernel)) ggX8_item_X8_isWithin
set_option maxRecDepth 20000 in
theorem ggX8_item_X1_size : GoodIn wsX8_item wsX1_size := goodIn_r _ [11, 12, 13, 51, 52, 53, 54] (by decide +kernel) (by decide +kernel)
set_option maxRecDepth 20000 in
theorem gX8_item_X1_size : GoodIn wsX8_item (wsV RX8 69 RX1 yX1_size wsX1_size) := goodIn_app (goodIn_of _ (by decide +kernel)) ggX8_item_X1_size
set_option maxRecDepth 20000 in
theorem ggX8_item_X1_kindOf : GoodIn wsX8_item wsX1_kindOf := goodIn_r _ [17, 13, 18, 51, 52, 53, 54] (by decide +kernel) (by decide +kernel)
set_option maxRecDepth 20000 in
theorem gX8_item_X1_kindOf : GoodIn wsX8_item (wsV RX8 85 RX1 yX1_kindOf wsX1_kindOf) := goodIn_app (goodIn_of _ (by decide +kernel)) ggX8_item_X1_kindOf
set_option maxRecDepth 20000 in
theorem ggX8_item_X1_lengthOf : GoodIn wsX8_item wsX1_lengthOf := goodIn_r _ [22, 13, 23, 51, 52, 53, 54] (by decide +kernel) (by decide +kernel)
set_option maxRecDepth 20000 in
theorem gX8_item_X1_lengthOf : GoodIn wsX8_item (wsV RX8 89 RX1 yX1_lengthOf wsX1_lengthOf) := goodIn_app (goodIn_of _ (by decide +kernel)) ggX8_item_X1_lengthOf
set_option maxRecDepth 20000 in
theorem ggX8_item_X1_lengthAhead : GoodIn wsX8_item wsX1_lengthAhead := goodIn_r _ [27, 28, 20, 21, 10, 22, 13, 23, 51, 52, 53, 54] (by decide +kernel) (by decide +kernel)
set_option maxRecDepth 20000 in
theorem gX8_item_X1_lengthAhead : GoodIn wsX8_item (wsV RX8 92 RX1 yX1_lengthAhead wsX1_lengthAhead) := goodIn_app (goodIn_of _ (by decide +kernel)) ggX8_item_X1_lengthAhead
theorem dX8_item_0 : decode cX8_item 0 = .ok (.iload_n 1, 1) := by decide +kernel
theorem dX8_item_1 : decode cX8_item 1 = .ok (.ifCond .lt 12, 3) := by decide +kernel
theorem dX8_item_4 : decode cX8_item 4 = .ok (.iload_n 2, 1) := by decide +kernel
theorem dX8_item_5 : decode cX8_item 5 = .ok (.iconst 0, 1) := by decide +kernel
theorem dX8_item_6 : decode cX8_item 6 = .ok (.iconst 2, 1) := by decide +kernel
theorem dX8_item_7 : decode cX8_item 7 = .ok (.invokestatic 41, 3) := by decide +kernel
theorem dX8_item_10 : decode cX8_item 10 = .ok (.ifCond .ne 6, 3) := by decide +kernel
theorem dX8_item_13 : decode cX8_item 13 = .ok (.bipush (-2), 2) := by decide +kernel
theorem dX8_item_15 : decode cX8_item 15 = .ok (.ireturn, 1) := by decide +kernel
theorem dX8_item_16 : decode cX8_item 16 = .ok (.iload_n 1, 1) := by decide +kernel
theorem dX8_item_17 : decode cX8_item 17 = .ok (.aload_n 0, 1) := by decide +kernel
theorem dX8_item_18 : decode cX8_item 18 = .ok (.getfield 24, 3) := by decide +kernel
theorem dX8_item_21 : decode cX8_item 21 = .ok (.getfield 65, 3) := by decide +kernel
theorem dX8_item_24 : decode cX8_item 24 = .ok (.invokevirtual 69, 3) := by decide +kernel
theorem dX8_item_27 : decode cX8_item 27 = .ok (.if_icmp .lt 5, 3) := by decide +kernel
theorem dX8_item_30 : decode cX8_item 30 = .ok (.iconst (-1), 1) := by decide +kernel
theorem dX8_item_31 : decode cX8_item 31 = .ok (.ireturn, 1) := by decide +kernel
theorem dX8_item_32 : decode cX8_item 32 = .ok (.iload_n 2, 1) := by decide +kernel
theorem dX8_item_33 : decode cX8_item 33 = .ok (.lookupswitch 51 #[(0, 27), (1, 39)], 27) := by decide +kernel
theorem dX8_item_60 : decode cX8_item 60 = .ok (.aload_n 0, 1) := by decide +kernel
theorem dX8_item_61 : decode cX8_item 61 = .ok (.getfield 24, 3) := by decide +kernel
theorem dX8_item_64 : decode cX8_item 64 = .ok (.getfield 65, 3) := by decide +kernel
theorem dX8_item_67 : decode cX8_item 67 = .ok (.iload_n 1, 1) := by decide +kernel
theorem dX8_item_68 : decode cX8_item 68 = .ok (.invokevirtual 85, 3) := by decide +kernel
theorem dX8_item_71 : decode cX8_item 71 = .ok (.ireturn, 1) := by decide +kernel
theorem dX8_item_72 : decode cX8_item 72 = .ok (.aload_n 0, 1) := by decide +kernel
theorem dX8_item_73 : decode cX8_item 73 = .ok (.getfield 24, 3) := by decide +kernel
theorem dX8_item_76 : decode cX8_item 76 = .ok (.getfield 65, 3) := by decide +kernel
theorem dX8_item_79 : decode cX8_item 79 = .ok (.iload_n 1, 1) := by decide +kernel
theorem dX8_item_80 : decode cX8_item 80 = .ok (.invokevirtual 89, 3) := by decide +kernel
theorem dX8_item_83 : decode cX8_item 83 = .ok (.ireturn, 1) := by decide +kernel
theorem dX8_item_84 : decode cX8_item 84 = .ok (.aload_n 0, 1) := by decide +kernel
theorem dX8_item_85 : decode cX8_item 85 = .ok (.getfield 24, 3) := by decide +kernel
theorem dX8_item_88 : decode cX8_item 88 = .ok (.getfield 65, 3) := by decide +kernel
theorem dX8_item_91 : decode cX8_item 91 = .ok (.iload_n 1, 1) := by decide +kernel
theorem dX8_item_92 : decode cX8_item 92 = .ok (.invokevirtual 92, 3) := by decide +kernel
theorem dX8_item_95 : decode cX8_item 95 = .ok (.ireturn, 1) := by decide +kernel
set_option maxRecDepth 20000 in
theorem ggX8_set_X5_allows : GoodIn wsX8_set wsX5_allows := goodIn_r _ [7, 8, 9, 10, 11, 12, 13, 6, 14, 15, 16, 17, 18, 19, 20] (by decide +kernel) (by decide +kernel)
set_option maxRecDepth 20000 in
theorem gX8_set_X5_allows : GoodIn wsX8_set (wsV RX8 99 RX5 yX5_allows wsX5_allows) := goodIn_app (goodIn_of _ (by decide +kernel)) ggX8_set_X5_allows
set_option maxRecDepth 20000 in
theorem ggX8_set_X5_value : GoodIn wsX8_set wsX5_value := goodIn_r _ [24, 25, 52] (by decide +kernel) (by decide +kernel)
set_option maxRecDepth 20000 in
theorem gX8_set_X5_value : GoodIn wsX8_set (wsV RX8 105 RX5 yX5_value wsX5_value) := goodIn_app (goodIn_of _ (by decide +kernel)) ggX8_set_X5_value
set_option maxRecDepth 20000 in
theorem ggX8_set_X5_put : GoodIn wsX8_set wsX5_put := goodIn_r _ [29, 25, 52] (by decide +kernel) (by decide +kernel)
set_option maxRecDepth 20000 in
theorem gX8_set_X5_put : GoodIn wsX8_set (wsV RX8 108 RX5 yX5_put wsX5_put) := goodIn_app (goodIn_of _ (by decide +kernel)) ggX8_set_X5_put
theorem dX8_set_0 : decode cX8_set 0 = .ok (.aload_n 0, 1) := by decide +kernel
theorem dX8_set_1 : decode cX8_set 1 = .ok (.getfield 24, 3) := by decide +kernel
theorem dX8_set_4 : decode cX8_set 4 = .ok (.getfield 95, 3) := by decide +kernel
theorem dX8_set_7 : decode cX8_set 7 = .ok (.iload_n 1, 1) := by decide +kernel
theorem dX8_set_8 : decode cX8_set 8 = .ok (.iload_n 2, 1) := by decide +kernel
theorem dX8_set_9 : decode cX8_set 9 = .ok (.invokevirtual 99, 3) := by decide +kernel
theorem dX8_set_12 : decode cX8_set 12 = .ok (.ifCond .ne 6, 3) := by decide +kernel
theorem dX8_set_15 : decode cX8_set 15 = .ok (.bipush (-2), 2) := by decide +kernel
theorem dX8_set_17 : decode cX8_set 17 = .ok (.ireturn, 1) := by decide +kernel
theorem dX8_set_18 : decode cX8_set 18 = .ok (.aload_n 0, 1) := by decide +kernel
theorem dX8_set_19 : decode cX8_set 19 = .ok (.getfield 24, 3) := by decide +kernel
theorem dX8_set_22 : decode cX8_set 22 = .ok (.getfield 95, 3) := by decide +kernel
theorem dX8_set_25 : decode cX8_set 25 = .ok (.iload_n 1, 1) := by decide +kernel
theorem dX8_set_26 : decode cX8_set 26 = .ok (.invokevirtual 105, 3) := by decide +kernel
theorem dX8_set_29 : decode cX8_set 29 = .ok (.istore_n 3, 1) := by decide +kernel
theorem dX8_set_30 : decode cX8_set 30 = .ok (.aload_n 0, 1) := by decide +kernel
theorem dX8_set_31 : decode cX8_set 31 = .ok (.getfield 24, 3) := by decide +kernel
theorem dX8_set_34 : decode cX8_set 34 = .ok (.getfield 95, 3) := by decide +kernel
theorem dX8_set_37 : decode cX8_set 37 = .ok (.iload_n 1, 1) := by decide +kernel
theorem dX8_set_38 : decode cX8_set 38 = .ok (.iload_n 2, 1) := by decide +kernel
theorem dX8_set_39 : decode cX8_set 39 = .ok (.invokevirtual 108, 3) := by decide +kernel
theorem dX8_set_42 : decode cX8_set 42 = .ok (.iload_n 3, 1) := by decide +kernel
theorem dX8_set_43 : decode cX8_set 43 = .ok (.ireturn, 1) := by decide +kernel
set_option maxRecDepth 20000 in
theorem ggX8_setPitch_X8_isWithin : GoodIn wsX8_setPitch wsX8_isWithin := goodIn_r _ [7] (by decide +kernel) (by decide +kernel)
set_option maxRecDepth 20000 in
theorem gX8_setPitch_X8_isWithin : GoodIn wsX8_setPitch (va_wsS RX8 41 yX8_isWithin wsX8_isWithin) := goodIn_app (goodIn_of _ (by decide +kernel)) ggX8_setPitch_X8_isWithin
set_option maxRecDepth 20000 in
theorem ggX8_setPitch_X8_bitsOf : GoodIn wsX8_setPitch wsX8_bitsOf := goodIn_r _ [10, 11] (by decide +kernel) (by decide +kernel)
set_option maxRecDepth 20000 in
theorem gX8_setPitch_X8_bitsOf : GoodIn wsX8_setPitch (va_wsS RX8 116 yX8_bitsOf wsX8_bitsOf) := goodIn_app (goodIn_of _ (by decide +kernel)) ggX8_setPitch_X8_bitsOf
theorem dX8_setPitch_0 : decode cX8_setPitch 0 = .ok (.iload_n 1, 1) := by decide +kernel
theorem dX8_setPitch_1 : decode cX8_setPitch 1 = .ok (.bipush 10, 2) := by decide +kernel
theorem dX8_setPitch_3 : decode cX8_setPitch 3 = .ok (.sipush 2000, 3) := by decide +kernel
theorem dX8_setPitch_6 : decode cX8_setPitch 6 = .ok (.invokestatic 41, 3) := by decide +kernel
theorem dX8_setPitch_9 : decode cX8_setPitch 9 = .ok (.ifCond .ne 6, 3) := by decide +kernel
theorem dX8_setPitch_12 : decode cX8_setPitch 12 = .ok (.bipush (-2), 2) := by decide +kernel
theorem dX8_setPitch_14 : decode cX8_setPitch 14 = .ok (.ireturn, 1) := by decide +kernel
theorem dX8_setPitch_15 : decode cX8_setPitch 15 = .ok (.aload_n 0, 1) := by decide +kernel
theorem dX8_setPitch_16 : decode cX8_setPitch 16 = .ok (.getfield 24, 3) := by decide +kernel
theorem dX8_setPitch_19 : decode cX8_setPitch 19 = .ok (.getfield 112, 3) := by decide +kernel
theorem dX8_setPitch_22 : decode cX8_setPitch 22 = .ok (.invokestatic 116, 3) := by decide +kernel
theorem dX8_setPitch_25 : decode cX8_setPitch 25 = .ok (.istore_n 2, 1) := by decide +kernel
theorem dX8_setPitch_26 : decode cX8_setPitch 26 = .ok (.aload_n 0, 1) := by decide +kernel
theorem dX8_setPitch_27 : decode cX8_setPitch 27 = .ok (.getfield 24, 3) := by decide +kernel
theorem dX8_setPitch_30 : decode cX8_setPitch 30 = .ok (.iload_n 1, 1) := by decide +kernel
theorem dX8_setPitch_31 : decode cX8_setPitch 31 = .ok (.i2f, 1) := by decide +kernel
theorem dX8_setPitch_32 : decode cX8_setPitch 32 = .ok (.ldc 120, 2) := by decide +kernel
theorem dX8_setPitch_34 : decode cX8_setPitch 34 = .ok (.fdiv, 1) := by decide +kernel
theorem dX8_setPitch_35 : decode cX8_setPitch 35 = .ok (.putfield 112, 3) := by decide +kernel
theorem dX8_setPitch_38 : decode cX8_setPitch 38 = .ok (.iload_n 2, 1) := by decide +kernel
theorem dX8_setPitch_39 : decode cX8_setPitch 39 = .ok (.ireturn, 1) := by decide +kernel
set_option maxRecDepth 20000 in
theorem ggX8_setRing_X8_isWithin : GoodIn wsX8_setRing wsX8_isWithin := goodIn_r _ [5] (by decide +kernel) (by decide +kernel)
set_option maxRecDepth 20000 in
theorem gX8_setRing_X8_isWithin : GoodIn wsX8_setRing (va_wsS RX8 41 yX8_isWithin wsX8_isWithin) := goodIn_app (goodIn_of _ (by decide +kernel)) ggX8_setRing_X8_isWithin
set_option maxRecDepth 20000 in
theorem ggX8_setRing_X2_rebuildRing : GoodIn wsX8_setRing wsX2_rebuildRing := goodIn_r _ [10, 11, 12, 13, 14, 15, 16, 17, 18, 19, 20, 21, 22, 23, 24, 25, 26, 27, 9, 28, 29, 30, 31, 32, 33, 34, 41, 42, 43, 44, 45, 46, 47, 48, 49, 50, 51, 52, 53, 54, 55, 56, 57, 58] (by decide +kernel) (by decide +kernel)
set_option maxRecDepth 20000 in
theorem gX8_setRing_X2_rebuildRing : GoodIn wsX8_setRing (wsV RX8 121 RX2 yX2_rebuildRing wsX2_rebuildRing) := goodIn_app (goodIn_of _ (by decide +kernel)) ggX8_setRing_X2_rebuildRing
theorem dX8_setRing_0 : decode cX8_setRing 0 = .ok (.iload_n 1, 1) := by decide +kernel
theorem dX8_setRing_1 : decode cX8_setRing 1 = .ok (.iconst 1, 1) := by decide +kernel
theorem dX8_setRing_2 : decode cX8_setRing 2 = .ok (.bipush 10, 2) := by decide +kernel
theorem dX8_setRing_4 : decode cX8_setRing 4 = .ok (.invokestatic 41, 3) := by decide +kernel
theorem dX8_setRing_7 : decode cX8_setRing 7 = .ok (.ifCond .ne 6, 3) := by decide +kernel
theorem dX8_setRing_10 : decode cX8_setRing 10 = .ok (.bipush (-2), 2) := by decide +kernel
theorem dX8_setRing_12 : decode cX8_setRing 12 = .ok (.ireturn, 1) := by decide +kernel
theorem dX8_setRing_13 : decode cX8_setRing 13 = .ok (.aload_n 0, 1) := by decide +kernel
theorem dX8_setRing_14 : decode cX8_setRing 14 = .ok (.getfield 24, 3) := by decide +kernel
theorem dX8_setRing_17 : decode cX8_setRing 17 = .ok (.iload_n 1, 1) := by decide +kernel
theorem dX8_setRing_18 : decode cX8_setRing 18 = .ok (.invokevirtual 121, 3) := by decide +kernel
theorem dX8_setRing_21 : decode cX8_setRing 21 = .ok (.ireturn, 1) := by decide +kernel
set_option maxRecDepth 20000 in
theorem ggX8_run_X8_canCome : GoodIn wsX8_run wsX8_canCome := goodIn_r _ [6, 7, 8, 5, 9] (by decide +kernel) (by decide +kernel)
set_option maxRecDepth 20000 in
theorem gX8_run_X8_canCome : GoodIn wsX8_run (va_wsS RX8 124 yX8_canCome wsX8_canCome) := goodIn_app (goodIn_of _ (by decide +kernel)) ggX8_run_X8_canCome
set_option maxRecDepth 20000 in
theorem ggX8_run_X2_serve : GoodIn wsX8_run wsX2_serve := goodIn_r _ [14, 15, 16, 17, 18, 19, 20, 21, 22, 23, 24, 25, 26, 27, 28, 13, 29, 30, 31, 32, 33, 34, 35, 36, 37, 38, 39, 40, 41, 42, 43, 44, 45, 46, 47, 48, 49, 50, 51, 52, 53, 54, 55, 56, 57, 58, 59, 60, 61, 62, 63, 64, 65, 66, 67, 68, 69, 70, 71, 72, 73, 74, 75, 76, 77, 78, 79, 80, 81, 82, 83, 84, 85, 86, 87, 88, 89, 90, 91, 92, 93, 94, 95, 96, 97, 98, 99, 100, 101, 102, 103, 104, 105, 106, 107, 108, 109, 110, 111, 112, 113, 114, 115, 116, 117, 118, 119, 120, 121, 122, 123, 124, 125, 126, 127, 128, 129, 130, 131, 132, 139, 140, 141, 142, 143, 144, 145, 146, 147, 148, 149, 150, 151, 152, 153, 154, 155, 156, 157, 158, 159, 160, 161, 162, 163, 164, 165, 166, 167, 168, 169] (by decide +kernel) (by decide +kernel)
set_option maxRecDepth 20000 in
theorem gX8_run_X2_serve : GoodIn wsX8_run (wsV RX8 130 RX2 yX2_serve wsX2_serve) := goodIn_app (goodIn_of _ (by decide +kernel)) ggX8_run_X2_serve
theorem dX8_run_0 : decode cX8_run 0 = .ok (.iload_n 1, 1) := by decide +kernel
theorem dX8_run_1 : decode cX8_run 1 = .ok (.iload_n 2, 1) := by decide +kernel
theorem dX8_run_2 : decode cX8_run 2 = .ok (.invokestatic 124, 3) := by decide +kernel
theorem dX8_run_5 : decode cX8_run 5 = .ok (.ifCond .ne 6, 3) := by decide +kernel
theorem dX8_run_8 : decode cX8_run 8 = .ok (.bipush (-2), 2) := by decide +kernel
theorem dX8_run_10 : decode cX8_run 10 = .ok (.ireturn, 1) := by decide +kernel
theorem dX8_run_11 : decode cX8_run 11 = .ok (.aload_n 0, 1) := by decide +kernel
theorem dX8_run_12 : decode cX8_run 12 = .ok (.getfield 24, 3) := by decide +kernel
theorem dX8_run_15 : decode cX8_run 15 = .ok (.getfield 127, 3) := by decide +kernel
theorem dX8_run_18 : decode cX8_run 18 = .ok (.ifCond .eq 6, 3) := by decide +kernel
theorem dX8_run_21 : decode cX8_run 21 = .ok (.bipush (-3), 2) := by decide +kernel
theorem dX8_run_23 : decode cX8_run 23 = .ok (.ireturn, 1) := by decide +kernel
theorem dX8_run_24 : decode cX8_run 24 = .ok (.iconst 0, 1) := by decide +kernel
theorem dX8_run_25 : decode cX8_run 25 = .ok (.istore_n 3, 1) := by decide +kernel
theorem dX8_run_26 : decode cX8_run 26 = .ok (.iload_n 3, 1) := by decide +kernel
theorem dX8_run_27 : decode cX8_run 27 = .ok (.iload_n 1, 1) := by decide +kernel
theorem dX8_run_28 : decode cX8_run 28 = .ok (.if_icmp .ge 27, 3) := by decide +kernel
theorem dX8_run_31 : decode cX8_run 31 = .ok (.aload_n 0, 1) := by decide +kernel
theorem dX8_run_32 : decode cX8_run 32 = .ok (.getfield 24, 3) := by decide +kernel
theorem dX8_run_35 : decode cX8_run 35 = .ok (.getfield 127, 3) := by decide +kernel
theorem dX8_run_38 : decode cX8_run 38 = .ok (.ifCond .ne 17, 3) := by decide +kernel
theorem dX8_run_41 : decode cX8_run 41 = .ok (.aload_n 0, 1) := by decide +kernel
theorem dX8_run_42 : decode cX8_run 42 = .ok (.getfield 24, 3) := by decide +kernel
theorem dX8_run_45 : decode cX8_run 45 = .ok (.iload_n 2, 1) := by decide +kernel
theorem dX8_run_46 : decode cX8_run 46 = .ok (.invokevirtual 130, 3) := by decide +kernel
theorem dX8_run_49 : decode cX8_run 49 = .ok (.iinc 3 1, 3) := by decide +kernel
theorem dX8_run_52 : decode cX8_run 52 = .ok (.goto (-26), 3) := by decide +kernel
theorem dX8_run_55 : decode cX8_run 55 = .ok (.iload_n 3, 1) := by decide +kernel
theorem dX8_run_56 : decode cX8_run 56 = .ok (.ireturn, 1) := by decide +kernel
theorem dX8_clearFaults_0 : decode cX8_clearFaults 0 = .ok (.aload_n 0, 1) := by decide +kernel
theorem dX8_clearFaults_1 : decode cX8_clearFaults 1 = .ok (.getfield 24, 3) := by decide +kernel
theorem dX8_clearFaults_4 : decode cX8_clearFaults 4 = .ok (.getfield 134, 3) := by decide +kernel
theorem dX8_clearFaults_7 : decode cX8_clearFaults 7 = .ok (.istore_n 1, 1) := by decide +kernel
theorem dX8_clearFaults_8 : decode cX8_clearFaults 8 = .ok (.aload_n 0, 1) := by decide +kernel
theorem dX8_clearFaults_9 : decode cX8_clearFaults 9 = .ok (.getfield 24, 3) := by decide +kernel
theorem dX8_clearFaults_12 : decode cX8_clearFaults 12 = .ok (.iconst 0, 1) := by decide +kernel
theorem dX8_clearFaults_13 : decode cX8_clearFaults 13 = .ok (.putfield 134, 3) := by decide +kernel
theorem dX8_clearFaults_16 : decode cX8_clearFaults 16 = .ok (.aload_n 0, 1) := by decide +kernel
theorem dX8_clearFaults_17 : decode cX8_clearFaults 17 = .ok (.getfield 24, 3) := by decide +kernel
theorem dX8_clearFaults_20 : decode cX8_clearFaults 20 = .ok (.iconst 0, 1) := by decide +kernel
theorem dX8_clearFaults_21 : decode cX8_clearFaults 21 = .ok (.putfield 127, 3) := by decide +kernel
theorem dX8_clearFaults_24 : decode cX8_clearFaults 24 = .ok (.iload_n 1, 1) := by decide +kernel
theorem dX8_clearFaults_25 : decode cX8_clearFaults 25 = .ok (.ireturn, 1) := by decide +kernel
set_option maxRecDepth 20000 in
theorem ggX8_latest_X8_isWithin : GoodIn wsX8_latest wsX8_isWithin := goodIn_r _ [7] (by decide +kernel) (by decide +kernel)
set_option maxRecDepth 20000 in
theorem gX8_latest_X8_isWithin : GoodIn wsX8_latest (va_wsS RX8 41 yX8_isWithin wsX8_isWithin) := goodIn_app (goodIn_of _ (by decide +kernel)) ggX8_latest_X8_isWithin
set_option maxRecDepth 20000 in
theorem ggX8_latest_X0_number : GoodIn wsX8_latest wsX0_number := goodIn_r _ [12, 13, 14, 15, 16, 17, 18, 41, 42, 43, 44, 45, 46, 47, 48] (by decide +kernel) (by decide +kernel)
set_option maxRecDepth 20000 in
theorem gX8_latest_X0_number : GoodIn wsX8_latest (wsV RX8 146 RX0 yX0_number wsX0_number) := goodIn_app (goodIn_of _ (by decide +kernel)) ggX8_latest_X0_number
theorem dX8_latest_0 : decode cX8_latest 0 = .ok (.iload_n 1, 1) := by decide +kernel
theorem dX8_latest_1 : decode cX8_latest 1 = .ok (.iconst 0, 1) := by decide +kernel
theorem dX8_latest_2 : decode cX8_latest 2 = .ok (.iconst 5, 1) := by decide +kernel
theorem dX8_latest_3 : decode cX8_latest 3 = .ok (.invokestatic 41, 3) := by decide +kernel
theorem dX8_latest_6 : decode cX8_latest 6 = .ok (.ifCond .ne 6, 3) := by decide +kernel
theorem dX8_latest_9 : decode cX8_latest 9 = .ok (.bipush (-2), 2) := by decide +kernel
theorem dX8_latest_11 : decode cX8_latest 11 = .ok (.ireturn, 1) := by decide +kernel
theorem dX8_latest_12 : decode cX8_latest 12 = .ok (.aload_n 0, 1) := by decide +kernel
theorem dX8_latest_13 : decode cX8_latest 13 = .ok (.getfield 24, 3) := by decide +kernel
theorem dX8_latest_16 : decode cX8_latest 16 = .ok (.getfield 137, 3) := by decide +kernel
theorem dX8_latest_19 : decode cX8_latest 19 = .ok (.getfield 141, 3) := by decide +kernel
theorem dX8_latest_22 : decode cX8_latest 22 = .ok (.ifCond .ne 7, 3) := by decide +kernel
theorem dX8_latest_25 : decode cX8_latest 25 = .ok (.iconst (-1), 1) := by decide +kernel
theorem dX8_latest_26 : decode cX8_latest 26 = .ok (.goto 14, 3) := by decide +kernel
theorem dX8_latest_29 : decode cX8_latest 29 = .ok (.aload_n 0, 1) := by decide +kernel
theorem dX8_latest_30 : decode cX8_latest 30 = .ok (.getfield 24, 3) := by decide +kernel
theorem dX8_latest_33 : decode cX8_latest 33 = .ok (.getfield 137, 3) := by decide +kernel
theorem dX8_latest_36 : decode cX8_latest 36 = .ok (.iload_n 1, 1) := by decide +kernel
theorem dX8_latest_37 : decode cX8_latest 37 = .ok (.invokevirtual 146, 3) := by decide +kernel
theorem dX8_latest_40 : decode cX8_latest 40 = .ok (.ireturn, 1) := by decide +kernel
set_option maxRecDepth 20000 in
theorem ggX8_station_X8_isWithin : GoodIn wsX8_station wsX8_isWithin := goodIn_r _ [7] (by decide +kernel) (by decide +kernel)
set_option maxRecDepth 20000 in
theorem gX8_station_X8_isWithin : GoodIn wsX8_station (va_wsS RX8 41 yX8_isWithin wsX8_isWithin) := goodIn_app (goodIn_of _ (by decide +kernel)) ggX8_station_X8_isWithin
set_option maxRecDepth 20000 in
theorem ggX8_station_X4_reasonAt : GoodIn wsX8_station wsX4_reasonAt := goodIn_r _ [12, 13, 36, 37] (by decide +kernel) (by decide +kernel)
set_option maxRecDepth 20000 in
theorem gX8_station_X4_reasonAt : GoodIn wsX8_station (wsV RX8 158 RX4 yX4_reasonAt wsX4_reasonAt) := goodIn_app (goodIn_of _ (by decide +kernel)) ggX8_station_X4_reasonAt
theorem dX8_station_0 : decode cX8_station 0 = .ok (.iload_n 1, 1) := by decide +kernel
theorem dX8_station_1 : decode cX8_station 1 = .ok (.iconst 0, 1) := by decide +kernel
theorem dX8_station_2 : decode cX8_station 2 = .ok (.aload_n 0, 1) := by decide +kernel
theorem dX8_station_3 : decode cX8_station 3 = .ok (.getfield 24, 3) := by decide +kernel
theorem dX8_station_6 : decode cX8_station 6 = .ok (.getfield 149, 3) := by decide +kernel
theorem dX8_station_9 : decode cX8_station 9 = .ok (.getfield 153, 3) := by decide +kernel
theorem dX8_station_12 : decode cX8_station 12 = .ok (.iconst 1, 1) := by decide +kernel
theorem dX8_station_13 : decode cX8_station 13 = .ok (.isub, 1) := by decide +kernel
theorem dX8_station_14 : decode cX8_station 14 = .ok (.invokestatic 41, 3) := by decide +kernel
theorem dX8_station_17 : decode cX8_station 17 = .ok (.ifCond .ne 6, 3) := by decide +kernel
theorem dX8_station_20 : decode cX8_station 20 = .ok (.bipush (-2), 2) := by decide +kernel
theorem dX8_station_22 : decode cX8_station 22 = .ok (.ireturn, 1) := by decide +kernel
theorem dX8_station_23 : decode cX8_station 23 = .ok (.aload_n 0, 1) := by decide +kernel
theorem dX8_station_24 : decode cX8_station 24 = .ok (.getfield 24, 3) := by decide +kernel
theorem dX8_station_27 : decode cX8_station 27 = .ok (.getfield 149, 3) := by decide +kernel
theorem dX8_station_30 : decode cX8_station 30 = .ok (.iload_n 1, 1) := by decide +kernel
theorem dX8_station_31 : decode cX8_station 31 = .ok (.invokevirtual 158, 3) := by decide +kernel
theorem dX8_station_34 : decode cX8_station 34 = .ok (.ireturn, 1) := by decide +kernel
set_option maxRecDepth 20000 in
theorem ggX8_pitch_X8_bitsOf : GoodIn wsX8_pitch wsX8_bitsOf := goodIn_r _ [6, 7] (by decide +kernel) (by decide +kernel)
set_option maxRecDepth 20000 in
theorem gX8_pitch_X8_bitsOf : GoodIn wsX8_pitch (va_wsS RX8 116 yX8_bitsOf wsX8_bitsOf) := goodIn_app (goodIn_of _ (by decide +kernel)) ggX8_pitch_X8_bitsOf
theorem dX8_pitch_0 : decode cX8_pitch 0 = .ok (.aload_n 0, 1) := by decide +kernel
theorem dX8_pitch_1 : decode cX8_pitch 1 = .ok (.getfield 24, 3) := by decide +kernel
theorem dX8_pitch_4 : decode cX8_pitch 4 = .ok (.getfield 112, 3) := by decide +kernel
theorem dX8_pitch_7 : decode cX8_pitch 7 = .ok (.invokestatic 116, 3) := by decide +kernel
theorem dX8_pitch_10 : decode cX8_pitch 10 = .ok (.ireturn, 1) := by decide +kernel
set_option maxRecDepth 20000 in
theorem ggX8_count_X8_isWithin : GoodIn wsX8_count wsX8_isWithin := goodIn_r _ [7] (by decide +kernel) (by decide +kernel)
set_option maxRecDepth 20000 in
theorem gX8_count_X8_isWithin : GoodIn wsX8_count (va_wsS RX8 41 yX8_isWithin wsX8_isWithin) := goodIn_app (goodIn_of _ (by decide +kernel)) ggX8_count_X8_isWithin
set_option maxRecDepth 20000 in
theorem ggX8_count_X2_number : GoodIn wsX8_count wsX2_number := goodIn_r _ [12, 13, 14, 15, 16, 17, 18, 19, 20, 21, 22, 23, 24, 25, 26, 27, 28, 29, 11, 30, 31, 32, 33, 34, 35, 36, 37, 38, 39, 40, 41, 42, 43, 44, 45, 46, 47, 48, 49, 50, 51, 52, 53, 54, 55, 56, 57, 58, 59, 60, 61, 62, 63, 64, 65, 66, 67, 68, 69, 70, 71, 72, 73, 74, 83, 84, 85, 86, 87, 88, 89, 90, 91, 92, 93, 94, 95, 96, 97, 98, 99, 100, 101, 102, 103, 104, 105] (by decide +kernel) (by decide +kernel)
set_option maxRecDepth 20000 in
theorem gX8_count_X2_number : GoodIn wsX8_count (wsV RX8 195 RX2 yX2_number wsX2_number) := goodIn_app (goodIn_of _ (by decide +kernel)) ggX8_count_X2_number
theorem dX8_count_0 : decode cX8_count 0 = .ok (.iload_n 1, 1) := by decide +kernel
theorem dX8_count_1 : decode cX8_count 1 = .ok (.iconst 0, 1) := by decide +kernel
theorem dX8_count_2 : decode cX8_count 2 = .ok (.bipush 31, 2) := by decide +kernel
theorem dX8_count_4 : decode cX8_count 4 = .ok (.invokestatic 41, 3) := by decide +kernel
theorem dX8_count_7 : decode cX8_count 7 = .ok (.ifCond .ne 6, 3) := by decide +kernel
theorem dX8_count_10 : decode cX8_count 10 = .ok (.bipush (-2), 2) := by decide +kernel
theorem dX8_count_12 : decode cX8_count 12 = .ok (.ireturn, 1) := by decide +kernel
theorem dX8_count_13 : decode cX8_count 13 = .ok (.iload_n 1, 1) := by decide +kernel
theorem dX8_count_14 : decode cX8_count 14 = .ok (.bipush 23, 2) := by decide +kernel
theorem dX8_count_16 : decode cX8_count 16 = .ok (.if_icmp .ne 13, 3) := by decide +kernel
theorem dX8_count_19 : decode cX8_count 19 = .ok (.aload_n 0, 1) := by decide +kernel
theorem dX8_count_20 : decode cX8_count 20 = .ok (.getfield 20, 3) := by decide +kernel
theorem dX8_count_23 : decode cX8_count 23 = .ok (.getfield 51, 3) := by decide +kernel
theorem dX8_count_26 : decode cX8_count 26 = .ok (.goto 11, 3) := by decide +kernel
theorem dX8_count_29 : decode cX8_count 29 = .ok (.aload_n 0, 1) := by decide +kernel
theorem dX8_count_30 : decode cX8_count 30 = .ok (.getfield 24, 3) := by decide +kernel
theorem dX8_count_33 : decode cX8_count 33 = .ok (.iload_n 1, 1) := by decide +kernel
theorem dX8_count_34 : decode cX8_count 34 = .ok (.invokevirtual 195, 3) := by decide +kernel
theorem dX8_count_37 : decode cX8_count 37 = .ok (.ireturn, 1) := by decide +kernel
theorem dX8_isWithin_0 : decode cX8_isWithin 0 = .ok (.iload_n 0, 1) := by decide +kernel
theorem dX8_isWithin_1 : decode cX8_isWithin 1 = .ok (.iload_n 1, 1) := by decide +kernel
theorem dX8_isWithin_2 : decode cX8_isWithin 2 = .ok (.if_icmp .lt 12, 3) := by decide +kernel
theorem dX8_isWithin_5 : decode cX8_isWithin 5 = .ok (.iload_n 0, 1) := by decide +kernel
theorem dX8_isWithin_6 : decode cX8_isWithin 6 = .ok (.iload_n 2, 1) := by decide +kernel
theorem dX8_isWithin_7 : decode cX8_isWithin 7 = .ok (.if_icmp .gt 7, 3) := by decide +kernel
theorem dX8_isWithin_10 : decode cX8_isWithin 10 = .ok (.iconst 1, 1) := by decide +kernel
theorem dX8_isWithin_11 : decode cX8_isWithin 11 = .ok (.goto 4, 3) := by decide +kernel
theorem dX8_isWithin_14 : decode cX8_isWithin 14 = .ok (.iconst 0, 1) := by decide +kernel
theorem dX8_isWithin_15 : decode cX8_isWithin 15 = .ok (.ireturn, 1) := by decide +kernel
set_option maxRecDepth 20000 in
theorem ggX8_canCome_X8_isWithin : GoodIn wsX8_canCome wsX8_isWithin := goodIn_r _ [4] (by decide +kernel) (by decide +kernel)
set_option maxRecDepth 20000 in
theorem gX8_canCome_X8_isWithin : GoodIn wsX8_canCome (va_wsS RX8 41 yX8_isWithin wsX8_isWithin) := goodIn_app (goodIn_of _ (by decide +kernel)) ggX8_canCome_X8_isWithin
theorem dX8_canCome_0 : decode cX8_canCome 0 = .ok (.iload_n 0, 1) := by decide +kernel
theorem dX8_canCome_1 : decode cX8_canCome 1 = .ok (.iconst 1, 1) := by decide +kernel
theorem dX8_canCome_2 : decode cX8_canCome 2 = .ok (.bipush 100, 2) := by decide +kernel
theorem dX8_canCome_4 : decode cX8_canCome 4 = .ok (.invokestatic 41, 3) := by decide +kernel
theorem dX8_canCome_7 : decode cX8_canCome 7 = .ok (.ifCond .eq 18, 3) := by decide +kernel
theorem dX8_canCome_10 : decode cX8_canCome 10 = .ok (.iload_n 1, 1) := by decide +kernel
theorem dX8_canCome_11 : decode cX8_canCome 11 = .ok (.iconst 0, 1) := by decide +kernel
theorem dX8_canCome_12 : decode cX8_canCome 12 = .ok (.sipush 1000, 3) := by decide +kernel
theorem dX8_canCome_15 : decode cX8_canCome 15 = .ok (.invokestatic 41, 3) := by decide +kernel
theorem dX8_canCome_18 : decode cX8_canCome 18 = .ok (.ifCond .eq 7, 3) := by decide +kernel
theorem dX8_canCome_21 : decode cX8_canCome 21 = .ok (.iconst 1, 1) := by decide +kernel
theorem dX8_canCome_22 : decode cX8_canCome 22 = .ok (.goto 4, 3) := by decide +kernel
theorem dX8_canCome_25 : decode cX8_canCome 25 = .ok (.iconst 0, 1) := by decide +kernel
theorem dX8_canCome_26 : decode cX8_canCome 26 = .ok (.ireturn, 1) := by decide +kernel
theorem dX8_bitsOf_0 : decode cX8_bitsOf 0 = .ok (.fload_n 0, 1) := by decide +kernel
theorem dX8_bitsOf_1 : decode cX8_bitsOf 1 = .ok (.fstore_n 1, 1) := by decide +kernel
theorem dX8_bitsOf_2 : decode cX8_bitsOf 2 = .ok (.bipush 127, 2) := by decide +kernel
theorem dX8_bitsOf_4 : decode cX8_bitsOf 4 = .ok (.istore_n 2, 1) := by decide +kernel
theorem dX8_bitsOf_5 : decode cX8_bitsOf 5 = .ok (.fload_n 1, 1) := by decide +kernel
theorem dX8_bitsOf_6 : decode cX8_bitsOf 6 = .ok (.fconst 2, 1) := by decide +kernel
theorem dX8_bitsOf_7 : decode cX8_bitsOf 7 = .ok (.fcmp .l, 1) := by decide +kernel
theorem dX8_bitsOf_8 : decode cX8_bitsOf 8 = .ok (.ifCond .lt 20, 3) := by decide +kernel
theorem dX8_bitsOf_11 : decode cX8_bitsOf 11 = .ok (.iload_n 2, 1) := by decide +kernel
theorem dX8_bitsOf_12 : decode cX8_bitsOf 12 = .ok (.sipush 254, 3) := by decide +kernel
theorem dX8_bitsOf_15 : decode cX8_bitsOf 15 = .ok (.if_icmp .ge 13, 3) := by decide +kernel
theorem dX8_bitsOf_18 : decode cX8_bitsOf 18 = .ok (.fload_n 1, 1) := by decide +kernel
theorem dX8_bitsOf_19 : decode cX8_bitsOf 19 = .ok (.fconst 2, 1) := by decide +kernel
theorem dX8_bitsOf_20 : decode cX8_bitsOf 20 = .ok (.fdiv, 1) := by decide +kernel
theorem dX8_bitsOf_21 : decode cX8_bitsOf 21 = .ok (.fstore_n 1, 1) := by decide +kernel
theorem dX8_bitsOf_22 : decode cX8_bitsOf 22 = .ok (.iinc 2 1, 3) := by decide +kernel
theorem dX8_bitsOf_25 : decode cX8_bitsOf 25 = .ok (.goto (-20), 3) := by decide +kernel
theorem dX8_bitsOf_28 : decode cX8_bitsOf 28 = .ok (.ldc 221, 2) := by decide +kernel
theorem dX8_bitsOf_30 : decode cX8_bitsOf 30 = .ok (.istore_n 3, 1) := by decide +kernel
theorem dX8_bitsOf_31 : decode cX8_bitsOf 31 = .ok (.fload_n 1, 1) := by decide +kernel
theorem dX8_bitsOf_32 : decode cX8_bitsOf 32 = .ok (.iload_n 3, 1) := by decide +kernel
theorem dX8_bitsOf_33 : decode cX8_bitsOf 33 = .ok (.i2f, 1) := by decide +kernel
theorem dX8_bitsOf_34 : decode cX8_bitsOf 34 = .ok (.fmul, 1) := by decide +kernel
theorem dX8_bitsOf_35 : decode cX8_bitsOf 35 = .ok (.f2i, 1) := by decide +kernel
theorem dX8_bitsOf_36 : decode cX8_bitsOf 36 = .ok (.iload_n 3, 1) := by decide +kernel
theorem dX8_bitsOf_37 : decode cX8_bitsOf 37 = .ok (.isub, 1) := by decide +kernel
theorem dX8_bitsOf_38 : decode cX8_bitsOf 38 = .ok (.istore 4, 2) := by decide +kernel
theorem dX8_bitsOf_40 : decode cX8_bitsOf 40 = .ok (.iload_n 2, 1) := by decide +kernel
theorem dX8_bitsOf_41 : decode cX8_bitsOf 41 = .ok (.bipush 23, 2) := by decide +kernel
theorem dX8_bitsOf_43 : decode cX8_bitsOf 43 = .ok (.ishl, 1) := by decide +kernel
theorem dX8_bitsOf_44 : decode cX8_bitsOf 44 = .ok (.iload 4, 2) := by decide +kernel
theorem dX8_bitsOf_46 : decode cX8_bitsOf 46 = .ok (.iadd, 1) := by decide +kernel
theorem dX8_bitsOf_47 : decode cX8_bitsOf 47 = .ok (.ireturn, 1) := by decide +kernel
theorem dJ9_abs_0f7a4_0 : decode cJ9_abs_0f7a4 0 = .ok (.iload_n 0, 1) := by decide +kernel
theorem dJ9_abs_0f7a4_1 : decode cJ9_abs_0f7a4 1 = .ok (.ifCond .ge 8, 3) := by decide +kernel
theorem dJ9_abs_0f7a4_4 : decode cJ9_abs_0f7a4 4 = .ok (.iload_n 0, 1) := by decide +kernel
theorem dJ9_abs_0f7a4_5 : decode cJ9_abs_0f7a4 5 = .ok (.ineg, 1) := by decide +kernel
theorem dJ9_abs_0f7a4_6 : decode cJ9_abs_0f7a4 6 = .ok (.goto 4, 3) := by decide +kernel
theorem dJ9_abs_0f7a4_9 : decode cJ9_abs_0f7a4 9 = .ok (.iload_n 0, 1) := by decide +kernel
theorem dJ9_abs_0f7a4_10 : decode cJ9_abs_0f7a4 10 = .ok (.ireturn, 1) := by decide +kernel
theorem dJ9_max_7cf53_0 : decode cJ9_max_7cf53 0 = .ok (.iload_n 0, 1) := by decide +kernel
theorem dJ9_max_7cf53_1 : decode cJ9_max_7cf53 1 = .ok (.iload_n 1, 1) := by decide +kernel
theorem dJ9_max_7cf53_2 : decode cJ9_max_7cf53 2 = .ok (.if_icmp .lt 7, 3) := by decide +kernel
theorem dJ9_max_7cf53_5 : decode cJ9_max_7cf53 5 = .ok (.iload_n 0, 1) := by decide +kernel
theorem dJ9_max_7cf53_6 : decode cJ9_max_7cf53 6 = .ok (.goto 4, 3) := by decide +kernel
theorem dJ9_max_7cf53_9 : decode cJ9_max_7cf53 9 = .ok (.iload_n 1, 1) := by decide +kernel
theorem dJ9_max_7cf53_10 : decode cJ9_max_7cf53 10 = .ok (.ireturn, 1) := by decide +kernel
theorem dJ9_min_7cf53_0 : decode cJ9_min_7cf53 0 = .ok (.iload_n 0, 1) := by decide +kernel
theorem dJ9_min_7cf53_1 : decode cJ9_min_7cf53 1 = .ok (.iload_n 1, 1) := by decide +kernel
theorem dJ9_min_7cf53_2 : decode cJ9_min_7cf53 2 = .ok (.if_icmp .gt 7, 3) := by decide +kernel
theorem dJ9_min_7cf53_5 : decode cJ9_min_7cf53 5 = .ok (.iload_n 0, 1) := by decide +kernel
theorem dJ9_min_7cf53_6 : decode cJ9_min_7cf53 6 = .ok (.goto 4, 3) := by decide +kernel
theorem dJ9_min_7cf53_9 : decode cJ9_min_7cf53 9 = .ok (.iload_n 1, 1) := by decide +kernel
theorem dJ9_min_7cf53_10 : decode cJ9_min_7cf53 10 = .ok (.ireturn, 1) := by decide +kernel
theorem dL_cell_0 : decode cL_cell 0 = .ok (.iload_n 1, 1) := by decide +kernel
theorem dL_cell_1 : decode cL_cell 1 = .ok (.aload_n 0, 1) := by decide +kernel
theorem dL_cell_2 : decode cL_cell 2 = .ok (.arraylength, 1) := by decide +kernel
theorem dL_cell_3 : decode cL_cell 3 = .ok (.if_icmp .ge 9, 3) := by decide +kernel
theorem dL_cell_6 : decode cL_cell 6 = .ok (.aload_n 0, 1) := by decide +kernel
theorem dL_cell_7 : decode cL_cell 7 = .ok (.iload_n 1, 1) := by decide +kernel
theorem dL_cell_8 : decode cL_cell 8 = .ok (.iaload, 1) := by decide +kernel
theorem dL_cell_9 : decode cL_cell 9 = .ok (.goto 9, 3) := by decide +kernel
theorem dL_cell_12 : decode cL_cell 12 = .ok (.ldc 7, 2) := by decide +kernel
theorem dL_cell_14 : decode cL_cell 14 = .ok (.iload_n 1, 1) := by decide +kernel
theorem dL_cell_15 : decode cL_cell 15 = .ok (.iconst 1, 1) := by decide +kernel
theorem dL_cell_16 : decode cL_cell 16 = .ok (.iadd, 1) := by decide +kernel
theorem dL_cell_17 : decode cL_cell 17 = .ok (.imul, 1) := by decide +kernel
theorem dL_cell_18 : decode cL_cell 18 = .ok (.ireturn, 1) := by decide +kernel
theorem dL_low_0 : decode cL_low 0 = .ok (.iload_n 0, 1) := by decide +kernel
theorem dL_low_1 : decode cL_low 1 = .ok (.ldc 8, 2) := by decide +kernel
theorem dL_low_3 : decode cL_low 3 = .ok (.iand, 1) := by decide +kernel
theorem dL_low_4 : decode cL_low 4 = .ok (.iload_n 1, 1) := by decide +kernel
theorem dL_low_5 : decode cL_low 5 = .ok (.irem, 1) := by decide +kernel
theorem dL_low_6 : decode cL_low 6 = .ok (.ireturn, 1) := by decide +kernel
theorem dL_begins_0 : decode cL_begins 0 = .ok (.aload_n 0, 1) := by decide +kernel
theorem dL_begins_1 : decode cL_begins 1 = .ok (.iconst 0, 1) := by decide +kernel
theorem dL_begins_2 : decode cL_begins 2 = .ok (.iconst 3, 1) := by decide +kernel
theorem dL_begins_3 : decode cL_begins 3 = .ok (.iastore, 1) := by decide +kernel
theorem dL_begins_4 : decode cL_begins 4 = .ok (.aload_n 0, 1) := by decide +kernel
theorem dL_begins_5 : decode cL_begins 5 = .ok (.iconst 1, 1) := by decide +kernel
theorem dL_begins_6 : decode cL_begins 6 = .ok (.iconst 5, 1) := by decide +kernel
theorem dL_begins_7 : decode cL_begins 7 = .ok (.iastore, 1) := by decide +kernel
theorem dL_begins_8 : decode cL_begins 8 = .ok (.aload_n 0, 1) := by decide +kernel
theorem dL_begins_9 : decode cL_begins 9 = .ok (.iconst 2, 1) := by decide +kernel
theorem dL_begins_10 : decode cL_begins 10 = .ok (.sipush 150, 3) := by decide +kernel
theorem dL_begins_13 : decode cL_begins 13 = .ok (.iastore, 1) := by decide +kernel
theorem dL_begins_14 : decode cL_begins 14 = .ok (.aload_n 0, 1) := by decide +kernel
theorem dL_begins_15 : decode cL_begins 15 = .ok (.iconst 3, 1) := by decide +kernel
theorem dL_begins_16 : decode cL_begins 16 = .ok (.sipush 400, 3) := by decide +kernel
theorem dL_begins_19 : decode cL_begins 19 = .ok (.iastore, 1) := by decide +kernel
theorem dL_begins_20 : decode cL_begins 20 = .ok (.aload_n 0, 1) := by decide +kernel
theorem dL_begins_21 : decode cL_begins 21 = .ok (.iconst 4, 1) := by decide +kernel
theorem dL_begins_22 : decode cL_begins 22 = .ok (.bipush 100, 2) := by decide +kernel
theorem dL_begins_24 : decode cL_begins 24 = .ok (.iastore, 1) := by decide +kernel
theorem dL_begins_25 : decode cL_begins 25 = .ok (.aload_n 0, 1) := by decide +kernel
theorem dL_begins_26 : decode cL_begins 26 = .ok (.iconst 5, 1) := by decide +kernel
theorem dL_begins_27 : decode cL_begins 27 = .ok (.bipush 10, 2) := by decide +kernel
theorem dL_begins_29 : decode cL_begins 29 = .ok (.iastore, 1) := by decide +kernel
theorem dL_begins_30 : decode cL_begins 30 = .ok (.aload_n 0, 1) := by decide +kernel
theorem dL_begins_31 : decode cL_begins 31 = .ok (.bipush 6, 2) := by decide +kernel
theorem dL_begins_33 : decode cL_begins 33 = .ok (.iconst 2, 1) := by decide +kernel
theorem dL_begins_34 : decode cL_begins 34 = .ok (.iastore, 1) := by decide +kernel
theorem dL_begins_35 : decode cL_begins 35 = .ok (.aload_n 0, 1) := by decide +kernel
theorem dL_begins_36 : decode cL_begins 36 = .ok (.bipush 7, 2) := by decide +kernel
theorem dL_begins_38 : decode cL_begins 38 = .ok (.iconst 3, 1) := by decide +kernel
theorem dL_begins_39 : decode cL_begins 39 = .ok (.iastore, 1) := by decide +kernel
theorem dL_begins_40 : decode cL_begins 40 = .ok (.aload_n 0, 1) := by decide +kernel
theorem dL_begins_41 : decode cL_begins 41 = .ok (.bipush 9, 2) := by decide +kernel
theorem dL_begins_43 : decode cL_begins 43 = .ok (.iconst 4, 1) := by decide +kernel
theorem dL_begins_44 : decode cL_begins 44 = .ok (.iastore, 1) := by decide +kernel
theorem dL_begins_45 : decode cL_begins 45 = .ok (.iconst 0, 1) := by decide +kernel
theorem dL_begins_46 : decode cL_begins 46 = .ok (.istore_n 1, 1) := by decide +kernel
theorem dL_begins_47 : decode cL_begins 47 = .ok (.iload_n 1, 1) := by decide +kernel
theorem dL_begins_48 : decode cL_begins 48 = .ok (.bipush 10, 2) := by decide +kernel
theorem dL_begins_50 : decode cL_begins 50 = .ok (.if_icmp .ge 16, 3) := by decide +kernel
theorem dL_begins_53 : decode cL_begins 53 = .ok (.aload_n 0, 1) := by decide +kernel
theorem dL_begins_54 : decode cL_begins 54 = .ok (.bipush 10, 2) := by decide +kernel
theorem dL_begins_56 : decode cL_begins 56 = .ok (.iload_n 1, 1) := by decide +kernel
theorem dL_begins_57 : decode cL_begins 57 = .ok (.iadd, 1) := by decide +kernel
theorem dL_begins_58 : decode cL_begins 58 = .ok (.iconst (-1), 1) := by decide +kernel
theorem dL_begins_59 : decode cL_begins 59 = .ok (.iastore, 1) := by decide +kernel
theorem dL_begins_60 : decode cL_begins 60 = .ok (.iinc 1 1, 3) := by decide +kernel
theorem dL_begins_63 : decode cL_begins 63 = .ok (.goto (-16), 3) := by decide +kernel
theorem dL_begins_66 : decode cL_begins 66 = .ok (.iconst 0, 1) := by decide +kernel
theorem dL_begins_67 : decode cL_begins 67 = .ok (.istore_n 1, 1) := by decide +kernel
theorem dL_begins_68 : decode cL_begins 68 = .ok (.iload_n 1, 1) := by decide +kernel
theorem dL_begins_69 : decode cL_begins 69 = .ok (.bipush 6, 2) := by decide +kernel
theorem dL_begins_71 : decode cL_begins 71 = .ok (.if_icmp .ge 16, 3) := by decide +kernel
theorem dL_begins_74 : decode cL_begins 74 = .ok (.aload_n 0, 1) := by decide +kernel
theorem dL_begins_75 : decode cL_begins 75 = .ok (.bipush 40, 2) := by decide +kernel
theorem dL_begins_77 : decode cL_begins 77 = .ok (.iload_n 1, 1) := by decide +kernel
theorem dL_begins_78 : decode cL_begins 78 = .ok (.iadd, 1) := by decide +kernel
theorem dL_begins_79 : decode cL_begins 79 = .ok (.iconst (-1), 1) := by decide +kernel
theorem dL_begins_80 : decode cL_begins 80 = .ok (.iastore, 1) := by decide +kernel
theorem dL_begins_81 : decode cL_begins 81 = .ok (.iinc 1 1, 3) := by decide +kernel
theorem dL_begins_84 : decode cL_begins 84 = .ok (.goto (-16), 3) := by decide +kernel
theorem dL_begins_87 : decode cL_begins 87 = .ok (.aload_n 0, 1) := by decide +kernel
theorem dL_begins_88 : decode cL_begins 88 = .ok (.bipush 46, 2) := by decide +kernel
theorem dL_begins_90 : decode cL_begins 90 = .ok (.ldc 11, 2) := by decide +kernel
theorem dL_begins_92 : decode cL_begins 92 = .ok (.iastore, 1) := by decide +kernel
theorem dL_begins_93 : decode cL_begins 93 = .ok (.return_, 1) := by decide +kernel
theorem dL_bits_0 : decode cL_bits 0 = .ok (.iconst 0, 1) := by decide +kernel
theorem dL_bits_1 : decode cL_bits 1 = .ok (.istore_n 1, 1) := by decide +kernel
theorem dL_bits_2 : decode cL_bits 2 = .ok (.iload_n 0, 1) := by decide +kernel
theorem dL_bits_3 : decode cL_bits 3 = .ok (.iload_n 1, 1) := by decide +kernel
theorem dL_bits_4 : decode cL_bits 4 = .ok (.ishr, 1) := by decide +kernel
theorem dL_bits_5 : decode cL_bits 5 = .ok (.iconst 1, 1) := by decide +kernel
theorem dL_bits_6 : decode cL_bits 6 = .ok (.if_icmp .le 9, 3) := by decide +kernel
theorem dL_bits_9 : decode cL_bits 9 = .ok (.iinc 1 1, 3) := by decide +kernel
theorem dL_bits_12 : decode cL_bits 12 = .ok (.goto (-10), 3) := by decide +kernel
theorem dL_bits_15 : decode cL_bits 15 = .ok (.iload_n 1, 1) := by decide +kernel
theorem dL_bits_16 : decode cL_bits 16 = .ok (.bipush 112, 2) := by decide +kernel
theorem dL_bits_18 : decode cL_bits 18 = .ok (.iadd, 1) := by decide +kernel
theorem dL_bits_19 : decode cL_bits 19 = .ok (.bipush 23, 2) := by decide +kernel
theorem dL_bits_21 : decode cL_bits 21 = .ok (.ishl, 1) := by decide +kernel
theorem dL_bits_22 : decode cL_bits 22 = .ok (.iload_n 0, 1) := by decide +kernel
theorem dL_bits_23 : decode cL_bits 23 = .ok (.bipush 23, 2) := by decide +kernel
theorem dL_bits_25 : decode cL_bits 25 = .ok (.iload_n 1, 1) := by decide +kernel
theorem dL_bits_26 : decode cL_bits 26 = .ok (.isub, 1) := by decide +kernel
theorem dL_bits_27 : decode cL_bits 27 = .ok (.ishl, 1) := by decide +kernel
theorem dL_bits_28 : decode cL_bits 28 = .ok (.ldc 12, 2) := by decide +kernel
theorem dL_bits_30 : decode cL_bits 30 = .ok (.iand, 1) := by decide +kernel
theorem dL_bits_31 : decode cL_bits 31 = .ok (.ior, 1) := by decide +kernel
theorem dL_bits_32 : decode cL_bits 32 = .ok (.ireturn, 1) := by decide +kernel
set_option maxRecDepth 20000 in
theorem ggL_typesNumber_X8_type : GoodIn wsL_typesNumber wsX8_type := goodIn_r _ [5, 6, 7, 8, 9, 4, 10, 11, 12, 13, 14, 15, 16, 17, 18, 19, 20, 21, 22, 23, 24, 25] (by decide +kernel) (by decide +kernel)
set_option maxRecDepth 20000 in
theorem gL_typesNumber_X8_type : GoodIn wsL_typesNumber (wsV RL 13 RX8 yX8_type wsX8_type) := goodIn_app (goodIn_of _ (by decide +kernel)) ggL_typesNumber_X8_type
theorem dL_typesNumber_0 : decode cL_typesNumber 0 = .ok (.iload_n 1, 1) := by decide +kernel
theorem dL_typesNumber_1 : decode cL_typesNumber 1 = .ok (.bipush 10, 2) := by decide +kernel
theorem dL_typesNumber_3 : decode cL_typesNumber 3 = .ok (.if_icmp .lt 17, 3) := by decide +kernel
theorem dL_typesNumber_6 : decode cL_typesNumber 6 = .ok (.aload_n 0, 1) := by decide +kernel
theorem dL_typesNumber_7 : decode cL_typesNumber 7 = .ok (.bipush 48, 2) := by decide +kernel
theorem dL_typesNumber_9 : decode cL_typesNumber 9 = .ok (.iload_n 1, 1) := by decide +kernel
theorem dL_typesNumber_10 : decode cL_typesNumber 10 = .ok (.bipush 10, 2) := by decide +kernel
theorem dL_typesNumber_12 : decode cL_typesNumber 12 = .ok (.idiv, 1) := by decide +kernel
theorem dL_typesNumber_13 : decode cL_typesNumber 13 = .ok (.iadd, 1) := by decide +kernel
theorem dL_typesNumber_14 : decode cL_typesNumber 14 = .ok (.invokevirtual 13, 3) := by decide +kernel
theorem dL_typesNumber_17 : decode cL_typesNumber 17 = .ok (.ifCond .le 21, 3) := by decide +kernel
theorem dL_typesNumber_20 : decode cL_typesNumber 20 = .ok (.aload_n 0, 1) := by decide +kernel
theorem dL_typesNumber_21 : decode cL_typesNumber 21 = .ok (.bipush 48, 2) := by decide +kernel
theorem dL_typesNumber_23 : decode cL_typesNumber 23 = .ok (.iload_n 1, 1) := by decide +kernel
theorem dL_typesNumber_24 : decode cL_typesNumber 24 = .ok (.bipush 10, 2) := by decide +kernel
theorem dL_typesNumber_26 : decode cL_typesNumber 26 = .ok (.irem, 1) := by decide +kernel
theorem dL_typesNumber_27 : decode cL_typesNumber 27 = .ok (.iadd, 1) := by decide +kernel
theorem dL_typesNumber_28 : decode cL_typesNumber 28 = .ok (.invokevirtual 13, 3) := by decide +kernel
theorem dL_typesNumber_31 : decode cL_typesNumber 31 = .ok (.ifCond .le 7, 3) := by decide +kernel
theorem dL_typesNumber_34 : decode cL_typesNumber 34 = .ok (.iconst 1, 1) := by decide +kernel
theorem dL_typesNumber_35 : decode cL_typesNumber 35 = .ok (.goto 4, 3) := by decide +kernel
theorem dL_typesNumber_38 : decode cL_typesNumber 38 = .ok (.iconst 0, 1) := by decide +kernel
theorem dL_typesNumber_39 : decode cL_typesNumber 39 = .ok (.ireturn, 1) := by decide +kernel
theorem dL_letter_0 : decode cL_letter 0 = .ok (.iload_n 0, 1) := by decide +kernel
theorem dL_letter_1 : decode cL_letter 1 = .ok (.ifCond .ne 8, 3) := by decide +kernel
theorem dL_letter_4 : decode cL_letter 4 = .ok (.bipush 108, 2) := by decide +kernel
theorem dL_letter_6 : decode cL_letter 6 = .ok (.goto 25, 3) := by decide +kernel
theorem dL_letter_9 : decode cL_letter 9 = .ok (.iload_n 0, 1) := by decide +kernel
theorem dL_letter_10 : decode cL_letter 10 = .ok (.iconst 1, 1) := by decide +kernel
theorem dL_letter_11 : decode cL_letter 11 = .ok (.if_icmp .ne 8, 3) := by decide +kernel
theorem dL_letter_14 : decode cL_letter 14 = .ok (.bipush 103, 2) := by decide +kernel
theorem dL_letter_16 : decode cL_letter 16 = .ok (.goto 15, 3) := by decide +kernel
theorem dL_letter_19 : decode cL_letter 19 = .ok (.iload_n 0, 1) := by decide +kernel
theorem dL_letter_20 : decode cL_letter 20 = .ok (.iconst 2, 1) := by decide +kernel
theorem dL_letter_21 : decode cL_letter 21 = .ok (.if_icmp .ne 8, 3) := by decide +kernel
theorem dL_letter_24 : decode cL_letter 24 = .ok (.bipush 98, 2) := by decide +kernel
theorem dL_letter_26 : decode cL_letter 26 = .ok (.goto 5, 3) := by decide +kernel
theorem dL_letter_29 : decode cL_letter 29 = .ok (.bipush 115, 2) := by decide +kernel
theorem dL_letter_31 : decode cL_letter 31 = .ok (.ireturn, 1) := by decide +kernel
set_option maxRecDepth 20000 in
theorem ggL_loads_L_low : GoodIn wsL_loads wsL_low := goodIn_r _ [4, 5] (by decide +kernel) (by decide +kernel)
set_option maxRecDepth 20000 in
theorem gL_loads_L_low : GoodIn wsL_loads (va_wsS RL 19 yL_low wsL_low) := goodIn_app (goodIn_of _ (by decide +kernel)) ggL_loads_L_low
set_option maxRecDepth 20000 in
theorem ggL_loads_X8_clear : GoodIn wsL_loads wsX8_clear := goodIn_r _ [10, 11, 12, 139, 140, 141, 142, 143, 144, 145, 146] (by decide +kernel) (by decide +kernel)
set_option maxRecDepth 20000 in
theorem gL_loads_X8_clear : GoodIn wsL_loads (wsV RL 23 RX8 yX8_clear wsX8_clear) := goodIn_app (goodIn_of _ (by decide +kernel)) ggL_loads_X8_clear
set_option maxRecDepth 20000 in
theorem ggL_loads_L_typesNumber : GoodIn wsL_loads wsL_typesNumber := goodIn_r _ [15, 16, 17, 18, 9, 19, 11, 12, 20, 21, 22, 23, 24, 25, 26, 27, 28, 29, 139, 140, 141, 142, 143, 144, 145, 146] (by decide +kernel) (by decide +kernel)
set_option maxRecDepth 20000 in
theorem gL_loads_L_typesNumber : GoodIn wsL_loads (va_wsS RL 27 yL_typesNumber wsL_typesNumber) := goodIn_app (goodIn_of _ (by decide +kernel)) ggL_loads_L_typesNumber
set_option maxRecDepth 20000 in
theorem ggL_loads_X8_type : GoodIn wsL_loads wsX8_type := goodIn_r _ [19, 11, 12, 20, 21, 9, 22, 23, 24, 25, 26, 27, 28, 29, 139, 140, 141, 142, 143, 144, 145, 146] (by decide +kernel) (by decide +kernel)
set_option maxRecDepth 20000 in
theorem gL_loads_X8_type : GoodIn wsL_loads (wsV RL 13 RX8 yX8_type wsX8_type) := goodIn_app (goodIn_of _ (by decide +kernel)) ggL_loads_X8_type
set_option maxRecDepth 20000 in
theorem ggL_loads_L_letter : GoodIn wsL_loads wsL_letter := goodIn_r _ [32] (by decide +kernel) (by decide +kernel)
set_option maxRecDepth 20000 in
theorem gL_loads_L_letter : GoodIn wsL_loads (va_wsS RL 31 yL_letter wsL_letter) := goodIn_app (goodIn_of _ (by decide +kernel)) ggL_loads_L_letter
set_option maxRecDepth 20000 in
theorem ggL_loads_X8_load : GoodIn wsL_loads wsX8_load := goodIn_r _ [36, 37, 38, 39, 40, 41, 42, 43, 44, 45, 46, 47, 48, 49, 50, 51, 52, 53, 54, 55, 56, 57, 58, 59, 60, 61, 62, 63, 64, 65, 66, 67, 68, 26, 69, 28, 29, 70, 71, 72, 73, 74, 75, 76, 77, 78, 79, 80, 81, 82, 83, 84, 85, 86, 87, 88, 89, 90, 91, 92, 93, 94, 95, 96, 97, 98, 99, 100, 101, 102, 103, 104, 105, 21, 9, 22, 106, 107, 108, 109, 110, 111, 112, 113, 114, 115, 116, 117, 118, 119, 120, 121, 122, 123, 124, 125, 126, 127, 128, 129, 130, 131, 132, 133, 134, 135, 136, 137, 138, 139, 140, 141, 142, 143, 144, 147, 148, 149, 150, 151, 152, 153, 154, 155, 156, 157, 158, 159, 160, 161, 162, 163, 164, 165, 166, 167, 168, 169, 170, 145, 146, 171, 172, 173, 174] (by decide +kernel) (by decide +kernel)
set_option maxRecDepth 20000 in
theorem gL_loads_X8_load : GoodIn wsL_loads (wsV RL 34 RX8 yX8_load wsX8_load) := goodIn_app (goodIn_of _ (by decide +kernel)) ggL_loads_X8_load
theorem dL_loads_0 : decode cL_loads 0 = .ok (.iconst 1, 1) := by decide +kernel
theorem dL_loads_1 : decode cL_loads 1 = .ok (.iload_n 2, 1) := by decide +kernel
theorem dL_loads_2 : decode cL_loads 2 = .ok (.iconst 3, 1) := by decide +kernel
theorem dL_loads_3 : decode cL_loads 3 = .ok (.invokestatic 19, 3) := by decide +kernel
theorem dL_loads_6 : decode cL_loads 6 = .ok (.iadd, 1) := by decide +kernel
theorem dL_loads_7 : decode cL_loads 7 = .ok (.istore 4, 2) := by decide +kernel
theorem dL_loads_9 : decode cL_loads 9 = .ok (.iconst 1, 1) := by decide +kernel
theorem dL_loads_10 : decode cL_loads 10 = .ok (.iload_n 2, 1) := by decide +kernel
theorem dL_loads_11 : decode cL_loads 11 = .ok (.iconst 2, 1) := by decide +kernel
theorem dL_loads_12 : decode cL_loads 12 = .ok (.ishr, 1) := by decide +kernel
theorem dL_loads_13 : decode cL_loads 13 = .ok (.iconst 3, 1) := by decide +kernel
theorem dL_loads_14 : decode cL_loads 14 = .ok (.invokestatic 19, 3) := by decide +kernel
theorem dL_loads_17 : decode cL_loads 17 = .ok (.iadd, 1) := by decide +kernel
theorem dL_loads_18 : decode cL_loads 18 = .ok (.istore 5, 2) := by decide +kernel
theorem dL_loads_20 : decode cL_loads 20 = .ok (.aload_n 1, 1) := by decide +kernel
theorem dL_loads_21 : decode cL_loads 21 = .ok (.bipush 63, 2) := by decide +kernel
theorem dL_loads_23 : decode cL_loads 23 = .ok (.iaload, 1) := by decide +kernel
theorem dL_loads_24 : decode cL_loads 24 = .ok (.iload 4, 2) := by decide +kernel
theorem dL_loads_26 : decode cL_loads 26 = .ok (.iload 5, 2) := by decide +kernel
theorem dL_loads_28 : decode cL_loads 28 = .ok (.imul, 1) := by decide +kernel
theorem dL_loads_29 : decode cL_loads 29 = .ok (.iadd, 1) := by decide +kernel
theorem dL_loads_30 : decode cL_loads 30 = .ok (.bipush 60, 2) := by decide +kernel
theorem dL_loads_32 : decode cL_loads 32 = .ok (.if_icmp .le 5, 3) := by decide +kernel
theorem dL_loads_35 : decode cL_loads 35 = .ok (.iconst 1, 1) := by decide +kernel
theorem dL_loads_36 : decode cL_loads 36 = .ok (.ireturn, 1) := by decide +kernel
theorem dL_loads_37 : decode cL_loads 37 = .ok (.aload_n 0, 1) := by decide +kernel
theorem dL_loads_38 : decode cL_loads 38 = .ok (.invokevirtual 23, 3) := by decide +kernel
theorem dL_loads_41 : decode cL_loads 41 = .ok (.ifCond .lt 43, 3) := by decide +kernel
theorem dL_loads_44 : decode cL_loads 44 = .ok (.aload_n 0, 1) := by decide +kernel
theorem dL_loads_45 : decode cL_loads 45 = .ok (.iload 4, 2) := by decide +kernel
theorem dL_loads_47 : decode cL_loads 47 = .ok (.invokestatic 27, 3) := by decide +kernel
theorem dL_loads_50 : decode cL_loads 50 = .ok (.ifCond .eq 34, 3) := by decide +kernel
theorem dL_loads_53 : decode cL_loads 53 = .ok (.aload_n 0, 1) := by decide +kernel
theorem dL_loads_54 : decode cL_loads 54 = .ok (.bipush 42, 2) := by decide +kernel
theorem dL_loads_56 : decode cL_loads 56 = .ok (.invokevirtual 13, 3) := by decide +kernel
theorem dL_loads_59 : decode cL_loads 59 = .ok (.ifCond .le 25, 3) := by decide +kernel
theorem dL_loads_62 : decode cL_loads 62 = .ok (.aload_n 0, 1) := by decide +kernel
theorem dL_loads_63 : decode cL_loads 63 = .ok (.bipush 40, 2) := by decide +kernel
theorem dL_loads_65 : decode cL_loads 65 = .ok (.invokevirtual 13, 3) := by decide +kernel
theorem dL_loads_68 : decode cL_loads 68 = .ok (.ifCond .le 16, 3) := by decide +kernel
theorem dL_loads_71 : decode cL_loads 71 = .ok (.aload_n 0, 1) := by decide +kernel
theorem dL_loads_72 : decode cL_loads 72 = .ok (.bipush 32, 2) := by decide +kernel
theorem dL_loads_74 : decode cL_loads 74 = .ok (.invokevirtual 13, 3) := by decide +kernel
theorem dL_loads_77 : decode cL_loads 77 = .ok (.ifCond .le 7, 3) := by decide +kernel
theorem dL_loads_80 : decode cL_loads 80 = .ok (.iconst 1, 1) := by decide +kernel
theorem dL_loads_81 : decode cL_loads 81 = .ok (.goto 4, 3) := by decide +kernel
theorem dL_loads_84 : decode cL_loads 84 = .ok (.iconst 0, 1) := by decide +kernel
theorem dL_loads_85 : decode cL_loads 85 = .ok (.istore 6, 2) := by decide +kernel
theorem dL_loads_87 : decode cL_loads 87 = .ok (.aload_n 1, 1) := by decide +kernel
theorem dL_loads_88 : decode cL_loads 88 = .ok (.bipush 63, 2) := by decide +kernel
theorem dL_loads_90 : decode cL_loads 90 = .ok (.iaload, 1) := by decide +kernel
theorem dL_loads_91 : decode cL_loads 91 = .ok (.istore 7, 2) := by decide +kernel
theorem dL_loads_93 : decode cL_loads 93 = .ok (.iconst 0, 1) := by decide +kernel
theorem dL_loads_94 : decode cL_loads 94 = .ok (.istore 8, 2) := by decide +kernel
theorem dL_loads_96 : decode cL_loads 96 = .ok (.iload 8, 2) := by decide +kernel
theorem dL_loads_98 : decode cL_loads 98 = .ok (.iload 5, 2) := by decide +kernel
theorem dL_loads_100 : decode cL_loads 100 = .ok (.if_icmp .ge 139, 3) := by decide +kernel
theorem dL_loads_103 : decode cL_loads 103 = .ok (.iload_n 2, 1) := by decide +kernel
theorem dL_loads_104 : decode cL_loads 104 = .ok (.iconst 5, 1) := by decide +kernel
theorem dL_loads_105 : decode cL_loads 105 = .ok (.iconst 3, 1) := by decide +kernel
theorem dL_loads_106 : decode cL_loads 106 = .ok (.iload 8, 2) := by decide +kernel
theorem dL_loads_108 : decode cL_loads 108 = .ok (.imul, 1) := by decide +kernel
theorem dL_loads_109 : decode cL_loads 109 = .ok (.iadd, 1) := by decide +kernel
theorem dL_loads_110 : decode cL_loads 110 = .ok (.ishr, 1) := by decide +kernel
theorem dL_loads_111 : decode cL_loads 111 = .ok (.bipush 8, 2) := by decide +kernel
theorem dL_loads_113 : decode cL_loads 113 = .ok (.invokestatic 19, 3) := by decide +kernel
theorem dL_loads_116 : decode cL_loads 116 = .ok (.iconst 1, 1) := by decide +kernel
theorem dL_loads_117 : decode cL_loads 117 = .ok (.if_icmp .le 10, 3) := by decide +kernel
theorem dL_loads_120 : decode cL_loads 120 = .ok (.iload 8, 2) := by decide +kernel
theorem dL_loads_122 : decode cL_loads 122 = .ok (.iconst 2, 1) := by decide +kernel
theorem dL_loads_123 : decode cL_loads 123 = .ok (.irem, 1) := by decide +kernel
theorem dL_loads_124 : decode cL_loads 124 = .ok (.goto 16, 3) := by decide +kernel
theorem dL_loads_127 : decode cL_loads 127 = .ok (.iload_n 2, 1) := by decide +kernel
theorem dL_loads_128 : decode cL_loads 128 = .ok (.bipush 8, 2) := by decide +kernel
theorem dL_loads_130 : decode cL_loads 130 = .ok (.iconst 3, 1) := by decide +kernel
theorem dL_loads_131 : decode cL_loads 131 = .ok (.iload 8, 2) := by decide +kernel
theorem dL_loads_133 : decode cL_loads 133 = .ok (.imul, 1) := by decide +kernel
theorem dL_loads_134 : decode cL_loads 134 = .ok (.iadd, 1) := by decide +kernel
theorem dL_loads_135 : decode cL_loads 135 = .ok (.ishr, 1) := by decide +kernel
theorem dL_loads_136 : decode cL_loads 136 = .ok (.iconst 4, 1) := by decide +kernel
theorem dL_loads_137 : decode cL_loads 137 = .ok (.invokestatic 19, 3) := by decide +kernel
theorem dL_loads_140 : decode cL_loads 140 = .ok (.istore 9, 2) := by decide +kernel
theorem dL_loads_142 : decode cL_loads 142 = .ok (.iload 9, 2) := by decide +kernel
theorem dL_loads_144 : decode cL_loads 144 = .ok (.ifCond .eq 9, 3) := by decide +kernel
theorem dL_loads_147 : decode cL_loads 147 = .ok (.iload 9, 2) := by decide +kernel
theorem dL_loads_149 : decode cL_loads 149 = .ok (.iconst 2, 1) := by decide +kernel
theorem dL_loads_150 : decode cL_loads 150 = .ok (.if_icmp .ne 20, 3) := by decide +kernel
theorem dL_loads_153 : decode cL_loads 153 = .ok (.bipush 30, 2) := by decide +kernel
theorem dL_loads_155 : decode cL_loads 155 = .ok (.iload_n 3, 1) := by decide +kernel
theorem dL_loads_156 : decode cL_loads 156 = .ok (.iconst 5, 1) := by decide +kernel
theorem dL_loads_157 : decode cL_loads 157 = .ok (.iload 8, 2) := by decide +kernel
theorem dL_loads_159 : decode cL_loads 159 = .ok (.imul, 1) := by decide +kernel
theorem dL_loads_160 : decode cL_loads 160 = .ok (.ishr, 1) := by decide +kernel
theorem dL_loads_161 : decode cL_loads 161 = .ok (.bipush 40, 2) := by decide +kernel
theorem dL_loads_163 : decode cL_loads 163 = .ok (.invokestatic 19, 3) := by decide +kernel
theorem dL_loads_166 : decode cL_loads 166 = .ok (.iadd, 1) := by decide +kernel
theorem dL_loads_167 : decode cL_loads 167 = .ok (.goto 16, 3) := by decide +kernel
theorem dL_loads_170 : decode cL_loads 170 = .ok (.iconst 1, 1) := by decide +kernel
theorem dL_loads_171 : decode cL_loads 171 = .ok (.iload_n 3, 1) := by decide +kernel
theorem dL_loads_172 : decode cL_loads 172 = .ok (.iconst 5, 1) := by decide +kernel
theorem dL_loads_173 : decode cL_loads 173 = .ok (.iload 8, 2) := by decide +kernel
theorem dL_loads_175 : decode cL_loads 175 = .ok (.imul, 1) := by decide +kernel
theorem dL_loads_176 : decode cL_loads 176 = .ok (.ishr, 1) := by decide +kernel
theorem dL_loads_177 : decode cL_loads 177 = .ok (.bipush 9, 2) := by decide +kernel
theorem dL_loads_179 : decode cL_loads 179 = .ok (.invokestatic 19, 3) := by decide +kernel
theorem dL_loads_182 : decode cL_loads 182 = .ok (.iadd, 1) := by decide +kernel
theorem dL_loads_183 : decode cL_loads 183 = .ok (.istore 10, 2) := by decide +kernel
theorem dL_loads_185 : decode cL_loads 185 = .ok (.iload 6, 2) := by decide +kernel
theorem dL_loads_187 : decode cL_loads 187 = .ok (.ifCond .eq 28, 3) := by decide +kernel
theorem dL_loads_190 : decode cL_loads 190 = .ok (.aload_n 0, 1) := by decide +kernel
theorem dL_loads_191 : decode cL_loads 191 = .ok (.iload 9, 2) := by decide +kernel
theorem dL_loads_193 : decode cL_loads 193 = .ok (.invokestatic 31, 3) := by decide +kernel
theorem dL_loads_196 : decode cL_loads 196 = .ok (.invokevirtual 13, 3) := by decide +kernel
theorem dL_loads_199 : decode cL_loads 199 = .ok (.ifCond .le 16, 3) := by decide +kernel
theorem dL_loads_202 : decode cL_loads 202 = .ok (.aload_n 0, 1) := by decide +kernel
theorem dL_loads_203 : decode cL_loads 203 = .ok (.iload 10, 2) := by decide +kernel
theorem dL_loads_205 : decode cL_loads 205 = .ok (.invokestatic 27, 3) := by decide +kernel
theorem dL_loads_208 : decode cL_loads 208 = .ok (.ifCond .eq 7, 3) := by decide +kernel
theorem dL_loads_211 : decode cL_loads 211 = .ok (.iconst 1, 1) := by decide +kernel
theorem dL_loads_212 : decode cL_loads 212 = .ok (.goto 4, 3) := by decide +kernel
theorem dL_loads_215 : decode cL_loads 215 = .ok (.iconst 0, 1) := by decide +kernel
theorem dL_loads_216 : decode cL_loads 216 = .ok (.istore 6, 2) := by decide +kernel
theorem dL_loads_218 : decode cL_loads 218 = .ok (.aload_n 1, 1) := by decide +kernel
theorem dL_loads_219 : decode cL_loads 219 = .ok (.iload 7, 2) := by decide +kernel
theorem dL_loads_221 : decode cL_loads 221 = .ok (.iload 8, 2) := by decide +kernel
theorem dL_loads_223 : decode cL_loads 223 = .ok (.iadd, 1) := by decide +kernel
theorem dL_loads_224 : decode cL_loads 224 = .ok (.bipush 100, 2) := by decide +kernel
theorem dL_loads_226 : decode cL_loads 226 = .ok (.iload 9, 2) := by decide +kernel
theorem dL_loads_228 : decode cL_loads 228 = .ok (.imul, 1) := by decide +kernel
