set_option maxRecDepth 100000 in
theorem wsL_law_in : ∀ w ∈ wsL_law, w ∈ lw_tbl := fun w h => (fun h => (List.mem_append.mp h).elim (fun h => (List.mem_append.mp h).elim (fun h => (List.mem_append.mp h).elim (fun h => (List.mem_append.mp h).elim (fun h => (List.mem_append.mp h).elim (fun h => (List.mem_append.mp h).elim (fun h => (List.mem_append.mp h).elim (fun h => (List.mem_append.mp h).elim (fun h => (List.mem_append.mp h).elim (fun h => (List.mem_append.mp h).elim (wsL_law_r1_in w) (fun h => (List.mem_append.mp h).elim (wsL_law_r2_in w) (fun h => (List.mem_append.mp h).elim (wsL_law_r3_in w) (fun h => (List.mem_append.mp h).elim (wsL_law_r4_in w) (fun h => (List.mem_append.mp h).elim (wsL_law_r5_in w) (fun h => (List.mem_append.mp h).elim (wsL_law_r6_in w) (fun h => (List.mem_append.mp h).elim (wsL_law_r7_in w) (fun h => (List.mem_append.mp h).elim (wsL_law_r8_in w) (fun h => (List.mem_append.mp h).elim (wsL_law_r9_in w) (fun h => (List.mem_append.mp h).elim (wsL_law_r10_in w) (fun h => (List.mem_append.mp h).elim (wsL_law_r11_in w) (fun h => (List.mem_append.mp h).elim (wsL_law_r12_in w) (fun h => (List.mem_append.mp h).elim (wsL_law_r13_in w) (fun h => (List.mem_append.mp h).elim (wsL_law_r14_in w) (fun h => (List.mem_append.mp h).elim (wsL_law_r15_in w) (fun h => (List.mem_append.mp h).elim (wsL_law_r16_in w) (fun h => (List.mem_append.mp h).elim (wsL_law_r17_in w) (fun h => (List.mem_append.mp h).elim (wsL_law_r18_in w) (fun h => (List.mem_append.mp h).elim (wsL_law_r19_in w) (fun h => (List.mem_append.mp h).elim (wsL_law_r20_in w) (wsL_law_r21_in w))))))))))))))))))))) (inX8 w)) (inX3 w)) (inX2 w)) (inX6 w)) (inX7 w)) (inX1 w)) (inX5 w)) (inX4 w)) (inX0 w)) h
theorem inlX0 : ∀ w ∈ wsX00, w ∈ wsL_law := fun _ h => List.mem_append_left _ (List.mem_append_right _ h)
theorem inlX1 : ∀ w ∈ wsX10, w ∈ wsL_law := fun _ h => List.mem_append_left _ (List.mem_append_left _ (List.mem_append_left _ (List.mem_append_left _ (List.mem_append_right _ h))))
theorem inlX2 : ∀ w ∈ wsX20, w ∈ wsL_law := fun _ h => List.mem_append_left _ (List.mem_append_left _ (List.mem_append_left _ (List.mem_append_left _ (List.mem_append_left _ (List.mem_append_left _ (List.mem_append_left _ (List.mem_append_right _ h)))))))
theorem inlX3 : ∀ w ∈ wsX30, w ∈ wsL_law := fun _ h => List.mem_append_left _ (List.mem_append_left _ (List.mem_append_left _ (List.mem_append_left _ (List.mem_append_left _ (List.mem_append_left _ (List.mem_append_left _ (List.mem_append_left _ (List.mem_append_right _ h))))))))
theorem inlX4 : ∀ w ∈ wsX40, w ∈ wsL_law := fun _ h => List.mem_append_left _ (List.mem_append_left _ (List.mem_append_right _ h))
theorem inlX5 : ∀ w ∈ wsX50, w ∈ wsL_law := fun _ h => List.mem_append_left _ (List.mem_append_left _ (List.mem_append_left _ (List.mem_append_right _ h)))
theorem inlX6 : ∀ w ∈ wsX60, w ∈ wsL_law := fun _ h => List.mem_append_left _ (List.mem_append_left _ (List.mem_append_left _ (List.mem_append_left _ (List.mem_append_left _ (List.mem_append_left _ (List.mem_append_right _ h))))))
theorem inlX7 : ∀ w ∈ wsX70, w ∈ wsL_law := fun _ h => List.mem_append_left _ (List.mem_append_left _ (List.mem_append_left _ (List.mem_append_left _ (List.mem_append_left _ (List.mem_append_right _ h)))))
theorem inlX8 : ∀ w ∈ wsX80, w ∈ wsL_law := fun _ h => List.mem_append_left _ (List.mem_append_left _ (List.mem_append_left _ (List.mem_append_left _ (List.mem_append_left _ (List.mem_append_left _ (List.mem_append_left _ (List.mem_append_left _ (List.mem_append_left _ (List.mem_append_right _ h)))))))))
theorem inJ9 : ∀ w ∈ wsJ90, w ∈ lw_tbl := by decide +kernel
theorem dX0_init_0 : decode cX0_init 0 = .ok (.aload_n 0, 1) := by decide +kernel
theorem dX0_init_1 : decode cX0_init 1 = .ok (.invokespecial 3, 3) := by decide +kernel
theorem dX0_init_4 : decode cX0_init 4 = .ok (.return_, 1) := by decide +kernel
theorem dX0_begin_0 : decode cX0_begin 0 = .ok (.aload_n 0, 1) := by decide +kernel
theorem dX0_begin_1 : decode cX0_begin 1 = .ok (.iconst 0, 1) := by decide +kernel
theorem dX0_begin_2 : decode cX0_begin 2 = .ok (.putfield 9, 3) := by decide +kernel
theorem dX0_begin_5 : decode cX0_begin 5 = .ok (.aload_n 0, 1) := by decide +kernel
theorem dX0_begin_6 : decode cX0_begin 6 = .ok (.iconst 0, 1) := by decide +kernel
theorem dX0_begin_7 : decode cX0_begin 7 = .ok (.putfield 15, 3) := by decide +kernel
theorem dX0_begin_10 : decode cX0_begin 10 = .ok (.aload_n 0, 1) := by decide +kernel
theorem dX0_begin_11 : decode cX0_begin 11 = .ok (.iconst 0, 1) := by decide +kernel
theorem dX0_begin_12 : decode cX0_begin 12 = .ok (.putfield 18, 3) := by decide +kernel
theorem dX0_begin_15 : decode cX0_begin 15 = .ok (.aload_n 0, 1) := by decide +kernel
theorem dX0_begin_16 : decode cX0_begin 16 = .ok (.iconst 0, 1) := by decide +kernel
theorem dX0_begin_17 : decode cX0_begin 17 = .ok (.putfield 21, 3) := by decide +kernel
theorem dX0_begin_20 : decode cX0_begin 20 = .ok (.aload_n 0, 1) := by decide +kernel
theorem dX0_begin_21 : decode cX0_begin 21 = .ok (.iconst 0, 1) := by decide +kernel
theorem dX0_begin_22 : decode cX0_begin 22 = .ok (.putfield 24, 3) := by decide +kernel
theorem dX0_begin_25 : decode cX0_begin 25 = .ok (.aload_n 0, 1) := by decide +kernel
theorem dX0_begin_26 : decode cX0_begin 26 = .ok (.iload_n 1, 1) := by decide +kernel
theorem dX0_begin_27 : decode cX0_begin 27 = .ok (.putfield 27, 3) := by decide +kernel
theorem dX0_begin_30 : decode cX0_begin 30 = .ok (.return_, 1) := by decide +kernel
theorem dX0_take_0 : decode cX0_take 0 = .ok (.aload_n 0, 1) := by decide +kernel
theorem dX0_take_1 : decode cX0_take 1 = .ok (.dup, 1) := by decide +kernel
theorem dX0_take_2 : decode cX0_take 2 = .ok (.getfield 21, 3) := by decide +kernel
theorem dX0_take_5 : decode cX0_take 5 = .ok (.iconst 1, 1) := by decide +kernel
theorem dX0_take_6 : decode cX0_take 6 = .ok (.iadd, 1) := by decide +kernel
theorem dX0_take_7 : decode cX0_take 7 = .ok (.putfield 21, 3) := by decide +kernel
theorem dX0_take_10 : decode cX0_take 10 = .ok (.aload_n 0, 1) := by decide +kernel
theorem dX0_take_11 : decode cX0_take 11 = .ok (.dup, 1) := by decide +kernel
theorem dX0_take_12 : decode cX0_take 12 = .ok (.getfield 9, 3) := by decide +kernel
theorem dX0_take_15 : decode cX0_take 15 = .ok (.iload_n 2, 1) := by decide +kernel
theorem dX0_take_16 : decode cX0_take 16 = .ok (.iadd, 1) := by decide +kernel
theorem dX0_take_17 : decode cX0_take 17 = .ok (.putfield 9, 3) := by decide +kernel
theorem dX0_take_20 : decode cX0_take 20 = .ok (.iload_n 1, 1) := by decide +kernel
theorem dX0_take_21 : decode cX0_take 21 = .ok (.ifCond .ne 13, 3) := by decide +kernel
theorem dX0_take_24 : decode cX0_take 24 = .ok (.aload_n 0, 1) := by decide +kernel
theorem dX0_take_25 : decode cX0_take 25 = .ok (.dup, 1) := by decide +kernel
theorem dX0_take_26 : decode cX0_take 26 = .ok (.getfield 15, 3) := by decide +kernel
theorem dX0_take_29 : decode cX0_take 29 = .ok (.iconst 1, 1) := by decide +kernel
theorem dX0_take_30 : decode cX0_take 30 = .ok (.iadd, 1) := by decide +kernel
theorem dX0_take_31 : decode cX0_take 31 = .ok (.putfield 15, 3) := by decide +kernel
theorem dX0_take_34 : decode cX0_take 34 = .ok (.iload_n 1, 1) := by decide +kernel
theorem dX0_take_35 : decode cX0_take 35 = .ok (.iconst 3, 1) := by decide +kernel
theorem dX0_take_36 : decode cX0_take 36 = .ok (.if_icmp .ne 13, 3) := by decide +kernel
theorem dX0_take_39 : decode cX0_take 39 = .ok (.aload_n 0, 1) := by decide +kernel
theorem dX0_take_40 : decode cX0_take 40 = .ok (.dup, 1) := by decide +kernel
theorem dX0_take_41 : decode cX0_take 41 = .ok (.getfield 18, 3) := by decide +kernel
theorem dX0_take_44 : decode cX0_take 44 = .ok (.iconst 1, 1) := by decide +kernel
theorem dX0_take_45 : decode cX0_take 45 = .ok (.iadd, 1) := by decide +kernel
theorem dX0_take_46 : decode cX0_take 46 = .ok (.putfield 18, 3) := by decide +kernel
theorem dX0_take_49 : decode cX0_take 49 = .ok (.return_, 1) := by decide +kernel
theorem dX0_number_0 : decode cX0_number 0 = .ok (.iload_n 1, 1) := by decide +kernel
theorem dX0_number_1 : decode cX0_number 1 = .ok (.tableswitch 60 0 4 #[35, 40, 45, 50, 55], 35) := by decide +kernel
theorem dX0_number_36 : decode cX0_number 36 = .ok (.aload_n 0, 1) := by decide +kernel
theorem dX0_number_37 : decode cX0_number 37 = .ok (.getfield 9, 3) := by decide +kernel
theorem dX0_number_40 : decode cX0_number 40 = .ok (.ireturn, 1) := by decide +kernel
theorem dX0_number_41 : decode cX0_number 41 = .ok (.aload_n 0, 1) := by decide +kernel
theorem dX0_number_42 : decode cX0_number 42 = .ok (.getfield 15, 3) := by decide +kernel
theorem dX0_number_45 : decode cX0_number 45 = .ok (.ireturn, 1) := by decide +kernel
theorem dX0_number_46 : decode cX0_number 46 = .ok (.aload_n 0, 1) := by decide +kernel
theorem dX0_number_47 : decode cX0_number 47 = .ok (.getfield 30, 3) := by decide +kernel
theorem dX0_number_50 : decode cX0_number 50 = .ok (.ireturn, 1) := by decide +kernel
theorem dX0_number_51 : decode cX0_number 51 = .ok (.aload_n 0, 1) := by decide +kernel
theorem dX0_number_52 : decode cX0_number 52 = .ok (.getfield 27, 3) := by decide +kernel
theorem dX0_number_55 : decode cX0_number 55 = .ok (.ireturn, 1) := by decide +kernel
theorem dX0_number_56 : decode cX0_number 56 = .ok (.aload_n 0, 1) := by decide +kernel
theorem dX0_number_57 : decode cX0_number 57 = .ok (.getfield 21, 3) := by decide +kernel
theorem dX0_number_60 : decode cX0_number 60 = .ok (.ireturn, 1) := by decide +kernel
theorem dX0_number_61 : decode cX0_number 61 = .ok (.aload_n 0, 1) := by decide +kernel
theorem dX0_number_62 : decode cX0_number 62 = .ok (.getfield 24, 3) := by decide +kernel
theorem dX0_number_65 : decode cX0_number 65 = .ok (.ireturn, 1) := by decide +kernel
theorem dX1_init_0 : decode cX1_init 0 = .ok (.aload_n 0, 1) := by decide +kernel
theorem dX1_init_1 : decode cX1_init 1 = .ok (.invokespecial 3, 3) := by decide +kernel
theorem dX1_init_4 : decode cX1_init 4 = .ok (.aload_n 0, 1) := by decide +kernel
theorem dX1_init_5 : decode cX1_init 5 = .ok (.bipush 80, 2) := by decide +kernel
theorem dX1_init_7 : decode cX1_init 7 = .ok (.newarray .int, 2) := by decide +kernel
theorem dX1_init_9 : decode cX1_init 9 = .ok (.putfield 9, 3) := by decide +kernel
theorem dX1_init_12 : decode cX1_init 12 = .ok (.aload_n 0, 1) := by decide +kernel
theorem dX1_init_13 : decode cX1_init 13 = .ok (.bipush 80, 2) := by decide +kernel
theorem dX1_init_15 : decode cX1_init 15 = .ok (.newarray .int, 2) := by decide +kernel
theorem dX1_init_17 : decode cX1_init 17 = .ok (.putfield 15, 3) := by decide +kernel
theorem dX1_init_20 : decode cX1_init 20 = .ok (.return_, 1) := by decide +kernel
theorem dX1_size_0 : decode cX1_size 0 = .ok (.aload_n 0, 1) := by decide +kernel
theorem dX1_size_1 : decode cX1_size 1 = .ok (.getfield 18, 3) := by decide +kernel
theorem dX1_size_4 : decode cX1_size 4 = .ok (.aload_n 0, 1) := by decide +kernel
theorem dX1_size_5 : decode cX1_size 5 = .ok (.getfield 22, 3) := by decide +kernel
theorem dX1_size_8 : decode cX1_size 8 = .ok (.isub, 1) := by decide +kernel
theorem dX1_size_9 : decode cX1_size 9 = .ok (.ireturn, 1) := by decide +kernel
theorem dX1_kindOf_0 : decode cX1_kindOf 0 = .ok (.aload_n 0, 1) := by decide +kernel
theorem dX1_kindOf_1 : decode cX1_kindOf 1 = .ok (.getfield 22, 3) := by decide +kernel
theorem dX1_kindOf_4 : decode cX1_kindOf 4 = .ok (.iload_n 1, 1) := by decide +kernel
theorem dX1_kindOf_5 : decode cX1_kindOf 5 = .ok (.iadd, 1) := by decide +kernel
theorem dX1_kindOf_6 : decode cX1_kindOf 6 = .ok (.istore_n 2, 1) := by decide +kernel
theorem dX1_kindOf_7 : decode cX1_kindOf 7 = .ok (.iload_n 2, 1) := by decide +kernel
theorem dX1_kindOf_8 : decode cX1_kindOf 8 = .ok (.ifCond .lt 21, 3) := by decide +kernel
theorem dX1_kindOf_11 : decode cX1_kindOf 11 = .ok (.iload_n 2, 1) := by decide +kernel
theorem dX1_kindOf_12 : decode cX1_kindOf 12 = .ok (.aload_n 0, 1) := by decide +kernel
theorem dX1_kindOf_13 : decode cX1_kindOf 13 = .ok (.getfield 9, 3) := by decide +kernel
theorem dX1_kindOf_16 : decode cX1_kindOf 16 = .ok (.arraylength, 1) := by decide +kernel
theorem dX1_kindOf_17 : decode cX1_kindOf 17 = .ok (.if_icmp .ge 12, 3) := by decide +kernel
theorem dX1_kindOf_20 : decode cX1_kindOf 20 = .ok (.aload_n 0, 1) := by decide +kernel
theorem dX1_kindOf_21 : decode cX1_kindOf 21 = .ok (.getfield 9, 3) := by decide +kernel
theorem dX1_kindOf_24 : decode cX1_kindOf 24 = .ok (.iload_n 2, 1) := by decide +kernel
theorem dX1_kindOf_25 : decode cX1_kindOf 25 = .ok (.iaload, 1) := by decide +kernel
theorem dX1_kindOf_26 : decode cX1_kindOf 26 = .ok (.goto 4, 3) := by decide +kernel
theorem dX1_kindOf_29 : decode cX1_kindOf 29 = .ok (.iconst (-1), 1) := by decide +kernel
theorem dX1_kindOf_30 : decode cX1_kindOf 30 = .ok (.ireturn, 1) := by decide +kernel
theorem dX1_lengthOf_0 : decode cX1_lengthOf 0 = .ok (.aload_n 0, 1) := by decide +kernel
theorem dX1_lengthOf_1 : decode cX1_lengthOf 1 = .ok (.getfield 22, 3) := by decide +kernel
theorem dX1_lengthOf_4 : decode cX1_lengthOf 4 = .ok (.iload_n 1, 1) := by decide +kernel
theorem dX1_lengthOf_5 : decode cX1_lengthOf 5 = .ok (.iadd, 1) := by decide +kernel
theorem dX1_lengthOf_6 : decode cX1_lengthOf 6 = .ok (.istore_n 2, 1) := by decide +kernel
theorem dX1_lengthOf_7 : decode cX1_lengthOf 7 = .ok (.iload_n 2, 1) := by decide +kernel
theorem dX1_lengthOf_8 : decode cX1_lengthOf 8 = .ok (.ifCond .lt 21, 3) := by decide +kernel
theorem dX1_lengthOf_11 : decode cX1_lengthOf 11 = .ok (.iload_n 2, 1) := by decide +kernel
theorem dX1_lengthOf_12 : decode cX1_lengthOf 12 = .ok (.aload_n 0, 1) := by decide +kernel
theorem dX1_lengthOf_13 : decode cX1_lengthOf 13 = .ok (.getfield 15, 3) := by decide +kernel
theorem dX1_lengthOf_16 : decode cX1_lengthOf 16 = .ok (.arraylength, 1) := by decide +kernel
theorem dX1_lengthOf_17 : decode cX1_lengthOf 17 = .ok (.if_icmp .ge 12, 3) := by decide +kernel
theorem dX1_lengthOf_20 : decode cX1_lengthOf 20 = .ok (.aload_n 0, 1) := by decide +kernel
theorem dX1_lengthOf_21 : decode cX1_lengthOf 21 = .ok (.getfield 15, 3) := by decide +kernel
theorem dX1_lengthOf_24 : decode cX1_lengthOf 24 = .ok (.iload_n 2, 1) := by decide +kernel
theorem dX1_lengthOf_25 : decode cX1_lengthOf 25 = .ok (.iaload, 1) := by decide +kernel
theorem dX1_lengthOf_26 : decode cX1_lengthOf 26 = .ok (.goto 4, 3) := by decide +kernel
theorem dX1_lengthOf_29 : decode cX1_lengthOf 29 = .ok (.iconst 0, 1) := by decide +kernel
theorem dX1_lengthOf_30 : decode cX1_lengthOf 30 = .ok (.ireturn, 1) := by decide +kernel
set_option maxRecDepth 20000 in
theorem ggX1_lengthAhead_X1_lengthOf : GoodIn wsX1_lengthAhead wsX1_lengthOf := goodIn_r _ [5, 6, 7, 8, 9, 10, 11] (by decide +kernel) (by decide +kernel)
set_option maxRecDepth 20000 in
theorem gX1_lengthAhead_X1_lengthOf : GoodIn wsX1_lengthAhead (wsV RX1 25 RX1 yX1_lengthOf wsX1_lengthOf) := goodIn_app (goodIn_of _ (by decide +kernel)) ggX1_lengthAhead_X1_lengthOf
theorem dX1_lengthAhead_0 : decode cX1_lengthAhead 0 = .ok (.iconst 0, 1) := by decide +kernel
theorem dX1_lengthAhead_1 : decode cX1_lengthAhead 1 = .ok (.istore_n 2, 1) := by decide +kernel
theorem dX1_lengthAhead_2 : decode cX1_lengthAhead 2 = .ok (.iconst 0, 1) := by decide +kernel
theorem dX1_lengthAhead_3 : decode cX1_lengthAhead 3 = .ok (.istore_n 3, 1) := by decide +kernel
theorem dX1_lengthAhead_4 : decode cX1_lengthAhead 4 = .ok (.iload_n 3, 1) := by decide +kernel
theorem dX1_lengthAhead_5 : decode cX1_lengthAhead 5 = .ok (.iload_n 1, 1) := by decide +kernel
theorem dX1_lengthAhead_6 : decode cX1_lengthAhead 6 = .ok (.if_icmp .ge 17, 3) := by decide +kernel
theorem dX1_lengthAhead_9 : decode cX1_lengthAhead 9 = .ok (.iload_n 2, 1) := by decide +kernel
theorem dX1_lengthAhead_10 : decode cX1_lengthAhead 10 = .ok (.aload_n 0, 1) := by decide +kernel
theorem dX1_lengthAhead_11 : decode cX1_lengthAhead 11 = .ok (.iload_n 3, 1) := by decide +kernel
theorem dX1_lengthAhead_12 : decode cX1_lengthAhead 12 = .ok (.invokevirtual 25, 3) := by decide +kernel
theorem dX1_lengthAhead_15 : decode cX1_lengthAhead 15 = .ok (.iadd, 1) := by decide +kernel
theorem dX1_lengthAhead_16 : decode cX1_lengthAhead 16 = .ok (.istore_n 2, 1) := by decide +kernel
theorem dX1_lengthAhead_17 : decode cX1_lengthAhead 17 = .ok (.iinc 3 1, 3) := by decide +kernel
theorem dX1_lengthAhead_20 : decode cX1_lengthAhead 20 = .ok (.goto (-16), 3) := by decide +kernel
theorem dX1_lengthAhead_23 : decode cX1_lengthAhead 23 = .ok (.iload_n 2, 1) := by decide +kernel
theorem dX1_lengthAhead_24 : decode cX1_lengthAhead 24 = .ok (.ireturn, 1) := by decide +kernel
set_option maxRecDepth 20000 in
theorem ggX1_labels_X1_size : GoodIn wsX1_labels wsX1_size := goodIn_r _ [5, 6, 7, 13, 14, 15, 16] (by decide +kernel) (by decide +kernel)
set_option maxRecDepth 20000 in
theorem gX1_labels_X1_size : GoodIn wsX1_labels (wsV RX1 29 RX1 yX1_size wsX1_size) := goodIn_app (goodIn_of _ (by decide +kernel)) ggX1_labels_X1_size
set_option maxRecDepth 20000 in
theorem ggX1_labels_X1_kindOf : GoodIn wsX1_labels wsX1_kindOf := goodIn_r _ [11, 7, 12, 13, 14, 15, 16] (by decide +kernel) (by decide +kernel)
set_option maxRecDepth 20000 in
theorem gX1_labels_X1_kindOf : GoodIn wsX1_labels (wsV RX1 33 RX1 yX1_kindOf wsX1_kindOf) := goodIn_app (goodIn_of _ (by decide +kernel)) ggX1_labels_X1_kindOf
theorem dX1_labels_0 : decode cX1_labels 0 = .ok (.iconst 0, 1) := by decide +kernel
theorem dX1_labels_1 : decode cX1_labels 1 = .ok (.istore_n 1, 1) := by decide +kernel
theorem dX1_labels_2 : decode cX1_labels 2 = .ok (.iconst 0, 1) := by decide +kernel
theorem dX1_labels_3 : decode cX1_labels 3 = .ok (.istore_n 2, 1) := by decide +kernel
theorem dX1_labels_4 : decode cX1_labels 4 = .ok (.iload_n 2, 1) := by decide +kernel
theorem dX1_labels_5 : decode cX1_labels 5 = .ok (.aload_n 0, 1) := by decide +kernel
theorem dX1_labels_6 : decode cX1_labels 6 = .ok (.invokevirtual 29, 3) := by decide +kernel
theorem dX1_labels_9 : decode cX1_labels 9 = .ok (.if_icmp .ge 20, 3) := by decide +kernel
theorem dX1_labels_12 : decode cX1_labels 12 = .ok (.aload_n 0, 1) := by decide +kernel
theorem dX1_labels_13 : decode cX1_labels 13 = .ok (.iload_n 2, 1) := by decide +kernel
theorem dX1_labels_14 : decode cX1_labels 14 = .ok (.invokevirtual 33, 3) := by decide +kernel
theorem dX1_labels_17 : decode cX1_labels 17 = .ok (.ifCond .ne 6, 3) := by decide +kernel
theorem dX1_labels_20 : decode cX1_labels 20 = .ok (.iinc 1 1, 3) := by decide +kernel
theorem dX1_labels_23 : decode cX1_labels 23 = .ok (.iinc 2 1, 3) := by decide +kernel
theorem dX1_labels_26 : decode cX1_labels 26 = .ok (.goto (-22), 3) := by decide +kernel
theorem dX1_labels_29 : decode cX1_labels 29 = .ok (.iload_n 1, 1) := by decide +kernel
theorem dX1_labels_30 : decode cX1_labels 30 = .ok (.ireturn, 1) := by decide +kernel
theorem dX1_removeAll_0 : decode cX1_removeAll 0 = .ok (.aload_n 0, 1) := by decide +kernel
theorem dX1_removeAll_1 : decode cX1_removeAll 1 = .ok (.iconst 0, 1) := by decide +kernel
theorem dX1_removeAll_2 : decode cX1_removeAll 2 = .ok (.putfield 22, 3) := by decide +kernel
theorem dX1_removeAll_5 : decode cX1_removeAll 5 = .ok (.aload_n 0, 1) := by decide +kernel
theorem dX1_removeAll_6 : decode cX1_removeAll 6 = .ok (.iconst 0, 1) := by decide +kernel
theorem dX1_removeAll_7 : decode cX1_removeAll 7 = .ok (.putfield 18, 3) := by decide +kernel
theorem dX1_removeAll_10 : decode cX1_removeAll 10 = .ok (.return_, 1) := by decide +kernel
theorem dX1_removeFirst_0 : decode cX1_removeFirst 0 = .ok (.aload_n 0, 1) := by decide +kernel
theorem dX1_removeFirst_1 : decode cX1_removeFirst 1 = .ok (.dup, 1) := by decide +kernel
theorem dX1_removeFirst_2 : decode cX1_removeFirst 2 = .ok (.getfield 22, 3) := by decide +kernel
theorem dX1_removeFirst_5 : decode cX1_removeFirst 5 = .ok (.iload_n 1, 1) := by decide +kernel
theorem dX1_removeFirst_6 : decode cX1_removeFirst 6 = .ok (.iadd, 1) := by decide +kernel
theorem dX1_removeFirst_7 : decode cX1_removeFirst 7 = .ok (.putfield 22, 3) := by decide +kernel
theorem dX1_removeFirst_10 : decode cX1_removeFirst 10 = .ok (.return_, 1) := by decide +kernel
theorem dX1_append_0 : decode cX1_append 0 = .ok (.aload_n 0, 1) := by decide +kernel
theorem dX1_append_1 : decode cX1_append 1 = .ok (.getfield 18, 3) := by decide +kernel
theorem dX1_append_4 : decode cX1_append 4 = .ok (.ifCond .lt 27, 3) := by decide +kernel
theorem dX1_append_7 : decode cX1_append 7 = .ok (.aload_n 0, 1) := by decide +kernel
theorem dX1_append_8 : decode cX1_append 8 = .ok (.getfield 18, 3) := by decide +kernel
theorem dX1_append_11 : decode cX1_append 11 = .ok (.aload_n 0, 1) := by decide +kernel
theorem dX1_append_12 : decode cX1_append 12 = .ok (.getfield 9, 3) := by decide +kernel
theorem dX1_append_15 : decode cX1_append 15 = .ok (.arraylength, 1) := by decide +kernel
theorem dX1_append_16 : decode cX1_append 16 = .ok (.if_icmp .ge 15, 3) := by decide +kernel
theorem dX1_append_19 : decode cX1_append 19 = .ok (.aload_n 0, 1) := by decide +kernel
theorem dX1_append_20 : decode cX1_append 20 = .ok (.getfield 18, 3) := by decide +kernel
theorem dX1_append_23 : decode cX1_append 23 = .ok (.aload_n 0, 1) := by decide +kernel
theorem dX1_append_24 : decode cX1_append 24 = .ok (.getfield 15, 3) := by decide +kernel
theorem dX1_append_27 : decode cX1_append 27 = .ok (.arraylength, 1) := by decide +kernel
theorem dX1_append_28 : decode cX1_append 28 = .ok (.if_icmp .lt 5, 3) := by decide +kernel
theorem dX1_append_31 : decode cX1_append 31 = .ok (.iconst 0, 1) := by decide +kernel
theorem dX1_append_32 : decode cX1_append 32 = .ok (.ireturn, 1) := by decide +kernel
theorem dX1_append_33 : decode cX1_append 33 = .ok (.aload_n 0, 1) := by decide +kernel
theorem dX1_append_34 : decode cX1_append 34 = .ok (.getfield 9, 3) := by decide +kernel
theorem dX1_append_37 : decode cX1_append 37 = .ok (.aload_n 0, 1) := by decide +kernel
theorem dX1_append_38 : decode cX1_append 38 = .ok (.getfield 18, 3) := by decide +kernel
theorem dX1_append_41 : decode cX1_append 41 = .ok (.iload_n 1, 1) := by decide +kernel
theorem dX1_append_42 : decode cX1_append 42 = .ok (.iastore, 1) := by decide +kernel
theorem dX1_append_43 : decode cX1_append 43 = .ok (.aload_n 0, 1) := by decide +kernel
theorem dX1_append_44 : decode cX1_append 44 = .ok (.getfield 15, 3) := by decide +kernel
theorem dX1_append_47 : decode cX1_append 47 = .ok (.aload_n 0, 1) := by decide +kernel
theorem dX1_append_48 : decode cX1_append 48 = .ok (.getfield 18, 3) := by decide +kernel
theorem dX1_append_51 : decode cX1_append 51 = .ok (.iload_n 2, 1) := by decide +kernel
theorem dX1_append_52 : decode cX1_append 52 = .ok (.iastore, 1) := by decide +kernel
theorem dX1_append_53 : decode cX1_append 53 = .ok (.aload_n 0, 1) := by decide +kernel
theorem dX1_append_54 : decode cX1_append 54 = .ok (.dup, 1) := by decide +kernel
theorem dX1_append_55 : decode cX1_append 55 = .ok (.getfield 18, 3) := by decide +kernel
theorem dX1_append_58 : decode cX1_append 58 = .ok (.iconst 1, 1) := by decide +kernel
theorem dX1_append_59 : decode cX1_append 59 = .ok (.iadd, 1) := by decide +kernel
theorem dX1_append_60 : decode cX1_append 60 = .ok (.putfield 18, 3) := by decide +kernel
theorem dX1_append_63 : decode cX1_append 63 = .ok (.iconst 1, 1) := by decide +kernel
theorem dX1_append_64 : decode cX1_append 64 = .ok (.ireturn, 1) := by decide +kernel
set_option maxRecDepth 20000 in
theorem ggX1_appendAll_X1_closeUp : GoodIn wsX1_appendAll wsX1_closeUp := goodIn_r _ [5, 6, 7, 8, 9, 4, 10, 11, 12, 13, 14, 15, 16, 17, 18, 19, 20, 21, 22, 23, 24, 25, 26, 27, 28, 29, 30, 31, 32, 33] (by decide +kernel) (by decide +kernel)
set_option maxRecDepth 20000 in
theorem gX1_appendAll_X1_closeUp : GoodIn wsX1_appendAll (wsV RX1 36 RX1 yX1_closeUp wsX1_closeUp) := goodIn_app (goodIn_of _ (by decide +kernel)) ggX1_appendAll_X1_closeUp
set_option maxRecDepth 20000 in
theorem ggX1_appendAll_X1_size : GoodIn wsX1_appendAll wsX1_size := goodIn_r _ [10, 11, 6, 30, 31, 32, 33] (by decide +kernel) (by decide +kernel)
set_option maxRecDepth 20000 in
theorem gX1_appendAll_X1_size : GoodIn wsX1_appendAll (wsV RX1 29 RX1 yX1_size wsX1_size) := goodIn_app (goodIn_of _ (by decide +kernel)) ggX1_appendAll_X1_size
set_option maxRecDepth 20000 in
theorem ggX1_appendAll_X1_kindOf : GoodIn wsX1_appendAll wsX1_kindOf := goodIn_r _ [19, 6, 20, 30, 31, 32, 33] (by decide +kernel) (by decide +kernel)
set_option maxRecDepth 20000 in
theorem gX1_appendAll_X1_kindOf : GoodIn wsX1_appendAll (wsV RX1 33 RX1 yX1_kindOf wsX1_kindOf) := goodIn_app (goodIn_of _ (by decide +kernel)) ggX1_appendAll_X1_kindOf
set_option maxRecDepth 20000 in
theorem ggX1_appendAll_X1_lengthOf : GoodIn wsX1_appendAll wsX1_lengthOf := goodIn_r _ [24, 6, 25, 30, 31, 32, 33] (by decide +kernel) (by decide +kernel)
set_option maxRecDepth 20000 in
theorem gX1_appendAll_X1_lengthOf : GoodIn wsX1_appendAll (wsV RX1 25 RX1 yX1_lengthOf wsX1_lengthOf) := goodIn_app (goodIn_of _ (by decide +kernel)) ggX1_appendAll_X1_lengthOf
set_option maxRecDepth 20000 in
theorem ggX1_appendAll_X1_append : GoodIn wsX1_appendAll wsX1_append := goodIn_r _ [29, 11, 20, 25, 30, 31, 32, 33] (by decide +kernel) (by decide +kernel)
set_option maxRecDepth 20000 in
theorem gX1_appendAll_X1_append : GoodIn wsX1_appendAll (wsV RX1 39 RX1 yX1_append wsX1_append) := goodIn_app (goodIn_of _ (by decide +kernel)) ggX1_appendAll_X1_append
theorem dX1_appendAll_0 : decode cX1_appendAll 0 = .ok (.aload_n 0, 1) := by decide +kernel
theorem dX1_appendAll_1 : decode cX1_appendAll 1 = .ok (.invokevirtual 36, 3) := by decide +kernel
theorem dX1_appendAll_4 : decode cX1_appendAll 4 = .ok (.iconst 0, 1) := by decide +kernel
theorem dX1_appendAll_5 : decode cX1_appendAll 5 = .ok (.istore_n 2, 1) := by decide +kernel
theorem dX1_appendAll_6 : decode cX1_appendAll 6 = .ok (.iload_n 2, 1) := by decide +kernel
theorem dX1_appendAll_7 : decode cX1_appendAll 7 = .ok (.aload_n 1, 1) := by decide +kernel
theorem dX1_appendAll_8 : decode cX1_appendAll 8 = .ok (.invokevirtual 29, 3) := by decide +kernel
theorem dX1_appendAll_11 : decode cX1_appendAll 11 = .ok (.if_icmp .ge 24, 3) := by decide +kernel
theorem dX1_appendAll_14 : decode cX1_appendAll 14 = .ok (.aload_n 0, 1) := by decide +kernel
theorem dX1_appendAll_15 : decode cX1_appendAll 15 = .ok (.aload_n 1, 1) := by decide +kernel
theorem dX1_appendAll_16 : decode cX1_appendAll 16 = .ok (.iload_n 2, 1) := by decide +kernel
theorem dX1_appendAll_17 : decode cX1_appendAll 17 = .ok (.invokevirtual 33, 3) := by decide +kernel
theorem dX1_appendAll_20 : decode cX1_appendAll 20 = .ok (.aload_n 1, 1) := by decide +kernel
theorem dX1_appendAll_21 : decode cX1_appendAll 21 = .ok (.iload_n 2, 1) := by decide +kernel
theorem dX1_appendAll_22 : decode cX1_appendAll 22 = .ok (.invokevirtual 25, 3) := by decide +kernel
theorem dX1_appendAll_25 : decode cX1_appendAll 25 = .ok (.invokevirtual 39, 3) := by decide +kernel
theorem dX1_appendAll_28 : decode cX1_appendAll 28 = .ok (.pop, 1) := by decide +kernel
theorem dX1_appendAll_29 : decode cX1_appendAll 29 = .ok (.iinc 2 1, 3) := by decide +kernel
theorem dX1_appendAll_32 : decode cX1_appendAll 32 = .ok (.goto (-26), 3) := by decide +kernel
theorem dX1_appendAll_35 : decode cX1_appendAll 35 = .ok (.return_, 1) := by decide +kernel
set_option maxRecDepth 20000 in
theorem ggX1_closeUp_X1_size : GoodIn wsX1_closeUp wsX1_size := goodIn_r _ [6, 7, 1, 26, 27, 28, 29] (by decide +kernel) (by decide +kernel)
set_option maxRecDepth 20000 in
theorem gX1_closeUp_X1_size : GoodIn wsX1_closeUp (wsV RX1 29 RX1 yX1_size wsX1_size) := goodIn_app (goodIn_of _ (by decide +kernel)) ggX1_closeUp_X1_size
set_option maxRecDepth 20000 in
theorem ggX1_closeUp_X1_removeAll : GoodIn wsX1_closeUp wsX1_removeAll := goodIn_r _ [11, 1, 7, 26, 27, 28, 29] (by decide +kernel) (by decide +kernel)
set_option maxRecDepth 20000 in
theorem gX1_closeUp_X1_removeAll : GoodIn wsX1_closeUp (wsV RX1 43 RX1 yX1_removeAll wsX1_removeAll) := goodIn_app (goodIn_of _ (by decide +kernel)) ggX1_closeUp_X1_removeAll
set_option maxRecDepth 20000 in
theorem ggX1_closeUp_X1_kindOf : GoodIn wsX1_closeUp wsX1_kindOf := goodIn_r _ [15, 1, 16, 26, 27, 28, 29] (by decide +kernel) (by decide +kernel)
set_option maxRecDepth 20000 in
theorem gX1_closeUp_X1_kindOf : GoodIn wsX1_closeUp (wsV RX1 33 RX1 yX1_kindOf wsX1_kindOf) := goodIn_app (goodIn_of _ (by decide +kernel)) ggX1_closeUp_X1_kindOf
set_option maxRecDepth 20000 in
theorem ggX1_closeUp_X1_lengthOf : GoodIn wsX1_closeUp wsX1_lengthOf := goodIn_r _ [20, 1, 21, 26, 27, 28, 29] (by decide +kernel) (by decide +kernel)
set_option maxRecDepth 20000 in
theorem gX1_closeUp_X1_lengthOf : GoodIn wsX1_closeUp (wsV RX1 25 RX1 yX1_lengthOf wsX1_lengthOf) := goodIn_app (goodIn_of _ (by decide +kernel)) ggX1_closeUp_X1_lengthOf
set_option maxRecDepth 20000 in
theorem ggX1_closeUp_X1_append : GoodIn wsX1_closeUp wsX1_append := goodIn_r _ [25, 7, 16, 21, 26, 27, 28, 29] (by decide +kernel) (by decide +kernel)
set_option maxRecDepth 20000 in
theorem gX1_closeUp_X1_append : GoodIn wsX1_closeUp (wsV RX1 39 RX1 yX1_append wsX1_append) := goodIn_app (goodIn_of _ (by decide +kernel)) ggX1_closeUp_X1_append
theorem dX1_closeUp_0 : decode cX1_closeUp 0 = .ok (.aload_n 0, 1) := by decide +kernel
theorem dX1_closeUp_1 : decode cX1_closeUp 1 = .ok (.getfield 22, 3) := by decide +kernel
theorem dX1_closeUp_4 : decode cX1_closeUp 4 = .ok (.istore_n 1, 1) := by decide +kernel
theorem dX1_closeUp_5 : decode cX1_closeUp 5 = .ok (.aload_n 0, 1) := by decide +kernel
theorem dX1_closeUp_6 : decode cX1_closeUp 6 = .ok (.invokevirtual 29, 3) := by decide +kernel
theorem dX1_closeUp_9 : decode cX1_closeUp 9 = .ok (.istore_n 2, 1) := by decide +kernel
theorem dX1_closeUp_10 : decode cX1_closeUp 10 = .ok (.aload_n 0, 1) := by decide +kernel
theorem dX1_closeUp_11 : decode cX1_closeUp 11 = .ok (.invokevirtual 43, 3) := by decide +kernel
theorem dX1_closeUp_14 : decode cX1_closeUp 14 = .ok (.iconst 0, 1) := by decide +kernel
theorem dX1_closeUp_15 : decode cX1_closeUp 15 = .ok (.istore_n 3, 1) := by decide +kernel
theorem dX1_closeUp_16 : decode cX1_closeUp 16 = .ok (.iload_n 3, 1) := by decide +kernel
theorem dX1_closeUp_17 : decode cX1_closeUp 17 = .ok (.iload_n 2, 1) := by decide +kernel
theorem dX1_closeUp_18 : decode cX1_closeUp 18 = .ok (.if_icmp .ge 28, 3) := by decide +kernel
theorem dX1_closeUp_21 : decode cX1_closeUp 21 = .ok (.aload_n 0, 1) := by decide +kernel
theorem dX1_closeUp_22 : decode cX1_closeUp 22 = .ok (.aload_n 0, 1) := by decide +kernel
theorem dX1_closeUp_23 : decode cX1_closeUp 23 = .ok (.iload_n 1, 1) := by decide +kernel
theorem dX1_closeUp_24 : decode cX1_closeUp 24 = .ok (.iload_n 3, 1) := by decide +kernel
theorem dX1_closeUp_25 : decode cX1_closeUp 25 = .ok (.iadd, 1) := by decide +kernel
theorem dX1_closeUp_26 : decode cX1_closeUp 26 = .ok (.invokevirtual 33, 3) := by decide +kernel
theorem dX1_closeUp_29 : decode cX1_closeUp 29 = .ok (.aload_n 0, 1) := by decide +kernel
theorem dX1_closeUp_30 : decode cX1_closeUp 30 = .ok (.iload_n 1, 1) := by decide +kernel
theorem dX1_closeUp_31 : decode cX1_closeUp 31 = .ok (.iload_n 3, 1) := by decide +kernel
theorem dX1_closeUp_32 : decode cX1_closeUp 32 = .ok (.iadd, 1) := by decide +kernel
theorem dX1_closeUp_33 : decode cX1_closeUp 33 = .ok (.invokevirtual 25, 3) := by decide +kernel
theorem dX1_closeUp_36 : decode cX1_closeUp 36 = .ok (.invokevirtual 39, 3) := by decide +kernel
theorem dX1_closeUp_39 : decode cX1_closeUp 39 = .ok (.pop, 1) := by decide +kernel
theorem dX1_closeUp_40 : decode cX1_closeUp 40 = .ok (.iinc 3 1, 3) := by decide +kernel
theorem dX1_closeUp_43 : decode cX1_closeUp 43 = .ok (.goto (-27), 3) := by decide +kernel
theorem dX1_closeUp_46 : decode cX1_closeUp 46 = .ok (.return_, 1) := by decide +kernel
set_option maxRecDepth 20000 in
theorem ggX2_init_X1_init : GoodIn wsX2_init wsX1_init := goodIn_r _ [26, 27, 2, 3, 20, 28, 29, 48, 49, 50, 51] (by decide +kernel) (by decide +kernel)
set_option maxRecDepth 20000 in
theorem gX2_init_X1_init : GoodIn wsX2_init (wsX1_init) := ggX2_init_X1_init
set_option maxRecDepth 20000 in
theorem ggX2_init_X5_init : GoodIn wsX2_init wsX5_init := goodIn_r _ [32, 33, 2, 3, 20, 34, 68] (by decide +kernel) (by decide +kernel)
set_option maxRecDepth 20000 in
theorem gX2_init_X5_init : GoodIn wsX2_init (wsX5_init) := ggX2_init_X5_init
set_option maxRecDepth 20000 in
theorem ggX2_init_X4_init : GoodIn wsX2_init wsX4_init := goodIn_r _ [37, 38, 2, 3, 20, 39, 40, 41, 42, 14, 43, 44, 69, 70] (by decide +kernel) (by decide +kernel)
set_option maxRecDepth 20000 in
theorem gX2_init_X4_init : GoodIn wsX2_init (wsX4_init) := ggX2_init_X4_init
set_option maxRecDepth 20000 in
theorem ggX2_init_X0_init : GoodIn wsX2_init wsX0_init := goodIn_r _ [46, 47, 2, 3] (by decide +kernel) (by decide +kernel)
set_option maxRecDepth 20000 in
theorem gX2_init_X0_init_n34 : GoodIn wsX2_init (wsX0_init) := ggX2_init_X0_init
theorem dX2_init_0 : decode cX2_init 0 = .ok (.aload_n 0, 1) := by decide +kernel
theorem dX2_init_1 : decode cX2_init 1 = .ok (.invokespecial 3, 3) := by decide +kernel
theorem dX2_init_4 : decode cX2_init 4 = .ok (.aload_n 0, 1) := by decide +kernel
theorem dX2_init_5 : decode cX2_init 5 = .ok (.new 9, 3) := by decide +kernel
theorem dX2_init_8 : decode cX2_init 8 = .ok (.dup, 1) := by decide +kernel
theorem dX2_init_9 : decode cX2_init 9 = .ok (.invokespecial 11, 3) := by decide +kernel
theorem dX2_init_12 : decode cX2_init 12 = .ok (.putfield 12, 3) := by decide +kernel
theorem dX2_init_15 : decode cX2_init 15 = .ok (.aload_n 0, 1) := by decide +kernel
theorem dX2_init_16 : decode cX2_init 16 = .ok (.new 18, 3) := by decide +kernel
theorem dX2_init_19 : decode cX2_init 19 = .ok (.dup, 1) := by decide +kernel
theorem dX2_init_20 : decode cX2_init 20 = .ok (.invokespecial 20, 3) := by decide +kernel
theorem dX2_init_23 : decode cX2_init 23 = .ok (.putfield 21, 3) := by decide +kernel
theorem dX2_init_26 : decode cX2_init 26 = .ok (.aload_n 0, 1) := by decide +kernel
theorem dX2_init_27 : decode cX2_init 27 = .ok (.new 25, 3) := by decide +kernel
theorem dX2_init_30 : decode cX2_init 30 = .ok (.dup, 1) := by decide +kernel
theorem dX2_init_31 : decode cX2_init 31 = .ok (.invokespecial 27, 3) := by decide +kernel
theorem dX2_init_34 : decode cX2_init 34 = .ok (.putfield 28, 3) := by decide +kernel
theorem dX2_init_37 : decode cX2_init 37 = .ok (.aload_n 0, 1) := by decide +kernel
theorem dX2_init_38 : decode cX2_init 38 = .ok (.new 32, 3) := by decide +kernel
theorem dX2_init_41 : decode cX2_init 41 = .ok (.dup, 1) := by decide +kernel
theorem dX2_init_42 : decode cX2_init 42 = .ok (.invokespecial 34, 3) := by decide +kernel
theorem dX2_init_45 : decode cX2_init 45 = .ok (.putfield 35, 3) := by decide +kernel
theorem dX2_init_48 : decode cX2_init 48 = .ok (.aload_n 0, 1) := by decide +kernel
theorem dX2_init_49 : decode cX2_init 49 = .ok (.bipush 8, 2) := by decide +kernel
theorem dX2_init_51 : decode cX2_init 51 = .ok (.newarray .int, 2) := by decide +kernel
theorem dX2_init_53 : decode cX2_init 53 = .ok (.putfield 39, 3) := by decide +kernel
theorem dX2_init_56 : decode cX2_init 56 = .ok (.aload_n 0, 1) := by decide +kernel
theorem dX2_init_57 : decode cX2_init 57 = .ok (.ldc 43, 2) := by decide +kernel
theorem dX2_init_59 : decode cX2_init 59 = .ok (.putfield 44, 3) := by decide +kernel
theorem dX2_init_62 : decode cX2_init 62 = .ok (.return_, 1) := by decide +kernel
theorem dX2_cameWith_0 : decode cX2_cameWith 0 = .ok (.iload_n 1, 1) := by decide +kernel
theorem dX2_cameWith_1 : decode cX2_cameWith 1 = .ok (.ifCond .lt 21, 3) := by decide +kernel
theorem dX2_cameWith_4 : decode cX2_cameWith 4 = .ok (.iload_n 1, 1) := by decide +kernel
theorem dX2_cameWith_5 : decode cX2_cameWith 5 = .ok (.aload_n 0, 1) := by decide +kernel
theorem dX2_cameWith_6 : decode cX2_cameWith 6 = .ok (.getfield 39, 3) := by decide +kernel
theorem dX2_cameWith_9 : decode cX2_cameWith 9 = .ok (.arraylength, 1) := by decide +kernel
theorem dX2_cameWith_10 : decode cX2_cameWith 10 = .ok (.if_icmp .ge 12, 3) := by decide +kernel
theorem dX2_cameWith_13 : decode cX2_cameWith 13 = .ok (.aload_n 0, 1) := by decide +kernel
theorem dX2_cameWith_14 : decode cX2_cameWith 14 = .ok (.getfield 39, 3) := by decide +kernel
theorem dX2_cameWith_17 : decode cX2_cameWith 17 = .ok (.iload_n 1, 1) := by decide +kernel
theorem dX2_cameWith_18 : decode cX2_cameWith 18 = .ok (.iaload, 1) := by decide +kernel
theorem dX2_cameWith_19 : decode cX2_cameWith 19 = .ok (.goto 4, 3) := by decide +kernel
theorem dX2_cameWith_22 : decode cX2_cameWith 22 = .ok (.iconst 0, 1) := by decide +kernel
theorem dX2_cameWith_23 : decode cX2_cameWith 23 = .ok (.ireturn, 1) := by decide +kernel
set_option maxRecDepth 20000 in
theorem ggX2_number_X2_cameWith : GoodIn wsX2_number wsX2_cameWith := goodIn_r _ [19, 20, 64, 65, 66, 67, 68, 69, 70, 71, 72, 73, 74, 75, 76, 77, 78, 79] (by decide +kernel) (by decide +kernel)
set_option maxRecDepth 20000 in
theorem gX2_number_X2_cameWith : GoodIn wsX2_number (wsV RX2 61 RX2 yX2_cameWith wsX2_cameWith) := goodIn_app (goodIn_of _ (by decide +kernel)) ggX2_number_X2_cameWith
set_option maxRecDepth 20000 in
theorem ggX2_number_X5_value : GoodIn wsX2_number wsX5_value := goodIn_r _ [25, 26, 82] (by decide +kernel) (by decide +kernel)
set_option maxRecDepth 20000 in
theorem gX2_number_X5_value : GoodIn wsX2_number (wsV RX2 97 RX5 yX5_value wsX5_value) := goodIn_app (goodIn_of _ (by decide +kernel)) ggX2_number_X5_value
set_option maxRecDepth 20000 in
theorem ggX2_number_X1_size : GoodIn wsX2_number wsX1_size := goodIn_r _ [31, 32, 33, 83, 84, 85, 86] (by decide +kernel) (by decide +kernel)
set_option maxRecDepth 20000 in
theorem gX2_number_X1_size : GoodIn wsX2_number (wsV RX2 100 RX1 yX1_size wsX1_size) := goodIn_app (goodIn_of _ (by decide +kernel)) ggX2_number_X1_size
set_option maxRecDepth 20000 in
theorem ggX2_number_X1_labels : GoodIn wsX2_number wsX1_labels := goodIn_r _ [37, 38, 28, 29, 30, 31, 32, 33, 39, 40, 41, 42, 43, 83, 84, 85, 86] (by decide +kernel) (by decide +kernel)
set_option maxRecDepth 20000 in
theorem gX2_number_X1_labels : GoodIn wsX2_number (wsV RX2 104 RX1 yX1_labels wsX1_labels) := goodIn_app (goodIn_of _ (by decide +kernel)) ggX2_number_X1_labels
set_option maxRecDepth 20000 in
theorem ggX2_number_X1_lengthAhead : GoodIn wsX2_number wsX1_lengthAhead := goodIn_r _ [47, 48, 49, 50, 30, 51, 33, 52, 83, 84, 85, 86] (by decide +kernel) (by decide +kernel)
set_option maxRecDepth 20000 in
theorem gX2_number_X1_lengthAhead : GoodIn wsX2_number (wsV RX2 107 RX1 yX1_lengthAhead wsX1_lengthAhead) := goodIn_app (goodIn_of _ (by decide +kernel)) ggX2_number_X1_lengthAhead
set_option maxRecDepth 20000 in
theorem ggX2_number_X4_products : GoodIn wsX2_number wsX4_products := goodIn_r _ [57, 58, 59, 60, 61, 56, 62, 63, 80, 81] (by decide +kernel) (by decide +kernel)
set_option maxRecDepth 20000 in
theorem gX2_number_X4_products : GoodIn wsX2_number (wsV RX2 113 RX4 yX4_products wsX4_products) := goodIn_app (goodIn_of _ (by decide +kernel)) ggX2_number_X4_products
theorem dX2_number_0 : decode cX2_number 0 = .ok (.iload_n 1, 1) := by decide +kernel
theorem dX2_number_1 : decode cX2_number 1 = .ok (.bipush 24, 2) := by decide +kernel
theorem dX2_number_3 : decode cX2_number 3 = .ok (.if_icmp .lt 12, 3) := by decide +kernel
theorem dX2_number_6 : decode cX2_number 6 = .ok (.aload_n 0, 1) := by decide +kernel
theorem dX2_number_7 : decode cX2_number 7 = .ok (.iload_n 1, 1) := by decide +kernel
theorem dX2_number_8 : decode cX2_number 8 = .ok (.bipush 24, 2) := by decide +kernel
theorem dX2_number_10 : decode cX2_number 10 = .ok (.isub, 1) := by decide +kernel
theorem dX2_number_11 : decode cX2_number 11 = .ok (.invokevirtual 61, 3) := by decide +kernel
theorem dX2_number_14 : decode cX2_number 14 = .ok (.ireturn, 1) := by decide +kernel
theorem dX2_number_15 : decode cX2_number 15 = .ok (.iload_n 1, 1) := by decide +kernel
theorem dX2_number_16 : decode cX2_number 16 = .ok (.bipush 15, 2) := by decide +kernel
theorem dX2_number_18 : decode cX2_number 18 = .ok (.if_icmp .lt 15, 3) := by decide +kernel
theorem dX2_number_21 : decode cX2_number 21 = .ok (.aload_n 0, 1) := by decide +kernel
theorem dX2_number_22 : decode cX2_number 22 = .ok (.getfield 21, 3) := by decide +kernel
theorem dX2_number_25 : decode cX2_number 25 = .ok (.iload_n 1, 1) := by decide +kernel
theorem dX2_number_26 : decode cX2_number 26 = .ok (.bipush 15, 2) := by decide +kernel
theorem dX2_number_28 : decode cX2_number 28 = .ok (.isub, 1) := by decide +kernel
theorem dX2_number_29 : decode cX2_number 29 = .ok (.invokevirtual 97, 3) := by decide +kernel
theorem dX2_number_32 : decode cX2_number 32 = .ok (.ireturn, 1) := by decide +kernel
theorem dX2_number_33 : decode cX2_number 33 = .ok (.iload_n 1, 1) := by decide +kernel
theorem dX2_number_34 : decode cX2_number 34 = .ok (.tableswitch 162 0 13 #[70, 78, 86, 101, 106, 114, 122, 127, 132, 137, 142, 147, 152, 157], 70) := by decide +kernel
theorem dX2_number_104 : decode cX2_number 104 = .ok (.aload_n 0, 1) := by decide +kernel
theorem dX2_number_105 : decode cX2_number 105 = .ok (.getfield 12, 3) := by decide +kernel
theorem dX2_number_108 : decode cX2_number 108 = .ok (.invokevirtual 100, 3) := by decide +kernel
theorem dX2_number_111 : decode cX2_number 111 = .ok (.ireturn, 1) := by decide +kernel
theorem dX2_number_112 : decode cX2_number 112 = .ok (.aload_n 0, 1) := by decide +kernel
theorem dX2_number_113 : decode cX2_number 113 = .ok (.getfield 12, 3) := by decide +kernel
theorem dX2_number_116 : decode cX2_number 116 = .ok (.invokevirtual 104, 3) := by decide +kernel
theorem dX2_number_119 : decode cX2_number 119 = .ok (.ireturn, 1) := by decide +kernel
theorem dX2_number_120 : decode cX2_number 120 = .ok (.aload_n 0, 1) := by decide +kernel
theorem dX2_number_121 : decode cX2_number 121 = .ok (.getfield 12, 3) := by decide +kernel
theorem dX2_number_124 : decode cX2_number 124 = .ok (.aload_n 0, 1) := by decide +kernel
theorem dX2_number_125 : decode cX2_number 125 = .ok (.getfield 12, 3) := by decide +kernel
theorem dX2_number_128 : decode cX2_number 128 = .ok (.invokevirtual 100, 3) := by decide +kernel
theorem dX2_number_131 : decode cX2_number 131 = .ok (.invokevirtual 107, 3) := by decide +kernel
theorem dX2_number_134 : decode cX2_number 134 = .ok (.ireturn, 1) := by decide +kernel
theorem dX2_number_135 : decode cX2_number 135 = .ok (.aload_n 0, 1) := by decide +kernel
theorem dX2_number_136 : decode cX2_number 136 = .ok (.getfield 65, 3) := by decide +kernel
theorem dX2_number_139 : decode cX2_number 139 = .ok (.ireturn, 1) := by decide +kernel
theorem dX2_number_140 : decode cX2_number 140 = .ok (.aload_n 0, 1) := by decide +kernel
theorem dX2_number_141 : decode cX2_number 141 = .ok (.getfield 28, 3) := by decide +kernel
theorem dX2_number_144 : decode cX2_number 144 = .ok (.getfield 110, 3) := by decide +kernel
theorem dX2_number_147 : decode cX2_number 147 = .ok (.ireturn, 1) := by decide +kernel
theorem dX2_number_148 : decode cX2_number 148 = .ok (.aload_n 0, 1) := by decide +kernel
theorem dX2_number_149 : decode cX2_number 149 = .ok (.getfield 28, 3) := by decide +kernel
theorem dX2_number_152 : decode cX2_number 152 = .ok (.invokevirtual 113, 3) := by decide +kernel
theorem dX2_number_155 : decode cX2_number 155 = .ok (.ireturn, 1) := by decide +kernel
theorem dX2_number_156 : decode cX2_number 156 = .ok (.aload_n 0, 1) := by decide +kernel
theorem dX2_number_157 : decode cX2_number 157 = .ok (.getfield 76, 3) := by decide +kernel
theorem dX2_number_160 : decode cX2_number 160 = .ok (.ireturn, 1) := by decide +kernel
theorem dX2_number_161 : decode cX2_number 161 = .ok (.aload_n 0, 1) := by decide +kernel
theorem dX2_number_162 : decode cX2_number 162 = .ok (.getfield 79, 3) := by decide +kernel
theorem dX2_number_165 : decode cX2_number 165 = .ok (.ireturn, 1) := by decide +kernel
theorem dX2_number_166 : decode cX2_number 166 = .ok (.aload_n 0, 1) := by decide +kernel
theorem dX2_number_167 : decode cX2_number 167 = .ok (.getfield 82, 3) := by decide +kernel
theorem dX2_number_170 : decode cX2_number 170 = .ok (.ireturn, 1) := by decide +kernel
theorem dX2_number_171 : decode cX2_number 171 = .ok (.aload_n 0, 1) := by decide +kernel
theorem dX2_number_172 : decode cX2_number 172 = .ok (.getfield 85, 3) := by decide +kernel
theorem dX2_number_175 : decode cX2_number 175 = .ok (.ireturn, 1) := by decide +kernel
theorem dX2_number_176 : decode cX2_number 176 = .ok (.aload_n 0, 1) := by decide +kernel
theorem dX2_number_177 : decode cX2_number 177 = .ok (.getfield 88, 3) := by decide +kernel
theorem dX2_number_180 : decode cX2_number 180 = .ok (.ireturn, 1) := by decide +kernel
theorem dX2_number_181 : decode cX2_number 181 = .ok (.aload_n 0, 1) := by decide +kernel
theorem dX2_number_182 : decode cX2_number 182 = .ok (.getfield 91, 3) := by decide +kernel
theorem dX2_number_185 : decode cX2_number 185 = .ok (.ireturn, 1) := by decide +kernel
theorem dX2_number_186 : decode cX2_number 186 = .ok (.aload_n 0, 1) := by decide +kernel
theorem dX2_number_187 : decode cX2_number 187 = .ok (.getfield 94, 3) := by decide +kernel
theorem dX2_number_190 : decode cX2_number 190 = .ok (.ireturn, 1) := by decide +kernel
theorem dX2_number_191 : decode cX2_number 191 = .ok (.aload_n 0, 1) := by decide +kernel
theorem dX2_number_192 : decode cX2_number 192 = .ok (.getfield 69, 3) := by decide +kernel
theorem dX2_number_195 : decode cX2_number 195 = .ok (.ireturn, 1) := by decide +kernel
theorem dX2_number_196 : decode cX2_number 196 = .ok (.aload_n 0, 1) := by decide +kernel
theorem dX2_number_197 : decode cX2_number 197 = .ok (.getfield 72, 3) := by decide +kernel
theorem dX2_number_200 : decode cX2_number 200 = .ok (.ifCond .eq 7, 3) := by decide +kernel
theorem dX2_number_203 : decode cX2_number 203 = .ok (.iconst 1, 1) := by decide +kernel
theorem dX2_number_204 : decode cX2_number 204 = .ok (.goto 4, 3) := by decide +kernel
theorem dX2_number_207 : decode cX2_number 207 = .ok (.iconst 0, 1) := by decide +kernel
theorem dX2_number_208 : decode cX2_number 208 = .ok (.ireturn, 1) := by decide +kernel
set_option maxRecDepth 20000 in
theorem ggX2_rebuildRing_X4_products : GoodIn wsX2_rebuildRing wsX4_products := goodIn_r _ [7, 8, 9, 10, 11, 6, 12, 13, 42, 43] (by decide +kernel) (by decide +kernel)
set_option maxRecDepth 20000 in
theorem gX2_rebuildRing_X4_products : GoodIn wsX2_rebuildRing (wsV RX2 113 RX4 yX4_products wsX4_products) := goodIn_app (goodIn_of _ (by decide +kernel)) ggX2_rebuildRing_X4_products
set_option maxRecDepth 20000 in
theorem ggX2_rebuildRing_X4_reasonAt : GoodIn wsX2_rebuildRing wsX4_reasonAt := goodIn_r _ [12, 13, 42, 43] (by decide +kernel) (by decide +kernel)
set_option maxRecDepth 20000 in
theorem gX2_rebuildRing_X4_reasonAt : GoodIn wsX2_rebuildRing (wsV RX2 116 RX4 yX4_reasonAt wsX4_reasonAt) := goodIn_app (goodIn_of _ (by decide +kernel)) ggX2_rebuildRing_X4_reasonAt
set_option maxRecDepth 20000 in
theorem ggX2_rebuildRing_X2_passGate : GoodIn wsX2_rebuildRing wsX2_passGate := goodIn_r _ [19, 20, 21, 26, 27, 28, 29, 30, 31, 32, 33, 34, 35, 36, 37, 38, 39, 40, 41] (by decide +kernel) (by decide +kernel)
set_option maxRecDepth 20000 in
theorem gX2_rebuildRing_X2_passGate : GoodIn wsX2_rebuildRing (wsV RX2 119 RX2 yX2_passGate wsX2_passGate) := goodIn_app (goodIn_of _ (by decide +kernel)) ggX2_rebuildRing_X2_passGate
set_option maxRecDepth 20000 in
theorem ggX2_rebuildRing_X4_makeEmpty : GoodIn wsX2_rebuildRing wsX4_makeEmpty := goodIn_r _ [25, 8, 13, 42, 43] (by decide +kernel) (by decide +kernel)
set_option maxRecDepth 20000 in
theorem gX2_rebuildRing_X4_makeEmpty : GoodIn wsX2_rebuildRing (wsV RX2 123 RX4 yX4_makeEmpty wsX4_makeEmpty) := goodIn_app (goodIn_of _ (by decide +kernel)) ggX2_rebuildRing_X4_makeEmpty
theorem dX2_rebuildRing_0 : decode cX2_rebuildRing 0 = .ok (.aload_n 0, 1) := by decide +kernel
theorem dX2_rebuildRing_1 : decode cX2_rebuildRing 1 = .ok (.getfield 28, 3) := by decide +kernel
theorem dX2_rebuildRing_4 : decode cX2_rebuildRing 4 = .ok (.invokevirtual 113, 3) := by decide +kernel
theorem dX2_rebuildRing_7 : decode cX2_rebuildRing 7 = .ok (.istore_n 2, 1) := by decide +kernel
theorem dX2_rebuildRing_8 : decode cX2_rebuildRing 8 = .ok (.aload_n 0, 1) := by decide +kernel
theorem dX2_rebuildRing_9 : decode cX2_rebuildRing 9 = .ok (.getfield 28, 3) := by decide +kernel
theorem dX2_rebuildRing_12 : decode cX2_rebuildRing 12 = .ok (.getfield 110, 3) := by decide +kernel
theorem dX2_rebuildRing_15 : decode cX2_rebuildRing 15 = .ok (.iconst 1, 1) := by decide +kernel
theorem dX2_rebuildRing_16 : decode cX2_rebuildRing 16 = .ok (.isub, 1) := by decide +kernel
theorem dX2_rebuildRing_17 : decode cX2_rebuildRing 17 = .ok (.istore_n 3, 1) := by decide +kernel
theorem dX2_rebuildRing_18 : decode cX2_rebuildRing 18 = .ok (.iload_n 3, 1) := by decide +kernel
theorem dX2_rebuildRing_19 : decode cX2_rebuildRing 19 = .ok (.ifCond .lt 21, 3) := by decide +kernel
theorem dX2_rebuildRing_22 : decode cX2_rebuildRing 22 = .ok (.aload_n 0, 1) := by decide +kernel
theorem dX2_rebuildRing_23 : decode cX2_rebuildRing 23 = .ok (.aload_n 0, 1) := by decide +kernel
theorem dX2_rebuildRing_24 : decode cX2_rebuildRing 24 = .ok (.getfield 28, 3) := by decide +kernel
theorem dX2_rebuildRing_27 : decode cX2_rebuildRing 27 = .ok (.iload_n 3, 1) := by decide +kernel
theorem dX2_rebuildRing_28 : decode cX2_rebuildRing 28 = .ok (.invokevirtual 116, 3) := by decide +kernel
theorem dX2_rebuildRing_31 : decode cX2_rebuildRing 31 = .ok (.invokevirtual 119, 3) := by decide +kernel
theorem dX2_rebuildRing_34 : decode cX2_rebuildRing 34 = .ok (.iinc 3 (-1), 3) := by decide +kernel
theorem dX2_rebuildRing_37 : decode cX2_rebuildRing 37 = .ok (.goto (-19), 3) := by decide +kernel
theorem dX2_rebuildRing_40 : decode cX2_rebuildRing 40 = .ok (.aload_n 0, 1) := by decide +kernel
theorem dX2_rebuildRing_41 : decode cX2_rebuildRing 41 = .ok (.getfield 28, 3) := by decide +kernel
theorem dX2_rebuildRing_44 : decode cX2_rebuildRing 44 = .ok (.iload_n 1, 1) := by decide +kernel
theorem dX2_rebuildRing_45 : decode cX2_rebuildRing 45 = .ok (.invokevirtual 123, 3) := by decide +kernel
theorem dX2_rebuildRing_48 : decode cX2_rebuildRing 48 = .ok (.iload_n 2, 1) := by decide +kernel
theorem dX2_rebuildRing_49 : decode cX2_rebuildRing 49 = .ok (.ireturn, 1) := by decide +kernel
set_option maxRecDepth 20000 in
theorem ggX2_serve_X2_speedTowards : GoodIn wsX2_serve wsX2_speedTowards := goodIn_r _ [16, 6, 1, 17, 18, 19, 20, 21, 22, 23, 24, 25, 26, 27, 28, 29, 120, 121, 122, 123, 124, 125, 126, 127, 128, 129, 130, 131, 132, 133, 134, 135, 144] (by decide +kernel) (by decide +kernel)
set_option maxRecDepth 20000 in
theorem gX2_serve_X2_speedTowards : GoodIn wsX2_serve (wsV RX2 133 RX2 yX2_speedTowards wsX2_speedTowards) := goodIn_app (goodIn_of _ (by decide +kernel)) ggX2_serve_X2_speedTowards
set_option maxRecDepth 20000 in
theorem ggX2_serve_X0_begin : GoodIn wsX2_serve wsX0_begin := goodIn_r _ [34, 35, 36, 37, 38, 39, 40, 136, 137, 138, 139, 140, 141, 142, 143] (by decide +kernel) (by decide +kernel)
set_option maxRecDepth 20000 in
theorem gX2_serve_X0_begin : GoodIn wsX2_serve (wsV RX2 136 RX0 yX0_begin wsX0_begin) := goodIn_app (goodIn_of _ (by decide +kernel)) ggX2_serve_X0_begin
set_option maxRecDepth 20000 in
theorem ggX2_serve_X2_feed : GoodIn wsX2_serve wsX2_feed := goodIn_r _ [44, 45, 2, 3, 46, 47, 48, 49, 50, 51, 52, 53, 54, 55, 56, 57, 58, 59, 60, 61, 62, 63, 64, 65, 66, 33, 67, 38, 35, 36, 37, 68, 69, 70, 15, 71, 6, 4, 5, 24, 25, 26, 27, 28, 29, 72, 73, 74, 75, 120, 121, 122, 123, 124, 125, 126, 127, 128, 129, 130, 131, 132, 133, 134, 135, 136, 137, 138, 139, 140, 141, 142, 143, 145, 146, 147, 148, 144] (by decide +kernel) (by decide +kernel)
set_option maxRecDepth 20000 in
theorem gX2_serve_X2_feed : GoodIn wsX2_serve (wsV RX2 139 RX2 yX2_feed wsX2_feed) := goodIn_app (goodIn_of _ (by decide +kernel)) ggX2_serve_X2_feed
set_option maxRecDepth 20000 in
theorem ggX2_serve_X5_value : GoodIn wsX2_serve wsX5_value := goodIn_r _ [28, 29, 144] (by decide +kernel) (by decide +kernel)
set_option maxRecDepth 20000 in
theorem gX2_serve_X5_value : GoodIn wsX2_serve (wsV RX2 97 RX5 yX5_value wsX5_value) := goodIn_app (goodIn_of _ (by decide +kernel)) ggX2_serve_X5_value
set_option maxRecDepth 20000 in
theorem ggX2_serve_X2_reasonAt : GoodIn wsX2_serve wsX2_reasonAt := goodIn_r _ [79, 2, 3, 80, 81, 7, 1, 82, 83, 19, 84, 6, 24, 25, 26, 27, 28, 29, 120, 121, 122, 123, 124, 125, 126, 127, 128, 129, 130, 131, 132, 133, 134, 135, 136, 137, 138, 139, 140, 141, 142, 143, 144] (by decide +kernel) (by decide +kernel)
set_option maxRecDepth 20000 in
theorem gX2_serve_X2_reasonAt : GoodIn wsX2_serve (wsV RX2 151 RX2 yX2_reasonAt wsX2_reasonAt) := goodIn_app (goodIn_of _ (by decide +kernel)) ggX2_serve_X2_reasonAt
set_option maxRecDepth 20000 in
theorem ggX2_serve_X2_countCycle : GoodIn wsX2_serve wsX2_countCycle := goodIn_r _ [88, 2, 8, 89, 90, 91, 81, 92, 80, 93, 7, 94, 120, 121, 122, 123, 124, 125, 126, 127, 128, 129, 130, 131, 132, 133, 134, 135, 136, 137, 138, 139, 140, 141, 142, 143] (by decide +kernel) (by decide +kernel)
set_option maxRecDepth 20000 in
theorem gX2_serve_X2_countCycle : GoodIn wsX2_serve (wsV RX2 155 RX2 yX2_countCycle wsX2_countCycle) := goodIn_app (goodIn_of _ (by decide +kernel)) ggX2_serve_X2_countCycle
set_option maxRecDepth 20000 in
theorem ggX2_serve_X2_learnPitch : GoodIn wsX2_serve wsX2_learnPitch := goodIn_r _ [98, 6, 99, 5, 2, 4, 24, 25, 26, 27, 28, 29, 120, 121, 122, 123, 124, 125, 126, 127, 128, 129, 130, 131, 132, 133, 134, 135, 136, 137, 138, 139, 140, 141, 142, 143, 144] (by decide +kernel) (by decide +kernel)
set_option maxRecDepth 20000 in
theorem gX2_serve_X2_learnPitch : GoodIn wsX2_serve (wsV RX2 158 RX2 yX2_learnPitch wsX2_learnPitch) := goodIn_app (goodIn_of _ (by decide +kernel)) ggX2_serve_X2_learnPitch
set_option maxRecDepth 20000 in
theorem ggX2_serve_X4_moveOn : GoodIn wsX2_serve wsX4_moveOn := goodIn_r _ [104, 105, 106, 149, 150] (by decide +kernel) (by decide +kernel)
set_option maxRecDepth 20000 in
theorem gX2_serve_X4_moveOn : GoodIn wsX2_serve (wsV RX2 161 RX4 yX4_moveOn wsX4_moveOn) := goodIn_app (goodIn_of _ (by decide +kernel)) ggX2_serve_X4_moveOn
set_option maxRecDepth 20000 in
theorem ggX2_serve_X2_passGate : GoodIn wsX2_serve wsX2_passGate := goodIn_r _ [110, 111, 112, 120, 121, 122, 123, 124, 125, 126, 127, 128, 129, 130, 131, 132, 133, 134, 135] (by decide +kernel) (by decide +kernel)
set_option maxRecDepth 20000 in
theorem gX2_serve_X2_passGate : GoodIn wsX2_serve (wsV RX2 119 RX2 yX2_passGate wsX2_passGate) := goodIn_app (goodIn_of _ (by decide +kernel)) ggX2_serve_X2_passGate
set_option maxRecDepth 20000 in
theorem ggX2_serve_X2_isFault : GoodIn wsX2_serve wsX2_isFault := goodIn_r _ [115] (by decide +kernel) (by decide +kernel)
set_option maxRecDepth 20000 in
theorem gX2_serve_X2_isFault : GoodIn wsX2_serve (va_wsS RX2 164 yX2_isFault wsX2_isFault) := goodIn_app (goodIn_of _ (by decide +kernel)) ggX2_serve_X2_isFault
set_option maxRecDepth 20000 in
theorem ggX2_serve_X2_hasTooManyFaults : GoodIn wsX2_serve wsX2_hasTooManyFaults := goodIn_r _ [119, 10, 6, 24, 25, 26, 27, 28, 29, 120, 121, 122, 123, 124, 125, 126, 127, 128, 129, 130, 131, 132, 133, 134, 135, 144] (by decide +kernel) (by decide +kernel)
set_option maxRecDepth 20000 in
theorem gX2_serve_X2_hasTooManyFaults : GoodIn wsX2_serve (wsV RX2 129 RX2 yX2_hasTooManyFaults wsX2_hasTooManyFaults) := goodIn_app (goodIn_of _ (by decide +kernel)) ggX2_serve_X2_hasTooManyFaults
theorem dX2_serve_0 : decode cX2_serve 0 = .ok (.aload_n 0, 1) := by decide +kernel
theorem dX2_serve_1 : decode cX2_serve 1 = .ok (.aload_n 0, 1) := by decide +kernel
theorem dX2_serve_2 : decode cX2_serve 2 = .ok (.iload_n 1, 1) := by decide +kernel
theorem dX2_serve_3 : decode cX2_serve 3 = .ok (.invokevirtual 133, 3) := by decide +kernel
theorem dX2_serve_6 : decode cX2_serve 6 = .ok (.putfield 65, 3) := by decide +kernel
theorem dX2_serve_9 : decode cX2_serve 9 = .ok (.aload_n 0, 1) := by decide +kernel
theorem dX2_serve_10 : decode cX2_serve 10 = .ok (.getfield 35, 3) := by decide +kernel
theorem dX2_serve_13 : decode cX2_serve 13 = .ok (.aload_n 0, 1) := by decide +kernel
theorem dX2_serve_14 : decode cX2_serve 14 = .ok (.getfield 65, 3) := by decide +kernel
theorem dX2_serve_17 : decode cX2_serve 17 = .ok (.invokevirtual 136, 3) := by decide +kernel
theorem dX2_serve_20 : decode cX2_serve 20 = .ok (.aload_n 0, 1) := by decide +kernel
theorem dX2_serve_21 : decode cX2_serve 21 = .ok (.invokevirtual 139, 3) := by decide +kernel
theorem dX2_serve_24 : decode cX2_serve 24 = .ok (.aload_n 0, 1) := by decide +kernel
theorem dX2_serve_25 : decode cX2_serve 25 = .ok (.getfield 35, 3) := by decide +kernel
theorem dX2_serve_28 : decode cX2_serve 28 = .ok (.aload_n 0, 1) := by decide +kernel
theorem dX2_serve_29 : decode cX2_serve 29 = .ok (.getfield 35, 3) := by decide +kernel
theorem dX2_serve_32 : decode cX2_serve 32 = .ok (.getfield 142, 3) := by decide +kernel
theorem dX2_serve_35 : decode cX2_serve 35 = .ok (.iconst 1, 1) := by decide +kernel
theorem dX2_serve_36 : decode cX2_serve 36 = .ok (.if_icmp .ne 33, 3) := by decide +kernel
theorem dX2_serve_39 : decode cX2_serve 39 = .ok (.aload_n 0, 1) := by decide +kernel
theorem dX2_serve_40 : decode cX2_serve 40 = .ok (.getfield 35, 3) := by decide +kernel
theorem dX2_serve_43 : decode cX2_serve 43 = .ok (.getfield 145, 3) := by decide +kernel
theorem dX2_serve_46 : decode cX2_serve 46 = .ok (.i2f, 1) := by decide +kernel
theorem dX2_serve_47 : decode cX2_serve 47 = .ok (.aload_n 0, 1) := by decide +kernel
theorem dX2_serve_48 : decode cX2_serve 48 = .ok (.getfield 44, 3) := by decide +kernel
theorem dX2_serve_51 : decode cX2_serve 51 = .ok (.aload_n 0, 1) := by decide +kernel
theorem dX2_serve_52 : decode cX2_serve 52 = .ok (.getfield 21, 3) := by decide +kernel
theorem dX2_serve_55 : decode cX2_serve 55 = .ok (.iconst 1, 1) := by decide +kernel
theorem dX2_serve_56 : decode cX2_serve 56 = .ok (.invokevirtual 97, 3) := by decide +kernel
theorem dX2_serve_59 : decode cX2_serve 59 = .ok (.i2f, 1) := by decide +kernel
theorem dX2_serve_60 : decode cX2_serve 60 = .ok (.fadd, 1) := by decide +kernel
theorem dX2_serve_61 : decode cX2_serve 61 = .ok (.fcmp .l, 1) := by decide +kernel
theorem dX2_serve_62 : decode cX2_serve 62 = .ok (.ifCond .le 7, 3) := by decide +kernel
theorem dX2_serve_65 : decode cX2_serve 65 = .ok (.iconst 1, 1) := by decide +kernel
theorem dX2_serve_66 : decode cX2_serve 66 = .ok (.goto 4, 3) := by decide +kernel
theorem dX2_serve_69 : decode cX2_serve 69 = .ok (.iconst 0, 1) := by decide +kernel
theorem dX2_serve_70 : decode cX2_serve 70 = .ok (.putfield 148, 3) := by decide +kernel
theorem dX2_serve_73 : decode cX2_serve 73 = .ok (.aload_n 0, 1) := by decide +kernel
theorem dX2_serve_74 : decode cX2_serve 74 = .ok (.getfield 35, 3) := by decide +kernel
theorem dX2_serve_77 : decode cX2_serve 77 = .ok (.aload_n 0, 1) := by decide +kernel
theorem dX2_serve_78 : decode cX2_serve 78 = .ok (.iload_n 1, 1) := by decide +kernel
theorem dX2_serve_79 : decode cX2_serve 79 = .ok (.invokevirtual 151, 3) := by decide +kernel
theorem dX2_serve_82 : decode cX2_serve 82 = .ok (.putfield 152, 3) := by decide +kernel
theorem dX2_serve_85 : decode cX2_serve 85 = .ok (.aload_n 0, 1) := by decide +kernel
theorem dX2_serve_86 : decode cX2_serve 86 = .ok (.invokevirtual 155, 3) := by decide +kernel
theorem dX2_serve_89 : decode cX2_serve 89 = .ok (.aload_n 0, 1) := by decide +kernel
theorem dX2_serve_90 : decode cX2_serve 90 = .ok (.getfield 35, 3) := by decide +kernel
theorem dX2_serve_93 : decode cX2_serve 93 = .ok (.getfield 152, 3) := by decide +kernel
theorem dX2_serve_96 : decode cX2_serve 96 = .ok (.ifCond .ne 7, 3) := by decide +kernel
theorem dX2_serve_99 : decode cX2_serve 99 = .ok (.aload_n 0, 1) := by decide +kernel
theorem dX2_serve_100 : decode cX2_serve 100 = .ok (.invokevirtual 158, 3) := by decide +kernel
theorem dX2_serve_103 : decode cX2_serve 103 = .ok (.aload_n 0, 1) := by decide +kernel
theorem dX2_serve_104 : decode cX2_serve 104 = .ok (.aload_n 0, 1) := by decide +kernel
theorem dX2_serve_105 : decode cX2_serve 105 = .ok (.getfield 28, 3) := by decide +kernel
theorem dX2_serve_108 : decode cX2_serve 108 = .ok (.aload_n 0, 1) := by decide +kernel
theorem dX2_serve_109 : decode cX2_serve 109 = .ok (.getfield 35, 3) := by decide +kernel
theorem dX2_serve_112 : decode cX2_serve 112 = .ok (.getfield 152, 3) := by decide +kernel
theorem dX2_serve_115 : decode cX2_serve 115 = .ok (.invokevirtual 161, 3) := by decide +kernel
theorem dX2_serve_118 : decode cX2_serve 118 = .ok (.invokevirtual 119, 3) := by decide +kernel
theorem dX2_serve_121 : decode cX2_serve 121 = .ok (.aload_n 0, 1) := by decide +kernel
theorem dX2_serve_122 : decode cX2_serve 122 = .ok (.aload_n 0, 1) := by decide +kernel
theorem dX2_serve_123 : decode cX2_serve 123 = .ok (.getfield 35, 3) := by decide +kernel
theorem dX2_serve_126 : decode cX2_serve 126 = .ok (.getfield 152, 3) := by decide +kernel
theorem dX2_serve_129 : decode cX2_serve 129 = .ok (.invokestatic 164, 3) := by decide +kernel
theorem dX2_serve_132 : decode cX2_serve 132 = .ok (.ifCond .eq 12, 3) := by decide +kernel
theorem dX2_serve_135 : decode cX2_serve 135 = .ok (.aload_n 0, 1) := by decide +kernel
theorem dX2_serve_136 : decode cX2_serve 136 = .ok (.getfield 69, 3) := by decide +kernel
theorem dX2_serve_139 : decode cX2_serve 139 = .ok (.iconst 1, 1) := by decide +kernel
theorem dX2_serve_140 : decode cX2_serve 140 = .ok (.iadd, 1) := by decide +kernel
theorem dX2_serve_141 : decode cX2_serve 141 = .ok (.goto 4, 3) := by decide +kernel
theorem dX2_serve_144 : decode cX2_serve 144 = .ok (.iconst 0, 1) := by decide +kernel
theorem dX2_serve_145 : decode cX2_serve 145 = .ok (.putfield 69, 3) := by decide +kernel
theorem dX2_serve_148 : decode cX2_serve 148 = .ok (.aload_n 0, 1) := by decide +kernel
theorem dX2_serve_149 : decode cX2_serve 149 = .ok (.invokevirtual 129, 3) := by decide +kernel
theorem dX2_serve_152 : decode cX2_serve 152 = .ok (.ifCond .eq 8, 3) := by decide +kernel
theorem dX2_serve_155 : decode cX2_serve 155 = .ok (.aload_n 0, 1) := by decide +kernel
theorem dX2_serve_156 : decode cX2_serve 156 = .ok (.iconst 1, 1) := by decide +kernel
theorem dX2_serve_157 : decode cX2_serve 157 = .ok (.putfield 72, 3) := by decide +kernel
theorem dX2_serve_160 : decode cX2_serve 160 = .ok (.return_, 1) := by decide +kernel
set_option maxRecDepth 20000 in
theorem ggX2_speedTowards_X5_value : GoodIn wsX2_speedTowards wsX5_value := goodIn_r _ [14, 15, 32] (by decide +kernel) (by decide +kernel)
set_option maxRecDepth 20000 in
theorem gX2_speedTowards_X5_value : GoodIn wsX2_speedTowards (wsV RX2 97 RX5 yX5_value wsX5_value) := goodIn_app (goodIn_of _ (by decide +kernel)) ggX2_speedTowards_X5_value
theorem dX2_speedTowards_0 : decode cX2_speedTowards 0 = .ok (.aload_n 0, 1) := by decide +kernel
theorem dX2_speedTowards_1 : decode cX2_speedTowards 1 = .ok (.getfield 21, 3) := by decide +kernel
theorem dX2_speedTowards_4 : decode cX2_speedTowards 4 = .ok (.iconst 4, 1) := by decide +kernel
theorem dX2_speedTowards_5 : decode cX2_speedTowards 5 = .ok (.invokevirtual 97, 3) := by decide +kernel
theorem dX2_speedTowards_8 : decode cX2_speedTowards 8 = .ok (.istore_n 2, 1) := by decide +kernel
theorem dX2_speedTowards_9 : decode cX2_speedTowards 9 = .ok (.aload_n 0, 1) := by decide +kernel
theorem dX2_speedTowards_10 : decode cX2_speedTowards 10 = .ok (.getfield 21, 3) := by decide +kernel
theorem dX2_speedTowards_13 : decode cX2_speedTowards 13 = .ok (.iconst 3, 1) := by decide +kernel
theorem dX2_speedTowards_14 : decode cX2_speedTowards 14 = .ok (.invokevirtual 97, 3) := by decide +kernel
theorem dX2_speedTowards_17 : decode cX2_speedTowards 17 = .ok (.istore_n 3, 1) := by decide +kernel
theorem dX2_speedTowards_18 : decode cX2_speedTowards 18 = .ok (.aload_n 0, 1) := by decide +kernel
theorem dX2_speedTowards_19 : decode cX2_speedTowards 19 = .ok (.getfield 65, 3) := by decide +kernel
theorem dX2_speedTowards_22 : decode cX2_speedTowards 22 = .ok (.iload_n 2, 1) := by decide +kernel
theorem dX2_speedTowards_23 : decode cX2_speedTowards 23 = .ok (.isub, 1) := by decide +kernel
theorem dX2_speedTowards_24 : decode cX2_speedTowards 24 = .ok (.iconst 0, 1) := by decide +kernel
theorem dX2_speedTowards_25 : decode cX2_speedTowards 25 = .ok (.invokestatic 168, 3) := by decide +kernel
theorem dX2_speedTowards_28 : decode cX2_speedTowards 28 = .ok (.istore 4, 2) := by decide +kernel
theorem dX2_speedTowards_30 : decode cX2_speedTowards 30 = .ok (.aload_n 0, 1) := by decide +kernel
theorem dX2_speedTowards_31 : decode cX2_speedTowards 31 = .ok (.getfield 65, 3) := by decide +kernel
theorem dX2_speedTowards_34 : decode cX2_speedTowards 34 = .ok (.iload_n 2, 1) := by decide +kernel
theorem dX2_speedTowards_35 : decode cX2_speedTowards 35 = .ok (.iadd, 1) := by decide +kernel
theorem dX2_speedTowards_36 : decode cX2_speedTowards 36 = .ok (.iload_n 3, 1) := by decide +kernel
theorem dX2_speedTowards_37 : decode cX2_speedTowards 37 = .ok (.invokestatic 174, 3) := by decide +kernel
theorem dX2_speedTowards_40 : decode cX2_speedTowards 40 = .ok (.istore 5, 2) := by decide +kernel
theorem dX2_speedTowards_42 : decode cX2_speedTowards 42 = .ok (.iload 4, 2) := by decide +kernel
theorem dX2_speedTowards_44 : decode cX2_speedTowards 44 = .ok (.iload 5, 2) := by decide +kernel
theorem dX2_speedTowards_46 : decode cX2_speedTowards 46 = .ok (.if_icmp .le 5, 3) := by decide +kernel
theorem dX2_speedTowards_49 : decode cX2_speedTowards 49 = .ok (.iload_n 3, 1) := by decide +kernel
theorem dX2_speedTowards_50 : decode cX2_speedTowards 50 = .ok (.ireturn, 1) := by decide +kernel
theorem dX2_speedTowards_51 : decode cX2_speedTowards 51 = .ok (.iload 4, 2) := by decide +kernel
theorem dX2_speedTowards_53 : decode cX2_speedTowards 53 = .ok (.iload 5, 2) := by decide +kernel
theorem dX2_speedTowards_55 : decode cX2_speedTowards 55 = .ok (.iload_n 1, 1) := by decide +kernel
theorem dX2_speedTowards_56 : decode cX2_speedTowards 56 = .ok (.invokestatic 174, 3) := by decide +kernel
theorem dX2_speedTowards_59 : decode cX2_speedTowards 59 = .ok (.invokestatic 168, 3) := by decide +kernel
theorem dX2_speedTowards_62 : decode cX2_speedTowards 62 = .ok (.ireturn, 1) := by decide +kernel
set_option maxRecDepth 20000 in
theorem ggX2_feed_X1_size : GoodIn wsX2_feed wsX1_size := goodIn_r _ [9, 10, 11, 73, 74, 75, 76] (by decide +kernel) (by decide +kernel)
set_option maxRecDepth 20000 in
theorem gX2_feed_X1_size : GoodIn wsX2_feed (wsV RX2 100 RX1 yX1_size wsX1_size) := goodIn_app (goodIn_of _ (by decide +kernel)) ggX2_feed_X1_size
set_option maxRecDepth 20000 in
theorem ggX2_feed_X1_kindOf : GoodIn wsX2_feed wsX1_kindOf := goodIn_r _ [15, 11, 16, 73, 74, 75, 76] (by decide +kernel) (by decide +kernel)
set_option maxRecDepth 20000 in
theorem gX2_feed_X1_kindOf : GoodIn wsX2_feed (wsV RX2 177 RX1 yX1_kindOf wsX1_kindOf) := goodIn_app (goodIn_of _ (by decide +kernel)) ggX2_feed_X1_kindOf
set_option maxRecDepth 20000 in
theorem ggX2_feed_X1_lengthOf : GoodIn wsX2_feed wsX1_lengthOf := goodIn_r _ [20, 11, 21, 73, 74, 75, 76] (by decide +kernel) (by decide +kernel)
set_option maxRecDepth 20000 in
theorem gX2_feed_X1_lengthOf : GoodIn wsX2_feed (wsV RX2 180 RX1 yX1_lengthOf wsX1_lengthOf) := goodIn_app (goodIn_of _ (by decide +kernel)) ggX2_feed_X1_lengthOf
set_option maxRecDepth 20000 in
theorem ggX2_feed_X0_take : GoodIn wsX2_feed wsX0_take := goodIn_r _ [26, 27, 28, 29, 30, 65, 66, 67, 68, 69, 70, 71, 72] (by decide +kernel) (by decide +kernel)
set_option maxRecDepth 20000 in
theorem gX2_feed_X0_take : GoodIn wsX2_feed (wsV RX2 183 RX0 yX0_take wsX0_take) := goodIn_app (goodIn_of _ (by decide +kernel)) ggX2_feed_X0_take
set_option maxRecDepth 20000 in
theorem ggX2_feed_X2_endingBehind : GoodIn wsX2_feed wsX2_endingBehind := goodIn_r _ [35, 36, 2, 37, 38, 39, 40, 41, 42, 43, 44, 49, 50, 51, 52, 53, 54, 55, 56, 57, 58, 59, 60, 61, 62, 63, 64, 65, 66, 67, 68, 69, 70, 71, 72, 77] (by decide +kernel) (by decide +kernel)
set_option maxRecDepth 20000 in
theorem gX2_feed_X2_endingBehind : GoodIn wsX2_feed (wsV RX2 187 RX2 yX2_endingBehind wsX2_endingBehind) := goodIn_app (goodIn_of _ (by decide +kernel)) ggX2_feed_X2_endingBehind
set_option maxRecDepth 20000 in
theorem ggX2_feed_X1_removeFirst : GoodIn wsX2_feed wsX1_removeFirst := goodIn_r _ [48, 11, 73, 74, 75, 76] (by decide +kernel) (by decide +kernel)
set_option maxRecDepth 20000 in
theorem gX2_feed_X1_removeFirst : GoodIn wsX2_feed (wsV RX2 193 RX1 yX1_removeFirst wsX1_removeFirst) := goodIn_app (goodIn_of _ (by decide +kernel)) ggX2_feed_X1_removeFirst
theorem dX2_feed_0 : decode cX2_feed 0 = .ok (.aload_n 0, 1) := by decide +kernel
theorem dX2_feed_1 : decode cX2_feed 1 = .ok (.getfield 12, 3) := by decide +kernel
theorem dX2_feed_4 : decode cX2_feed 4 = .ok (.invokevirtual 100, 3) := by decide +kernel
theorem dX2_feed_7 : decode cX2_feed 7 = .ok (.istore_n 1, 1) := by decide +kernel
theorem dX2_feed_8 : decode cX2_feed 8 = .ok (.iconst 0, 1) := by decide +kernel
theorem dX2_feed_9 : decode cX2_feed 9 = .ok (.istore_n 2, 1) := by decide +kernel
theorem dX2_feed_10 : decode cX2_feed 10 = .ok (.iload_n 2, 1) := by decide +kernel
theorem dX2_feed_11 : decode cX2_feed 11 = .ok (.iload_n 1, 1) := by decide +kernel
theorem dX2_feed_12 : decode cX2_feed 12 = .ok (.if_icmp .ge 69, 3) := by decide +kernel
theorem dX2_feed_15 : decode cX2_feed 15 = .ok (.aload_n 0, 1) := by decide +kernel
theorem dX2_feed_16 : decode cX2_feed 16 = .ok (.getfield 35, 3) := by decide +kernel
theorem dX2_feed_19 : decode cX2_feed 19 = .ok (.getfield 142, 3) := by decide +kernel
theorem dX2_feed_22 : decode cX2_feed 22 = .ok (.ifCond .ne 59, 3) := by decide +kernel
theorem dX2_feed_25 : decode cX2_feed 25 = .ok (.aload_n 0, 1) := by decide +kernel
theorem dX2_feed_26 : decode cX2_feed 26 = .ok (.getfield 35, 3) := by decide +kernel
theorem dX2_feed_29 : decode cX2_feed 29 = .ok (.aload_n 0, 1) := by decide +kernel
theorem dX2_feed_30 : decode cX2_feed 30 = .ok (.getfield 12, 3) := by decide +kernel
theorem dX2_feed_33 : decode cX2_feed 33 = .ok (.iload_n 2, 1) := by decide +kernel
theorem dX2_feed_34 : decode cX2_feed 34 = .ok (.invokevirtual 177, 3) := by decide +kernel
theorem dX2_feed_37 : decode cX2_feed 37 = .ok (.aload_n 0, 1) := by decide +kernel
theorem dX2_feed_38 : decode cX2_feed 38 = .ok (.getfield 12, 3) := by decide +kernel
theorem dX2_feed_41 : decode cX2_feed 41 = .ok (.iload_n 2, 1) := by decide +kernel
theorem dX2_feed_42 : decode cX2_feed 42 = .ok (.invokevirtual 180, 3) := by decide +kernel
theorem dX2_feed_45 : decode cX2_feed 45 = .ok (.invokevirtual 183, 3) := by decide +kernel
theorem dX2_feed_48 : decode cX2_feed 48 = .ok (.aload_n 0, 1) := by decide +kernel
theorem dX2_feed_49 : decode cX2_feed 49 = .ok (.getfield 35, 3) := by decide +kernel
theorem dX2_feed_52 : decode cX2_feed 52 = .ok (.aload_n 0, 1) := by decide +kernel
theorem dX2_feed_53 : decode cX2_feed 53 = .ok (.aload_n 0, 1) := by decide +kernel
theorem dX2_feed_54 : decode cX2_feed 54 = .ok (.getfield 12, 3) := by decide +kernel
theorem dX2_feed_57 : decode cX2_feed 57 = .ok (.iload_n 2, 1) := by decide +kernel
theorem dX2_feed_58 : decode cX2_feed 58 = .ok (.invokevirtual 177, 3) := by decide +kernel
theorem dX2_feed_61 : decode cX2_feed 61 = .ok (.aload_n 0, 1) := by decide +kernel
theorem dX2_feed_62 : decode cX2_feed 62 = .ok (.getfield 12, 3) := by decide +kernel
theorem dX2_feed_65 : decode cX2_feed 65 = .ok (.iload_n 2, 1) := by decide +kernel
theorem dX2_feed_66 : decode cX2_feed 66 = .ok (.invokevirtual 180, 3) := by decide +kernel
theorem dX2_feed_69 : decode cX2_feed 69 = .ok (.invokevirtual 187, 3) := by decide +kernel
theorem dX2_feed_72 : decode cX2_feed 72 = .ok (.putfield 142, 3) := by decide +kernel
theorem dX2_feed_75 : decode cX2_feed 75 = .ok (.iinc 2 1, 3) := by decide +kernel
theorem dX2_feed_78 : decode cX2_feed 78 = .ok (.goto (-68), 3) := by decide +kernel
theorem dX2_feed_81 : decode cX2_feed 81 = .ok (.aload_n 0, 1) := by decide +kernel
theorem dX2_feed_82 : decode cX2_feed 82 = .ok (.getfield 35, 3) := by decide +kernel
theorem dX2_feed_85 : decode cX2_feed 85 = .ok (.getfield 142, 3) := by decide +kernel
theorem dX2_feed_88 : decode cX2_feed 88 = .ok (.ifCond .ne 11, 3) := by decide +kernel
theorem dX2_feed_91 : decode cX2_feed 91 = .ok (.aload_n 0, 1) := by decide +kernel
theorem dX2_feed_92 : decode cX2_feed 92 = .ok (.getfield 35, 3) := by decide +kernel
theorem dX2_feed_95 : decode cX2_feed 95 = .ok (.iconst 3, 1) := by decide +kernel
theorem dX2_feed_96 : decode cX2_feed 96 = .ok (.putfield 142, 3) := by decide +kernel
theorem dX2_feed_99 : decode cX2_feed 99 = .ok (.aload_n 0, 1) := by decide +kernel
theorem dX2_feed_100 : decode cX2_feed 100 = .ok (.getfield 12, 3) := by decide +kernel
theorem dX2_feed_103 : decode cX2_feed 103 = .ok (.aload_n 0, 1) := by decide +kernel
theorem dX2_feed_104 : decode cX2_feed 104 = .ok (.getfield 35, 3) := by decide +kernel
theorem dX2_feed_107 : decode cX2_feed 107 = .ok (.getfield 190, 3) := by decide +kernel
theorem dX2_feed_110 : decode cX2_feed 110 = .ok (.invokevirtual 193, 3) := by decide +kernel
theorem dX2_feed_113 : decode cX2_feed 113 = .ok (.return_, 1) := by decide +kernel
set_option maxRecDepth 20000 in
theorem ggX2_endingBehind_X5_value : GoodIn wsX2_endingBehind wsX5_value := goodIn_r _ [9, 10, 35] (by decide +kernel) (by decide +kernel)
set_option maxRecDepth 20000 in
theorem gX2_endingBehind_X5_value : GoodIn wsX2_endingBehind (wsV RX2 97 RX5 yX5_value wsX5_value) := goodIn_app (goodIn_of _ (by decide +kernel)) ggX2_endingBehind_X5_value
theorem dX2_endingBehind_0 : decode cX2_endingBehind 0 = .ok (.iload_n 1, 1) := by decide +kernel
theorem dX2_endingBehind_1 : decode cX2_endingBehind 1 = .ok (.iconst 1, 1) := by decide +kernel
theorem dX2_endingBehind_2 : decode cX2_endingBehind 2 = .ok (.if_icmp .ne 19, 3) := by decide +kernel
theorem dX2_endingBehind_5 : decode cX2_endingBehind 5 = .ok (.iload_n 2, 1) := by decide +kernel
theorem dX2_endingBehind_6 : decode cX2_endingBehind 6 = .ok (.aload_n 0, 1) := by decide +kernel
theorem dX2_endingBehind_7 : decode cX2_endingBehind 7 = .ok (.getfield 21, 3) := by decide +kernel
theorem dX2_endingBehind_10 : decode cX2_endingBehind 10 = .ok (.iconst 0, 1) := by decide +kernel
theorem dX2_endingBehind_11 : decode cX2_endingBehind 11 = .ok (.invokevirtual 97, 3) := by decide +kernel
theorem dX2_endingBehind_14 : decode cX2_endingBehind 14 = .ok (.if_icmp .lt 7, 3) := by decide +kernel
theorem dX2_endingBehind_17 : decode cX2_endingBehind 17 = .ok (.iconst 1, 1) := by decide +kernel
theorem dX2_endingBehind_18 : decode cX2_endingBehind 18 = .ok (.goto 4, 3) := by decide +kernel
theorem dX2_endingBehind_21 : decode cX2_endingBehind 21 = .ok (.iconst 0, 1) := by decide +kernel
theorem dX2_endingBehind_22 : decode cX2_endingBehind 22 = .ok (.istore_n 3, 1) := by decide +kernel
theorem dX2_endingBehind_23 : decode cX2_endingBehind 23 = .ok (.iload_n 3, 1) := by decide +kernel
theorem dX2_endingBehind_24 : decode cX2_endingBehind 24 = .ok (.ifCond .eq 31, 3) := by decide +kernel
theorem dX2_endingBehind_27 : decode cX2_endingBehind 27 = .ok (.aload_n 0, 1) := by decide +kernel
theorem dX2_endingBehind_28 : decode cX2_endingBehind 28 = .ok (.getfield 35, 3) := by decide +kernel
theorem dX2_endingBehind_31 : decode cX2_endingBehind 31 = .ok (.getfield 145, 3) := by decide +kernel
theorem dX2_endingBehind_34 : decode cX2_endingBehind 34 = .ok (.i2f, 1) := by decide +kernel
theorem dX2_endingBehind_35 : decode cX2_endingBehind 35 = .ok (.aload_n 0, 1) := by decide +kernel
theorem dX2_endingBehind_36 : decode cX2_endingBehind 36 = .ok (.getfield 44, 3) := by decide +kernel
theorem dX2_endingBehind_39 : decode cX2_endingBehind 39 = .ok (.aload_n 0, 1) := by decide +kernel
theorem dX2_endingBehind_40 : decode cX2_endingBehind 40 = .ok (.getfield 21, 3) := by decide +kernel
theorem dX2_endingBehind_43 : decode cX2_endingBehind 43 = .ok (.iconst 1, 1) := by decide +kernel
theorem dX2_endingBehind_44 : decode cX2_endingBehind 44 = .ok (.invokevirtual 97, 3) := by decide +kernel
theorem dX2_endingBehind_47 : decode cX2_endingBehind 47 = .ok (.i2f, 1) := by decide +kernel
theorem dX2_endingBehind_48 : decode cX2_endingBehind 48 = .ok (.fsub, 1) := by decide +kernel
theorem dX2_endingBehind_49 : decode cX2_endingBehind 49 = .ok (.fcmp .l, 1) := by decide +kernel
theorem dX2_endingBehind_50 : decode cX2_endingBehind 50 = .ok (.ifCond .lt 5, 3) := by decide +kernel
theorem dX2_endingBehind_53 : decode cX2_endingBehind 53 = .ok (.iconst 1, 1) := by decide +kernel
theorem dX2_endingBehind_54 : decode cX2_endingBehind 54 = .ok (.ireturn, 1) := by decide +kernel
theorem dX2_endingBehind_55 : decode cX2_endingBehind 55 = .ok (.aload_n 0, 1) := by decide +kernel
theorem dX2_endingBehind_56 : decode cX2_endingBehind 56 = .ok (.getfield 35, 3) := by decide +kernel
theorem dX2_endingBehind_59 : decode cX2_endingBehind 59 = .ok (.getfield 145, 3) := by decide +kernel
theorem dX2_endingBehind_62 : decode cX2_endingBehind 62 = .ok (.aload_n 0, 1) := by decide +kernel
theorem dX2_endingBehind_63 : decode cX2_endingBehind 63 = .ok (.getfield 21, 3) := by decide +kernel
theorem dX2_endingBehind_66 : decode cX2_endingBehind 66 = .ok (.iconst 2, 1) := by decide +kernel
theorem dX2_endingBehind_67 : decode cX2_endingBehind 67 = .ok (.invokevirtual 97, 3) := by decide +kernel
theorem dX2_endingBehind_70 : decode cX2_endingBehind 70 = .ok (.if_icmp .le 7, 3) := by decide +kernel
theorem dX2_endingBehind_73 : decode cX2_endingBehind 73 = .ok (.iconst 2, 1) := by decide +kernel
theorem dX2_endingBehind_74 : decode cX2_endingBehind 74 = .ok (.goto 4, 3) := by decide +kernel
theorem dX2_endingBehind_77 : decode cX2_endingBehind 77 = .ok (.iconst 0, 1) := by decide +kernel
theorem dX2_endingBehind_78 : decode cX2_endingBehind 78 = .ok (.ireturn, 1) := by decide +kernel
set_option maxRecDepth 20000 in
theorem ggX2_reasonAt_X5_value : GoodIn wsX2_reasonAt wsX5_value := goodIn_r _ [16, 17, 42] (by decide +kernel) (by decide +kernel)
set_option maxRecDepth 20000 in
theorem gX2_reasonAt_X5_value : GoodIn wsX2_reasonAt (wsV RX2 97 RX5 yX5_value wsX5_value) := goodIn_app (goodIn_of _ (by decide +kernel)) ggX2_reasonAt_X5_value
theorem dX2_reasonAt_0 : decode cX2_reasonAt 0 = .ok (.aload_n 0, 1) := by decide +kernel
theorem dX2_reasonAt_1 : decode cX2_reasonAt 1 = .ok (.getfield 35, 3) := by decide +kernel
theorem dX2_reasonAt_4 : decode cX2_reasonAt 4 = .ok (.getfield 142, 3) := by decide +kernel
theorem dX2_reasonAt_7 : decode cX2_reasonAt 7 = .ok (.iconst 3, 1) := by decide +kernel
theorem dX2_reasonAt_8 : decode cX2_reasonAt 8 = .ok (.if_icmp .ne 5, 3) := by decide +kernel
theorem dX2_reasonAt_11 : decode cX2_reasonAt 11 = .ok (.iconst 1, 1) := by decide +kernel
theorem dX2_reasonAt_12 : decode cX2_reasonAt 12 = .ok (.ireturn, 1) := by decide +kernel
theorem dX2_reasonAt_13 : decode cX2_reasonAt 13 = .ok (.aload_n 0, 1) := by decide +kernel
theorem dX2_reasonAt_14 : decode cX2_reasonAt 14 = .ok (.getfield 35, 3) := by decide +kernel
theorem dX2_reasonAt_17 : decode cX2_reasonAt 17 = .ok (.getfield 142, 3) := by decide +kernel
theorem dX2_reasonAt_20 : decode cX2_reasonAt 20 = .ok (.iconst 2, 1) := by decide +kernel
theorem dX2_reasonAt_21 : decode cX2_reasonAt 21 = .ok (.if_icmp .ne 5, 3) := by decide +kernel
theorem dX2_reasonAt_24 : decode cX2_reasonAt 24 = .ok (.iconst 2, 1) := by decide +kernel
theorem dX2_reasonAt_25 : decode cX2_reasonAt 25 = .ok (.ireturn, 1) := by decide +kernel
theorem dX2_reasonAt_26 : decode cX2_reasonAt 26 = .ok (.aload_n 0, 1) := by decide +kernel
theorem dX2_reasonAt_27 : decode cX2_reasonAt 27 = .ok (.getfield 35, 3) := by decide +kernel
theorem dX2_reasonAt_30 : decode cX2_reasonAt 30 = .ok (.getfield 196, 3) := by decide +kernel
theorem dX2_reasonAt_33 : decode cX2_reasonAt 33 = .ok (.ifCond .le 5, 3) := by decide +kernel
theorem dX2_reasonAt_36 : decode cX2_reasonAt 36 = .ok (.iconst 3, 1) := by decide +kernel
theorem dX2_reasonAt_37 : decode cX2_reasonAt 37 = .ok (.ireturn, 1) := by decide +kernel
theorem dX2_reasonAt_38 : decode cX2_reasonAt 38 = .ok (.aload_n 0, 1) := by decide +kernel
theorem dX2_reasonAt_39 : decode cX2_reasonAt 39 = .ok (.getfield 35, 3) := by decide +kernel
theorem dX2_reasonAt_42 : decode cX2_reasonAt 42 = .ok (.getfield 199, 3) := by decide +kernel
theorem dX2_reasonAt_45 : decode cX2_reasonAt 45 = .ok (.ifCond .ne 5, 3) := by decide +kernel
theorem dX2_reasonAt_48 : decode cX2_reasonAt 48 = .ok (.iconst 4, 1) := by decide +kernel
theorem dX2_reasonAt_49 : decode cX2_reasonAt 49 = .ok (.ireturn, 1) := by decide +kernel
theorem dX2_reasonAt_50 : decode cX2_reasonAt 50 = .ok (.aload_n 0, 1) := by decide +kernel
theorem dX2_reasonAt_51 : decode cX2_reasonAt 51 = .ok (.getfield 35, 3) := by decide +kernel
theorem dX2_reasonAt_54 : decode cX2_reasonAt 54 = .ok (.getfield 199, 3) := by decide +kernel
theorem dX2_reasonAt_57 : decode cX2_reasonAt 57 = .ok (.iconst 1, 1) := by decide +kernel
theorem dX2_reasonAt_58 : decode cX2_reasonAt 58 = .ok (.if_icmp .le 5, 3) := by decide +kernel
theorem dX2_reasonAt_61 : decode cX2_reasonAt 61 = .ok (.iconst 5, 1) := by decide +kernel
theorem dX2_reasonAt_62 : decode cX2_reasonAt 62 = .ok (.ireturn, 1) := by decide +kernel
theorem dX2_reasonAt_63 : decode cX2_reasonAt 63 = .ok (.aload_n 0, 1) := by decide +kernel
theorem dX2_reasonAt_64 : decode cX2_reasonAt 64 = .ok (.getfield 35, 3) := by decide +kernel
theorem dX2_reasonAt_67 : decode cX2_reasonAt 67 = .ok (.getfield 148, 3) := by decide +kernel
theorem dX2_reasonAt_70 : decode cX2_reasonAt 70 = .ok (.ifCond .eq 6, 3) := by decide +kernel
theorem dX2_reasonAt_73 : decode cX2_reasonAt 73 = .ok (.bipush 6, 2) := by decide +kernel
theorem dX2_reasonAt_75 : decode cX2_reasonAt 75 = .ok (.ireturn, 1) := by decide +kernel
theorem dX2_reasonAt_76 : decode cX2_reasonAt 76 = .ok (.aload_n 0, 1) := by decide +kernel
theorem dX2_reasonAt_77 : decode cX2_reasonAt 77 = .ok (.getfield 65, 3) := by decide +kernel
theorem dX2_reasonAt_80 : decode cX2_reasonAt 80 = .ok (.iload_n 1, 1) := by decide +kernel
theorem dX2_reasonAt_81 : decode cX2_reasonAt 81 = .ok (.isub, 1) := by decide +kernel
theorem dX2_reasonAt_82 : decode cX2_reasonAt 82 = .ok (.invokestatic 201, 3) := by decide +kernel
theorem dX2_reasonAt_85 : decode cX2_reasonAt 85 = .ok (.istore_n 2, 1) := by decide +kernel
theorem dX2_reasonAt_86 : decode cX2_reasonAt 86 = .ok (.iload_n 2, 1) := by decide +kernel
theorem dX2_reasonAt_87 : decode cX2_reasonAt 87 = .ok (.aload_n 0, 1) := by decide +kernel
theorem dX2_reasonAt_88 : decode cX2_reasonAt 88 = .ok (.getfield 21, 3) := by decide +kernel
theorem dX2_reasonAt_91 : decode cX2_reasonAt 91 = .ok (.iconst 5, 1) := by decide +kernel
theorem dX2_reasonAt_92 : decode cX2_reasonAt 92 = .ok (.invokevirtual 97, 3) := by decide +kernel
theorem dX2_reasonAt_95 : decode cX2_reasonAt 95 = .ok (.if_icmp .le 8, 3) := by decide +kernel
theorem dX2_reasonAt_98 : decode cX2_reasonAt 98 = .ok (.bipush 7, 2) := by decide +kernel
theorem dX2_reasonAt_100 : decode cX2_reasonAt 100 = .ok (.goto 4, 3) := by decide +kernel
theorem dX2_reasonAt_103 : decode cX2_reasonAt 103 = .ok (.iconst 0, 1) := by decide +kernel
theorem dX2_reasonAt_104 : decode cX2_reasonAt 104 = .ok (.ireturn, 1) := by decide +kernel
theorem dX2_countCycle_0 : decode cX2_countCycle 0 = .ok (.aload_n 0, 1) := by decide +kernel
theorem dX2_countCycle_1 : decode cX2_countCycle 1 = .ok (.getfield 35, 3) := by decide +kernel
theorem dX2_countCycle_4 : decode cX2_countCycle 4 = .ok (.getfield 152, 3) := by decide +kernel
theorem dX2_countCycle_7 : decode cX2_countCycle 7 = .ok (.istore_n 1, 1) := by decide +kernel
theorem dX2_countCycle_8 : decode cX2_countCycle 8 = .ok (.aload_n 0, 1) := by decide +kernel
theorem dX2_countCycle_9 : decode cX2_countCycle 9 = .ok (.dup, 1) := by decide +kernel
theorem dX2_countCycle_10 : decode cX2_countCycle 10 = .ok (.getfield 76, 3) := by decide +kernel
theorem dX2_countCycle_13 : decode cX2_countCycle 13 = .ok (.iconst 1, 1) := by decide +kernel
theorem dX2_countCycle_14 : decode cX2_countCycle 14 = .ok (.iadd, 1) := by decide +kernel
theorem dX2_countCycle_15 : decode cX2_countCycle 15 = .ok (.putfield 76, 3) := by decide +kernel
theorem dX2_countCycle_18 : decode cX2_countCycle 18 = .ok (.iload_n 1, 1) := by decide +kernel
theorem dX2_countCycle_19 : decode cX2_countCycle 19 = .ok (.ifCond .lt 22, 3) := by decide +kernel
theorem dX2_countCycle_22 : decode cX2_countCycle 22 = .ok (.iload_n 1, 1) := by decide +kernel
theorem dX2_countCycle_23 : decode cX2_countCycle 23 = .ok (.aload_n 0, 1) := by decide +kernel
theorem dX2_countCycle_24 : decode cX2_countCycle 24 = .ok (.getfield 39, 3) := by decide +kernel
theorem dX2_countCycle_27 : decode cX2_countCycle 27 = .ok (.arraylength, 1) := by decide +kernel
theorem dX2_countCycle_28 : decode cX2_countCycle 28 = .ok (.if_icmp .ge 13, 3) := by decide +kernel
theorem dX2_countCycle_31 : decode cX2_countCycle 31 = .ok (.aload_n 0, 1) := by decide +kernel
theorem dX2_countCycle_32 : decode cX2_countCycle 32 = .ok (.getfield 39, 3) := by decide +kernel
theorem dX2_countCycle_35 : decode cX2_countCycle 35 = .ok (.iload_n 1, 1) := by decide +kernel
theorem dX2_countCycle_36 : decode cX2_countCycle 36 = .ok (.dup2, 1) := by decide +kernel
theorem dX2_countCycle_37 : decode cX2_countCycle 37 = .ok (.iaload, 1) := by decide +kernel
theorem dX2_countCycle_38 : decode cX2_countCycle 38 = .ok (.iconst 1, 1) := by decide +kernel
theorem dX2_countCycle_39 : decode cX2_countCycle 39 = .ok (.iadd, 1) := by decide +kernel
theorem dX2_countCycle_40 : decode cX2_countCycle 40 = .ok (.iastore, 1) := by decide +kernel
