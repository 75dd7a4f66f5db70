/-! Items -/
abbrev rmX1_size : Room := ({ frames := 0, cells := 0, slots := 0, locals := 0 } : Room)
theorem w1_X1_size : Cond.fieldLink RX1 18 "LabelApplicator$Items" "end" "I" ∈ wsX1_size := List.mem_of_getElem? (i := 1) (by decide +kernel)
theorem w2_X1_size : Cond.fieldLink RX1 22 "LabelApplicator$Items" "front" "I" ∈ wsX1_size := List.mem_of_getElem? (i := 2) (by decide +kernel)
theorem i1_X1_size : ∀ w ∈ wsX10, w ∈ wsX1_size := fun w h => (goodIn_r _ [3, 4, 5, 6] (by decide +kernel) (by decide +kernel) w h).1
set_option maxHeartbeats 4000000 in
set_option maxRecDepth 100000 in
theorem kX1_size (l : Launch) (E : ee_T) (h0 h1 h2 fr en : Nat) (hfe : fr ≤ en) : CQ l E yX1_size wsX1_size rmX1_size [.ref h0] [(h0, ee_o 1 [.ref h1, .ref h2, .int (nI fr), .int (nI en)])] (QI E (fun (r : Int32) (u : Unit) => r = nI (en - fr)) (fun (u : Unit) => [(h0, ee_o 1 [.ref h1, .ref h2, .int (nI fr), .int (nI en)])])) 0 0 := by
  refine CQ_ofW (cc := cX1_size) (maxL := 1) (ret := (some .int)) (by decide) rfl (Nat.le_of_ble_eq_true rfl) ?_
  intro p e s m below meth c A Q hQ hx hb hr hml hown hlocks hnm hts hV hA hP hD hS ls hl
  have hl : lv_has ls 1 [(0, .ref h0)] := hl
  refine lv_aload_n hx hb dX1_size_0 rfl (lv_at hl 0 rfl) ?_
  refine va_get (ci := 1) (v := .int (nI en)) (C := RX1) (T := TX1) (N := 4) hx hb hts i1_X1_size hown hV.1 hP 0 rfl rfl 3 (by decide) (hts _ w1_X1_size) (fun _ h9 => h9) rfl dX1_size_1 ?_
  refine lv_aload_n hx hb dX1_size_4 rfl (lv_at hl 0 rfl) ?_
  refine va_get (ci := 1) (v := .int (nI fr)) (C := RX1) (T := TX1) (N := 4) hx hb hts i1_X1_size hown hV.1 hP 0 rfl rfl 2 (by decide) (hts _ w2_X1_size) (fun _ h9 => h9) rfl dX1_size_5 ?_
  refine ee_isub hx hb (by omega) dX1_size_8 ?_
  exact ee_fi hQ hx hb hr (rfl) hlocks hS () (rfl) hP hD dX1_size_9
abbrev rmX1_kindOf : Room := ({ frames := 0, cells := 0, slots := 0, locals := 0 } : Room)
theorem w1_X1_kindOf : Cond.fieldLink RX1 22 "LabelApplicator$Items" "front" "I" ∈ wsX1_kindOf := List.mem_of_getElem? (i := 1) (by decide +kernel)
theorem w2_X1_kindOf : Cond.fieldLink RX1 9 "LabelApplicator$Items" "kinds" "[I" ∈ wsX1_kindOf := List.mem_of_getElem? (i := 2) (by decide +kernel)
theorem i1_X1_kindOf : ∀ w ∈ wsX10, w ∈ wsX1_kindOf := fun w h => (goodIn_r _ [3, 4, 5, 6] (by decide +kernel) (by decide +kernel) w h).1
set_option maxHeartbeats 4000000 in
set_option maxRecDepth 100000 in
theorem kX1_kindOf (l : Launch) (E : ee_T) (h0 h1 h2 fr en : Nat) (fk : Nat → Int32) (i : Nat) (hi : fr + i < 80) : CQ l E yX1_kindOf wsX1_kindOf rmX1_kindOf [.ref h0, .int (nI i)] [(h0, ee_o 1 [.ref h1, .ref h2, .int (nI fr), .int (nI en)]), (h1, ee_i E 80 fk)] (QI E (fun (r : Int32) (u : Unit) => r = fk (fr + i)) (fun (u : Unit) => [(h0, ee_o 1 [.ref h1, .ref h2, .int (nI fr), .int (nI en)]), (h1, ee_i E 80 fk)])) 0 0 := by
  refine CQ_ofW (cc := cX1_kindOf) (maxL := 3) (ret := (some .int)) (by decide) rfl (Nat.le_of_ble_eq_true rfl) ?_
  intro p e s m below meth c A Q hQ hx hb hr hml hown hlocks hnm hts hV hA hP hD hS ls hl
  have hl : lv_has ls 3 [(0, .ref h0), (1, .int (nI i))] := hl
  refine lv_aload_n hx hb dX1_kindOf_0 rfl (lv_at hl 0 rfl) ?_
  refine va_get (ci := 1) (v := .int (nI fr)) (C := RX1) (T := TX1) (N := 4) hx hb hts i1_X1_kindOf hown hV.1 hP 0 rfl rfl 2 (by decide) (hts _ w1_X1_kindOf) (fun _ h9 => h9) rfl dX1_kindOf_1 ?_
  refine lv_iload_n hx hb dX1_kindOf_4 rfl (lv_at hl 1 rfl) ?_
  refine ee_iadd hx hb dX1_kindOf_5 ?_
  refine lv_istore_n (lv' := [(2, .int (nI (fr + i))), (0, .ref h0), (1, .int (nI i))]) hx hb dX1_kindOf_6 rfl hl (by decide) rfl (fun ls hl => ?_)
  refine lv_iload_n hx hb dX1_kindOf_7 rfl (lv_at hl 0 rfl) ?_
  refine ee_lt0 (tgt := 29) hx hb (by omega) dX1_kindOf_8 (by decide) ?_
  refine lv_iload_n hx hb dX1_kindOf_11 rfl (lv_at hl 0 rfl) ?_
  refine lv_aload_n hx hb dX1_kindOf_12 rfl (lv_at hl 1 rfl) ?_
  refine va_get (ci := 1) (v := .ref h1) (C := RX1) (T := TX1) (N := 4) hx hb hts i1_X1_kindOf hown hV.1 hP 0 rfl rfl 0 (by decide) (hts _ w2_X1_kindOf) (fun _ h9 => h9) rfl dX1_kindOf_13 ?_
  refine va_alen (v := nI 80) hx hb hV.1 hP 1 0 rfl rfl rfl dX1_kindOf_16 ?_
  refine ee_ge (tgt := 29) hx hb (by omega) (by omega) dX1_kindOf_17 (by decide) (fun h_2 => absurd h_2 (by omega)) (fun h_2 => ?_)
  refine lv_aload_n hx hb dX1_kindOf_20 rfl (lv_at hl 1 rfl) ?_
  refine va_get (ci := 1) (v := .ref h1) (C := RX1) (T := TX1) (N := 4) hx hb hts i1_X1_kindOf hown hV.1 hP 0 rfl rfl 0 (by decide) (hts _ w2_X1_kindOf) (fun _ h9 => h9) rfl dX1_kindOf_21 ?_
  refine lv_iload_n hx hb dX1_kindOf_24 rfl (lv_at hl 0 rfl) ?_
  refine ee_ild hx hb hV hP 1 rfl (j := (fr + i)) (by omega) (by decide) dX1_kindOf_25 ?_
  refine lv_goto (tgt := 30) hx hb dX1_kindOf_26 (by decide) ?_
  exact ee_fi hQ hx hb hr (rfl) hlocks hS () (rfl) hP hD dX1_kindOf_30
abbrev rmX1_lengthOf : Room := ({ frames := 0, cells := 0, slots := 0, locals := 0 } : Room)
theorem w1_X1_lengthOf : Cond.fieldLink RX1 22 "LabelApplicator$Items" "front" "I" ∈ wsX1_lengthOf := List.mem_of_getElem? (i := 1) (by decide +kernel)
theorem w2_X1_lengthOf : Cond.fieldLink RX1 15 "LabelApplicator$Items" "lengths" "[I" ∈ wsX1_lengthOf := List.mem_of_getElem? (i := 2) (by decide +kernel)
theorem i1_X1_lengthOf : ∀ w ∈ wsX10, w ∈ wsX1_lengthOf := fun w h => (goodIn_r _ [3, 4, 5, 6] (by decide +kernel) (by decide +kernel) w h).1
set_option maxHeartbeats 4000000 in
set_option maxRecDepth 100000 in
theorem kX1_lengthOf (l : Launch) (E : ee_T) (h0 h1 h2 fr en : Nat) (fl : Nat → Int32) (i : Nat) (hi : fr + i < 80) : CQ l E yX1_lengthOf wsX1_lengthOf rmX1_lengthOf [.ref h0, .int (nI i)] [(h0, ee_o 1 [.ref h1, .ref h2, .int (nI fr), .int (nI en)]), (h2, ee_i E 80 fl)] (QI E (fun (r : Int32) (u : Unit) => r = fl (fr + i)) (fun (u : Unit) => [(h0, ee_o 1 [.ref h1, .ref h2, .int (nI fr), .int (nI en)]), (h2, ee_i E 80 fl)])) 0 0 := by
  refine CQ_ofW (cc := cX1_lengthOf) (maxL := 3) (ret := (some .int)) (by decide) rfl (Nat.le_of_ble_eq_true rfl) ?_
  intro p e s m below meth c A Q hQ hx hb hr hml hown hlocks hnm hts hV hA hP hD hS ls hl
  have hl : lv_has ls 3 [(0, .ref h0), (1, .int (nI i))] := hl
  refine lv_aload_n hx hb dX1_lengthOf_0 rfl (lv_at hl 0 rfl) ?_
  refine va_get (ci := 1) (v := .int (nI fr)) (C := RX1) (T := TX1) (N := 4) hx hb hts i1_X1_lengthOf hown hV.1 hP 0 rfl rfl 2 (by decide) (hts _ w1_X1_lengthOf) (fun _ h9 => h9) rfl dX1_lengthOf_1 ?_
  refine lv_iload_n hx hb dX1_lengthOf_4 rfl (lv_at hl 1 rfl) ?_
  refine ee_iadd hx hb dX1_lengthOf_5 ?_
  refine lv_istore_n (lv' := [(2, .int (nI (fr + i))), (0, .ref h0), (1, .int (nI i))]) hx hb dX1_lengthOf_6 rfl hl (by decide) rfl (fun ls hl => ?_)
  refine lv_iload_n hx hb dX1_lengthOf_7 rfl (lv_at hl 0 rfl) ?_
  refine ee_lt0 (tgt := 29) hx hb (by omega) dX1_lengthOf_8 (by decide) ?_
  refine lv_iload_n hx hb dX1_lengthOf_11 rfl (lv_at hl 0 rfl) ?_
  refine lv_aload_n hx hb dX1_lengthOf_12 rfl (lv_at hl 1 rfl) ?_
  refine va_get (ci := 1) (v := .ref h2) (C := RX1) (T := TX1) (N := 4) hx hb hts i1_X1_lengthOf hown hV.1 hP 0 rfl rfl 1 (by decide) (hts _ w2_X1_lengthOf) (fun _ h9 => h9) rfl dX1_lengthOf_13 ?_
  refine va_alen (v := nI 80) hx hb hV.1 hP 1 0 rfl rfl rfl dX1_lengthOf_16 ?_
  refine ee_ge (tgt := 29) hx hb (by omega) (by omega) dX1_lengthOf_17 (by decide) (fun h_2 => absurd h_2 (by omega)) (fun h_2 => ?_)
  refine lv_aload_n hx hb dX1_lengthOf_20 rfl (lv_at hl 1 rfl) ?_
  refine va_get (ci := 1) (v := .ref h2) (C := RX1) (T := TX1) (N := 4) hx hb hts i1_X1_lengthOf hown hV.1 hP 0 rfl rfl 1 (by decide) (hts _ w2_X1_lengthOf) (fun _ h9 => h9) rfl dX1_lengthOf_21 ?_
  refine lv_iload_n hx hb dX1_lengthOf_24 rfl (lv_at hl 0 rfl) ?_
  refine ee_ild hx hb hV hP 1 rfl (j := (fr + i)) (by omega) (by decide) dX1_lengthOf_25 ?_
  refine lv_goto (tgt := 30) hx hb dX1_lengthOf_26 (by decide) ?_
  exact ee_fi hQ hx hb hr (rfl) hlocks hS () (rfl) hP hD dX1_lengthOf_30
abbrev rmX1_lengthAhead : Room := ({ frames := 1, cells := 0, slots := 0, locals := 22 } : Room)
theorem w1_X1_lengthAhead : Cond.methodLink RX1 25 yX1_lengthOf ∈ wsX1_lengthAhead := List.mem_of_getElem? (i := 1) (by decide +kernel)
theorem w4_X1_lengthAhead : Cond.initialized RX1 ∈ wsX1_lengthAhead := List.mem_of_getElem? (i := 4) (by decide +kernel)
theorem w6_X1_lengthAhead : Cond.fieldLink RX1 22 "LabelApplicator$Items" "front" "I" ∈ wsX1_lengthAhead := List.mem_of_getElem? (i := 6) (by decide +kernel)
theorem w7_X1_lengthAhead : Cond.fieldLink RX1 15 "LabelApplicator$Items" "lengths" "[I" ∈ wsX1_lengthAhead := List.mem_of_getElem? (i := 7) (by decide +kernel)
theorem i1_X1_lengthAhead : ∀ w ∈ wsX10, w ∈ wsX1_lengthAhead := fun w h => (goodIn_r _ [8, 9, 10, 11] (by decide +kernel) (by decide +kernel) w h).1
set_option maxHeartbeats 4000000 in
set_option maxRecDepth 100000 in
theorem kX1_lengthAhead (l : Launch) (E : ee_T) (h0 h1 h2 fr en : Nat) (fl : Nat → Int32) (n : Nat) (hi : fr + n ≤ 80) : CQ l E yX1_lengthAhead wsX1_lengthAhead rmX1_lengthAhead [.ref h0, .int (nI n)] [(h0, ee_o 1 [.ref h1, .ref h2, .int (nI fr), .int (nI en)]), (h2, ee_i E 80 fl)] (QI E (fun (r : Int32) (u : Unit) => r = sumF fl fr n) (fun (u : Unit) => [(h0, ee_o 1 [.ref h1, .ref h2, .int (nI fr), .int (nI en)]), (h2, ee_i E 80 fl)])) 0 0 := by
  refine CQ_ofW (cc := cX1_lengthAhead) (maxL := 4) (ret := (some .int)) (by decide) rfl (Nat.le_of_ble_eq_true rfl) ?_
  intro p e s m below meth c A Q hQ hx hb hr hml hown hlocks hnm hts hV hA hP hD hS ls hl
  have hl : lv_has ls 4 [(0, .ref h0), (1, .int (nI n))] := hl
  refine lv_iconst (v := nI 0) hx hb dX1_lengthAhead_0 (by decide) ?_
  refine lv_istore_n (lv' := [(2, .int (nI 0)), (0, .ref h0), (1, .int (nI n))]) hx hb dX1_lengthAhead_1 rfl hl (by decide) rfl (fun ls hl => ?_)
  refine lv_iconst (v := nI 0) hx hb dX1_lengthAhead_2 (by decide) ?_
  refine lv_istore_n (lv' := [(3, .int (nI 0)), (2, .int (nI 0)), (0, .ref h0), (1, .int (nI n))]) hx hb dX1_lengthAhead_3 rfl hl (by decide) rfl (fun ls hl => ?_)
  have B_1 : ∀ (zz : Nat) (i : Nat) (H : Heap) (locs : List Loc) (ls : Array Slot), (n - i) < zz → (i ≤ n) → va_P E.1 vwCl [(h0, ee_o 1 [.ref h1, .ref h2, .int (nI fr), .int (nI en)]), (h2, ee_i E 80 fl)] H → va_D A [(h0, ee_o 1 [.ref h1, .ref h2, .int (nI fr), .int (nI en)]), (h2, ee_i E 80 fl)] → va_S A s.heap H locs → lv_has ls 4 [(3, .int (nI i)), (2, .int (sumF fl fr i)), (0, .ref h0), (1, .int (nI n))] → W p l e rmX1_lengthAhead s m [.ref h0, .int (nI n)].toArray below meth c H locs 0 0 Q (F0 m 4 ls []) := by
    intro zz
    induction zz with
    | zero => intro i H locs ls hzz; exact absurd hzz (Nat.not_lt_zero _)
    | succ zz ihB_1 =>
      intro i H locs ls hzz hin hP hD hS hl
      refine lv_iload_n hx hb dX1_lengthAhead_4 rfl (lv_at hl 0 rfl) ?_
      refine lv_iload_n hx hb dX1_lengthAhead_5 rfl (lv_at hl 3 rfl) ?_
      refine ee_ge (tgt := 23) hx hb (by omega) (by omega) dX1_lengthAhead_6 (by decide) (fun h_2 => ?_) (fun h_2 => ?_)
      · refine lv_iload_n hx hb dX1_lengthAhead_23 rfl (lv_at hl 1 rfl) ?_
        obtain rfl : i = n := by omega
        exact ee_fi hQ hx hb hr (rfl) hlocks hS () (rfl) hP hD dX1_lengthAhead_24
      · refine lv_iload_n hx hb dX1_lengthAhead_9 rfl (lv_at hl 1 rfl) ?_
        refine lv_aload_n hx hb dX1_lengthAhead_10 rfl (lv_at hl 2 rfl) ?_
        refine lv_iload_n hx hb dX1_lengthAhead_11 rfl (lv_at hl 0 rfl) ?_
        refine ee_ki (wr := []) (ee_rV (As := [.int (nI i)]) (rest := [.int (sumF fl fr i)]) (kX1_lengthOf l E h0 h1 h2 fr en fl i (by omega)) hx hb hml hown hts 1 gX1_lengthAhead_X1_lengthOf rfl rfl rfl (by decide +kernel) ⟨Nat.le_of_ble_eq_true rfl, Nat.le_of_ble_eq_true rfl⟩ hV hP hD hS hA [0, 1] rfl (by decide) hl 0 rfl rfl rfl rfl (Nat.le_of_ble_eq_true rfl) dX1_lengthAhead_12 ⟨Nat.le_of_ble_eq_true rfl, Nat.le_of_ble_eq_true rfl⟩) hP hD hS hA [0, 1] [] rfl rfl (by decide) (by decide) (fun r_3 u_4 H locs hp_5 hP hD hS => ?_)
        subst hp_5
        have hP : va_P E.1 vwCl [(h0, ee_o 1 [.ref h1, .ref h2, .int (nI fr), .int (nI en)]), (h2, ee_i E 80 fl)] H := hP
        have hD : va_D A [(h0, ee_o 1 [.ref h1, .ref h2, .int (nI fr), .int (nI en)]), (h2, ee_i E 80 fl)] := hD
        refine lv_iadd hx hb dX1_lengthAhead_15 ?_
        refine lv_istore_n (lv' := [(2, .int ((sumF fl fr i) + (fl (fr + i)))), (3, .int (nI i)), (0, .ref h0), (1, .int (nI n))]) hx hb dX1_lengthAhead_16 rfl hl (by decide) rfl (fun ls hl => ?_)
        refine lv_iinc (v := nI (i + 1)) (lv' := [(3, .int (nI (i + 1))), (2, .int ((sumF fl fr i) + (fl (fr + i)))), (0, .ref h0), (1, .int (nI n))]) hx hb dX1_lengthAhead_17 hl (k := 1) rfl (ee_inc _) (by decide) rfl (fun ls hl => ?_)
        refine lv_goto (tgt := 4) hx hb dX1_lengthAhead_20 (by decide) ?_
        exact ihB_1 (i + 1) _ _ _ (by omega) (by omega) hP hD hS (lv_sub hl [0, 1, 2, 3] rfl)
  exact B_1 ((n - 0) + 1) 0 _ _ _ (Nat.lt_succ_self _) (by omega) hP hD hS (lv_sub hl [0, 1, 2, 3] rfl)
abbrev rmX1_labels : Room := ({ frames := 1, cells := 0, slots := 0, locals := 22 } : Room)
theorem w1_X1_labels : Cond.methodLink RX1 29 yX1_size ∈ wsX1_labels := List.mem_of_getElem? (i := 1) (by decide +kernel)
theorem w4_X1_labels : Cond.initialized RX1 ∈ wsX1_labels := List.mem_of_getElem? (i := 4) (by decide +kernel)
theorem w6_X1_labels : Cond.fieldLink RX1 18 "LabelApplicator$Items" "end" "I" ∈ wsX1_labels := List.mem_of_getElem? (i := 6) (by decide +kernel)
theorem w7_X1_labels : Cond.fieldLink RX1 22 "LabelApplicator$Items" "front" "I" ∈ wsX1_labels := List.mem_of_getElem? (i := 7) (by decide +kernel)
theorem w8_X1_labels : Cond.methodLink RX1 33 yX1_kindOf ∈ wsX1_labels := List.mem_of_getElem? (i := 8) (by decide +kernel)
theorem w12_X1_labels : Cond.fieldLink RX1 9 "LabelApplicator$Items" "kinds" "[I" ∈ wsX1_labels := List.mem_of_getElem? (i := 12) (by decide +kernel)
theorem i1_X1_labels : ∀ w ∈ wsX10, w ∈ wsX1_labels := fun w h => (goodIn_r _ [13, 14, 15, 16] (by decide +kernel) (by decide +kernel) w h).1
set_option maxHeartbeats 4000000 in
set_option maxRecDepth 100000 in
theorem kX1_labels (l : Launch) (E : ee_T) (h0 h1 h2 fr en : Nat) (fk : Nat → Int32) (hfe : fr ≤ en) (hen : en ≤ 80) : CQ l E yX1_labels wsX1_labels rmX1_labels [.ref h0] [(h0, ee_o 1 [.ref h1, .ref h2, .int (nI fr), .int (nI en)]), (h1, ee_i E 80 fk)] (QI E (fun (r : Int32) (u : Unit) => r = nI (cnt0 fk fr (en - fr))) (fun (u : Unit) => [(h0, ee_o 1 [.ref h1, .ref h2, .int (nI fr), .int (nI en)]), (h1, ee_i E 80 fk)])) 0 0 := by
  refine CQ_ofW (cc := cX1_labels) (maxL := 3) (ret := (some .int)) (by decide) rfl (Nat.le_of_ble_eq_true rfl) ?_
  intro p e s m below meth c A Q hQ hx hb hr hml hown hlocks hnm hts hV hA hP hD hS ls hl
  have hl : lv_has ls 3 [(0, .ref h0)] := hl
  refine lv_iconst (v := nI 0) hx hb dX1_labels_0 (by decide) ?_
  refine lv_istore_n (lv' := [(1, .int (nI 0)), (0, .ref h0)]) hx hb dX1_labels_1 rfl hl (by decide) rfl (fun ls hl => ?_)
  refine lv_iconst (v := nI 0) hx hb dX1_labels_2 (by decide) ?_
  refine lv_istore_n (lv' := [(2, .int (nI 0)), (1, .int (nI 0)), (0, .ref h0)]) hx hb dX1_labels_3 rfl hl (by decide) rfl (fun ls hl => ?_)
  have B_1 : ∀ (zz : Nat) (i n : Nat) (H : Heap) (locs : List Loc) (ls : Array Slot), (en - fr - i) < zz → (i ≤ en - fr) → (n = cnt0 fk fr i) → va_P E.1 vwCl [(h0, ee_o 1 [.ref h1, .ref h2, .int (nI fr), .int (nI en)]), (h1, ee_i E 80 fk)] H → va_D A [(h0, ee_o 1 [.ref h1, .ref h2, .int (nI fr), .int (nI en)]), (h1, ee_i E 80 fk)] → va_S A s.heap H locs → lv_has ls 3 [(2, .int (nI i)), (1, .int (nI n)), (0, .ref h0)] → W p l e rmX1_labels s m [.ref h0].toArray below meth c H locs 0 0 Q (F0 m 4 ls []) := by
    intro zz
    induction zz with
    | zero => intro i n H locs ls hzz; exact absurd hzz (Nat.not_lt_zero _)
    | succ zz ihB_1 =>
      intro i n H locs ls hzz hin hn2 hP hD hS hl
      refine lv_iload_n hx hb dX1_labels_4 rfl (lv_at hl 0 rfl) ?_
      refine lv_aload_n hx hb dX1_labels_5 rfl (lv_at hl 2 rfl) ?_
      refine ee_ki (wr := [(h1, ee_i E 80 fk)]) (ee_rV (As := []) (rest := [.int (nI i)]) (kX1_size l E h0 h1 h2 fr en (by omega)) hx hb hml hown hts 0 gX1_labels_X1_size rfl rfl rfl (by decide +kernel) ⟨Nat.le_of_ble_eq_true rfl, Nat.le_of_ble_eq_true rfl⟩ hV hP hD hS hA [0] rfl (by decide) hl 0 rfl rfl rfl rfl (Nat.le_of_ble_eq_true rfl) dX1_labels_6 ⟨Nat.le_of_ble_eq_true rfl, Nat.le_of_ble_eq_true rfl⟩) hP hD hS hA [0] [1] rfl rfl (by decide) (by decide) (fun r_2 u_3 H locs hp_4 hP hD hS => ?_)
      subst hp_4
      have hP : va_P E.1 vwCl [(h1, ee_i E 80 fk), (h0, ee_o 1 [.ref h1, .ref h2, .int (nI fr), .int (nI en)])] H := hP
      have hD : va_D A [(h1, ee_i E 80 fk), (h0, ee_o 1 [.ref h1, .ref h2, .int (nI fr), .int (nI en)])] := hD
      refine ee_ge (tgt := 29) hx hb (by omega) (by omega) dX1_labels_9 (by decide) (fun h_5 => ?_) (fun h_5 => ?_)
      · refine lv_iload_n hx hb dX1_labels_29 rfl (lv_at hl 1 rfl) ?_
        obtain rfl : i = en - fr := by omega
        subst hn2
        exact ee_fi hQ hx hb hr (rfl) hlocks hS () (rfl) (hP.sub [1, 0] rfl) (hD.sub [1, 0] (by decide) rfl) dX1_labels_30
      · refine lv_aload_n hx hb dX1_labels_12 rfl (lv_at hl 2 rfl) ?_
        refine lv_iload_n hx hb dX1_labels_13 rfl (lv_at hl 0 rfl) ?_
        refine ee_ki (wr := []) (ee_rV (As := [.int (nI i)]) (rest := []) (kX1_kindOf l E h0 h1 h2 fr en fk i (by omega)) hx hb hml hown hts 1 gX1_labels_X1_kindOf rfl rfl rfl (by decide +kernel) ⟨Nat.le_of_ble_eq_true rfl, Nat.le_of_ble_eq_true rfl⟩ hV hP hD hS hA [1, 0] rfl (by decide) hl 1 rfl rfl rfl rfl (Nat.le_of_ble_eq_true rfl) dX1_labels_14 ⟨Nat.le_of_ble_eq_true rfl, Nat.le_of_ble_eq_true rfl⟩) hP hD hS hA [1, 0] [] rfl rfl (by decide) (by decide) (fun r_6 u_7 H locs hp_8 hP hD hS => ?_)
        subst hp_8
        have hP : va_P E.1 vwCl [(h0, ee_o 1 [.ref h1, .ref h2, .int (nI fr), .int (nI en)]), (h1, ee_i E 80 fk)] H := hP
        have hD : va_D A [(h0, ee_o 1 [.ref h1, .ref h2, .int (nI fr), .int (nI en)]), (h1, ee_i E 80 fk)] := hD
        have hle := cnt0_le fk fr i
        refine ee_z_ne (tgt := 23) hx hb dX1_labels_17 (by decide) (fun h_9 => ?_) (fun h_9 => ?_)
        · refine lv_iinc (v := nI (i + 1)) (lv' := [(2, .int (nI (i + 1))), (1, .int (nI n)), (0, .ref h0)]) hx hb dX1_labels_23 hl (k := 0) rfl (ee_inc _) (by decide) rfl (fun ls hl => ?_)
          refine lv_goto (tgt := 4) hx hb dX1_labels_26 (by decide) ?_
          exact ihB_1 (i + 1) n _ _ _ (by omega) (by omega) (by rw [cnt0, if_neg (by assumption), ← hn2]) hP hD hS (lv_sub hl [0, 1, 2] rfl)
        · have hle := cnt0_le fk fr i
          refine lv_iinc (v := nI (n + 1)) (lv' := [(1, .int (nI (n + 1))), (2, .int (nI i)), (0, .ref h0)]) hx hb dX1_labels_20 hl (k := 1) rfl (ee_inc _) (by decide) rfl (fun ls hl => ?_)
          refine lv_iinc (v := nI (i + 1)) (lv' := [(2, .int (nI (i + 1))), (1, .int (nI (n + 1))), (0, .ref h0)]) hx hb dX1_labels_23 hl (k := 1) rfl (ee_inc _) (by decide) rfl (fun ls hl => ?_)
          refine lv_goto (tgt := 4) hx hb dX1_labels_26 (by decide) ?_
          exact ihB_1 (i + 1) (n + 1) _ _ _ (by omega) (by omega) (by rw [cnt0, if_pos (by assumption), ← hn2]) hP hD hS (lv_sub hl [0, 1, 2] rfl)
  exact B_1 ((en - fr - 0) + 1) 0 0 _ _ _ (Nat.lt_succ_self _) (by omega) rfl hP hD hS (lv_sub hl [0, 1, 2] rfl)
abbrev rmX1_removeAll : Room := ({ frames := 0, cells := 0, slots := 0, locals := 0 } : Room)
theorem w1_X1_removeAll : Cond.fieldLink RX1 22 "LabelApplicator$Items" "front" "I" ∈ wsX1_removeAll := List.mem_of_getElem? (i := 1) (by decide +kernel)
theorem w2_X1_removeAll : Cond.fieldLink RX1 18 "LabelApplicator$Items" "end" "I" ∈ wsX1_removeAll := List.mem_of_getElem? (i := 2) (by decide +kernel)
theorem i1_X1_removeAll : ∀ w ∈ wsX10, w ∈ wsX1_removeAll := fun w h => (goodIn_r _ [3, 4, 5, 6] (by decide +kernel) (by decide +kernel) w h).1
set_option maxHeartbeats 4000000 in
set_option maxRecDepth 100000 in
theorem kX1_removeAll (l : Launch) (E : ee_T) (h0 h1 h2 fr en : Nat)  : CQ l E yX1_removeAll wsX1_removeAll rmX1_removeAll [.ref h0] [(h0, ee_o 1 [.ref h1, .ref h2, .int (nI fr), .int (nI en)])] (QV E (fun (u : Unit) => True) (fun (u : Unit) => [(h0, ee_o 1 [.ref h1, .ref h2, .int (nI 0), .int (nI 0)])])) 0 0 := by
  refine CQ_ofW (cc := cX1_removeAll) (maxL := 1) (ret := none) (by decide) rfl (Nat.le_of_ble_eq_true rfl) ?_
  intro p e s m below meth c A Q hQ hx hb hr hml hown hlocks hnm hts hV hA hP hD hS ls hl
  have hl : lv_has ls 1 [(0, .ref h0)] := hl
  refine lv_aload_n hx hb dX1_removeAll_0 rfl (lv_at hl 0 rfl) ?_
  refine lv_iconst (v := nI 0) hx hb dX1_removeAll_1 (by decide) ?_
  refine va_put (ci := 1) (v := .int (nI 0)) (ty := .int) (C := RX1) (T := TX1) (N := 4) hx hb hts i1_X1_removeAll tyX1 tyX1_ok nmX1 hown hV.1 hP hD hS 0 rfl rfl 2 (by decide) (hts _ w1_X1_removeAll) (fun _ h9 => h9) rfl (by decide +kernel) rfl rfl (Nat.le_of_ble_eq_true rfl) dX1_removeAll_2 (fun H locs hP hD hS => ?_)
  have hP : va_P E.1 vwCl [(h0, ee_o 1 [.ref h1, .ref h2, .int (nI 0), .int (nI en)])] H := hP
  have hD : va_D A [(h0, ee_o 1 [.ref h1, .ref h2, .int (nI 0), .int (nI en)])] := hD
  refine lv_aload_n hx hb dX1_removeAll_5 rfl (lv_at hl 0 rfl) ?_
  refine lv_iconst (v := nI 0) hx hb dX1_removeAll_6 (by decide) ?_
  refine va_put (ci := 1) (v := .int (nI 0)) (ty := .int) (C := RX1) (T := TX1) (N := 4) hx hb hts i1_X1_removeAll tyX1 tyX1_ok nmX1 hown hV.1 hP hD hS 0 rfl rfl 3 (by decide) (hts _ w2_X1_removeAll) (fun _ h9 => h9) rfl (by decide +kernel) rfl rfl (Nat.le_of_ble_eq_true rfl) dX1_removeAll_7 (fun H locs hP hD hS => ?_)
  have hP : va_P E.1 vwCl [(h0, ee_o 1 [.ref h1, .ref h2, .int (nI 0), .int (nI 0)])] H := hP
  have hD : va_D A [(h0, ee_o 1 [.ref h1, .ref h2, .int (nI 0), .int (nI 0)])] := hD
  exact ee_fv hQ hx hb hr hlocks hS () (trivial) hP hD dX1_removeAll_10
abbrev rmX1_removeFirst : Room := ({ frames := 0, cells := 0, slots := 0, locals := 0 } : Room)
theorem w1_X1_removeFirst : Cond.fieldLink RX1 22 "LabelApplicator$Items" "front" "I" ∈ wsX1_removeFirst := List.mem_of_getElem? (i := 1) (by decide +kernel)
theorem i1_X1_removeFirst : ∀ w ∈ wsX10, w ∈ wsX1_removeFirst := fun w h => (goodIn_r _ [2, 3, 4, 5] (by decide +kernel) (by decide +kernel) w h).1
set_option maxHeartbeats 4000000 in
set_option maxRecDepth 100000 in
theorem kX1_removeFirst (l : Launch) (E : ee_T) (h0 h1 h2 fr en k : Nat)  : CQ l E yX1_removeFirst wsX1_removeFirst rmX1_removeFirst [.ref h0, .int (nI k)] [(h0, ee_o 1 [.ref h1, .ref h2, .int (nI fr), .int (nI en)])] (QV E (fun (u : Unit) => True) (fun (u : Unit) => [(h0, ee_o 1 [.ref h1, .ref h2, .int (nI (fr + k)), .int (nI en)])])) 0 0 := by
  refine CQ_ofW (cc := cX1_removeFirst) (maxL := 2) (ret := none) (by decide) rfl (Nat.le_of_ble_eq_true rfl) ?_
  intro p e s m below meth c A Q hQ hx hb hr hml hown hlocks hnm hts hV hA hP hD hS ls hl
  have hl : lv_has ls 2 [(0, .ref h0), (1, .int (nI k))] := hl
  refine lv_aload_n hx hb dX1_removeFirst_0 rfl (lv_at hl 0 rfl) ?_
  refine lv_dup hx hb dX1_removeFirst_1 rfl ?_
  refine va_get (ci := 1) (v := .int (nI fr)) (C := RX1) (T := TX1) (N := 4) hx hb hts i1_X1_removeFirst hown hV.1 hP 0 rfl rfl 2 (by decide) (hts _ w1_X1_removeFirst) (fun _ h9 => h9) rfl dX1_removeFirst_2 ?_
  refine lv_iload_n hx hb dX1_removeFirst_5 rfl (lv_at hl 1 rfl) ?_
  refine ee_iadd hx hb dX1_removeFirst_6 ?_
  refine va_put (ci := 1) (v := .int (nI (fr + k))) (ty := .int) (C := RX1) (T := TX1) (N := 4) hx hb hts i1_X1_removeFirst tyX1 tyX1_ok nmX1 hown hV.1 hP hD hS 0 rfl rfl 2 (by decide) (hts _ w1_X1_removeFirst) (fun _ h9 => h9) rfl (by decide +kernel) rfl rfl (Nat.le_of_ble_eq_true rfl) dX1_removeFirst_7 (fun H locs hP hD hS => ?_)
  have hP : va_P E.1 vwCl [(h0, ee_o 1 [.ref h1, .ref h2, .int (nI (fr + k)), .int (nI en)])] H := hP
  have hD : va_D A [(h0, ee_o 1 [.ref h1, .ref h2, .int (nI (fr + k)), .int (nI en)])] := hD
  exact ee_fv hQ hx hb hr hlocks hS () (trivial) hP hD dX1_removeFirst_10
abbrev rmX1_append : Room := ({ frames := 0, cells := 0, slots := 0, locals := 0 } : Room)
theorem w1_X1_append : Cond.fieldLink RX1 18 "LabelApplicator$Items" "end" "I" ∈ wsX1_append := List.mem_of_getElem? (i := 1) (by decide +kernel)
theorem w2_X1_append : Cond.fieldLink RX1 9 "LabelApplicator$Items" "kinds" "[I" ∈ wsX1_append := List.mem_of_getElem? (i := 2) (by decide +kernel)
theorem w3_X1_append : Cond.fieldLink RX1 15 "LabelApplicator$Items" "lengths" "[I" ∈ wsX1_append := List.mem_of_getElem? (i := 3) (by decide +kernel)
theorem i1_X1_append : ∀ w ∈ wsX10, w ∈ wsX1_append := fun w h => (goodIn_r _ [4, 5, 6, 7] (by decide +kernel) (by decide +kernel) w h).1
set_option maxHeartbeats 4000000 in
set_option maxRecDepth 100000 in
theorem kX1_append (l : Launch) (E : ee_T) (h0 h1 h2 : Nat) (fr en : Nat) (fk fl : Nat → Int32) (kd ln : Int32) (hen : en < 80) : CQ l E yX1_append wsX1_append rmX1_append [.ref h0, .int kd, .int ln] [(h0, ee_o 1 [.ref h1, .ref h2, .int (nI fr), .int (nI en)]), (h1, ee_i E 80 fk), (h2, ee_i E 80 fl)] (QI E (fun (r : Int32) (u : Unit) => r = nI 1) (fun (u : Unit) => [(h0, ee_o 1 [.ref h1, .ref h2, .int (nI fr), .int (nI (en + 1))]), (h1, ee_i E 80 (upd fk en kd)), (h2, ee_i E 80 (upd fl en ln))])) 0 0 := by
  refine CQ_ofW (cc := cX1_append) (maxL := 3) (ret := (some .boolean)) (by decide) rfl (Nat.le_of_ble_eq_true rfl) ?_
  intro p e s m below meth c A Q hQ hx hb hr hml hown hlocks hnm hts hV hA hP hD hS ls hl
  have hl : lv_has ls 3 [(0, .ref h0), (1, .int kd), (2, .int ln)] := hl
  refine lv_aload_n hx hb dX1_append_0 rfl (lv_at hl 0 rfl) ?_
  refine va_get (ci := 1) (v := .int (nI en)) (C := RX1) (T := TX1) (N := 4) hx hb hts i1_X1_append hown hV.1 hP 0 rfl rfl 3 (by decide) (hts _ w1_X1_append) (fun _ h9 => h9) rfl dX1_append_1 ?_
  refine ee_lt0 (tgt := 31) hx hb (by omega) dX1_append_4 (by decide) ?_
  refine lv_aload_n hx hb dX1_append_7 rfl (lv_at hl 0 rfl) ?_
  refine va_get (ci := 1) (v := .int (nI en)) (C := RX1) (T := TX1) (N := 4) hx hb hts i1_X1_append hown hV.1 hP 0 rfl rfl 3 (by decide) (hts _ w1_X1_append) (fun _ h9 => h9) rfl dX1_append_8 ?_
  refine lv_aload_n hx hb dX1_append_11 rfl (lv_at hl 0 rfl) ?_
  refine va_get (ci := 1) (v := .ref h1) (C := RX1) (T := TX1) (N := 4) hx hb hts i1_X1_append hown hV.1 hP 0 rfl rfl 0 (by decide) (hts _ w2_X1_append) (fun _ h9 => h9) rfl dX1_append_12 ?_
  refine va_alen (v := nI 80) hx hb hV.1 hP 1 0 rfl rfl rfl dX1_append_15 ?_
  refine ee_ge (tgt := 31) hx hb (by omega) (by omega) dX1_append_16 (by decide) (fun h_2 => absurd h_2 (by omega)) (fun h_2 => ?_)
  refine lv_aload_n hx hb dX1_append_19 rfl (lv_at hl 0 rfl) ?_
  refine va_get (ci := 1) (v := .int (nI en)) (C := RX1) (T := TX1) (N := 4) hx hb hts i1_X1_append hown hV.1 hP 0 rfl rfl 3 (by decide) (hts _ w1_X1_append) (fun _ h9 => h9) rfl dX1_append_20 ?_
  refine lv_aload_n hx hb dX1_append_23 rfl (lv_at hl 0 rfl) ?_
  refine va_get (ci := 1) (v := .ref h2) (C := RX1) (T := TX1) (N := 4) hx hb hts i1_X1_append hown hV.1 hP 0 rfl rfl 1 (by decide) (hts _ w3_X1_append) (fun _ h9 => h9) rfl dX1_append_24 ?_
  refine va_alen (v := nI 80) hx hb hV.1 hP 2 0 rfl rfl rfl dX1_append_27 ?_
  refine ee_lt (tgt := 33) hx hb (by omega) (by omega) dX1_append_28 (by decide) (fun h_3 => ?_) (fun h_3 => absurd h_3 (by omega))
  refine lv_aload_n hx hb dX1_append_33 rfl (lv_at hl 0 rfl) ?_
  refine va_get (ci := 1) (v := .ref h1) (C := RX1) (T := TX1) (N := 4) hx hb hts i1_X1_append hown hV.1 hP 0 rfl rfl 0 (by decide) (hts _ w2_X1_append) (fun _ h9 => h9) rfl dX1_append_34 ?_
  refine lv_aload_n hx hb dX1_append_37 rfl (lv_at hl 0 rfl) ?_
  refine va_get (ci := 1) (v := .int (nI en)) (C := RX1) (T := TX1) (N := 4) hx hb hts i1_X1_append hown hV.1 hP 0 rfl rfl 3 (by decide) (hts _ w1_X1_append) (fun _ h9 => h9) rfl dX1_append_38 ?_
  refine lv_iload_n hx hb dX1_append_41 rfl (lv_at hl 1 rfl) ?_
  refine ee_ist hx hb hV hP hD hS 1 rfl (j := en) (by omega) (by decide) dX1_append_42 (fun H locs hP hD hS => ?_)
  have hP : va_P E.1 vwCl [(h0, ee_o 1 [.ref h1, .ref h2, .int (nI fr), .int (nI en)]), (h1, ee_i E 80 (upd fk en kd)), (h2, ee_i E 80 fl)] H := hP
  have hD : va_D A [(h0, ee_o 1 [.ref h1, .ref h2, .int (nI fr), .int (nI en)]), (h1, ee_i E 80 (upd fk en kd)), (h2, ee_i E 80 fl)] := hD
  refine lv_aload_n hx hb dX1_append_43 rfl (lv_at hl 0 rfl) ?_
  refine va_get (ci := 1) (v := .ref h2) (C := RX1) (T := TX1) (N := 4) hx hb hts i1_X1_append hown hV.1 hP 0 rfl rfl 1 (by decide) (hts _ w3_X1_append) (fun _ h9 => h9) rfl dX1_append_44 ?_
  refine lv_aload_n hx hb dX1_append_47 rfl (lv_at hl 0 rfl) ?_
  refine va_get (ci := 1) (v := .int (nI en)) (C := RX1) (T := TX1) (N := 4) hx hb hts i1_X1_append hown hV.1 hP 0 rfl rfl 3 (by decide) (hts _ w1_X1_append) (fun _ h9 => h9) rfl dX1_append_48 ?_
  refine lv_iload_n hx hb dX1_append_51 rfl (lv_at hl 2 rfl) ?_
  refine ee_ist hx hb hV hP hD hS 2 rfl (j := en) (by omega) (by decide) dX1_append_52 (fun H locs hP hD hS => ?_)
  have hP : va_P E.1 vwCl [(h0, ee_o 1 [.ref h1, .ref h2, .int (nI fr), .int (nI en)]), (h1, ee_i E 80 (upd fk en kd)), (h2, ee_i E 80 (upd fl en ln))] H := hP
  have hD : va_D A [(h0, ee_o 1 [.ref h1, .ref h2, .int (nI fr), .int (nI en)]), (h1, ee_i E 80 (upd fk en kd)), (h2, ee_i E 80 (upd fl en ln))] := hD
  refine lv_aload_n hx hb dX1_append_53 rfl (lv_at hl 0 rfl) ?_
  refine lv_dup hx hb dX1_append_54 rfl ?_
  refine va_get (ci := 1) (v := .int (nI en)) (C := RX1) (T := TX1) (N := 4) hx hb hts i1_X1_append hown hV.1 hP 0 rfl rfl 3 (by decide) (hts _ w1_X1_append) (fun _ h9 => h9) rfl dX1_append_55 ?_
  refine lv_iconst (v := nI 1) hx hb dX1_append_58 (by decide) ?_
  refine ee_iadd hx hb dX1_append_59 ?_
  refine va_put (ci := 1) (v := .int (nI (en + 1))) (ty := .int) (C := RX1) (T := TX1) (N := 4) hx hb hts i1_X1_append tyX1 tyX1_ok nmX1 hown hV.1 hP hD hS 0 rfl rfl 3 (by decide) (hts _ w1_X1_append) (fun _ h9 => h9) rfl (by decide +kernel) rfl rfl (Nat.le_of_ble_eq_true rfl) dX1_append_60 (fun H locs hP hD hS => ?_)
  have hP : va_P E.1 vwCl [(h0, ee_o 1 [.ref h1, .ref h2, .int (nI fr), .int (nI (en + 1))]), (h1, ee_i E 80 (upd fk en kd)), (h2, ee_i E 80 (upd fl en ln))] H := hP
  have hD : va_D A [(h0, ee_o 1 [.ref h1, .ref h2, .int (nI fr), .int (nI (en + 1))]), (h1, ee_i E 80 (upd fk en kd)), (h2, ee_i E 80 (upd fl en ln))] := hD
  refine lv_iconst (v := nI 1) hx hb dX1_append_63 (by decide) ?_
  exact ee_fi hQ hx hb hr (by decide) hlocks hS () (rfl) hP hD dX1_append_64
set_option maxHeartbeats 4000000 in
set_option maxRecDepth 100000 in
theorem kX1_appendF (l : Launch) (E : ee_T) (h0 h1 h2 : Nat) (fr : Nat) (fk fl : Nat → Int32) (kd ln : Int32)  : CQ l E yX1_append wsX1_append rmX1_append [.ref h0, .int kd, .int ln] [(h0, ee_o 1 [.ref h1, .ref h2, .int (nI fr), .int (nI 80)]), (h1, ee_i E 80 fk), (h2, ee_i E 80 fl)] (QI E (fun (r : Int32) (u : Unit) => r = nI 0) (fun (u : Unit) => [(h0, ee_o 1 [.ref h1, .ref h2, .int (nI fr), .int (nI 80)]), (h1, ee_i E 80 fk), (h2, ee_i E 80 fl)])) 0 0 := by
  refine CQ_ofW (cc := cX1_append) (maxL := 3) (ret := (some .boolean)) (by decide) rfl (Nat.le_of_ble_eq_true rfl) ?_
  intro p e s m below meth c A Q hQ hx hb hr hml hown hlocks hnm hts hV hA hP hD hS ls hl
  have hl : lv_has ls 3 [(0, .ref h0), (1, .int kd), (2, .int ln)] := hl
  refine lv_aload_n hx hb dX1_append_0 rfl (lv_at hl 0 rfl) ?_
  refine va_get (ci := 1) (v := .int (nI 80)) (C := RX1) (T := TX1) (N := 4) hx hb hts i1_X1_append hown hV.1 hP 0 rfl rfl 3 (by decide) (hts _ w1_X1_append) (fun _ h9 => h9) rfl dX1_append_1 ?_
  refine ee_lt0 (tgt := 31) hx hb (by omega) dX1_append_4 (by decide) ?_
  refine lv_aload_n hx hb dX1_append_7 rfl (lv_at hl 0 rfl) ?_
  refine va_get (ci := 1) (v := .int (nI 80)) (C := RX1) (T := TX1) (N := 4) hx hb hts i1_X1_append hown hV.1 hP 0 rfl rfl 3 (by decide) (hts _ w1_X1_append) (fun _ h9 => h9) rfl dX1_append_8 ?_
  refine lv_aload_n hx hb dX1_append_11 rfl (lv_at hl 0 rfl) ?_
  refine va_get (ci := 1) (v := .ref h1) (C := RX1) (T := TX1) (N := 4) hx hb hts i1_X1_append hown hV.1 hP 0 rfl rfl 0 (by decide) (hts _ w2_X1_append) (fun _ h9 => h9) rfl dX1_append_12 ?_
  refine va_alen (v := nI 80) hx hb hV.1 hP 1 0 rfl rfl rfl dX1_append_15 ?_
  refine ee_ge (tgt := 31) hx hb (by omega) (by omega) dX1_append_16 (by decide) (fun h_2 => ?_) (fun h_2 => absurd h_2 (by decide))
  refine lv_iconst (v := nI 0) hx hb dX1_append_31 (by decide) ?_
  exact ee_fi hQ hx hb hr (by decide) hlocks hS () (rfl) hP hD dX1_append_32
abbrev rmX1_closeUp : Room := ({ frames := 1, cells := 0, slots := 0, locals := 22 } : Room)
theorem w1_X1_closeUp : Cond.fieldLink RX1 22 "LabelApplicator$Items" "front" "I" ∈ wsX1_closeUp := List.mem_of_getElem? (i := 1) (by decide +kernel)
theorem w2_X1_closeUp : Cond.methodLink RX1 29 yX1_size ∈ wsX1_closeUp := List.mem_of_getElem? (i := 2) (by decide +kernel)
theorem w5_X1_closeUp : Cond.initialized RX1 ∈ wsX1_closeUp := List.mem_of_getElem? (i := 5) (by decide +kernel)
theorem w7_X1_closeUp : Cond.fieldLink RX1 18 "LabelApplicator$Items" "end" "I" ∈ wsX1_closeUp := List.mem_of_getElem? (i := 7) (by decide +kernel)
theorem w8_X1_closeUp : Cond.methodLink RX1 43 yX1_removeAll ∈ wsX1_closeUp := List.mem_of_getElem? (i := 8) (by decide +kernel)
theorem w12_X1_closeUp : Cond.methodLink RX1 33 yX1_kindOf ∈ wsX1_closeUp := List.mem_of_getElem? (i := 12) (by decide +kernel)
theorem w16_X1_closeUp : Cond.fieldLink RX1 9 "LabelApplicator$Items" "kinds" "[I" ∈ wsX1_closeUp := List.mem_of_getElem? (i := 16) (by decide +kernel)
theorem w17_X1_closeUp : Cond.methodLink RX1 25 yX1_lengthOf ∈ wsX1_closeUp := List.mem_of_getElem? (i := 17) (by decide +kernel)
theorem w21_X1_closeUp : Cond.fieldLink RX1 15 "LabelApplicator$Items" "lengths" "[I" ∈ wsX1_closeUp := List.mem_of_getElem? (i := 21) (by decide +kernel)
theorem w22_X1_closeUp : Cond.methodLink RX1 39 yX1_append ∈ wsX1_closeUp := List.mem_of_getElem? (i := 22) (by decide +kernel)
theorem i1_X1_closeUp : ∀ w ∈ wsX10, w ∈ wsX1_closeUp := fun w h => (goodIn_r _ [26, 27, 28, 29] (by decide +kernel) (by decide +kernel) w h).1
set_option maxHeartbeats 4000000 in
set_option maxRecDepth 100000 in
theorem kX1_closeUp (l : Launch) (E : ee_T) (h0 h1 h2 : Nat) (fr en : Nat) (fk fl : Nat → Int32) (hfe : fr ≤ en) (hen : en ≤ 80) : CQ l E yX1_closeUp wsX1_closeUp rmX1_closeUp [.ref h0] [(h0, ee_o 1 [.ref h1, .ref h2, .int (nI fr), .int (nI en)]), (h1, ee_i E 80 fk), (h2, ee_i E 80 fl)] (QV E (fun (u : (Nat → Int32) × (Nat → Int32)) => (∀ j, j < en - fr → u.1 j = fk (fr + j)) ∧ ∀ j, j < en - fr → u.2 j = fl (fr + j)) (fun (u : (Nat → Int32) × (Nat → Int32)) => [(h0, ee_o 1 [.ref h1, .ref h2, .int (nI 0), .int (nI (en - fr))]), (h1, ee_i E 80 u.1), (h2, ee_i E 80 u.2)])) 0 0 := by
  refine CQ_ofW (cc := cX1_closeUp) (maxL := 4) (ret := none) (by decide) rfl (Nat.le_of_ble_eq_true rfl) ?_
  intro p e s m below meth c A Q hQ hx hb hr hml hown hlocks hnm hts hV hA hP hD hS ls hl
  have hl : lv_has ls 4 [(0, .ref h0)] := hl
  refine lv_aload_n hx hb dX1_closeUp_0 rfl (lv_at hl 0 rfl) ?_
  refine va_get (ci := 1) (v := .int (nI fr)) (C := RX1) (T := TX1) (N := 4) hx hb hts i1_X1_closeUp hown hV.1 hP 0 rfl rfl 2 (by decide) (hts _ w1_X1_closeUp) (fun _ h9 => h9) rfl dX1_closeUp_1 ?_
  refine lv_istore_n (lv' := [(1, .int (nI fr)), (0, .ref h0)]) hx hb dX1_closeUp_4 rfl hl (by decide) rfl (fun ls hl => ?_)
  refine lv_aload_n hx hb dX1_closeUp_5 rfl (lv_at hl 1 rfl) ?_
  refine ee_ki (wr := [(h1, ee_i E 80 fk), (h2, ee_i E 80 fl)]) (ee_rV (As := []) (rest := []) (kX1_size l E h0 h1 h2 fr en (by omega)) hx hb hml hown hts 0 gX1_closeUp_X1_size rfl rfl rfl (by decide +kernel) ⟨Nat.le_of_ble_eq_true rfl, Nat.le_of_ble_eq_true rfl⟩ hV hP hD hS hA [0] rfl (by decide) hl 0 rfl rfl rfl rfl (Nat.le_of_ble_eq_true rfl) dX1_closeUp_6 ⟨Nat.le_of_ble_eq_true rfl, Nat.le_of_ble_eq_true rfl⟩) hP hD hS hA [0] [1, 2] rfl rfl (by decide) (by decide) (fun r_1 u_2 H locs hp_3 hP hD hS => ?_)
  subst hp_3
  have hP : va_P E.1 vwCl [(h1, ee_i E 80 fk), (h2, ee_i E 80 fl), (h0, ee_o 1 [.ref h1, .ref h2, .int (nI fr), .int (nI en)])] H := hP
  have hD : va_D A [(h1, ee_i E 80 fk), (h2, ee_i E 80 fl), (h0, ee_o 1 [.ref h1, .ref h2, .int (nI fr), .int (nI en)])] := hD
  refine lv_istore_n (lv' := [(2, .int (nI (en - fr))), (1, .int (nI fr)), (0, .ref h0)]) hx hb dX1_closeUp_9 rfl hl (by decide) rfl (fun ls hl => ?_)
  refine lv_aload_n hx hb dX1_closeUp_10 rfl (lv_at hl 2 rfl) ?_
  refine ee_kv (wr := [(h1, ee_i E 80 fk), (h2, ee_i E 80 fl)]) (ee_rV (As := []) (rest := []) (kX1_removeAll l E h0 h1 h2 fr en) hx hb hml hown hts 0 gX1_closeUp_X1_removeAll rfl rfl rfl (by decide +kernel) ⟨Nat.le_of_ble_eq_true rfl, Nat.le_of_ble_eq_true rfl⟩ hV hP hD hS hA [2] rfl (by decide) hl 2 rfl rfl rfl rfl (Nat.le_of_ble_eq_true rfl) dX1_closeUp_11 ⟨Nat.le_of_ble_eq_true rfl, Nat.le_of_ble_eq_true rfl⟩) hP hD hS hA [2] [0, 1] rfl rfl (by decide) (by decide) (fun u_5 H locs hp_6 hP hD hS => ?_)
  have hP : va_P E.1 vwCl [(h1, ee_i E 80 fk), (h2, ee_i E 80 fl), (h0, ee_o 1 [.ref h1, .ref h2, .int (nI 0), .int (nI 0)])] H := hP
  have hD : va_D A [(h1, ee_i E 80 fk), (h2, ee_i E 80 fl), (h0, ee_o 1 [.ref h1, .ref h2, .int (nI 0), .int (nI 0)])] := hD
  refine lv_iconst (v := nI 0) hx hb dX1_closeUp_14 (by decide) ?_
  refine lv_istore_n (lv' := [(3, .int (nI 0)), (2, .int (nI (en - fr))), (1, .int (nI fr)), (0, .ref h0)]) hx hb dX1_closeUp_15 rfl hl (by decide) rfl (fun ls hl => ?_)
  have B_7 : ∀ (zz : Nat) (i : Nat) (gk gl : Nat → Int32) (H : Heap) (locs : List Loc) (ls : Array Slot), (en - fr - i) < zz → (i ≤ en - fr) → (∀ j, j < i → gk j = (fun j => fk (fr + j)) j) → (∀ j, i ≤ j → gk j = fk j) → (∀ j, j < i → gl j = (fun j => fl (fr + j)) j) → (∀ j, i ≤ j → gl j = fl j) → va_P E.1 vwCl [(h1, ee_i E 80 gk), (h2, ee_i E 80 gl), (h0, ee_o 1 [.ref h1, .ref h2, .int (nI 0), .int (nI i)])] H → va_D A [(h1, ee_i E 80 gk), (h2, ee_i E 80 gl), (h0, ee_o 1 [.ref h1, .ref h2, .int (nI 0), .int (nI i)])] → va_S A s.heap H locs → lv_has ls 4 [(3, .int (nI i)), (2, .int (nI (en - fr))), (1, .int (nI fr)), (0, .ref h0)] → W p l e rmX1_closeUp s m [.ref h0].toArray below meth c H locs 0 0 Q (F0 m 16 ls []) := by
    intro zz
    induction zz with
    | zero => intro i gk gl H locs ls hzz; exact absurd hzz (Nat.not_lt_zero _)
    | succ zz ihB_7 =>
      intro i gk gl H locs ls hzz hin g1 g2 g3 g4 hP hD hS hl
      refine lv_iload_n hx hb dX1_closeUp_16 rfl (lv_at hl 0 rfl) ?_
      refine lv_iload_n hx hb dX1_closeUp_17 rfl (lv_at hl 1 rfl) ?_
      refine ee_ge (tgt := 46) hx hb (by omega) (by omega) dX1_closeUp_18 (by decide) (fun h_8 => ?_) (fun h_8 => ?_)
      · obtain rfl : i = en - fr := by omega
        exact ee_fv hQ hx hb hr hlocks hS (gk, gl) (⟨g1, g3⟩) (hP.sub [2, 0, 1] rfl) (hD.sub [2, 0, 1] (by decide) rfl) dX1_closeUp_46
      · refine lv_aload_n hx hb dX1_closeUp_21 rfl (lv_at hl 3 rfl) ?_
        refine lv_aload_n hx hb dX1_closeUp_22 rfl (lv_at hl 3 rfl) ?_
        refine lv_iload_n hx hb dX1_closeUp_23 rfl (lv_at hl 2 rfl) ?_
        refine lv_iload_n hx hb dX1_closeUp_24 rfl (lv_at hl 0 rfl) ?_
        refine ee_iadd hx hb dX1_closeUp_25 ?_
        refine ee_ki (wr := [(h2, ee_i E 80 gl)]) (ee_rV (As := [.int (nI (fr + i))]) (rest := [.ref h0]) (kX1_kindOf l E h0 h1 h2 0 i gk (fr + i) (by omega)) hx hb hml hown hts 1 gX1_closeUp_X1_kindOf rfl rfl rfl (by decide +kernel) ⟨Nat.le_of_ble_eq_true rfl, Nat.le_of_ble_eq_true rfl⟩ hV hP hD hS hA [2, 0] rfl (by decide) hl 2 rfl rfl rfl rfl (Nat.le_of_ble_eq_true rfl) dX1_closeUp_26 ⟨Nat.le_of_ble_eq_true rfl, Nat.le_of_ble_eq_true rfl⟩) hP hD hS hA [2, 0] [1] rfl rfl (by decide) (by decide) (fun r_9 u_10 H locs hp_11 hP hD hS => ?_)
        subst hp_11
        have hP : va_P E.1 vwCl [(h2, ee_i E 80 gl), (h0, ee_o 1 [.ref h1, .ref h2, .int (nI 0), .int (nI i)]), (h1, ee_i E 80 gk)] H := hP
        have hD : va_D A [(h2, ee_i E 80 gl), (h0, ee_o 1 [.ref h1, .ref h2, .int (nI 0), .int (nI i)]), (h1, ee_i E 80 gk)] := hD
        refine lv_aload_n hx hb dX1_closeUp_29 rfl (lv_at hl 3 rfl) ?_
        refine lv_iload_n hx hb dX1_closeUp_30 rfl (lv_at hl 2 rfl) ?_
        refine lv_iload_n hx hb dX1_closeUp_31 rfl (lv_at hl 0 rfl) ?_
        refine ee_iadd hx hb dX1_closeUp_32 ?_
        refine ee_ki (wr := [(h1, ee_i E 80 gk)]) (ee_rV (As := [.int (nI (fr + i))]) (rest := [.int (gk (0 + (fr + i))), .ref h0]) (kX1_lengthOf l E h0 h1 h2 0 i gl (fr + i) (by omega)) hx hb hml hown hts 1 gX1_closeUp_X1_lengthOf rfl rfl rfl (by decide +kernel) ⟨Nat.le_of_ble_eq_true rfl, Nat.le_of_ble_eq_true rfl⟩ hV hP hD hS hA [1, 0] rfl (by decide) hl 1 rfl rfl rfl rfl (Nat.le_of_ble_eq_true rfl) dX1_closeUp_33 ⟨Nat.le_of_ble_eq_true rfl, Nat.le_of_ble_eq_true rfl⟩) hP hD hS hA [1, 0] [2] rfl rfl (by decide) (by decide) (fun r_12 u_13 H locs hp_14 hP hD hS => ?_)
        subst hp_14
        have hP : va_P E.1 vwCl [(h1, ee_i E 80 gk), (h0, ee_o 1 [.ref h1, .ref h2, .int (nI 0), .int (nI i)]), (h2, ee_i E 80 gl)] H := hP
        have hD : va_D A [(h1, ee_i E 80 gk), (h0, ee_o 1 [.ref h1, .ref h2, .int (nI 0), .int (nI i)]), (h2, ee_i E 80 gl)] := hD
        refine ee_ki (wr := []) (ee_rV (As := [.int (gk (0 + (fr + i))), .int (gl (0 + (fr + i)))]) (rest := []) (kX1_append l E h0 h1 h2 0 i gk gl (gk (0 + (fr + i))) (gl (0 + (fr + i))) (by omega)) hx hb hml hown hts 2 gX1_closeUp_X1_append rfl rfl rfl (by decide +kernel) ⟨Nat.le_of_ble_eq_true rfl, Nat.le_of_ble_eq_true rfl⟩ hV hP hD hS hA [1, 0, 2] rfl (by decide) hl 1 rfl rfl rfl rfl (Nat.le_of_ble_eq_true rfl) dX1_closeUp_36 ⟨Nat.le_of_ble_eq_true rfl, Nat.le_of_ble_eq_true rfl⟩) hP hD hS hA [1, 0, 2] [] rfl rfl (by decide) (by decide) (fun r_15 u_16 H locs hp_17 hP hD hS => ?_)
        subst hp_17
        have hP : va_P E.1 vwCl [(h0, ee_o 1 [.ref h1, .ref h2, .int (nI 0), .int (nI (i + 1))]), (h1, ee_i E 80 (upd gk i (gk (0 + (fr + i))))), (h2, ee_i E 80 (upd gl i (gl (0 + (fr + i)))))] H := hP
        have hD : va_D A [(h0, ee_o 1 [.ref h1, .ref h2, .int (nI 0), .int (nI (i + 1))]), (h1, ee_i E 80 (upd gk i (gk (0 + (fr + i))))), (h2, ee_i E 80 (upd gl i (gl (0 + (fr + i)))))] := hD
        refine lv_pop hx hb dX1_closeUp_39 rfl ?_
        refine lv_iinc (v := nI (i + 1)) (lv' := [(3, .int (nI (i + 1))), (2, .int (nI (en - fr))), (1, .int (nI fr)), (0, .ref h0)]) hx hb dX1_closeUp_40 hl (k := 0) rfl (ee_inc _) (by decide) rfl (fun ls hl => ?_)
        refine lv_goto (tgt := 16) hx hb dX1_closeUp_43 (by decide) ?_
        exact ihB_7 (i + 1) (upd gk i (gk (0 + (fr + i)))) (upd gl i (gl (0 + (fr + i)))) _ _ _ (by omega) (by omega) (up_s g1 (by rw [Nat.zero_add]; exact g2 _ (by omega))) (up_r g2) (up_s g3 (by rw [Nat.zero_add]; exact g4 _ (by omega))) (up_r g4) (hP.sub [1, 2, 0] rfl) (hD.sub [1, 2, 0] (by decide) rfl) hS (lv_sub hl [0, 1, 2, 3] rfl)
  exact B_7 ((en - fr - 0) + 1) 0 fk fl _ _ _ (Nat.lt_succ_self _) (by omega) (fun j hj => absurd hj (Nat.not_lt_zero _)) (fun _ _ => rfl) (fun j hj => absurd hj (Nat.not_lt_zero _)) (fun _ _ => rfl) hP hD hS (lv_sub hl [0, 1, 2, 3] rfl)
abbrev rmX1_appendAll : Room := ({ frames := 2, cells := 0, slots := 0, locals := 45 } : Room)
theorem w1_X1_appendAll : Cond.methodLink RX1 36 yX1_closeUp ∈ wsX1_appendAll := List.mem_of_getElem? (i := 1) (by decide +kernel)
theorem w4_X1_appendAll : Cond.initialized RX1 ∈ wsX1_appendAll := List.mem_of_getElem? (i := 4) (by decide +kernel)
theorem w6_X1_appendAll : Cond.fieldLink RX1 22 "LabelApplicator$Items" "front" "I" ∈ wsX1_appendAll := List.mem_of_getElem? (i := 6) (by decide +kernel)
theorem w7_X1_appendAll : Cond.methodLink RX1 29 yX1_size ∈ wsX1_appendAll := List.mem_of_getElem? (i := 7) (by decide +kernel)
theorem w11_X1_appendAll : Cond.fieldLink RX1 18 "LabelApplicator$Items" "end" "I" ∈ wsX1_appendAll := List.mem_of_getElem? (i := 11) (by decide +kernel)
theorem w12_X1_appendAll : Cond.methodLink RX1 43 yX1_removeAll ∈ wsX1_appendAll := List.mem_of_getElem? (i := 12) (by decide +kernel)
theorem w16_X1_appendAll : Cond.methodLink RX1 33 yX1_kindOf ∈ wsX1_appendAll := List.mem_of_getElem? (i := 16) (by decide +kernel)
theorem w20_X1_appendAll : Cond.fieldLink RX1 9 "LabelApplicator$Items" "kinds" "[I" ∈ wsX1_appendAll := List.mem_of_getElem? (i := 20) (by decide +kernel)
theorem w21_X1_appendAll : Cond.methodLink RX1 25 yX1_lengthOf ∈ wsX1_appendAll := List.mem_of_getElem? (i := 21) (by decide +kernel)
theorem w25_X1_appendAll : Cond.fieldLink RX1 15 "LabelApplicator$Items" "lengths" "[I" ∈ wsX1_appendAll := List.mem_of_getElem? (i := 25) (by decide +kernel)
theorem w26_X1_appendAll : Cond.methodLink RX1 39 yX1_append ∈ wsX1_appendAll := List.mem_of_getElem? (i := 26) (by decide +kernel)
theorem i1_X1_appendAll : ∀ w ∈ wsX10, w ∈ wsX1_appendAll := fun w h => (goodIn_r _ [30, 31, 32, 33] (by decide +kernel) (by decide +kernel) w h).1
set_option maxHeartbeats 4000000 in
set_option maxRecDepth 100000 in
theorem kX1_appendAll (l : Launch) (E : ee_T) (h0 h1 h2 : Nat) (fr en : Nat) (fk fl : Nat → Int32) (g0 g1 g2 : Nat) (fro eno : Nat) (ok ol : Nat → Int32) (hfe : fr ≤ en) (hen : en ≤ 80) (hfo : fro ≤ eno) (heo : eno ≤ 80) (hsum : en - fr + (eno - fro) ≤ 80) : CQ l E yX1_appendAll wsX1_appendAll rmX1_appendAll [.ref h0, .ref g0] [(h0, ee_o 1 [.ref h1, .ref h2, .int (nI fr), .int (nI en)]), (h1, ee_i E 80 fk), (h2, ee_i E 80 fl), (g0, ee_o 1 [.ref g1, .ref g2, .int (nI fro), .int (nI eno)]), (g1, ee_i E 80 ok), (g2, ee_i E 80 ol)] (QV E (fun (u : (Nat → Int32) × (Nat → Int32)) => (∀ j, j < en - fr + (eno - fro) → u.1 j = appF (en - fr) (fun j => fk (fr + j)) (fun j => ok (fro + j)) j) ∧ ∀ j, j < en - fr + (eno - fro) → u.2 j = appF (en - fr) (fun j => fl (fr + j)) (fun j => ol (fro + j)) j) (fun (u : (Nat → Int32) × (Nat → Int32)) => [(h0, ee_o 1 [.ref h1, .ref h2, .int (nI 0), .int (nI (en - fr + (eno - fro)))]), (h1, ee_i E 80 u.1), (h2, ee_i E 80 u.2), (g0, ee_o 1 [.ref g1, .ref g2, .int (nI fro), .int (nI eno)]), (g1, ee_i E 80 ok), (g2, ee_i E 80 ol)])) 0 0 := by
  refine CQ_ofW (cc := cX1_appendAll) (maxL := 3) (ret := none) (by decide) rfl (Nat.le_of_ble_eq_true rfl) ?_
  intro p e s m below meth c A Q hQ hx hb hr hml hown hlocks hnm hts hV hA hP hD hS ls hl
  have hl : lv_has ls 3 [(0, .ref h0), (1, .ref g0)] := hl
  refine lv_aload_n hx hb dX1_appendAll_0 rfl (lv_at hl 0 rfl) ?_
  refine ee_kv (wr := [(g0, ee_o 1 [.ref g1, .ref g2, .int (nI fro), .int (nI eno)]), (g1, ee_i E 80 ok), (g2, ee_i E 80 ol)]) (ee_rV (As := []) (rest := []) (kX1_closeUp l E h0 h1 h2 fr en fk fl (by omega) (by omega)) hx hb hml hown hts 0 gX1_appendAll_X1_closeUp rfl rfl rfl (by decide +kernel) ⟨Nat.le_of_ble_eq_true rfl, Nat.le_of_ble_eq_true rfl⟩ hV hP hD hS hA [0, 1, 2] rfl (by decide) hl 0 rfl rfl rfl rfl (Nat.le_of_ble_eq_true rfl) dX1_appendAll_1 ⟨Nat.le_of_ble_eq_true rfl, Nat.le_of_ble_eq_true rfl⟩) hP hD hS hA [0, 1, 2] [3, 4, 5] rfl rfl (by decide) (by decide) (fun u_2 H locs hp_3 hP hD hS => ?_)
  obtain ⟨ck, cl⟩ := u_2
  try dsimp only at hp_3
  obtain ⟨c1, c2⟩ := hp_3
  have hP : va_P E.1 vwCl [(g0, ee_o 1 [.ref g1, .ref g2, .int (nI fro), .int (nI eno)]), (g1, ee_i E 80 ok), (g2, ee_i E 80 ol), (h0, ee_o 1 [.ref h1, .ref h2, .int (nI 0), .int (nI (en - fr))]), (h1, ee_i E 80 ck), (h2, ee_i E 80 cl)] H := hP
  have hD : va_D A [(g0, ee_o 1 [.ref g1, .ref g2, .int (nI fro), .int (nI eno)]), (g1, ee_i E 80 ok), (g2, ee_i E 80 ol), (h0, ee_o 1 [.ref h1, .ref h2, .int (nI 0), .int (nI (en - fr))]), (h1, ee_i E 80 ck), (h2, ee_i E 80 cl)] := hD
  refine lv_iconst (v := nI 0) hx hb dX1_appendAll_4 (by decide) ?_
  refine lv_istore_n (lv' := [(2, .int (nI 0)), (0, .ref h0), (1, .ref g0)]) hx hb dX1_appendAll_5 rfl hl (by decide) rfl (fun ls hl => ?_)
  have B_4 : ∀ (zz : Nat) (i : Nat) (gk gl : Nat → Int32) (H : Heap) (locs : List Loc) (ls : Array Slot), (eno - fro - i) < zz → (i ≤ eno - fro) → (∀ j, j < en - fr + i → gk j = (appF (en - fr) (fun j => fk (fr + j)) (fun j => ok (fro + j))) j) → (∀ j, j < en - fr + i → gl j = (appF (en - fr) (fun j => fl (fr + j)) (fun j => ol (fro + j))) j) → va_P E.1 vwCl [(g0, ee_o 1 [.ref g1, .ref g2, .int (nI fro), .int (nI eno)]), (g1, ee_i E 80 ok), (g2, ee_i E 80 ol), (h0, ee_o 1 [.ref h1, .ref h2, .int (nI 0), .int (nI (en - fr + i))]), (h1, ee_i E 80 gk), (h2, ee_i E 80 gl)] H → va_D A [(g0, ee_o 1 [.ref g1, .ref g2, .int (nI fro), .int (nI eno)]), (g1, ee_i E 80 ok), (g2, ee_i E 80 ol), (h0, ee_o 1 [.ref h1, .ref h2, .int (nI 0), .int (nI (en - fr + i))]), (h1, ee_i E 80 gk), (h2, ee_i E 80 gl)] → va_S A s.heap H locs → lv_has ls 3 [(2, .int (nI i)), (0, .ref h0), (1, .ref g0)] → W p l e rmX1_appendAll s m [.ref h0, .ref g0].toArray below meth c H locs 0 0 Q (F0 m 6 ls []) := by
    intro zz
    induction zz with
    | zero => intro i gk gl H locs ls hzz; exact absurd hzz (Nat.not_lt_zero _)
    | succ zz ihB_4 =>
      intro i gk gl H locs ls hzz hin q1 q3 hP hD hS hl
      refine lv_iload_n hx hb dX1_appendAll_6 rfl (lv_at hl 0 rfl) ?_
      refine lv_aload_n hx hb dX1_appendAll_7 rfl (lv_at hl 2 rfl) ?_
      refine ee_ki (wr := [(g1, ee_i E 80 ok), (g2, ee_i E 80 ol), (h0, ee_o 1 [.ref h1, .ref h2, .int (nI 0), .int (nI (en - fr + i))]), (h1, ee_i E 80 gk), (h2, ee_i E 80 gl)]) (ee_rV (As := []) (rest := [.int (nI i)]) (kX1_size l E g0 g1 g2 fro eno (by omega)) hx hb hml hown hts 0 gX1_appendAll_X1_size rfl rfl rfl (by decide +kernel) ⟨Nat.le_of_ble_eq_true rfl, Nat.le_of_ble_eq_true rfl⟩ hV hP hD hS hA [0] rfl (by decide) hl 0 rfl rfl rfl rfl (Nat.le_of_ble_eq_true rfl) dX1_appendAll_8 ⟨Nat.le_of_ble_eq_true rfl, Nat.le_of_ble_eq_true rfl⟩) hP hD hS hA [0] [1, 2, 3, 4, 5] rfl rfl (by decide) (by decide) (fun r_5 u_6 H locs hp_7 hP hD hS => ?_)
      subst hp_7
      have hP : va_P E.1 vwCl [(g1, ee_i E 80 ok), (g2, ee_i E 80 ol), (h0, ee_o 1 [.ref h1, .ref h2, .int (nI 0), .int (nI (en - fr + i))]), (h1, ee_i E 80 gk), (h2, ee_i E 80 gl), (g0, ee_o 1 [.ref g1, .ref g2, .int (nI fro), .int (nI eno)])] H := hP
      have hD : va_D A [(g1, ee_i E 80 ok), (g2, ee_i E 80 ol), (h0, ee_o 1 [.ref h1, .ref h2, .int (nI 0), .int (nI (en - fr + i))]), (h1, ee_i E 80 gk), (h2, ee_i E 80 gl), (g0, ee_o 1 [.ref g1, .ref g2, .int (nI fro), .int (nI eno)])] := hD
      refine ee_ge (tgt := 35) hx hb (by omega) (by omega) dX1_appendAll_11 (by decide) (fun h_8 => ?_) (fun h_8 => ?_)
      · obtain rfl : i = eno - fro := by omega
        exact ee_fv hQ hx hb hr hlocks hS (gk, gl) (⟨q1, q3⟩) (hP.sub [2, 3, 4, 5, 0, 1] rfl) (hD.sub [2, 3, 4, 5, 0, 1] (by decide) rfl) dX1_appendAll_35
      · refine lv_aload_n hx hb dX1_appendAll_14 rfl (lv_at hl 1 rfl) ?_
        refine lv_aload_n hx hb dX1_appendAll_15 rfl (lv_at hl 2 rfl) ?_
        refine lv_iload_n hx hb dX1_appendAll_16 rfl (lv_at hl 0 rfl) ?_
        refine ee_ki (wr := [(g2, ee_i E 80 ol), (h0, ee_o 1 [.ref h1, .ref h2, .int (nI 0), .int (nI (en - fr + i))]), (h1, ee_i E 80 gk), (h2, ee_i E 80 gl)]) (ee_rV (As := [.int (nI i)]) (rest := [.ref h0]) (kX1_kindOf l E g0 g1 g2 fro eno ok i (by omega)) hx hb hml hown hts 1 gX1_appendAll_X1_kindOf rfl rfl rfl (by decide +kernel) ⟨Nat.le_of_ble_eq_true rfl, Nat.le_of_ble_eq_true rfl⟩ hV hP hD hS hA [5, 0] rfl (by decide) hl 5 rfl rfl rfl rfl (Nat.le_of_ble_eq_true rfl) dX1_appendAll_17 ⟨Nat.le_of_ble_eq_true rfl, Nat.le_of_ble_eq_true rfl⟩) hP hD hS hA [5, 0] [1, 2, 3, 4] rfl rfl (by decide) (by decide) (fun r_9 u_10 H locs hp_11 hP hD hS => ?_)
        subst hp_11
        have hP : va_P E.1 vwCl [(g2, ee_i E 80 ol), (h0, ee_o 1 [.ref h1, .ref h2, .int (nI 0), .int (nI (en - fr + i))]), (h1, ee_i E 80 gk), (h2, ee_i E 80 gl), (g0, ee_o 1 [.ref g1, .ref g2, .int (nI fro), .int (nI eno)]), (g1, ee_i E 80 ok)] H := hP
        have hD : va_D A [(g2, ee_i E 80 ol), (h0, ee_o 1 [.ref h1, .ref h2, .int (nI 0), .int (nI (en - fr + i))]), (h1, ee_i E 80 gk), (h2, ee_i E 80 gl), (g0, ee_o 1 [.ref g1, .ref g2, .int (nI fro), .int (nI eno)]), (g1, ee_i E 80 ok)] := hD
        refine lv_aload_n hx hb dX1_appendAll_20 rfl (lv_at hl 2 rfl) ?_
        refine lv_iload_n hx hb dX1_appendAll_21 rfl (lv_at hl 0 rfl) ?_
        refine ee_ki (wr := [(h0, ee_o 1 [.ref h1, .ref h2, .int (nI 0), .int (nI (en - fr + i))]), (h1, ee_i E 80 gk), (h2, ee_i E 80 gl), (g1, ee_i E 80 ok)]) (ee_rV (As := [.int (nI i)]) (rest := [.int (ok (fro + i)), .ref h0]) (kX1_lengthOf l E g0 g1 g2 fro eno ol i (by omega)) hx hb hml hown hts 1 gX1_appendAll_X1_lengthOf rfl rfl rfl (by decide +kernel) ⟨Nat.le_of_ble_eq_true rfl, Nat.le_of_ble_eq_true rfl⟩ hV hP hD hS hA [4, 0] rfl (by decide) hl 4 rfl rfl rfl rfl (Nat.le_of_ble_eq_true rfl) dX1_appendAll_22 ⟨Nat.le_of_ble_eq_true rfl, Nat.le_of_ble_eq_true rfl⟩) hP hD hS hA [4, 0] [1, 2, 3, 5] rfl rfl (by decide) (by decide) (fun r_12 u_13 H locs hp_14 hP hD hS => ?_)
        subst hp_14
        have hP : va_P E.1 vwCl [(h0, ee_o 1 [.ref h1, .ref h2, .int (nI 0), .int (nI (en - fr + i))]), (h1, ee_i E 80 gk), (h2, ee_i E 80 gl), (g1, ee_i E 80 ok), (g0, ee_o 1 [.ref g1, .ref g2, .int (nI fro), .int (nI eno)]), (g2, ee_i E 80 ol)] H := hP
        have hD : va_D A [(h0, ee_o 1 [.ref h1, .ref h2, .int (nI 0), .int (nI (en - fr + i))]), (h1, ee_i E 80 gk), (h2, ee_i E 80 gl), (g1, ee_i E 80 ok), (g0, ee_o 1 [.ref g1, .ref g2, .int (nI fro), .int (nI eno)]), (g2, ee_i E 80 ol)] := hD
        refine ee_ki (wr := [(g1, ee_i E 80 ok), (g0, ee_o 1 [.ref g1, .ref g2, .int (nI fro), .int (nI eno)]), (g2, ee_i E 80 ol)]) (ee_rV (As := [.int (ok (fro + i)), .int (ol (fro + i))]) (rest := []) (kX1_append l E h0 h1 h2 0 (en - fr + i) gk gl (ok (fro + i)) (ol (fro + i)) (by omega)) hx hb hml hown hts 2 gX1_appendAll_X1_append rfl rfl rfl (by decide +kernel) ⟨Nat.le_of_ble_eq_true rfl, Nat.le_of_ble_eq_true rfl⟩ hV hP hD hS hA [0, 1, 2] rfl (by decide) hl 0 rfl rfl rfl rfl (Nat.le_of_ble_eq_true rfl) dX1_appendAll_25 ⟨Nat.le_of_ble_eq_true rfl, Nat.le_of_ble_eq_true rfl⟩) hP hD hS hA [0, 1, 2] [3, 4, 5] rfl rfl (by decide) (by decide) (fun r_15 u_16 H locs hp_17 hP hD hS => ?_)
        subst hp_17
        have hP : va_P E.1 vwCl [(g1, ee_i E 80 ok), (g0, ee_o 1 [.ref g1, .ref g2, .int (nI fro), .int (nI eno)]), (g2, ee_i E 80 ol), (h0, ee_o 1 [.ref h1, .ref h2, .int (nI 0), .int (nI ((en - fr + i) + 1))]), (h1, ee_i E 80 (upd gk (en - fr + i) (ok (fro + i)))), (h2, ee_i E 80 (upd gl (en - fr + i) (ol (fro + i))))] H := hP
        have hD : va_D A [(g1, ee_i E 80 ok), (g0, ee_o 1 [.ref g1, .ref g2, .int (nI fro), .int (nI eno)]), (g2, ee_i E 80 ol), (h0, ee_o 1 [.ref h1, .ref h2, .int (nI 0), .int (nI ((en - fr + i) + 1))]), (h1, ee_i E 80 (upd gk (en - fr + i) (ok (fro + i)))), (h2, ee_i E 80 (upd gl (en - fr + i) (ol (fro + i))))] := hD
        refine lv_pop hx hb dX1_appendAll_28 rfl ?_
        refine lv_iinc (v := nI (i + 1)) (lv' := [(2, .int (nI (i + 1))), (0, .ref h0), (1, .ref g0)]) hx hb dX1_appendAll_29 hl (k := 0) rfl (ee_inc _) (by decide) rfl (fun ls hl => ?_)
        refine lv_goto (tgt := 6) hx hb dX1_appendAll_32 (by decide) ?_
        exact ihB_4 (i + 1) (upd gk (en - fr + i) (ok (fro + i))) (upd gl (en - fr + i) (ol (fro + i))) _ _ _ (by omega) (by omega) (up_s q1 (appF_hi (f := fun j => fk (fr + j)) (g := fun j => ok (fro + j))).symm) (up_s q3 (appF_hi (f := fun j => fl (fr + j)) (g := fun j => ol (fro + j))).symm) (hP.sub [1, 0, 2, 3, 4, 5] rfl) (hD.sub [1, 0, 2, 3, 4, 5] (by decide) rfl) hS (lv_sub hl [0, 1, 2] rfl)
  exact B_4 ((eno - fro - 0) + 1) 0 ck cl _ _ _ (Nat.lt_succ_self _) (by omega) (fun j hj => by rw [appF_lo (by omega)]; exact c1 j (by omega)) (fun j hj => by rw [appF_lo (by omega)]; exact c2 j (by omega)) hP hD hS (lv_sub hl [0, 1, 2] rfl)
abbrev rmX1_init : Room := ({ frames := 1, cells := 2, slots := 160, locals := 12 } : Room)
theorem w1_X1_init : Cond.methodLink RX1 3 objectInit ∈ wsX1_init := List.mem_of_getElem? (i := 1) (by decide +kernel)
theorem w2_X1_init : Cond.instanceMethod objectInit ∈ wsX1_init := List.mem_of_getElem? (i := 2) (by decide +kernel)
theorem w3_X1_init : Cond.code objectInit ⟨#[0xb1]⟩ 1 none ∈ wsX1_init := List.mem_of_getElem? (i := 3) (by decide +kernel)
theorem w4_X1_init : Cond.arrayClass .int ∈ wsX1_init := List.mem_of_getElem? (i := 4) (by decide +kernel)
theorem w5_X1_init : Cond.fieldLink RX1 9 "LabelApplicator$Items" "kinds" "[I" ∈ wsX1_init := List.mem_of_getElem? (i := 5) (by decide +kernel)
theorem w6_X1_init : Cond.fieldLink RX1 15 "LabelApplicator$Items" "lengths" "[I" ∈ wsX1_init := List.mem_of_getElem? (i := 6) (by decide +kernel)
theorem i1_X1_init : ∀ w ∈ wsX10, w ∈ wsX1_init := fun w h => (goodIn_r _ [7, 8, 9, 10] (by decide +kernel) (by decide +kernel) w h).1
set_option maxHeartbeats 4000000 in
set_option maxRecDepth 100000 in
theorem kX1_init (l : Launch) (E : ee_T) (h0 : Nat)  : CQ l E yX1_init wsX1_init rmX1_init [.ref h0] [(h0, ee_o 1 [.null, .null, .int (nI 0), .int (nI 0)])] (QV E (fun (u : Nat × Nat) => True) (fun (u : Nat × Nat) => [(h0, ee_o 1 [.ref u.1, .ref u.2, .int (nI 0), .int (nI 0)]), (u.1, ee_i E 80 (fun _ => nI 0)), (u.2, ee_i E 80 (fun _ => nI 0))])) 2 160 := by
  refine CQ_ofW (cc := cX1_init) (maxL := 1) (ret := none) (by decide) rfl (Nat.le_of_ble_eq_true rfl) ?_
  intro p e s m below meth c A Q hQ hx hb hr hml hown hlocks hnm hts hV hA hP hD hS ls hl
  have hl : lv_has ls 1 [(0, .ref h0)] := hl
  refine lv_aload_n hx hb dX1_init_0 rfl (lv_at hl 0 rfl) ?_
  refine W.objInit hx hb hown (hts _ w1_X1_init) (hts _ w2_X1_init) (hts _ w3_X1_init) rfl (by rw [hml]; exact hl.1) rfl dX1_init_1 (Nat.le_of_ble_eq_true rfl) (Nat.le_of_ble_eq_true rfl) ?_
  refine W.eq (g2 := F0 m 4 ls []) rfl ?_
  refine lv_aload_n hx hb dX1_init_4 rfl (lv_at hl 0 rfl) ?_
  refine lv_bipush (v := nI 80) hx hb dX1_init_5 (by decide) ?_
  refine ee_newi hx hb (hts _ w4_X1_init) hV hP hD hS hA (N := 80) (by decide) (Nat.le_of_ble_eq_true rfl) (Nat.le_of_ble_eq_true rfl) dX1_init_7 (fun qk H hP hD hS => ?_)
  have hP : va_P E.1 vwCl [(h0, ee_o 1 [.null, .null, .int (nI 0), .int (nI 0)]), (qk, ee_i E 80 (fun _ => nI 0))] H := hP
  have hD : va_D A [(h0, ee_o 1 [.null, .null, .int (nI 0), .int (nI 0)]), (qk, ee_i E 80 (fun _ => nI 0))] := hD
  refine W.widen (k := 1) (n := 80) (by omega) (by omega) ?_
  refine va_putF (ci := 1) (v := .ref qk) (ty := .array .int) (C := RX1) (T := TX1) (N := 4) hx hb hts i1_X1_init tyX1 tyX1_ok nmX1 hown hV.1 hP hD hS 0 rfl rfl 0 (by decide) (hts _ w5_X1_init) (fun _ h9 => h9) rfl hnm rfl (by decide +kernel) rfl rfl (Nat.le_of_ble_eq_true rfl) dX1_init_9 (fun H locs hP hD hS => ?_)
  have hP : va_P E.1 vwCl [(h0, ee_o 1 [.ref qk, .null, .int (nI 0), .int (nI 0)]), (qk, ee_i E 80 (fun _ => nI 0))] H := hP
  have hD : va_D A [(h0, ee_o 1 [.ref qk, .null, .int (nI 0), .int (nI 0)]), (qk, ee_i E 80 (fun _ => nI 0))] := hD
  refine lv_aload_n hx hb dX1_init_12 rfl (lv_at hl 0 rfl) ?_
  refine lv_bipush (v := nI 80) hx hb dX1_init_13 (by decide) ?_
  refine ee_newi hx hb (hts _ w4_X1_init) hV hP hD hS hA (N := 80) (by decide) (Nat.le_of_ble_eq_true rfl) (Nat.le_of_ble_eq_true rfl) dX1_init_15 (fun ql H hP hD hS => ?_)
  have hP : va_P E.1 vwCl [(h0, ee_o 1 [.ref qk, .null, .int (nI 0), .int (nI 0)]), (qk, ee_i E 80 (fun _ => nI 0)), (ql, ee_i E 80 (fun _ => nI 0))] H := hP
  have hD : va_D A [(h0, ee_o 1 [.ref qk, .null, .int (nI 0), .int (nI 0)]), (qk, ee_i E 80 (fun _ => nI 0)), (ql, ee_i E 80 (fun _ => nI 0))] := hD
  refine W.widen (k := 2) (n := 160) (by omega) (by omega) ?_
  refine va_putF (ci := 1) (v := .ref ql) (ty := .array .int) (C := RX1) (T := TX1) (N := 4) hx hb hts i1_X1_init tyX1 tyX1_ok nmX1 hown hV.1 hP hD hS 0 rfl rfl 1 (by decide) (hts _ w6_X1_init) (fun _ h9 => h9) rfl hnm rfl (by decide +kernel) rfl rfl (Nat.le_of_ble_eq_true rfl) dX1_init_17 (fun H locs hP hD hS => ?_)
  have hP : va_P E.1 vwCl [(h0, ee_o 1 [.ref qk, .ref ql, .int (nI 0), .int (nI 0)]), (qk, ee_i E 80 (fun _ => nI 0)), (ql, ee_i E 80 (fun _ => nI 0))] H := hP
  have hD : va_D A [(h0, ee_o 1 [.ref qk, .ref ql, .int (nI 0), .int (nI 0)]), (qk, ee_i E 80 (fun _ => nI 0)), (ql, ee_i E 80 (fun _ => nI 0))] := hD
  exact ee_fv hQ hx hb hr hlocks hS (qk, ql) (trivial) hP hD dX1_init_20
