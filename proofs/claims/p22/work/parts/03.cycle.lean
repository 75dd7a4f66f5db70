/-! Cycle -/
abbrev rmX0_begin : Room := ({ frames := 0, cells := 0, slots := 0, locals := 0 } : Room)
theorem w1_X0_begin : Cond.fieldLink RX0 9 "LabelApplicator$Cycle" "travel" "I" ∈ wsX0_begin := List.mem_of_getElem? (i := 1) (by decide +kernel)
theorem w2_X0_begin : Cond.fieldLink RX0 15 "LabelApplicator$Cycle" "labels" "I" ∈ wsX0_begin := List.mem_of_getElem? (i := 2) (by decide +kernel)
theorem w3_X0_begin : Cond.fieldLink RX0 18 "LabelApplicator$Cycle" "splices" "I" ∈ wsX0_begin := List.mem_of_getElem? (i := 3) (by decide +kernel)
theorem w4_X0_begin : Cond.fieldLink RX0 21 "LabelApplicator$Cycle" "taken" "I" ∈ wsX0_begin := List.mem_of_getElem? (i := 4) (by decide +kernel)
theorem w5_X0_begin : Cond.fieldLink RX0 24 "LabelApplicator$Cycle" "ending" "I" ∈ wsX0_begin := List.mem_of_getElem? (i := 5) (by decide +kernel)
theorem w6_X0_begin : Cond.fieldLink RX0 27 "LabelApplicator$Cycle" "speed" "I" ∈ wsX0_begin := List.mem_of_getElem? (i := 6) (by decide +kernel)
theorem i0_X0_begin : ∀ w ∈ wsX00, w ∈ wsX0_begin := fun w h => (goodIn_r _ [7, 8, 9, 10, 11, 12, 13, 14] (by decide +kernel) (by decide +kernel) w h).1
set_option maxHeartbeats 4000000 in
set_option maxRecDepth 100000 in
theorem kX0_begin (l : Launch) (E : ee_T) (h0 : Nat) (t lb sp tk ed sd rs lt : Int32) (v : Int32)  : CQ l E yX0_begin wsX0_begin rmX0_begin [.ref h0, .int v] [(h0, ee_o 0 [.int t, .int lb, .int sp, .int tk, .int ed, .int sd, .int rs, .int lt])] (QV E (fun (u : Unit) => True) (fun (u : Unit) => [(h0, ee_o 0 [.int (nI 0), .int (nI 0), .int (nI 0), .int (nI 0), .int (nI 0), .int v, .int rs, .int lt])])) 0 0 := by
  refine CQ_ofW (cc := cX0_begin) (maxL := 2) (ret := none) (by decide) rfl (Nat.le_of_ble_eq_true rfl) ?_
  intro p e s m below meth c A Q hQ hx hb hr hml hown hlocks hnm hts hV hA hP hD hS ls hl
  have hl : lv_has ls 2 [(0, .ref h0), (1, .int v)] := hl
  refine lv_aload_n hx hb dX0_begin_0 rfl (lv_at hl 0 rfl) ?_
  refine lv_iconst (v := nI 0) hx hb dX0_begin_1 (by decide) ?_
  refine va_put (ci := 0) (v := .int (nI 0)) (ty := .int) (C := RX0) (T := TX0) (N := 8) hx hb hts i0_X0_begin tyX0 tyX0_ok nmX0 hown hV.1 hP hD hS 0 rfl rfl 0 (by decide) (hts _ w1_X0_begin) (fun _ h9 => h9) rfl (by decide +kernel) rfl rfl (Nat.le_of_ble_eq_true rfl) dX0_begin_2 (fun H locs hP hD hS => ?_)
  have hP : va_P E.1 vwCl [(h0, ee_o 0 [.int (nI 0), .int lb, .int sp, .int tk, .int ed, .int sd, .int rs, .int lt])] H := hP
  have hD : va_D A [(h0, ee_o 0 [.int (nI 0), .int lb, .int sp, .int tk, .int ed, .int sd, .int rs, .int lt])] := hD
  refine lv_aload_n hx hb dX0_begin_5 rfl (lv_at hl 0 rfl) ?_
  refine lv_iconst (v := nI 0) hx hb dX0_begin_6 (by decide) ?_
  refine va_put (ci := 0) (v := .int (nI 0)) (ty := .int) (C := RX0) (T := TX0) (N := 8) hx hb hts i0_X0_begin tyX0 tyX0_ok nmX0 hown hV.1 hP hD hS 0 rfl rfl 1 (by decide) (hts _ w2_X0_begin) (fun _ h9 => h9) rfl (by decide +kernel) rfl rfl (Nat.le_of_ble_eq_true rfl) dX0_begin_7 (fun H locs hP hD hS => ?_)
  have hP : va_P E.1 vwCl [(h0, ee_o 0 [.int (nI 0), .int (nI 0), .int sp, .int tk, .int ed, .int sd, .int rs, .int lt])] H := hP
  have hD : va_D A [(h0, ee_o 0 [.int (nI 0), .int (nI 0), .int sp, .int tk, .int ed, .int sd, .int rs, .int lt])] := hD
  refine lv_aload_n hx hb dX0_begin_10 rfl (lv_at hl 0 rfl) ?_
  refine lv_iconst (v := nI 0) hx hb dX0_begin_11 (by decide) ?_
  refine va_put (ci := 0) (v := .int (nI 0)) (ty := .int) (C := RX0) (T := TX0) (N := 8) hx hb hts i0_X0_begin tyX0 tyX0_ok nmX0 hown hV.1 hP hD hS 0 rfl rfl 2 (by decide) (hts _ w3_X0_begin) (fun _ h9 => h9) rfl (by decide +kernel) rfl rfl (Nat.le_of_ble_eq_true rfl) dX0_begin_12 (fun H locs hP hD hS => ?_)
  have hP : va_P E.1 vwCl [(h0, ee_o 0 [.int (nI 0), .int (nI 0), .int (nI 0), .int tk, .int ed, .int sd, .int rs, .int lt])] H := hP
  have hD : va_D A [(h0, ee_o 0 [.int (nI 0), .int (nI 0), .int (nI 0), .int tk, .int ed, .int sd, .int rs, .int lt])] := hD
  refine lv_aload_n hx hb dX0_begin_15 rfl (lv_at hl 0 rfl) ?_
  refine lv_iconst (v := nI 0) hx hb dX0_begin_16 (by decide) ?_
  refine va_put (ci := 0) (v := .int (nI 0)) (ty := .int) (C := RX0) (T := TX0) (N := 8) hx hb hts i0_X0_begin tyX0 tyX0_ok nmX0 hown hV.1 hP hD hS 0 rfl rfl 3 (by decide) (hts _ w4_X0_begin) (fun _ h9 => h9) rfl (by decide +kernel) rfl rfl (Nat.le_of_ble_eq_true rfl) dX0_begin_17 (fun H locs hP hD hS => ?_)
  have hP : va_P E.1 vwCl [(h0, ee_o 0 [.int (nI 0), .int (nI 0), .int (nI 0), .int (nI 0), .int ed, .int sd, .int rs, .int lt])] H := hP
  have hD : va_D A [(h0, ee_o 0 [.int (nI 0), .int (nI 0), .int (nI 0), .int (nI 0), .int ed, .int sd, .int rs, .int lt])] := hD
  refine lv_aload_n hx hb dX0_begin_20 rfl (lv_at hl 0 rfl) ?_
  refine lv_iconst (v := nI 0) hx hb dX0_begin_21 (by decide) ?_
  refine va_put (ci := 0) (v := .int (nI 0)) (ty := .int) (C := RX0) (T := TX0) (N := 8) hx hb hts i0_X0_begin tyX0 tyX0_ok nmX0 hown hV.1 hP hD hS 0 rfl rfl 4 (by decide) (hts _ w5_X0_begin) (fun _ h9 => h9) rfl (by decide +kernel) rfl rfl (Nat.le_of_ble_eq_true rfl) dX0_begin_22 (fun H locs hP hD hS => ?_)
  have hP : va_P E.1 vwCl [(h0, ee_o 0 [.int (nI 0), .int (nI 0), .int (nI 0), .int (nI 0), .int (nI 0), .int sd, .int rs, .int lt])] H := hP
  have hD : va_D A [(h0, ee_o 0 [.int (nI 0), .int (nI 0), .int (nI 0), .int (nI 0), .int (nI 0), .int sd, .int rs, .int lt])] := hD
  refine lv_aload_n hx hb dX0_begin_25 rfl (lv_at hl 0 rfl) ?_
  refine lv_iload_n hx hb dX0_begin_26 rfl (lv_at hl 1 rfl) ?_
  refine va_put (ci := 0) (v := .int v) (ty := .int) (C := RX0) (T := TX0) (N := 8) hx hb hts i0_X0_begin tyX0 tyX0_ok nmX0 hown hV.1 hP hD hS 0 rfl rfl 5 (by decide) (hts _ w6_X0_begin) (fun _ h9 => h9) rfl (by decide +kernel) rfl rfl (Nat.le_of_ble_eq_true rfl) dX0_begin_27 (fun H locs hP hD hS => ?_)
  have hP : va_P E.1 vwCl [(h0, ee_o 0 [.int (nI 0), .int (nI 0), .int (nI 0), .int (nI 0), .int (nI 0), .int v, .int rs, .int lt])] H := hP
  have hD : va_D A [(h0, ee_o 0 [.int (nI 0), .int (nI 0), .int (nI 0), .int (nI 0), .int (nI 0), .int v, .int rs, .int lt])] := hD
  exact ee_fv hQ hx hb hr hlocks hS () (trivial) hP hD dX0_begin_30
abbrev rmX0_take : Room := ({ frames := 0, cells := 0, slots := 0, locals := 0 } : Room)
theorem w1_X0_take : Cond.fieldLink RX0 21 "LabelApplicator$Cycle" "taken" "I" ∈ wsX0_take := List.mem_of_getElem? (i := 1) (by decide +kernel)
theorem w2_X0_take : Cond.fieldLink RX0 9 "LabelApplicator$Cycle" "travel" "I" ∈ wsX0_take := List.mem_of_getElem? (i := 2) (by decide +kernel)
theorem w3_X0_take : Cond.fieldLink RX0 15 "LabelApplicator$Cycle" "labels" "I" ∈ wsX0_take := List.mem_of_getElem? (i := 3) (by decide +kernel)
theorem w4_X0_take : Cond.fieldLink RX0 18 "LabelApplicator$Cycle" "splices" "I" ∈ wsX0_take := List.mem_of_getElem? (i := 4) (by decide +kernel)
theorem i0_X0_take : ∀ w ∈ wsX00, w ∈ wsX0_take := fun w h => (goodIn_r _ [5, 6, 7, 8, 9, 10, 11, 12] (by decide +kernel) (by decide +kernel) w h).1
set_option maxHeartbeats 4000000 in
set_option maxRecDepth 100000 in
theorem kX0_take (l : Launch) (E : ee_T) (h0 : Nat) (t lb sp tk : Nat) (ed sd rs lt : Int32) (kd : Int32) (ln : Nat)  : CQ l E yX0_take wsX0_take rmX0_take [.ref h0, .int kd, .int (nI ln)] [(h0, ee_o 0 [.int (nI t), .int (nI lb), .int (nI sp), .int (nI tk), .int ed, .int sd, .int rs, .int lt])] (QV E (fun (u : Nat × Nat) => u.1 = cyL kd lb ∧ u.2 = cyS kd sp) (fun (u : Nat × Nat) => [(h0, ee_o 0 [.int (nI (t + ln)), .int (nI u.1), .int (nI u.2), .int (nI (tk + 1)), .int ed, .int sd, .int rs, .int lt])])) 0 0 := by
  refine CQ_ofW (cc := cX0_take) (maxL := 3) (ret := none) (by decide) rfl (Nat.le_of_ble_eq_true rfl) ?_
  intro p e s m below meth c A Q hQ hx hb hr hml hown hlocks hnm hts hV hA hP hD hS ls hl
  have hl : lv_has ls 3 [(0, .ref h0), (1, .int kd), (2, .int (nI ln))] := hl
  refine lv_aload_n hx hb dX0_take_0 rfl (lv_at hl 0 rfl) ?_
  refine lv_dup hx hb dX0_take_1 rfl ?_
  refine va_get (ci := 0) (v := .int (nI tk)) (C := RX0) (T := TX0) (N := 8) hx hb hts i0_X0_take hown hV.1 hP 0 rfl rfl 3 (by decide) (hts _ w1_X0_take) (fun _ h9 => h9) rfl dX0_take_2 ?_
  refine lv_iconst (v := nI 1) hx hb dX0_take_5 (by decide) ?_
  refine ee_iadd hx hb dX0_take_6 ?_
  refine va_put (ci := 0) (v := .int (nI (tk + 1))) (ty := .int) (C := RX0) (T := TX0) (N := 8) hx hb hts i0_X0_take tyX0 tyX0_ok nmX0 hown hV.1 hP hD hS 0 rfl rfl 3 (by decide) (hts _ w1_X0_take) (fun _ h9 => h9) rfl (by decide +kernel) rfl rfl (Nat.le_of_ble_eq_true rfl) dX0_take_7 (fun H locs hP hD hS => ?_)
  have hP : va_P E.1 vwCl [(h0, ee_o 0 [.int (nI t), .int (nI lb), .int (nI sp), .int (nI (tk + 1)), .int ed, .int sd, .int rs, .int lt])] H := hP
  have hD : va_D A [(h0, ee_o 0 [.int (nI t), .int (nI lb), .int (nI sp), .int (nI (tk + 1)), .int ed, .int sd, .int rs, .int lt])] := hD
  refine lv_aload_n hx hb dX0_take_10 rfl (lv_at hl 0 rfl) ?_
  refine lv_dup hx hb dX0_take_11 rfl ?_
  refine va_get (ci := 0) (v := .int (nI t)) (C := RX0) (T := TX0) (N := 8) hx hb hts i0_X0_take hown hV.1 hP 0 rfl rfl 0 (by decide) (hts _ w2_X0_take) (fun _ h9 => h9) rfl dX0_take_12 ?_
  refine lv_iload_n hx hb dX0_take_15 rfl (lv_at hl 2 rfl) ?_
  refine ee_iadd hx hb dX0_take_16 ?_
  refine va_put (ci := 0) (v := .int (nI (t + ln))) (ty := .int) (C := RX0) (T := TX0) (N := 8) hx hb hts i0_X0_take tyX0 tyX0_ok nmX0 hown hV.1 hP hD hS 0 rfl rfl 0 (by decide) (hts _ w2_X0_take) (fun _ h9 => h9) rfl (by decide +kernel) rfl rfl (Nat.le_of_ble_eq_true rfl) dX0_take_17 (fun H locs hP hD hS => ?_)
  have hP : va_P E.1 vwCl [(h0, ee_o 0 [.int (nI (t + ln)), .int (nI lb), .int (nI sp), .int (nI (tk + 1)), .int ed, .int sd, .int rs, .int lt])] H := hP
  have hD : va_D A [(h0, ee_o 0 [.int (nI (t + ln)), .int (nI lb), .int (nI sp), .int (nI (tk + 1)), .int ed, .int sd, .int rs, .int lt])] := hD
  refine lv_iload_n hx hb dX0_take_20 rfl (lv_at hl 1 rfl) ?_
  refine ee_z_ne (tgt := 34) hx hb dX0_take_21 (by decide) (fun ga => ?_) (fun ga => ?_)
  · refine lv_iload_n hx hb dX0_take_34 rfl (lv_at hl 1 rfl) ?_
    refine lv_iconst (v := nI 3) hx hb dX0_take_35 (by decide) ?_
    refine lv_icmp_ne (tgt := 49) hx hb dX0_take_36 (by decide) (fun gb => ?_) (fun gb => ?_)
    · exact ee_fv hQ hx hb hr hlocks hS (lb, sp) (⟨by rw [cyL, if_neg ga], by rw [cyS, if_neg gb]⟩) hP hD dX0_take_49
    · refine lv_aload_n hx hb dX0_take_39 rfl (lv_at hl 0 rfl) ?_
      refine lv_dup hx hb dX0_take_40 rfl ?_
      refine va_get (ci := 0) (v := .int (nI sp)) (C := RX0) (T := TX0) (N := 8) hx hb hts i0_X0_take hown hV.1 hP 0 rfl rfl 2 (by decide) (hts _ w4_X0_take) (fun _ h9 => h9) rfl dX0_take_41 ?_
      refine lv_iconst (v := nI 1) hx hb dX0_take_44 (by decide) ?_
      refine ee_iadd hx hb dX0_take_45 ?_
      refine va_put (ci := 0) (v := .int (nI (sp + 1))) (ty := .int) (C := RX0) (T := TX0) (N := 8) hx hb hts i0_X0_take tyX0 tyX0_ok nmX0 hown hV.1 hP hD hS 0 rfl rfl 2 (by decide) (hts _ w4_X0_take) (fun _ h9 => h9) rfl (by decide +kernel) rfl rfl (Nat.le_of_ble_eq_true rfl) dX0_take_46 (fun H locs hP hD hS => ?_)
      have hP : va_P E.1 vwCl [(h0, ee_o 0 [.int (nI (t + ln)), .int (nI lb), .int (nI (sp + 1)), .int (nI (tk + 1)), .int ed, .int sd, .int rs, .int lt])] H := hP
      have hD : va_D A [(h0, ee_o 0 [.int (nI (t + ln)), .int (nI lb), .int (nI (sp + 1)), .int (nI (tk + 1)), .int ed, .int sd, .int rs, .int lt])] := hD
      exact ee_fv hQ hx hb hr hlocks hS (lb, sp + 1) (⟨by rw [cyL, if_neg ga], by rw [cyS, if_pos gb]⟩) hP hD dX0_take_49
  · refine lv_aload_n hx hb dX0_take_24 rfl (lv_at hl 0 rfl) ?_
    refine lv_dup hx hb dX0_take_25 rfl ?_
    refine va_get (ci := 0) (v := .int (nI lb)) (C := RX0) (T := TX0) (N := 8) hx hb hts i0_X0_take hown hV.1 hP 0 rfl rfl 1 (by decide) (hts _ w3_X0_take) (fun _ h9 => h9) rfl dX0_take_26 ?_
    refine lv_iconst (v := nI 1) hx hb dX0_take_29 (by decide) ?_
    refine ee_iadd hx hb dX0_take_30 ?_
    refine va_put (ci := 0) (v := .int (nI (lb + 1))) (ty := .int) (C := RX0) (T := TX0) (N := 8) hx hb hts i0_X0_take tyX0 tyX0_ok nmX0 hown hV.1 hP hD hS 0 rfl rfl 1 (by decide) (hts _ w3_X0_take) (fun _ h9 => h9) rfl (by decide +kernel) rfl rfl (Nat.le_of_ble_eq_true rfl) dX0_take_31 (fun H locs hP hD hS => ?_)
    have hP : va_P E.1 vwCl [(h0, ee_o 0 [.int (nI (t + ln)), .int (nI (lb + 1)), .int (nI sp), .int (nI (tk + 1)), .int ed, .int sd, .int rs, .int lt])] H := hP
    have hD : va_D A [(h0, ee_o 0 [.int (nI (t + ln)), .int (nI (lb + 1)), .int (nI sp), .int (nI (tk + 1)), .int ed, .int sd, .int rs, .int lt])] := hD
    refine lv_iload_n hx hb dX0_take_34 rfl (lv_at hl 1 rfl) ?_
    refine lv_iconst (v := nI 3) hx hb dX0_take_35 (by decide) ?_
    refine lv_icmp_ne (tgt := 49) hx hb dX0_take_36 (by decide) (fun gb => ?_) (fun gb => ?_)
    · exact ee_fv hQ hx hb hr hlocks hS (lb + 1, sp) (⟨by rw [cyL, if_pos ga], by rw [cyS, if_neg gb]⟩) hP hD dX0_take_49
    · refine lv_aload_n hx hb dX0_take_39 rfl (lv_at hl 0 rfl) ?_
      refine lv_dup hx hb dX0_take_40 rfl ?_
      refine va_get (ci := 0) (v := .int (nI sp)) (C := RX0) (T := TX0) (N := 8) hx hb hts i0_X0_take hown hV.1 hP 0 rfl rfl 2 (by decide) (hts _ w4_X0_take) (fun _ h9 => h9) rfl dX0_take_41 ?_
      refine lv_iconst (v := nI 1) hx hb dX0_take_44 (by decide) ?_
      refine ee_iadd hx hb dX0_take_45 ?_
      refine va_put (ci := 0) (v := .int (nI (sp + 1))) (ty := .int) (C := RX0) (T := TX0) (N := 8) hx hb hts i0_X0_take tyX0 tyX0_ok nmX0 hown hV.1 hP hD hS 0 rfl rfl 2 (by decide) (hts _ w4_X0_take) (fun _ h9 => h9) rfl (by decide +kernel) rfl rfl (Nat.le_of_ble_eq_true rfl) dX0_take_46 (fun H locs hP hD hS => ?_)
      have hP : va_P E.1 vwCl [(h0, ee_o 0 [.int (nI (t + ln)), .int (nI (lb + 1)), .int (nI (sp + 1)), .int (nI (tk + 1)), .int ed, .int sd, .int rs, .int lt])] H := hP
      have hD : va_D A [(h0, ee_o 0 [.int (nI (t + ln)), .int (nI (lb + 1)), .int (nI (sp + 1)), .int (nI (tk + 1)), .int ed, .int sd, .int rs, .int lt])] := hD
      exact ee_fv hQ hx hb hr hlocks hS (lb + 1, sp + 1) (⟨by rw [cyL, if_pos ga], by rw [cyS, if_pos gb]⟩) hP hD dX0_take_49
abbrev rmX0_number : Room := ({ frames := 0, cells := 0, slots := 0, locals := 0 } : Room)
theorem w1_X0_number : Cond.fieldLink RX0 9 "LabelApplicator$Cycle" "travel" "I" ∈ wsX0_number := List.mem_of_getElem? (i := 1) (by decide +kernel)
theorem w2_X0_number : Cond.fieldLink RX0 15 "LabelApplicator$Cycle" "labels" "I" ∈ wsX0_number := List.mem_of_getElem? (i := 2) (by decide +kernel)
theorem w3_X0_number : Cond.fieldLink RX0 30 "LabelApplicator$Cycle" "reason" "I" ∈ wsX0_number := List.mem_of_getElem? (i := 3) (by decide +kernel)
theorem w4_X0_number : Cond.fieldLink RX0 27 "LabelApplicator$Cycle" "speed" "I" ∈ wsX0_number := List.mem_of_getElem? (i := 4) (by decide +kernel)
theorem w5_X0_number : Cond.fieldLink RX0 21 "LabelApplicator$Cycle" "taken" "I" ∈ wsX0_number := List.mem_of_getElem? (i := 5) (by decide +kernel)
theorem w6_X0_number : Cond.fieldLink RX0 24 "LabelApplicator$Cycle" "ending" "I" ∈ wsX0_number := List.mem_of_getElem? (i := 6) (by decide +kernel)
theorem i0_X0_number : ∀ w ∈ wsX00, w ∈ wsX0_number := fun w h => (goodIn_r _ [7, 8, 9, 10, 11, 12, 13, 14] (by decide +kernel) (by decide +kernel) w h).1
set_option maxHeartbeats 4000000 in
set_option maxRecDepth 100000 in
theorem kX0_number (l : Launch) (E : ee_T) (h0 : Nat) (t lb sp tk ed sd rs lt : Int32) (w : Nat) (hw : w ≤ 5) : CQ l E yX0_number wsX0_number rmX0_number [.ref h0, .int (nI w)] [(h0, ee_o 0 [.int t, .int lb, .int sp, .int tk, .int ed, .int sd, .int rs, .int lt])] (QI E (fun (r : Int32) (u : Unit) => r = cyN t lb rs sd tk ed w) (fun (u : Unit) => [(h0, ee_o 0 [.int t, .int lb, .int sp, .int tk, .int ed, .int sd, .int rs, .int lt])])) 0 0 := by
  refine CQ_ofW (cc := cX0_number) (maxL := 2) (ret := (some .int)) (by decide) rfl (Nat.le_of_ble_eq_true rfl) ?_
  intro p e s m below meth c A Q hQ hx hb hr hml hown hlocks hnm hts hV hA hP hD hS ls hl
  have hl : lv_has ls 2 [(0, .ref h0), (1, .int (nI w))] := hl
  refine lv_iload_n hx hb dX0_number_0 rfl (lv_at hl 1 rfl) ?_
  rcases (show w = 0 ∨ w = 1 ∨ w = 2 ∨ w = 3 ∨ w = 4 ∨ w = 5 by omega) with rfl | rfl | rfl | rfl | rfl | rfl
  · refine lv_tableIn (off := 35) (tgt := 36) hx hb dX0_number_1 (by decide) (by decide) (by decide) (by decide) ?_
    refine lv_aload_n hx hb dX0_number_36 rfl (lv_at hl 0 rfl) ?_
    refine va_get (ci := 0) (v := .int t) (C := RX0) (T := TX0) (N := 8) hx hb hts i0_X0_number hown hV.1 hP 0 rfl rfl 0 (by decide) (hts _ w1_X0_number) (fun _ h9 => h9) rfl dX0_number_37 ?_
    exact ee_fi hQ hx hb hr (rfl) hlocks hS () (rfl) hP hD dX0_number_40
  · refine lv_tableIn (off := 40) (tgt := 41) hx hb dX0_number_1 (by decide) (by decide) (by decide) (by decide) ?_
    refine lv_aload_n hx hb dX0_number_41 rfl (lv_at hl 0 rfl) ?_
    refine va_get (ci := 0) (v := .int lb) (C := RX0) (T := TX0) (N := 8) hx hb hts i0_X0_number hown hV.1 hP 0 rfl rfl 1 (by decide) (hts _ w2_X0_number) (fun _ h9 => h9) rfl dX0_number_42 ?_
    exact ee_fi hQ hx hb hr (rfl) hlocks hS () (rfl) hP hD dX0_number_45
  · refine lv_tableIn (off := 45) (tgt := 46) hx hb dX0_number_1 (by decide) (by decide) (by decide) (by decide) ?_
    refine lv_aload_n hx hb dX0_number_46 rfl (lv_at hl 0 rfl) ?_
    refine va_get (ci := 0) (v := .int rs) (C := RX0) (T := TX0) (N := 8) hx hb hts i0_X0_number hown hV.1 hP 0 rfl rfl 6 (by decide) (hts _ w3_X0_number) (fun _ h9 => h9) rfl dX0_number_47 ?_
    exact ee_fi hQ hx hb hr (rfl) hlocks hS () (rfl) hP hD dX0_number_50
  · refine lv_tableIn (off := 50) (tgt := 51) hx hb dX0_number_1 (by decide) (by decide) (by decide) (by decide) ?_
    refine lv_aload_n hx hb dX0_number_51 rfl (lv_at hl 0 rfl) ?_
    refine va_get (ci := 0) (v := .int sd) (C := RX0) (T := TX0) (N := 8) hx hb hts i0_X0_number hown hV.1 hP 0 rfl rfl 5 (by decide) (hts _ w4_X0_number) (fun _ h9 => h9) rfl dX0_number_52 ?_
    exact ee_fi hQ hx hb hr (rfl) hlocks hS () (rfl) hP hD dX0_number_55
  · refine lv_tableIn (off := 55) (tgt := 56) hx hb dX0_number_1 (by decide) (by decide) (by decide) (by decide) ?_
    refine lv_aload_n hx hb dX0_number_56 rfl (lv_at hl 0 rfl) ?_
    refine va_get (ci := 0) (v := .int tk) (C := RX0) (T := TX0) (N := 8) hx hb hts i0_X0_number hown hV.1 hP 0 rfl rfl 3 (by decide) (hts _ w5_X0_number) (fun _ h9 => h9) rfl dX0_number_57 ?_
    exact ee_fi hQ hx hb hr (rfl) hlocks hS () (rfl) hP hD dX0_number_60
  · refine lv_tableOut (tgt := 61) hx hb dX0_number_1 (by decide) (by decide) ?_
    refine lv_aload_n hx hb dX0_number_61 rfl (lv_at hl 0 rfl) ?_
    refine va_get (ci := 0) (v := .int ed) (C := RX0) (T := TX0) (N := 8) hx hb hts i0_X0_number hown hV.1 hP 0 rfl rfl 4 (by decide) (hts _ w6_X0_number) (fun _ h9 => h9) rfl dX0_number_62 ?_
    exact ee_fi hQ hx hb hr (rfl) hlocks hS () (rfl) hP hD dX0_number_65
