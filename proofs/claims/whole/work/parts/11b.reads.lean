/-! the model reads: blanks, numbers -/
abbrev rmX9_next : Room := ({ frames := 0, cells := 0, slots := 0, locals := 0 } : Room)
theorem w1_X9_next : Cond.fieldLink RX9 51 "LabelApplicatorModel" "at" "I" ∈ wsX9_next := List.mem_of_getElem? (i := 1) (by decide +kernel)
theorem w2_X9_next : Cond.fieldLink RX9 47 "LabelApplicatorModel" "textLength" "I" ∈ wsX9_next := List.mem_of_getElem? (i := 2) (by decide +kernel)
theorem w3_X9_next : Cond.fieldLink RX9 28 "LabelApplicatorModel" "text" "[I" ∈ wsX9_next := List.mem_of_getElem? (i := 3) (by decide +kernel)
theorem i9_X9_next : ∀ w ∈ wsX90, w ∈ wsX9_next := fun w h => (goodIn_r _ [4, 5, 6, 7, 8, 9, 10, 11, 12, 13, 14, 15, 16, 17, 18, 19, 20, 21, 22, 23, 24, 25, 26, 27] (by decide +kernel) (by decide +kernel) w h).1
set_option maxHeartbeats 4000000 in
set_option maxRecDepth 100000 in
theorem kX9_next (l : Launch) (E : ee_T) (w0 w1 w2 w3 w4 w5 w6 w7 w8 w9 : Nat) (pt pa p1 p2 : UInt32) (fa it dp tv tn tb th te : Int32) (hh : Int64) (tq at9 : Nat) (tx : Nat → Int32) (htq : tq ≤ 80) (hat : at9 < 2 ^ 30) : CQ l E yX9_next wsX9_next rmX9_next [.ref w0] [(w0, ee_o 9 [.ref w1, .ref w2, .ref w3, .ref w4, .float pt, .float pa, .float p1, .float p2, .ref w5, .int (nI tq), .int (nI at9), .int fa, .ref w6, .ref w7, .int it, .ref w8, .ref w9, .int dp, .int tv, .int tn, .int tb, .int th, .int te, .long hh]), (w5, ee_i E 80 tx)] (QI E (fun (r : Int32) (u : Unit) => r = chA tq tx at9) (fun (u : Unit) => [(w0, ee_o 9 [.ref w1, .ref w2, .ref w3, .ref w4, .float pt, .float pa, .float p1, .float p2, .ref w5, .int (nI tq), .int (nI at9), .int fa, .ref w6, .ref w7, .int it, .ref w8, .ref w9, .int dp, .int tv, .int tn, .int tb, .int th, .int te, .long hh]), (w5, ee_i E 80 tx)])) 0 0 := by
  refine CQ_ofW (cc := cX9_next) (maxL := 1) (ret := (some .int)) (by decide) rfl (Nat.le_of_ble_eq_true rfl) ?_
  intro p e s m below meth c A Q hQ hx hb hr hml hown hlocks hnm hts hV hA hP hD hS ls hl
  have hl : lv_has ls 1 [(0, .ref w0)] := hl
  refine lv_aload_n hx hb dX9_next_0 rfl (lv_at hl 0 rfl) ?_
  refine va_get (ci := 9) (v := .int (nI at9)) (C := RX9) (T := TX9) (N := 24) hx hb hts i9_X9_next hown hV.1 hP 0 rfl rfl 10 (by decide) (hts _ w1_X9_next) (fun _ h9 => h9) rfl dX9_next_1 ?_
  refine lv_aload_n hx hb dX9_next_4 rfl (lv_at hl 0 rfl) ?_
  refine va_get (ci := 9) (v := .int (nI tq)) (C := RX9) (T := TX9) (N := 24) hx hb hts i9_X9_next hown hV.1 hP 0 rfl rfl 9 (by decide) (hts _ w2_X9_next) (fun _ h9 => h9) rfl dX9_next_5 ?_
  refine ee_ge (tgt := 23) hx hb (by omega) (by omega) dX9_next_8 (by decide) (fun g8 => ?_) (fun g8 => ?_)
  · refine lv_iconst (v := (-1)) hx hb dX9_next_23 (by decide) ?_
    exact ee_fi hQ hx hb hr (rfl) hlocks hS () (by rw [chA, if_neg (by omega)]) hP hD dX9_next_24
  · refine lv_aload_n hx hb dX9_next_11 rfl (lv_at hl 0 rfl) ?_
    refine va_get (ci := 9) (v := .ref w5) (C := RX9) (T := TX9) (N := 24) hx hb hts i9_X9_next hown hV.1 hP 0 rfl rfl 8 (by decide) (hts _ w3_X9_next) (fun _ h9 => h9) rfl dX9_next_12 ?_
    refine lv_aload_n hx hb dX9_next_15 rfl (lv_at hl 0 rfl) ?_
    refine va_get (ci := 9) (v := .int (nI at9)) (C := RX9) (T := TX9) (N := 24) hx hb hts i9_X9_next hown hV.1 hP 0 rfl rfl 10 (by decide) (hts _ w1_X9_next) (fun _ h9 => h9) rfl dX9_next_16 ?_
    refine ee_ild hx hb hV hP 1 rfl (j := at9) (by omega) (by decide) dX9_next_19 ?_
    refine lv_goto (tgt := 24) hx hb dX9_next_20 (by decide) ?_
    exact ee_fi hQ hx hb hr (rfl) hlocks hS () (by rw [chA, if_pos (by omega)]) hP hD dX9_next_24
abbrev rmX9_skips : Room := ({ frames := 1, cells := 0, slots := 0, locals := 20 } : Room)
theorem w1_X9_skips : Cond.fieldLink RX9 51 "LabelApplicatorModel" "at" "I" ∈ wsX9_skips := List.mem_of_getElem? (i := 1) (by decide +kernel)
theorem w2_X9_skips : Cond.methodLink RX9 54 yX9_next ∈ wsX9_skips := List.mem_of_getElem? (i := 2) (by decide +kernel)
theorem w5_X9_skips : Cond.initialized RX9 ∈ wsX9_skips := List.mem_of_getElem? (i := 5) (by decide +kernel)
theorem w7_X9_skips : Cond.fieldLink RX9 47 "LabelApplicatorModel" "textLength" "I" ∈ wsX9_skips := List.mem_of_getElem? (i := 7) (by decide +kernel)
theorem w8_X9_skips : Cond.fieldLink RX9 28 "LabelApplicatorModel" "text" "[I" ∈ wsX9_skips := List.mem_of_getElem? (i := 8) (by decide +kernel)
theorem i9_X9_skips : ∀ w ∈ wsX90, w ∈ wsX9_skips := fun w h => (goodIn_r _ [9, 10, 11, 12, 13, 14, 15, 16, 17, 18, 19, 20, 21, 22, 23, 24, 25, 26, 27, 28, 29, 30, 31, 32] (by decide +kernel) (by decide +kernel) w h).1
set_option maxHeartbeats 4000000 in
set_option maxRecDepth 100000 in
theorem kX9_skips (l : Launch) (E : ee_T) (w0 w1 w2 w3 w4 w5 w6 w7 w8 w9 : Nat) (pt pa p1 p2 : UInt32) (fa it dp tv tn tb th te : Int32) (hh : Int64) (tq at9 : Nat) (tx : Nat → Int32) (htq : tq ≤ 80) (hat : at9 < 2 ^ 30) : CQ l E yX9_skips wsX9_skips rmX9_skips [.ref w0] [(w0, ee_o 9 [.ref w1, .ref w2, .ref w3, .ref w4, .float pt, .float pa, .float p1, .float p2, .ref w5, .int (nI tq), .int (nI at9), .int fa, .ref w6, .ref w7, .int it, .ref w8, .ref w9, .int dp, .int tv, .int tn, .int tb, .int th, .int te, .long hh]), (w5, ee_i E 80 tx)] (QV E (fun (u : Unit) => True) (fun (u : Unit) => [(w0, ee_o 9 [.ref w1, .ref w2, .ref w3, .ref w4, .float pt, .float pa, .float p1, .float p2, .ref w5, .int (nI tq), .int (nI (skp (chA tq tx) at9)), .int fa, .ref w6, .ref w7, .int it, .ref w8, .ref w9, .int dp, .int tv, .int tn, .int tb, .int th, .int te, .long hh]), (w5, ee_i E 80 tx)])) 0 0 := by
  refine CQ_ofW (cc := cX9_skips) (maxL := 1) (ret := none) (by decide) rfl (Nat.le_of_ble_eq_true rfl) ?_
  intro p e s m below meth c A Q hQ hx hb hr hml hown hlocks hnm hts hV hA hP hD hS ls hl
  have hl : lv_has ls 1 [(0, .ref w0)] := hl
  have B_1 : ∀ (zz : Nat) (a1 : Nat) (H : Heap) (locs : List Loc) (ls : Array Slot), (tq - a1) < zz → (a1 ≤ tq ∨ a1 = at9) → (skp (chA tq tx) a1 = skp (chA tq tx) at9) → va_P E.1 vwCl [(w0, ee_o 9 [.ref w1, .ref w2, .ref w3, .ref w4, .float pt, .float pa, .float p1, .float p2, .ref w5, .int (nI tq), .int (nI a1), .int fa, .ref w6, .ref w7, .int it, .ref w8, .ref w9, .int dp, .int tv, .int tn, .int tb, .int th, .int te, .long hh]), (w5, ee_i E 80 tx)] H → va_D A [(w0, ee_o 9 [.ref w1, .ref w2, .ref w3, .ref w4, .float pt, .float pa, .float p1, .float p2, .ref w5, .int (nI tq), .int (nI a1), .int fa, .ref w6, .ref w7, .int it, .ref w8, .ref w9, .int dp, .int tv, .int tn, .int tb, .int th, .int te, .long hh]), (w5, ee_i E 80 tx)] → va_S A s.heap H locs → lv_has ls 1 [(0, .ref w0)] → W p l e rmX9_skips s m [.ref w0].toArray below meth c H locs 0 0 Q (F0 m 0 ls []) := by
    intro zz
    induction zz with
    | zero => intro a1 H locs ls hzz; exact absurd hzz (Nat.not_lt_zero _)
    | succ zz ihB_1 =>
      intro a1 H locs ls hzz ha1 hs hP hD hS hl
      refine lv_aload_n hx hb dX9_skips_0 rfl (lv_at hl 0 rfl) ?_
      refine ee_ki (wr := []) (ee_rV (As := []) (rest := []) (kX9_next l E w0 w1 w2 w3 w4 w5 w6 w7 w8 w9 pt pa p1 p2 fa it dp tv tn tb th te hh tq a1 tx (by omega) (by omega)) hx hb hml hown hts 0 gX9_skips_X9_next rfl rfl rfl (by decide +kernel) ⟨Nat.le_of_ble_eq_true rfl, Nat.le_of_ble_eq_true rfl⟩ hV hP hD hS hA [0, 1] rfl (by decide) hl 0 rfl rfl rfl rfl (Nat.le_of_ble_eq_true rfl) dX9_skips_1 ⟨Nat.le_of_ble_eq_true rfl, Nat.le_of_ble_eq_true rfl⟩) hP hD hS hA [0, 1] [] rfl rfl (by decide) (by decide) (fun r_2 u_3 H locs hp_4 hP hD hS => ?_)
      subst hp_4
      have hP : va_P E.1 vwCl [(w0, ee_o 9 [.ref w1, .ref w2, .ref w3, .ref w4, .float pt, .float pa, .float p1, .float p2, .ref w5, .int (nI tq), .int (nI a1), .int fa, .ref w6, .ref w7, .int it, .ref w8, .ref w9, .int dp, .int tv, .int tn, .int tb, .int th, .int te, .long hh]), (w5, ee_i E 80 tx)] H := hP
      have hD : va_D A [(w0, ee_o 9 [.ref w1, .ref w2, .ref w3, .ref w4, .float pt, .float pa, .float p1, .float p2, .ref w5, .int (nI tq), .int (nI a1), .int fa, .ref w6, .ref w7, .int it, .ref w8, .ref w9, .int dp, .int tv, .int tn, .int tb, .int th, .int te, .long hh]), (w5, ee_i E 80 tx)] := hD
      refine lv_bipush (v := nI 32) hx hb dX9_skips_4 (by decide) ?_
      refine lv_icmp_ne (tgt := 22) hx hb dX9_skips_6 (by decide) (fun g6 => ?_) (fun g6 => ?_)
      · have he : a1 = skp (chA tq tx) at9 := (skp_n (fun q => g6 q.2)).symm.trans hs
        rw [he] at hP hD
        exact ee_fv hQ hx hb hr hlocks hS () (trivial) hP hD dX9_skips_22
      · refine lv_aload_n hx hb dX9_skips_9 rfl (lv_at hl 0 rfl) ?_
        refine lv_dup hx hb dX9_skips_10 rfl ?_
        refine va_get (ci := 9) (v := .int (nI a1)) (C := RX9) (T := TX9) (N := 24) hx hb hts i9_X9_skips hown hV.1 hP 0 rfl rfl 10 (by decide) (hts _ w1_X9_skips) (fun _ h9 => h9) rfl dX9_skips_11 ?_
        refine lv_iconst (v := nI 1) hx hb dX9_skips_14 (by decide) ?_
        refine ee_iadd hx hb dX9_skips_15 ?_
        refine va_put (ci := 9) (v := .int (nI (a1 + 1))) (ty := .int) (C := RX9) (T := TX9) (N := 24) hx hb hts i9_X9_skips tyX9 tyX9_ok nmX9 hown hV.1 hP hD hS 0 rfl rfl 10 (by decide) (hts _ w1_X9_skips) (fun _ h9 => h9) rfl (by decide +kernel) rfl rfl (Nat.le_of_ble_eq_true rfl) dX9_skips_16 (fun H locs hP hD hS => ?_)
        have hP : va_P E.1 vwCl [(w0, ee_o 9 [.ref w1, .ref w2, .ref w3, .ref w4, .float pt, .float pa, .float p1, .float p2, .ref w5, .int (nI tq), .int (nI (a1 + 1)), .int fa, .ref w6, .ref w7, .int it, .ref w8, .ref w9, .int dp, .int tv, .int tn, .int tb, .int th, .int te, .long hh]), (w5, ee_i E 80 tx)] H := hP
        have hD : va_D A [(w0, ee_o 9 [.ref w1, .ref w2, .ref w3, .ref w4, .float pt, .float pa, .float p1, .float p2, .ref w5, .int (nI tq), .int (nI (a1 + 1)), .int fa, .ref w6, .ref w7, .int it, .ref w8, .ref w9, .int dp, .int tv, .int tn, .int tb, .int th, .int te, .long hh]), (w5, ee_i E 80 tx)] := hD
        refine lv_goto (tgt := 0) hx hb dX9_skips_19 (by decide) ?_
        exact ihB_1 (a1 + 1) _ _ _ (by have := chA_lt (by decide) g6; omega) (by have := chA_lt (by decide) g6; omega) ((skp_y (by have := chA_lt (by decide) g6; omega) g6).symm.trans hs) hP hD hS (lv_sub hl [0] rfl)
  exact B_1 ((tq - at9) + 1) at9 _ _ _ (Nat.lt_succ_self _) (by omega) rfl hP hD hS (lv_sub hl [0] rfl)
abbrev rmX9_passes : Room := ({ frames := 2, cells := 0, slots := 0, locals := 40 } : Room)
theorem w1_X9_passes : Cond.fieldLink RX9 51 "LabelApplicatorModel" "at" "I" ∈ wsX9_passes := List.mem_of_getElem? (i := 1) (by decide +kernel)
theorem w2_X9_passes : Cond.methodLink RX9 58 yX9_skips ∈ wsX9_passes := List.mem_of_getElem? (i := 2) (by decide +kernel)
theorem w5_X9_passes : Cond.initialized RX9 ∈ wsX9_passes := List.mem_of_getElem? (i := 5) (by decide +kernel)
theorem w7_X9_passes : Cond.methodLink RX9 54 yX9_next ∈ wsX9_passes := List.mem_of_getElem? (i := 7) (by decide +kernel)
theorem w11_X9_passes : Cond.fieldLink RX9 47 "LabelApplicatorModel" "textLength" "I" ∈ wsX9_passes := List.mem_of_getElem? (i := 11) (by decide +kernel)
theorem w12_X9_passes : Cond.fieldLink RX9 28 "LabelApplicatorModel" "text" "[I" ∈ wsX9_passes := List.mem_of_getElem? (i := 12) (by decide +kernel)
theorem i9_X9_passes : ∀ w ∈ wsX90, w ∈ wsX9_passes := fun w h => (goodIn_r _ [13, 14, 15, 16, 17, 18, 19, 20, 21, 22, 23, 24, 25, 26, 27, 28, 29, 30, 31, 32, 33, 34, 35, 36] (by decide +kernel) (by decide +kernel) w h).1
set_option maxHeartbeats 4000000 in
set_option maxRecDepth 100000 in
theorem kX9_passes (l : Launch) (E : ee_T) (w0 w1 w2 w3 w4 w5 w6 w7 w8 w9 : Nat) (pt pa p1 p2 : UInt32) (fa it dp tv tn tb th te : Int32) (hh : Int64) (tq at9 : Nat) (tx : Nat → Int32) (htq : tq ≤ 80) (hat : at9 < 2 ^ 29) : CQ l E yX9_passes wsX9_passes rmX9_passes [.ref w0] [(w0, ee_o 9 [.ref w1, .ref w2, .ref w3, .ref w4, .float pt, .float pa, .float p1, .float p2, .ref w5, .int (nI tq), .int (nI at9), .int fa, .ref w6, .ref w7, .int it, .ref w8, .ref w9, .int dp, .int tv, .int tn, .int tb, .int th, .int te, .long hh]), (w5, ee_i E 80 tx)] (QV E (fun (u : Unit) => True) (fun (u : Unit) => [(w0, ee_o 9 [.ref w1, .ref w2, .ref w3, .ref w4, .float pt, .float pa, .float p1, .float p2, .ref w5, .int (nI tq), .int (nI (skp (chA tq tx) (at9 + 1))), .int fa, .ref w6, .ref w7, .int it, .ref w8, .ref w9, .int dp, .int tv, .int tn, .int tb, .int th, .int te, .long hh]), (w5, ee_i E 80 tx)])) 0 0 := by
  refine CQ_ofW (cc := cX9_passes) (maxL := 1) (ret := none) (by decide) rfl (Nat.le_of_ble_eq_true rfl) ?_
  intro p e s m below meth c A Q hQ hx hb hr hml hown hlocks hnm hts hV hA hP hD hS ls hl
  have hl : lv_has ls 1 [(0, .ref w0)] := hl
  refine lv_aload_n hx hb dX9_passes_0 rfl (lv_at hl 0 rfl) ?_
  refine lv_dup hx hb dX9_passes_1 rfl ?_
  refine va_get (ci := 9) (v := .int (nI at9)) (C := RX9) (T := TX9) (N := 24) hx hb hts i9_X9_passes hown hV.1 hP 0 rfl rfl 10 (by decide) (hts _ w1_X9_passes) (fun _ h9 => h9) rfl dX9_passes_2 ?_
  refine lv_iconst (v := nI 1) hx hb dX9_passes_5 (by decide) ?_
  refine ee_iadd hx hb dX9_passes_6 ?_
  refine va_put (ci := 9) (v := .int (nI (at9 + 1))) (ty := .int) (C := RX9) (T := TX9) (N := 24) hx hb hts i9_X9_passes tyX9 tyX9_ok nmX9 hown hV.1 hP hD hS 0 rfl rfl 10 (by decide) (hts _ w1_X9_passes) (fun _ h9 => h9) rfl (by decide +kernel) rfl rfl (Nat.le_of_ble_eq_true rfl) dX9_passes_7 (fun H locs hP hD hS => ?_)
  have hP : va_P E.1 vwCl [(w0, ee_o 9 [.ref w1, .ref w2, .ref w3, .ref w4, .float pt, .float pa, .float p1, .float p2, .ref w5, .int (nI tq), .int (nI (at9 + 1)), .int fa, .ref w6, .ref w7, .int it, .ref w8, .ref w9, .int dp, .int tv, .int tn, .int tb, .int th, .int te, .long hh]), (w5, ee_i E 80 tx)] H := hP
  have hD : va_D A [(w0, ee_o 9 [.ref w1, .ref w2, .ref w3, .ref w4, .float pt, .float pa, .float p1, .float p2, .ref w5, .int (nI tq), .int (nI (at9 + 1)), .int fa, .ref w6, .ref w7, .int it, .ref w8, .ref w9, .int dp, .int tv, .int tn, .int tb, .int th, .int te, .long hh]), (w5, ee_i E 80 tx)] := hD
  refine lv_aload_n hx hb dX9_passes_10 rfl (lv_at hl 0 rfl) ?_
  refine ee_kv (wr := []) (ee_rV (As := []) (rest := []) (kX9_skips l E w0 w1 w2 w3 w4 w5 w6 w7 w8 w9 pt pa p1 p2 fa it dp tv tn tb th te hh tq (at9 + 1) tx (by omega) (by omega)) hx hb hml hown hts 0 gX9_passes_X9_skips rfl rfl rfl (by decide +kernel) ⟨Nat.le_of_ble_eq_true rfl, Nat.le_of_ble_eq_true rfl⟩ hV hP hD hS hA [0, 1] rfl (by decide) hl 0 rfl rfl rfl rfl (Nat.le_of_ble_eq_true rfl) dX9_passes_11 ⟨Nat.le_of_ble_eq_true rfl, Nat.le_of_ble_eq_true rfl⟩) hP hD hS hA [0, 1] [] rfl rfl (by decide) (by decide) (fun u_2 H locs hp_3 hP hD hS => ?_)
  have hP : va_P E.1 vwCl [(w0, ee_o 9 [.ref w1, .ref w2, .ref w3, .ref w4, .float pt, .float pa, .float p1, .float p2, .ref w5, .int (nI tq), .int (nI (skp (chA tq tx) (at9 + 1))), .int fa, .ref w6, .ref w7, .int it, .ref w8, .ref w9, .int dp, .int tv, .int tn, .int tb, .int th, .int te, .long hh]), (w5, ee_i E 80 tx)] H := hP
  have hD : va_D A [(w0, ee_o 9 [.ref w1, .ref w2, .ref w3, .ref w4, .float pt, .float pa, .float p1, .float p2, .ref w5, .int (nI tq), .int (nI (skp (chA tq tx) (at9 + 1))), .int fa, .ref w6, .ref w7, .int it, .ref w8, .ref w9, .int dp, .int tv, .int tn, .int tb, .int th, .int te, .long hh]), (w5, ee_i E 80 tx)] := hD
  exact ee_fv hQ hx hb hr hlocks hS () (trivial) hP hD dX9_passes_14
abbrev rmX9_fails : Room := ({ frames := 0, cells := 0, slots := 0, locals := 0 } : Room)
theorem w1_X9_fails : Cond.fieldLink RX9 61 "LabelApplicatorModel" "fault" "I" ∈ wsX9_fails := List.mem_of_getElem? (i := 1) (by decide +kernel)
theorem i9_X9_fails : ∀ w ∈ wsX90, w ∈ wsX9_fails := fun w h => (goodIn_r _ [2, 3, 4, 5, 6, 7, 8, 9, 10, 11, 12, 13, 14, 15, 16, 17, 18, 19, 20, 21, 22, 23, 24, 25] (by decide +kernel) (by decide +kernel) w h).1
set_option maxHeartbeats 4000000 in
set_option maxRecDepth 100000 in
theorem kX9_fails (l : Launch) (E : ee_T) (w0 w1 w2 w3 w4 w5 w6 w7 w8 w9 : Nat) (pt pa p1 p2 : UInt32) (fa it dp tv tn tb th te : Int32) (hh : Int64) (tq at9 : Nat) (p0 : Nat)  : CQ l E yX9_fails wsX9_fails rmX9_fails [.ref w0, .int (nI p0)] [(w0, ee_o 9 [.ref w1, .ref w2, .ref w3, .ref w4, .float pt, .float pa, .float p1, .float p2, .ref w5, .int (nI tq), .int (nI at9), .int fa, .ref w6, .ref w7, .int it, .ref w8, .ref w9, .int dp, .int tv, .int tn, .int tb, .int th, .int te, .long hh])] (QV E (fun (u : Int32) => u = (if fa = (-1) then nI p0 else fa)) (fun (u : Int32) => [(w0, ee_o 9 [.ref w1, .ref w2, .ref w3, .ref w4, .float pt, .float pa, .float p1, .float p2, .ref w5, .int (nI tq), .int (nI at9), .int u, .ref w6, .ref w7, .int it, .ref w8, .ref w9, .int dp, .int tv, .int tn, .int tb, .int th, .int te, .long hh])])) 0 0 := by
  refine CQ_ofW (cc := cX9_fails) (maxL := 2) (ret := none) (by decide) rfl (Nat.le_of_ble_eq_true rfl) ?_
  intro p e s m below meth c A Q hQ hx hb hr hml hown hlocks hnm hts hV hA hP hD hS ls hl
  have hl : lv_has ls 2 [(0, .ref w0), (1, .int (nI p0))] := hl
  refine lv_aload_n hx hb dX9_fails_0 rfl (lv_at hl 0 rfl) ?_
  refine lv_aload_n hx hb dX9_fails_1 rfl (lv_at hl 0 rfl) ?_
  refine va_get (ci := 9) (v := .int fa) (C := RX9) (T := TX9) (N := 24) hx hb hts i9_X9_fails hown hV.1 hP 0 rfl rfl 11 (by decide) (hts _ w1_X9_fails) (fun _ h9 => h9) rfl dX9_fails_2 ?_
  refine lv_iconst (v := (-1)) hx hb dX9_fails_5 (by decide) ?_
  refine lv_icmp_ne (tgt := 13) hx hb dX9_fails_6 (by decide) (fun g6 => ?_) (fun g6 => ?_)
  · refine lv_aload_n hx hb dX9_fails_13 rfl (lv_at hl 0 rfl) ?_
    refine va_get (ci := 9) (v := .int fa) (C := RX9) (T := TX9) (N := 24) hx hb hts i9_X9_fails hown hV.1 hP 0 rfl rfl 11 (by decide) (hts _ w1_X9_fails) (fun _ h9 => h9) rfl dX9_fails_14 ?_
    refine va_put (ci := 9) (v := .int fa) (ty := .int) (C := RX9) (T := TX9) (N := 24) hx hb hts i9_X9_fails tyX9 tyX9_ok nmX9 hown hV.1 hP hD hS 0 rfl rfl 11 (by decide) (hts _ w1_X9_fails) (fun _ h9 => h9) rfl (by decide +kernel) rfl rfl (Nat.le_of_ble_eq_true rfl) dX9_fails_17 (fun H locs hP hD hS => ?_)
    have hP : va_P E.1 vwCl [(w0, ee_o 9 [.ref w1, .ref w2, .ref w3, .ref w4, .float pt, .float pa, .float p1, .float p2, .ref w5, .int (nI tq), .int (nI at9), .int fa, .ref w6, .ref w7, .int it, .ref w8, .ref w9, .int dp, .int tv, .int tn, .int tb, .int th, .int te, .long hh])] H := hP
    have hD : va_D A [(w0, ee_o 9 [.ref w1, .ref w2, .ref w3, .ref w4, .float pt, .float pa, .float p1, .float p2, .ref w5, .int (nI tq), .int (nI at9), .int fa, .ref w6, .ref w7, .int it, .ref w8, .ref w9, .int dp, .int tv, .int tn, .int tb, .int th, .int te, .long hh])] := hD
    exact ee_fv hQ hx hb hr hlocks hS fa ((if_neg g6).symm) hP hD dX9_fails_20
  · refine lv_iload_n hx hb dX9_fails_9 rfl (lv_at hl 1 rfl) ?_
    refine lv_goto (tgt := 17) hx hb dX9_fails_10 (by decide) ?_
    refine va_put (ci := 9) (v := .int (nI p0)) (ty := .int) (C := RX9) (T := TX9) (N := 24) hx hb hts i9_X9_fails tyX9 tyX9_ok nmX9 hown hV.1 hP hD hS 0 rfl rfl 11 (by decide) (hts _ w1_X9_fails) (fun _ h9 => h9) rfl (by decide +kernel) rfl rfl (Nat.le_of_ble_eq_true rfl) dX9_fails_17 (fun H locs hP hD hS => ?_)
    have hP : va_P E.1 vwCl [(w0, ee_o 9 [.ref w1, .ref w2, .ref w3, .ref w4, .float pt, .float pa, .float p1, .float p2, .ref w5, .int (nI tq), .int (nI at9), .int (nI p0), .ref w6, .ref w7, .int it, .ref w8, .ref w9, .int dp, .int tv, .int tn, .int tb, .int th, .int te, .long hh])] H := hP
    have hD : va_D A [(w0, ee_o 9 [.ref w1, .ref w2, .ref w3, .ref w4, .float pt, .float pa, .float p1, .float p2, .ref w5, .int (nI tq), .int (nI at9), .int (nI p0), .ref w6, .ref w7, .int it, .ref w8, .ref w9, .int dp, .int tv, .int tn, .int tb, .int th, .int te, .long hh])] := hD
    exact ee_fv hQ hx hb hr hlocks hS (nI p0) ((if_pos g6).symm) hP hD dX9_fails_20
abbrev rmX9_kindOf : Room := ({ frames := 0, cells := 0, slots := 0, locals := 0 } : Room)
set_option maxHeartbeats 4000000 in
set_option maxRecDepth 100000 in
theorem kX9_kindOf (l : Launch) (E : ee_T) (c0 : Int32)  : CQ l E yX9_kindOf wsX9_kindOf rmX9_kindOf [.int c0] [] (QI E (fun (r : Int32) (u : Unit) => r = kdS c0) (fun (u : Unit) => [])) 0 0 := by
  refine CQ_ofW (cc := cX9_kindOf) (maxL := 1) (ret := (some .int)) (by decide) rfl (Nat.le_of_ble_eq_true rfl) ?_
  intro p e s m below meth c A Q hQ hx hb hr hml hown hlocks hnm hts hV hA hP hD hS ls hl
  have hl : lv_has ls 1 [(0, .int c0)] := hl
  refine lv_iload_n hx hb dX9_kindOf_0 rfl (lv_at hl 0 rfl) ?_
  refine lv_bipush (v := nI 108) hx hb dX9_kindOf_1 (by decide) ?_
  refine lv_icmp_ne (tgt := 10) hx hb dX9_kindOf_3 (by decide) (fun g3 => ?_) (fun g3 => ?_)
  · refine lv_iload_n hx hb dX9_kindOf_10 rfl (lv_at hl 0 rfl) ?_
    refine lv_bipush (v := nI 103) hx hb dX9_kindOf_11 (by decide) ?_
    refine lv_icmp_ne (tgt := 20) hx hb dX9_kindOf_13 (by decide) (fun g13 => ?_) (fun g13 => ?_)
    · refine lv_iload_n hx hb dX9_kindOf_20 rfl (lv_at hl 0 rfl) ?_
      refine lv_bipush (v := nI 98) hx hb dX9_kindOf_21 (by decide) ?_
      refine lv_icmp_ne (tgt := 30) hx hb dX9_kindOf_23 (by decide) (fun g23 => ?_) (fun g23 => ?_)
      · refine lv_iload_n hx hb dX9_kindOf_30 rfl (lv_at hl 0 rfl) ?_
        refine lv_bipush (v := nI 115) hx hb dX9_kindOf_31 (by decide) ?_
        refine lv_icmp_ne (tgt := 40) hx hb dX9_kindOf_33 (by decide) (fun g33 => ?_) (fun g33 => ?_)
        · refine lv_iconst (v := (-1)) hx hb dX9_kindOf_40 (by decide) ?_
          exact ee_fi hQ hx hb hr (rfl) hlocks hS () (by rw [kdS, if_neg g3, if_neg g13, if_neg g23, if_neg g33]) hP hD dX9_kindOf_41
        · refine lv_iconst (v := nI 3) hx hb dX9_kindOf_36 (by decide) ?_
          refine lv_goto (tgt := 41) hx hb dX9_kindOf_37 (by decide) ?_
          exact ee_fi hQ hx hb hr (rfl) hlocks hS () (by rw [kdS, if_neg g3, if_neg g13, if_neg g23, if_pos g33]) hP hD dX9_kindOf_41
      · refine lv_iconst (v := nI 2) hx hb dX9_kindOf_26 (by decide) ?_
        refine lv_goto (tgt := 41) hx hb dX9_kindOf_27 (by decide) ?_
        exact ee_fi hQ hx hb hr (rfl) hlocks hS () (by rw [kdS, if_neg g3, if_neg g13, if_pos g23]) hP hD dX9_kindOf_41
    · refine lv_iconst (v := nI 1) hx hb dX9_kindOf_16 (by decide) ?_
      refine lv_goto (tgt := 41) hx hb dX9_kindOf_17 (by decide) ?_
      exact ee_fi hQ hx hb hr (rfl) hlocks hS () (by rw [kdS, if_neg g3, if_pos g13]) hP hD dX9_kindOf_41
  · refine lv_iconst (v := nI 0) hx hb dX9_kindOf_6 (by decide) ?_
    refine lv_goto (tgt := 41) hx hb dX9_kindOf_7 (by decide) ?_
    exact ee_fi hQ hx hb hr (rfl) hlocks hS () (by rw [kdS, if_pos g3]) hP hD dX9_kindOf_41
abbrev rmX9_readsNumber : Room := ({ frames := 2, cells := 0, slots := 0, locals := 40 } : Room)
theorem w1_X9_readsNumber : Cond.fieldLink RX9 51 "LabelApplicatorModel" "at" "I" ∈ wsX9_readsNumber := List.mem_of_getElem? (i := 1) (by decide +kernel)
theorem w2_X9_readsNumber : Cond.methodLink RX9 54 yX9_next ∈ wsX9_readsNumber := List.mem_of_getElem? (i := 2) (by decide +kernel)
theorem w5_X9_readsNumber : Cond.initialized RX9 ∈ wsX9_readsNumber := List.mem_of_getElem? (i := 5) (by decide +kernel)
theorem w7_X9_readsNumber : Cond.fieldLink RX9 47 "LabelApplicatorModel" "textLength" "I" ∈ wsX9_readsNumber := List.mem_of_getElem? (i := 7) (by decide +kernel)
theorem w8_X9_readsNumber : Cond.fieldLink RX9 28 "LabelApplicatorModel" "text" "[I" ∈ wsX9_readsNumber := List.mem_of_getElem? (i := 8) (by decide +kernel)
theorem w9_X9_readsNumber : Cond.methodLink RX9 43 yX9_in ∈ wsX9_readsNumber := List.mem_of_getElem? (i := 9) (by decide +kernel)
theorem w12_X9_readsNumber : Cond.methodLink RX9 64 yX9_fails ∈ wsX9_readsNumber := List.mem_of_getElem? (i := 12) (by decide +kernel)
theorem w16_X9_readsNumber : Cond.fieldLink RX9 61 "LabelApplicatorModel" "fault" "I" ∈ wsX9_readsNumber := List.mem_of_getElem? (i := 16) (by decide +kernel)
theorem w17_X9_readsNumber : Cond.methodLink RX9 58 yX9_skips ∈ wsX9_readsNumber := List.mem_of_getElem? (i := 17) (by decide +kernel)
theorem i9_X9_readsNumber : ∀ w ∈ wsX90, w ∈ wsX9_readsNumber := fun w h => (goodIn_r _ [21, 22, 23, 24, 25, 26, 27, 28, 29, 30, 31, 32, 33, 34, 35, 36, 37, 38, 39, 40, 41, 42, 43, 44] (by decide +kernel) (by decide +kernel) w h).1
set_option maxHeartbeats 4000000 in
set_option maxRecDepth 100000 in
theorem kX9_readsNumber (l : Launch) (E : ee_T) (w0 w1 w2 w3 w4 w5 w6 w7 w8 w9 : Nat) (pt pa p1 p2 : UInt32) (it dp tv tn tb th te : Int32) (hh : Int64) (tq at9 : Nat) (tx : Nat → Int32) (mx : Nat) (htq : tq ≤ 80) (hat : at9 < 2 ^ 20) (hmx : 1 ≤ mx ∧ mx ≤ 99) : CQ l E yX9_readsNumber wsX9_readsNumber rmX9_readsNumber [.ref w0, .int (nI mx)] [(w0, ee_o 9 [.ref w1, .ref w2, .ref w3, .ref w4, .float pt, .float pa, .float p1, .float p2, .ref w5, .int (nI tq), .int (nI at9), .int (-1), .ref w6, .ref w7, .int it, .ref w8, .ref w9, .int dp, .int tv, .int tn, .int tb, .int th, .int te, .long hh]), (w5, ee_i E 80 tx)] (QI E (fun (r : Int32) (u : Nat × Int32) => r = nI (nmV (chA tq tx) at9) ∧ u.1 = skp (chA tq tx) (nmE (chA tq tx) at9) ∧ u.2 = nmF (chA tq tx) mx at9) (fun (u : Nat × Int32) => [(w0, ee_o 9 [.ref w1, .ref w2, .ref w3, .ref w4, .float pt, .float pa, .float p1, .float p2, .ref w5, .int (nI tq), .int (nI u.1), .int u.2, .ref w6, .ref w7, .int it, .ref w8, .ref w9, .int dp, .int tv, .int tn, .int tb, .int th, .int te, .long hh]), (w5, ee_i E 80 tx)])) 0 0 := by
  refine CQ_ofW (cc := cX9_readsNumber) (maxL := 4) (ret := (some .int)) (by decide) rfl (Nat.le_of_ble_eq_true rfl) ?_
  intro p e s m below meth c A Q hQ hx hb hr hml hown hlocks hnm hts hV hA hP hD hS ls hl
  have hl : lv_has ls 4 [(0, .ref w0), (1, .int (nI mx))] := hl
  refine lv_aload_n hx hb dX9_readsNumber_0 rfl (lv_at hl 0 rfl) ?_
  refine va_get (ci := 9) (v := .int (nI at9)) (C := RX9) (T := TX9) (N := 24) hx hb hts i9_X9_readsNumber hown hV.1 hP 0 rfl rfl 10 (by decide) (hts _ w1_X9_readsNumber) (fun _ h9 => h9) rfl dX9_readsNumber_1 ?_
  refine lv_istore_n (lv' := [(2, .int (nI at9)), (0, .ref w0), (1, .int (nI mx))]) hx hb dX9_readsNumber_4 rfl hl (by decide) rfl (fun ls hl => ?_)
  refine lv_iconst (v := nI 0) hx hb dX9_readsNumber_5 (by decide) ?_
  refine lv_istore_n (lv' := [(3, .int (nI 0)), (2, .int (nI at9)), (0, .ref w0), (1, .int (nI mx))]) hx hb dX9_readsNumber_6 rfl hl (by decide) rfl (fun ls hl => ?_)
  have B_1 : ∀ (zz : Nat) (i v0 : Nat) (H : Heap) (locs : List Loc) (ls : Array Slot), (2 - i) < zz → (i ≤ 2) → (v0 = pvS (chA tq tx) at9 i) → (∀ j, j < i → dgB (chA tq tx (at9 + j)) = true) → va_P E.1 vwCl [(w0, ee_o 9 [.ref w1, .ref w2, .ref w3, .ref w4, .float pt, .float pa, .float p1, .float p2, .ref w5, .int (nI tq), .int (nI (at9 + i)), .int (-1), .ref w6, .ref w7, .int it, .ref w8, .ref w9, .int dp, .int tv, .int tn, .int tb, .int th, .int te, .long hh]), (w5, ee_i E 80 tx)] H → va_D A [(w0, ee_o 9 [.ref w1, .ref w2, .ref w3, .ref w4, .float pt, .float pa, .float p1, .float p2, .ref w5, .int (nI tq), .int (nI (at9 + i)), .int (-1), .ref w6, .ref w7, .int it, .ref w8, .ref w9, .int dp, .int tv, .int tn, .int tb, .int th, .int te, .long hh]), (w5, ee_i E 80 tx)] → va_S A s.heap H locs → lv_has ls 4 [(3, .int (nI v0)), (2, .int (nI at9)), (0, .ref w0), (1, .int (nI mx))] → W p l e rmX9_readsNumber s m [.ref w0, .int (nI mx)].toArray below meth c H locs 0 0 Q (F0 m 7 ls []) := by
    intro zz
    induction zz with
    | zero => intro i v0 H locs ls hzz; exact absurd hzz (Nat.not_lt_zero _)
    | succ zz ihB_1 =>
      intro i v0 H locs ls hzz hin hv hd hP hD hS hl
      refine lv_aload_n hx hb dX9_readsNumber_7 rfl (lv_at hl 2 rfl) ?_
      refine va_get (ci := 9) (v := .int (nI (at9 + i))) (C := RX9) (T := TX9) (N := 24) hx hb hts i9_X9_readsNumber hown hV.1 hP 0 rfl rfl 10 (by decide) (hts _ w1_X9_readsNumber) (fun _ h9 => h9) rfl dX9_readsNumber_8 ?_
      refine lv_iload_n hx hb dX9_readsNumber_11 rfl (lv_at hl 1 rfl) ?_
      refine lv_iconst (v := nI 2) hx hb dX9_readsNumber_12 (by decide) ?_
      refine ee_iadd hx hb dX9_readsNumber_13 ?_
      refine ee_ge (tgt := 57) hx hb (by omega) (by omega) dX9_readsNumber_14 (by decide) (fun g14 => ?_) (fun g14 => ?_)
      · obtain ⟨n1, n2⟩ := pv_e (ch := chA tq tx) hin hd (Or.inl (by omega))
        rw [← hv] at n1
        have hb9 := nmV_b tq tx at9
        refine lv_iload_n hx hb dX9_readsNumber_57 rfl (lv_at hl 0 rfl) ?_
        refine lv_iconst (v := nI 1) hx hb dX9_readsNumber_58 (by decide) ?_
        refine lv_iload_n hx hb dX9_readsNumber_59 rfl (lv_at hl 3 rfl) ?_
        refine ee_ki (wr := [(w0, ee_o 9 [.ref w1, .ref w2, .ref w3, .ref w4, .float pt, .float pa, .float p1, .float p2, .ref w5, .int (nI tq), .int (nI (at9 + i)), .int (-1), .ref w6, .ref w7, .int it, .ref w8, .ref w9, .int dp, .int tv, .int tn, .int tb, .int th, .int te, .long hh]), (w5, ee_i E 80 tx)]) (ee_rS (As := [.int (nI v0), .int (nI 1), .int (nI mx)]) (rest := []) (kX9_in l E (nI v0) (nI 1) (nI mx)) hx hb hml hown hts 3 gX9_readsNumber_X9_in rfl rfl rfl (by decide +kernel) ⟨Nat.le_of_ble_eq_true rfl, Nat.le_of_ble_eq_true rfl⟩ hV hP hD hS hA [] rfl (by decide) hl rfl rfl (Nat.le_of_ble_eq_true rfl) dX9_readsNumber_60 ⟨Nat.le_of_ble_eq_true rfl, Nat.le_of_ble_eq_true rfl⟩) hP hD hS hA [] [0, 1] rfl rfl (by decide) (by decide) (fun r_2 u_3 H locs hp_4 hP hD hS => ?_)
        have hP : va_P E.1 vwCl [(w0, ee_o 9 [.ref w1, .ref w2, .ref w3, .ref w4, .float pt, .float pa, .float p1, .float p2, .ref w5, .int (nI tq), .int (nI (at9 + i)), .int (-1), .ref w6, .ref w7, .int it, .ref w8, .ref w9, .int dp, .int tv, .int tn, .int tb, .int th, .int te, .long hh]), (w5, ee_i E 80 tx)] H := hP
        have hD : va_D A [(w0, ee_o 9 [.ref w1, .ref w2, .ref w3, .ref w4, .float pt, .float pa, .float p1, .float p2, .ref w5, .int (nI tq), .int (nI (at9 + i)), .int (-1), .ref w6, .ref w7, .int it, .ref w8, .ref w9, .int dp, .int tv, .int tn, .int tb, .int th, .int te, .long hh]), (w5, ee_i E 80 tx)] := hD
        rcases hp_4 with ⟨rfl, hv8⟩ | ⟨rfl, hv8⟩
        · refine ee_ne0 (tgt := 71) hx hb (by omega) dX9_readsNumber_63 (by decide) (fun h_7 => ?_) (fun h_7 => absurd h_7 (by decide))
          have hv9 : (1 ≤ nmV (chA tq tx) at9 ∧ nmV (chA tq tx) at9 ≤ mx) := by rw [n1]; exact (inR_iff (by omega) hmx.1 (by omega)).mp hv8
          refine lv_aload_n hx hb dX9_readsNumber_71 rfl (lv_at hl 2 rfl) ?_
          refine ee_ki (wr := []) (ee_rV (As := []) (rest := []) (kX9_next l E w0 w1 w2 w3 w4 w5 w6 w7 w8 w9 pt pa p1 p2 (-1) it dp tv tn tb th te hh tq (at9 + i) tx (by omega) (by omega)) hx hb hml hown hts 0 gX9_readsNumber_X9_next rfl rfl rfl (by decide +kernel) ⟨Nat.le_of_ble_eq_true rfl, Nat.le_of_ble_eq_true rfl⟩ hV hP hD hS hA [0, 1] rfl (by decide) hl 0 rfl rfl rfl rfl (Nat.le_of_ble_eq_true rfl) dX9_readsNumber_72 ⟨Nat.le_of_ble_eq_true rfl, Nat.le_of_ble_eq_true rfl⟩) hP hD hS hA [0, 1] [] rfl rfl (by decide) (by decide) (fun r_8 u_9 H locs hp_10 hP hD hS => ?_)
          subst hp_10
          have hP : va_P E.1 vwCl [(w0, ee_o 9 [.ref w1, .ref w2, .ref w3, .ref w4, .float pt, .float pa, .float p1, .float p2, .ref w5, .int (nI tq), .int (nI (at9 + i)), .int (-1), .ref w6, .ref w7, .int it, .ref w8, .ref w9, .int dp, .int tv, .int tn, .int tb, .int th, .int te, .long hh]), (w5, ee_i E 80 tx)] H := hP
          have hD : va_D A [(w0, ee_o 9 [.ref w1, .ref w2, .ref w3, .ref w4, .float pt, .float pa, .float p1, .float p2, .ref w5, .int (nI tq), .int (nI (at9 + i)), .int (-1), .ref w6, .ref w7, .int it, .ref w8, .ref w9, .int dp, .int tv, .int tn, .int tb, .int th, .int te, .long hh]), (w5, ee_i E 80 tx)] := hD
          refine lv_bipush (v := nI 48) hx hb dX9_readsNumber_75 (by decide) ?_
          refine lv_bipush (v := nI 57) hx hb dX9_readsNumber_77 (by decide) ?_
          refine ee_ki (wr := [(w0, ee_o 9 [.ref w1, .ref w2, .ref w3, .ref w4, .float pt, .float pa, .float p1, .float p2, .ref w5, .int (nI tq), .int (nI (at9 + i)), .int (-1), .ref w6, .ref w7, .int it, .ref w8, .ref w9, .int dp, .int tv, .int tn, .int tb, .int th, .int te, .long hh]), (w5, ee_i E 80 tx)]) (ee_rS (As := [.int (chA tq tx (at9 + i)), .int (nI 48), .int (nI 57)]) (rest := []) (kX9_in l E (chA tq tx (at9 + i)) (nI 48) (nI 57)) hx hb hml hown hts 3 gX9_readsNumber_X9_in rfl rfl rfl (by decide +kernel) ⟨Nat.le_of_ble_eq_true rfl, Nat.le_of_ble_eq_true rfl⟩ hV hP hD hS hA [] rfl (by decide) hl rfl rfl (Nat.le_of_ble_eq_true rfl) dX9_readsNumber_79 ⟨Nat.le_of_ble_eq_true rfl, Nat.le_of_ble_eq_true rfl⟩) hP hD hS hA [] [0, 1] rfl rfl (by decide) (by decide) (fun r_11 u_12 H locs hp_13 hP hD hS => ?_)
          have hP : va_P E.1 vwCl [(w0, ee_o 9 [.ref w1, .ref w2, .ref w3, .ref w4, .float pt, .float pa, .float p1, .float p2, .ref w5, .int (nI tq), .int (nI (at9 + i)), .int (-1), .ref w6, .ref w7, .int it, .ref w8, .ref w9, .int dp, .int tv, .int tn, .int tb, .int th, .int te, .long hh]), (w5, ee_i E 80 tx)] H := hP
          have hD : va_D A [(w0, ee_o 9 [.ref w1, .ref w2, .ref w3, .ref w4, .float pt, .float pa, .float p1, .float p2, .ref w5, .int (nI tq), .int (nI (at9 + i)), .int (-1), .ref w6, .ref w7, .int it, .ref w8, .ref w9, .int dp, .int tv, .int tn, .int tb, .int th, .int te, .long hh]), (w5, ee_i E 80 tx)] := hD
          rcases hp_13 with ⟨rfl, hd8⟩ | ⟨rfl, hd8⟩
          · refine ee_eq0 (tgt := 93) hx hb (by omega) dX9_readsNumber_82 (by decide) (fun h_16 => absurd h_16 (by decide)) (fun h_16 => ?_)
            refine lv_aload_n hx hb dX9_readsNumber_85 rfl (lv_at hl 2 rfl) ?_
            refine lv_aload_n hx hb dX9_readsNumber_86 rfl (lv_at hl 2 rfl) ?_
            refine va_get (ci := 9) (v := .int (nI (at9 + i))) (C := RX9) (T := TX9) (N := 24) hx hb hts i9_X9_readsNumber hown hV.1 hP 0 rfl rfl 10 (by decide) (hts _ w1_X9_readsNumber) (fun _ h9 => h9) rfl dX9_readsNumber_87 ?_
            refine ee_kv (wr := [(w5, ee_i E 80 tx)]) (ee_rV (As := [.int (nI (at9 + i))]) (rest := []) (kX9_fails l E w0 w1 w2 w3 w4 w5 w6 w7 w8 w9 pt pa p1 p2 (-1) it dp tv tn tb th te hh tq (at9 + i) (at9 + i)) hx hb hml hown hts 1 gX9_readsNumber_X9_fails rfl rfl rfl (by decide +kernel) ⟨Nat.le_of_ble_eq_true rfl, Nat.le_of_ble_eq_true rfl⟩ hV hP hD hS hA [0] rfl (by decide) hl 0 rfl rfl rfl rfl (Nat.le_of_ble_eq_true rfl) dX9_readsNumber_90 ⟨Nat.le_of_ble_eq_true rfl, Nat.le_of_ble_eq_true rfl⟩) hP hD hS hA [0] [1] rfl rfl (by decide) (by decide) (fun ft7 H locs q8 hP hD hS => ?_)
            have hP : va_P E.1 vwCl [(w5, ee_i E 80 tx), (w0, ee_o 9 [.ref w1, .ref w2, .ref w3, .ref w4, .float pt, .float pa, .float p1, .float p2, .ref w5, .int (nI tq), .int (nI (at9 + i)), .int ft7, .ref w6, .ref w7, .int it, .ref w8, .ref w9, .int dp, .int tv, .int tn, .int tb, .int th, .int te, .long hh])] H := hP
            have hD : va_D A [(w5, ee_i E 80 tx), (w0, ee_o 9 [.ref w1, .ref w2, .ref w3, .ref w4, .float pt, .float pa, .float p1, .float p2, .ref w5, .int (nI tq), .int (nI (at9 + i)), .int ft7, .ref w6, .ref w7, .int it, .ref w8, .ref w9, .int dp, .int tv, .int tn, .int tb, .int th, .int te, .long hh])] := hD
            refine lv_aload_n hx hb dX9_readsNumber_93 rfl (lv_at hl 2 rfl) ?_
            refine ee_kv (wr := []) (ee_rV (As := []) (rest := []) (kX9_skips l E w0 w1 w2 w3 w4 w5 w6 w7 w8 w9 pt pa p1 p2 ft7 it dp tv tn tb th te hh tq (at9 + i) tx (by omega) (by omega)) hx hb hml hown hts 0 gX9_readsNumber_X9_skips rfl rfl rfl (by decide +kernel) ⟨Nat.le_of_ble_eq_true rfl, Nat.le_of_ble_eq_true rfl⟩ hV hP hD hS hA [1, 0] rfl (by decide) hl 1 rfl rfl rfl rfl (Nat.le_of_ble_eq_true rfl) dX9_readsNumber_94 ⟨Nat.le_of_ble_eq_true rfl, Nat.le_of_ble_eq_true rfl⟩) hP hD hS hA [1, 0] [] rfl rfl (by decide) (by decide) (fun u_20 H locs hp_21 hP hD hS => ?_)
            have hP : va_P E.1 vwCl [(w0, ee_o 9 [.ref w1, .ref w2, .ref w3, .ref w4, .float pt, .float pa, .float p1, .float p2, .ref w5, .int (nI tq), .int (nI (skp (chA tq tx) (at9 + i))), .int ft7, .ref w6, .ref w7, .int it, .ref w8, .ref w9, .int dp, .int tv, .int tn, .int tb, .int th, .int te, .long hh]), (w5, ee_i E 80 tx)] H := hP
            have hD : va_D A [(w0, ee_o 9 [.ref w1, .ref w2, .ref w3, .ref w4, .float pt, .float pa, .float p1, .float p2, .ref w5, .int (nI tq), .int (nI (skp (chA tq tx) (at9 + i))), .int ft7, .ref w6, .ref w7, .int it, .ref w8, .ref w9, .int dp, .int tv, .int tn, .int tb, .int th, .int te, .long hh]), (w5, ee_i E 80 tx)] := hD
            refine lv_iload_n hx hb dX9_readsNumber_97 rfl (lv_at hl 0 rfl) ?_
            exact ee_fi hQ hx hb hr (rfl) hlocks hS (skp (chA tq tx) (at9 + i), ft7) (⟨congrArg nI n1.symm, by rw [n2], by rw [q8, if_pos rfl]; exact (nf_2 hv9 n2 (inB_t hd8)).symm⟩) hP hD dX9_readsNumber_98
          · refine ee_eq0 (tgt := 93) hx hb (by omega) dX9_readsNumber_82 (by decide) (fun h_22 => ?_) (fun h_22 => absurd h_22 (by decide))
            refine lv_aload_n hx hb dX9_readsNumber_93 rfl (lv_at hl 2 rfl) ?_
            refine ee_kv (wr := []) (ee_rV (As := []) (rest := []) (kX9_skips l E w0 w1 w2 w3 w4 w5 w6 w7 w8 w9 pt pa p1 p2 (-1) it dp tv tn tb th te hh tq (at9 + i) tx (by omega) (by omega)) hx hb hml hown hts 0 gX9_readsNumber_X9_skips rfl rfl rfl (by decide +kernel) ⟨Nat.le_of_ble_eq_true rfl, Nat.le_of_ble_eq_true rfl⟩ hV hP hD hS hA [0, 1] rfl (by decide) hl 0 rfl rfl rfl rfl (Nat.le_of_ble_eq_true rfl) dX9_readsNumber_94 ⟨Nat.le_of_ble_eq_true rfl, Nat.le_of_ble_eq_true rfl⟩) hP hD hS hA [0, 1] [] rfl rfl (by decide) (by decide) (fun u_24 H locs hp_25 hP hD hS => ?_)
            have hP : va_P E.1 vwCl [(w0, ee_o 9 [.ref w1, .ref w2, .ref w3, .ref w4, .float pt, .float pa, .float p1, .float p2, .ref w5, .int (nI tq), .int (nI (skp (chA tq tx) (at9 + i))), .int (-1), .ref w6, .ref w7, .int it, .ref w8, .ref w9, .int dp, .int tv, .int tn, .int tb, .int th, .int te, .long hh]), (w5, ee_i E 80 tx)] H := hP
            have hD : va_D A [(w0, ee_o 9 [.ref w1, .ref w2, .ref w3, .ref w4, .float pt, .float pa, .float p1, .float p2, .ref w5, .int (nI tq), .int (nI (skp (chA tq tx) (at9 + i))), .int (-1), .ref w6, .ref w7, .int it, .ref w8, .ref w9, .int dp, .int tv, .int tn, .int tb, .int th, .int te, .long hh]), (w5, ee_i E 80 tx)] := hD
            refine lv_iload_n hx hb dX9_readsNumber_97 rfl (lv_at hl 0 rfl) ?_
            exact ee_fi hQ hx hb hr (rfl) hlocks hS (skp (chA tq tx) (at9 + i), -1) (⟨congrArg nI n1.symm, by rw [n2], (nf_3 hv9 n2 (inB_f hd8)).symm⟩) hP hD dX9_readsNumber_98
        · refine ee_ne0 (tgt := 71) hx hb (by omega) dX9_readsNumber_63 (by decide) (fun h_26 => absurd h_26 (by decide)) (fun h_26 => ?_)
          refine lv_aload_n hx hb dX9_readsNumber_66 rfl (lv_at hl 2 rfl) ?_
          refine lv_iload_n hx hb dX9_readsNumber_67 rfl (lv_at hl 1 rfl) ?_
          refine ee_kv (wr := [(w5, ee_i E 80 tx)]) (ee_rV (As := [.int (nI at9)]) (rest := []) (kX9_fails l E w0 w1 w2 w3 w4 w5 w6 w7 w8 w9 pt pa p1 p2 (-1) it dp tv tn tb th te hh tq (at9 + i) at9) hx hb hml hown hts 1 gX9_readsNumber_X9_fails rfl rfl rfl (by decide +kernel) ⟨Nat.le_of_ble_eq_true rfl, Nat.le_of_ble_eq_true rfl⟩ hV hP hD hS hA [0] rfl (by decide) hl 0 rfl rfl rfl rfl (Nat.le_of_ble_eq_true rfl) dX9_readsNumber_68 ⟨Nat.le_of_ble_eq_true rfl, Nat.le_of_ble_eq_true rfl⟩) hP hD hS hA [0] [1] rfl rfl (by decide) (by decide) (fun ft6 H locs q6 hP hD hS => ?_)
          have hP : va_P E.1 vwCl [(w5, ee_i E 80 tx), (w0, ee_o 9 [.ref w1, .ref w2, .ref w3, .ref w4, .float pt, .float pa, .float p1, .float p2, .ref w5, .int (nI tq), .int (nI (at9 + i)), .int ft6, .ref w6, .ref w7, .int it, .ref w8, .ref w9, .int dp, .int tv, .int tn, .int tb, .int th, .int te, .long hh])] H := hP
          have hD : va_D A [(w5, ee_i E 80 tx), (w0, ee_o 9 [.ref w1, .ref w2, .ref w3, .ref w4, .float pt, .float pa, .float p1, .float p2, .ref w5, .int (nI tq), .int (nI (at9 + i)), .int ft6, .ref w6, .ref w7, .int it, .ref w8, .ref w9, .int dp, .int tv, .int tn, .int tb, .int th, .int te, .long hh])] := hD
          have hv9 : ¬ (1 ≤ nmV (chA tq tx) at9 ∧ nmV (chA tq tx) at9 ≤ mx) := by rw [n1]; exact fun q => hv8 ((inR_iff (by omega) hmx.1 (by omega)).mpr q)
          refine lv_aload_n hx hb dX9_readsNumber_71 rfl (lv_at hl 2 rfl) ?_
          refine ee_ki (wr := []) (ee_rV (As := []) (rest := []) (kX9_next l E w0 w1 w2 w3 w4 w5 w6 w7 w8 w9 pt pa p1 p2 ft6 it dp tv tn tb th te hh tq (at9 + i) tx (by omega) (by omega)) hx hb hml hown hts 0 gX9_readsNumber_X9_next rfl rfl rfl (by decide +kernel) ⟨Nat.le_of_ble_eq_true rfl, Nat.le_of_ble_eq_true rfl⟩ hV hP hD hS hA [1, 0] rfl (by decide) hl 1 rfl rfl rfl rfl (Nat.le_of_ble_eq_true rfl) dX9_readsNumber_72 ⟨Nat.le_of_ble_eq_true rfl, Nat.le_of_ble_eq_true rfl⟩) hP hD hS hA [1, 0] [] rfl rfl (by decide) (by decide) (fun r_29 u_30 H locs hp_31 hP hD hS => ?_)
          subst hp_31
          have hP : va_P E.1 vwCl [(w0, ee_o 9 [.ref w1, .ref w2, .ref w3, .ref w4, .float pt, .float pa, .float p1, .float p2, .ref w5, .int (nI tq), .int (nI (at9 + i)), .int ft6, .ref w6, .ref w7, .int it, .ref w8, .ref w9, .int dp, .int tv, .int tn, .int tb, .int th, .int te, .long hh]), (w5, ee_i E 80 tx)] H := hP
          have hD : va_D A [(w0, ee_o 9 [.ref w1, .ref w2, .ref w3, .ref w4, .float pt, .float pa, .float p1, .float p2, .ref w5, .int (nI tq), .int (nI (at9 + i)), .int ft6, .ref w6, .ref w7, .int it, .ref w8, .ref w9, .int dp, .int tv, .int tn, .int tb, .int th, .int te, .long hh]), (w5, ee_i E 80 tx)] := hD
          refine lv_bipush (v := nI 48) hx hb dX9_readsNumber_75 (by decide) ?_
          refine lv_bipush (v := nI 57) hx hb dX9_readsNumber_77 (by decide) ?_
          refine ee_ki (wr := [(w0, ee_o 9 [.ref w1, .ref w2, .ref w3, .ref w4, .float pt, .float pa, .float p1, .float p2, .ref w5, .int (nI tq), .int (nI (at9 + i)), .int ft6, .ref w6, .ref w7, .int it, .ref w8, .ref w9, .int dp, .int tv, .int tn, .int tb, .int th, .int te, .long hh]), (w5, ee_i E 80 tx)]) (ee_rS (As := [.int (chA tq tx (at9 + i)), .int (nI 48), .int (nI 57)]) (rest := []) (kX9_in l E (chA tq tx (at9 + i)) (nI 48) (nI 57)) hx hb hml hown hts 3 gX9_readsNumber_X9_in rfl rfl rfl (by decide +kernel) ⟨Nat.le_of_ble_eq_true rfl, Nat.le_of_ble_eq_true rfl⟩ hV hP hD hS hA [] rfl (by decide) hl rfl rfl (Nat.le_of_ble_eq_true rfl) dX9_readsNumber_79 ⟨Nat.le_of_ble_eq_true rfl, Nat.le_of_ble_eq_true rfl⟩) hP hD hS hA [] [0, 1] rfl rfl (by decide) (by decide) (fun r_32 u_33 H locs hp_34 hP hD hS => ?_)
          have hP : va_P E.1 vwCl [(w0, ee_o 9 [.ref w1, .ref w2, .ref w3, .ref w4, .float pt, .float pa, .float p1, .float p2, .ref w5, .int (nI tq), .int (nI (at9 + i)), .int ft6, .ref w6, .ref w7, .int it, .ref w8, .ref w9, .int dp, .int tv, .int tn, .int tb, .int th, .int te, .long hh]), (w5, ee_i E 80 tx)] H := hP
          have hD : va_D A [(w0, ee_o 9 [.ref w1, .ref w2, .ref w3, .ref w4, .float pt, .float pa, .float p1, .float p2, .ref w5, .int (nI tq), .int (nI (at9 + i)), .int ft6, .ref w6, .ref w7, .int it, .ref w8, .ref w9, .int dp, .int tv, .int tn, .int tb, .int th, .int te, .long hh]), (w5, ee_i E 80 tx)] := hD
          rcases hp_34 with ⟨rfl, hd8⟩ | ⟨rfl, hd8⟩
          · refine ee_eq0 (tgt := 93) hx hb (by omega) dX9_readsNumber_82 (by decide) (fun h_37 => absurd h_37 (by decide)) (fun h_37 => ?_)
            refine lv_aload_n hx hb dX9_readsNumber_85 rfl (lv_at hl 2 rfl) ?_
            refine lv_aload_n hx hb dX9_readsNumber_86 rfl (lv_at hl 2 rfl) ?_
            refine va_get (ci := 9) (v := .int (nI (at9 + i))) (C := RX9) (T := TX9) (N := 24) hx hb hts i9_X9_readsNumber hown hV.1 hP 0 rfl rfl 10 (by decide) (hts _ w1_X9_readsNumber) (fun _ h9 => h9) rfl dX9_readsNumber_87 ?_
            refine ee_kv (wr := [(w5, ee_i E 80 tx)]) (ee_rV (As := [.int (nI (at9 + i))]) (rest := []) (kX9_fails l E w0 w1 w2 w3 w4 w5 w6 w7 w8 w9 pt pa p1 p2 ft6 it dp tv tn tb th te hh tq (at9 + i) (at9 + i)) hx hb hml hown hts 1 gX9_readsNumber_X9_fails rfl rfl rfl (by decide +kernel) ⟨Nat.le_of_ble_eq_true rfl, Nat.le_of_ble_eq_true rfl⟩ hV hP hD hS hA [0] rfl (by decide) hl 0 rfl rfl rfl rfl (Nat.le_of_ble_eq_true rfl) dX9_readsNumber_90 ⟨Nat.le_of_ble_eq_true rfl, Nat.le_of_ble_eq_true rfl⟩) hP hD hS hA [0] [1] rfl rfl (by decide) (by decide) (fun ft7 H locs q8 hP hD hS => ?_)
            have hP : va_P E.1 vwCl [(w5, ee_i E 80 tx), (w0, ee_o 9 [.ref w1, .ref w2, .ref w3, .ref w4, .float pt, .float pa, .float p1, .float p2, .ref w5, .int (nI tq), .int (nI (at9 + i)), .int ft7, .ref w6, .ref w7, .int it, .ref w8, .ref w9, .int dp, .int tv, .int tn, .int tb, .int th, .int te, .long hh])] H := hP
            have hD : va_D A [(w5, ee_i E 80 tx), (w0, ee_o 9 [.ref w1, .ref w2, .ref w3, .ref w4, .float pt, .float pa, .float p1, .float p2, .ref w5, .int (nI tq), .int (nI (at9 + i)), .int ft7, .ref w6, .ref w7, .int it, .ref w8, .ref w9, .int dp, .int tv, .int tn, .int tb, .int th, .int te, .long hh])] := hD
            refine lv_aload_n hx hb dX9_readsNumber_93 rfl (lv_at hl 2 rfl) ?_
            refine ee_kv (wr := []) (ee_rV (As := []) (rest := []) (kX9_skips l E w0 w1 w2 w3 w4 w5 w6 w7 w8 w9 pt pa p1 p2 ft7 it dp tv tn tb th te hh tq (at9 + i) tx (by omega) (by omega)) hx hb hml hown hts 0 gX9_readsNumber_X9_skips rfl rfl rfl (by decide +kernel) ⟨Nat.le_of_ble_eq_true rfl, Nat.le_of_ble_eq_true rfl⟩ hV hP hD hS hA [1, 0] rfl (by decide) hl 1 rfl rfl rfl rfl (Nat.le_of_ble_eq_true rfl) dX9_readsNumber_94 ⟨Nat.le_of_ble_eq_true rfl, Nat.le_of_ble_eq_true rfl⟩) hP hD hS hA [1, 0] [] rfl rfl (by decide) (by decide) (fun u_41 H locs hp_42 hP hD hS => ?_)
            have hP : va_P E.1 vwCl [(w0, ee_o 9 [.ref w1, .ref w2, .ref w3, .ref w4, .float pt, .float pa, .float p1, .float p2, .ref w5, .int (nI tq), .int (nI (skp (chA tq tx) (at9 + i))), .int ft7, .ref w6, .ref w7, .int it, .ref w8, .ref w9, .int dp, .int tv, .int tn, .int tb, .int th, .int te, .long hh]), (w5, ee_i E 80 tx)] H := hP
            have hD : va_D A [(w0, ee_o 9 [.ref w1, .ref w2, .ref w3, .ref w4, .float pt, .float pa, .float p1, .float p2, .ref w5, .int (nI tq), .int (nI (skp (chA tq tx) (at9 + i))), .int ft7, .ref w6, .ref w7, .int it, .ref w8, .ref w9, .int dp, .int tv, .int tn, .int tb, .int th, .int te, .long hh]), (w5, ee_i E 80 tx)] := hD
            refine lv_iload_n hx hb dX9_readsNumber_97 rfl (lv_at hl 0 rfl) ?_
            exact ee_fi hQ hx hb hr (rfl) hlocks hS (skp (chA tq tx) (at9 + i), ft7) (⟨congrArg nI n1.symm, by rw [n2], by rw [q8, q6, if_pos rfl, if_neg (fun h => nI_m1 (by omega) h)]; exact (nf_1 hv9).symm⟩) hP hD dX9_readsNumber_98
          · refine ee_eq0 (tgt := 93) hx hb (by omega) dX9_readsNumber_82 (by decide) (fun h_43 => ?_) (fun h_43 => absurd h_43 (by decide))
            refine lv_aload_n hx hb dX9_readsNumber_93 rfl (lv_at hl 2 rfl) ?_
            refine ee_kv (wr := []) (ee_rV (As := []) (rest := []) (kX9_skips l E w0 w1 w2 w3 w4 w5 w6 w7 w8 w9 pt pa p1 p2 ft6 it dp tv tn tb th te hh tq (at9 + i) tx (by omega) (by omega)) hx hb hml hown hts 0 gX9_readsNumber_X9_skips rfl rfl rfl (by decide +kernel) ⟨Nat.le_of_ble_eq_true rfl, Nat.le_of_ble_eq_true rfl⟩ hV hP hD hS hA [0, 1] rfl (by decide) hl 0 rfl rfl rfl rfl (Nat.le_of_ble_eq_true rfl) dX9_readsNumber_94 ⟨Nat.le_of_ble_eq_true rfl, Nat.le_of_ble_eq_true rfl⟩) hP hD hS hA [0, 1] [] rfl rfl (by decide) (by decide) (fun u_45 H locs hp_46 hP hD hS => ?_)
            have hP : va_P E.1 vwCl [(w0, ee_o 9 [.ref w1, .ref w2, .ref w3, .ref w4, .float pt, .float pa, .float p1, .float p2, .ref w5, .int (nI tq), .int (nI (skp (chA tq tx) (at9 + i))), .int ft6, .ref w6, .ref w7, .int it, .ref w8, .ref w9, .int dp, .int tv, .int tn, .int tb, .int th, .int te, .long hh]), (w5, ee_i E 80 tx)] H := hP
            have hD : va_D A [(w0, ee_o 9 [.ref w1, .ref w2, .ref w3, .ref w4, .float pt, .float pa, .float p1, .float p2, .ref w5, .int (nI tq), .int (nI (skp (chA tq tx) (at9 + i))), .int ft6, .ref w6, .ref w7, .int it, .ref w8, .ref w9, .int dp, .int tv, .int tn, .int tb, .int th, .int te, .long hh]), (w5, ee_i E 80 tx)] := hD
            refine lv_iload_n hx hb dX9_readsNumber_97 rfl (lv_at hl 0 rfl) ?_
            exact ee_fi hQ hx hb hr (rfl) hlocks hS (skp (chA tq tx) (at9 + i), ft6) (⟨congrArg nI n1.symm, by rw [n2], by rw [q6, if_pos rfl]; exact (nf_1 hv9).symm⟩) hP hD dX9_readsNumber_98
      · refine lv_aload_n hx hb dX9_readsNumber_17 rfl (lv_at hl 2 rfl) ?_
        refine ee_ki (wr := []) (ee_rV (As := []) (rest := []) (kX9_next l E w0 w1 w2 w3 w4 w5 w6 w7 w8 w9 pt pa p1 p2 (-1) it dp tv tn tb th te hh tq (at9 + i) tx (by omega) (by omega)) hx hb hml hown hts 0 gX9_readsNumber_X9_next rfl rfl rfl (by decide +kernel) ⟨Nat.le_of_ble_eq_true rfl, Nat.le_of_ble_eq_true rfl⟩ hV hP hD hS hA [0, 1] rfl (by decide) hl 0 rfl rfl rfl rfl (Nat.le_of_ble_eq_true rfl) dX9_readsNumber_18 ⟨Nat.le_of_ble_eq_true rfl, Nat.le_of_ble_eq_true rfl⟩) hP hD hS hA [0, 1] [] rfl rfl (by decide) (by decide) (fun r_47 u_48 H locs hp_49 hP hD hS => ?_)
        subst hp_49
        have hP : va_P E.1 vwCl [(w0, ee_o 9 [.ref w1, .ref w2, .ref w3, .ref w4, .float pt, .float pa, .float p1, .float p2, .ref w5, .int (nI tq), .int (nI (at9 + i)), .int (-1), .ref w6, .ref w7, .int it, .ref w8, .ref w9, .int dp, .int tv, .int tn, .int tb, .int th, .int te, .long hh]), (w5, ee_i E 80 tx)] H := hP
        have hD : va_D A [(w0, ee_o 9 [.ref w1, .ref w2, .ref w3, .ref w4, .float pt, .float pa, .float p1, .float p2, .ref w5, .int (nI tq), .int (nI (at9 + i)), .int (-1), .ref w6, .ref w7, .int it, .ref w8, .ref w9, .int dp, .int tv, .int tn, .int tb, .int th, .int te, .long hh]), (w5, ee_i E 80 tx)] := hD
        refine lv_bipush (v := nI 48) hx hb dX9_readsNumber_21 (by decide) ?_
        refine lv_bipush (v := nI 57) hx hb dX9_readsNumber_23 (by decide) ?_
        refine ee_ki (wr := [(w0, ee_o 9 [.ref w1, .ref w2, .ref w3, .ref w4, .float pt, .float pa, .float p1, .float p2, .ref w5, .int (nI tq), .int (nI (at9 + i)), .int (-1), .ref w6, .ref w7, .int it, .ref w8, .ref w9, .int dp, .int tv, .int tn, .int tb, .int th, .int te, .long hh]), (w5, ee_i E 80 tx)]) (ee_rS (As := [.int (chA tq tx (at9 + i)), .int (nI 48), .int (nI 57)]) (rest := []) (kX9_in l E (chA tq tx (at9 + i)) (nI 48) (nI 57)) hx hb hml hown hts 3 gX9_readsNumber_X9_in rfl rfl rfl (by decide +kernel) ⟨Nat.le_of_ble_eq_true rfl, Nat.le_of_ble_eq_true rfl⟩ hV hP hD hS hA [] rfl (by decide) hl rfl rfl (Nat.le_of_ble_eq_true rfl) dX9_readsNumber_25 ⟨Nat.le_of_ble_eq_true rfl, Nat.le_of_ble_eq_true rfl⟩) hP hD hS hA [] [0, 1] rfl rfl (by decide) (by decide) (fun r_50 u_51 H locs hp_52 hP hD hS => ?_)
        have hP : va_P E.1 vwCl [(w0, ee_o 9 [.ref w1, .ref w2, .ref w3, .ref w4, .float pt, .float pa, .float p1, .float p2, .ref w5, .int (nI tq), .int (nI (at9 + i)), .int (-1), .ref w6, .ref w7, .int it, .ref w8, .ref w9, .int dp, .int tv, .int tn, .int tb, .int th, .int te, .long hh]), (w5, ee_i E 80 tx)] H := hP
        have hD : va_D A [(w0, ee_o 9 [.ref w1, .ref w2, .ref w3, .ref w4, .float pt, .float pa, .float p1, .float p2, .ref w5, .int (nI tq), .int (nI (at9 + i)), .int (-1), .ref w6, .ref w7, .int it, .ref w8, .ref w9, .int dp, .int tv, .int tn, .int tb, .int th, .int te, .long hh]), (w5, ee_i E 80 tx)] := hD
        rcases hp_52 with ⟨rfl, hd5⟩ | ⟨rfl, hd5⟩
        · obtain ⟨hn1, hn2⟩ := dg_nat hd5
          refine ee_eq0 (tgt := 57) hx hb (by omega) dX9_readsNumber_28 (by decide) (fun h_55 => absurd h_55 (by decide)) (fun h_55 => ?_)
          refine lv_bipush (v := nI 10) hx hb dX9_readsNumber_31 (by decide) ?_
          refine lv_iload_n hx hb dX9_readsNumber_33 rfl (lv_at hl 0 rfl) ?_
          refine ee_imul hx hb dX9_readsNumber_34 ?_
          refine lv_aload_n hx hb dX9_readsNumber_35 rfl (lv_at hl 2 rfl) ?_
          refine ee_ki (wr := []) (ee_rV (As := []) (rest := [.int (nI (10 * v0))]) (kX9_next l E w0 w1 w2 w3 w4 w5 w6 w7 w8 w9 pt pa p1 p2 (-1) it dp tv tn tb th te hh tq (at9 + i) tx (by omega) (by omega)) hx hb hml hown hts 0 gX9_readsNumber_X9_next rfl rfl rfl (by decide +kernel) ⟨Nat.le_of_ble_eq_true rfl, Nat.le_of_ble_eq_true rfl⟩ hV hP hD hS hA [0, 1] rfl (by decide) hl 0 rfl rfl rfl rfl (Nat.le_of_ble_eq_true rfl) dX9_readsNumber_36 ⟨Nat.le_of_ble_eq_true rfl, Nat.le_of_ble_eq_true rfl⟩) hP hD hS hA [0, 1] [] rfl rfl (by decide) (by decide) (fun r_56 u_57 H locs hp_58 hP hD hS => ?_)
          subst hp_58
          have hP : va_P E.1 vwCl [(w0, ee_o 9 [.ref w1, .ref w2, .ref w3, .ref w4, .float pt, .float pa, .float p1, .float p2, .ref w5, .int (nI tq), .int (nI (at9 + i)), .int (-1), .ref w6, .ref w7, .int it, .ref w8, .ref w9, .int dp, .int tv, .int tn, .int tb, .int th, .int te, .long hh]), (w5, ee_i E 80 tx)] H := hP
          have hD : va_D A [(w0, ee_o 9 [.ref w1, .ref w2, .ref w3, .ref w4, .float pt, .float pa, .float p1, .float p2, .ref w5, .int (nI tq), .int (nI (at9 + i)), .int (-1), .ref w6, .ref w7, .int it, .ref w8, .ref w9, .int dp, .int tv, .int tn, .int tb, .int th, .int te, .long hh]), (w5, ee_i E 80 tx)] := hD
          refine ee_to (z := nI (dgV (chA tq tx (at9 + i)) + 48)) (hn1) ?_
          refine ee_iadd hx hb dX9_readsNumber_39 ?_
          refine lv_bipush (v := nI 48) hx hb dX9_readsNumber_40 (by decide) ?_
          refine ee_isub hx hb (by omega) dX9_readsNumber_42 ?_
          refine lv_istore_n (lv' := [(3, .int (nI (((10 * v0) + (dgV (chA tq tx (at9 + i)) + 48)) - 48))), (2, .int (nI at9)), (0, .ref w0), (1, .int (nI mx))]) hx hb dX9_readsNumber_43 rfl hl (by decide) rfl (fun ls hl => ?_)
          refine lv_aload_n hx hb dX9_readsNumber_44 rfl (lv_at hl 2 rfl) ?_
          refine lv_dup hx hb dX9_readsNumber_45 rfl ?_
          refine va_get (ci := 9) (v := .int (nI (at9 + i))) (C := RX9) (T := TX9) (N := 24) hx hb hts i9_X9_readsNumber hown hV.1 hP 0 rfl rfl 10 (by decide) (hts _ w1_X9_readsNumber) (fun _ h9 => h9) rfl dX9_readsNumber_46 ?_
          refine lv_iconst (v := nI 1) hx hb dX9_readsNumber_49 (by decide) ?_
          refine ee_iadd hx hb dX9_readsNumber_50 ?_
          refine va_put (ci := 9) (v := .int (nI (at9 + i + 1))) (ty := .int) (C := RX9) (T := TX9) (N := 24) hx hb hts i9_X9_readsNumber tyX9 tyX9_ok nmX9 hown hV.1 hP hD hS 0 rfl rfl 10 (by decide) (hts _ w1_X9_readsNumber) (fun _ h9 => h9) rfl (by decide +kernel) rfl rfl (Nat.le_of_ble_eq_true rfl) dX9_readsNumber_51 (fun H locs hP hD hS => ?_)
          have hP : va_P E.1 vwCl [(w0, ee_o 9 [.ref w1, .ref w2, .ref w3, .ref w4, .float pt, .float pa, .float p1, .float p2, .ref w5, .int (nI tq), .int (nI (at9 + i + 1)), .int (-1), .ref w6, .ref w7, .int it, .ref w8, .ref w9, .int dp, .int tv, .int tn, .int tb, .int th, .int te, .long hh]), (w5, ee_i E 80 tx)] H := hP
          have hD : va_D A [(w0, ee_o 9 [.ref w1, .ref w2, .ref w3, .ref w4, .float pt, .float pa, .float p1, .float p2, .ref w5, .int (nI tq), .int (nI (at9 + i + 1)), .int (-1), .ref w6, .ref w7, .int it, .ref w8, .ref w9, .int dp, .int tv, .int tn, .int tb, .int th, .int te, .long hh]), (w5, ee_i E 80 tx)] := hD
          refine lv_goto (tgt := 7) hx hb dX9_readsNumber_54 (by decide) ?_
          exact ihB_1 (i + 1) (((10 * v0) + (dgV (chA tq tx (at9 + i)) + 48)) - 48) _ _ _ (by omega) (by omega) (by rw [pvS, ← hv]; omega) (pv_s hd (inB_t hd5)) hP hD hS (lv_sub hl [0, 1, 2, 3] rfl)
        · refine ee_eq0 (tgt := 57) hx hb (by omega) dX9_readsNumber_28 (by decide) (fun h_59 => ?_) (fun h_59 => absurd h_59 (by decide))
          obtain ⟨n1, n2⟩ := pv_e (ch := chA tq tx) hin hd (Or.inr (inB_f hd5))
          rw [← hv] at n1
          have hb9 := nmV_b tq tx at9
          refine lv_iload_n hx hb dX9_readsNumber_57 rfl (lv_at hl 0 rfl) ?_
          refine lv_iconst (v := nI 1) hx hb dX9_readsNumber_58 (by decide) ?_
          refine lv_iload_n hx hb dX9_readsNumber_59 rfl (lv_at hl 3 rfl) ?_
          refine ee_ki (wr := [(w0, ee_o 9 [.ref w1, .ref w2, .ref w3, .ref w4, .float pt, .float pa, .float p1, .float p2, .ref w5, .int (nI tq), .int (nI (at9 + i)), .int (-1), .ref w6, .ref w7, .int it, .ref w8, .ref w9, .int dp, .int tv, .int tn, .int tb, .int th, .int te, .long hh]), (w5, ee_i E 80 tx)]) (ee_rS (As := [.int (nI v0), .int (nI 1), .int (nI mx)]) (rest := []) (kX9_in l E (nI v0) (nI 1) (nI mx)) hx hb hml hown hts 3 gX9_readsNumber_X9_in rfl rfl rfl (by decide +kernel) ⟨Nat.le_of_ble_eq_true rfl, Nat.le_of_ble_eq_true rfl⟩ hV hP hD hS hA [] rfl (by decide) hl rfl rfl (Nat.le_of_ble_eq_true rfl) dX9_readsNumber_60 ⟨Nat.le_of_ble_eq_true rfl, Nat.le_of_ble_eq_true rfl⟩) hP hD hS hA [] [0, 1] rfl rfl (by decide) (by decide) (fun r_60 u_61 H locs hp_62 hP hD hS => ?_)
          have hP : va_P E.1 vwCl [(w0, ee_o 9 [.ref w1, .ref w2, .ref w3, .ref w4, .float pt, .float pa, .float p1, .float p2, .ref w5, .int (nI tq), .int (nI (at9 + i)), .int (-1), .ref w6, .ref w7, .int it, .ref w8, .ref w9, .int dp, .int tv, .int tn, .int tb, .int th, .int te, .long hh]), (w5, ee_i E 80 tx)] H := hP
          have hD : va_D A [(w0, ee_o 9 [.ref w1, .ref w2, .ref w3, .ref w4, .float pt, .float pa, .float p1, .float p2, .ref w5, .int (nI tq), .int (nI (at9 + i)), .int (-1), .ref w6, .ref w7, .int it, .ref w8, .ref w9, .int dp, .int tv, .int tn, .int tb, .int th, .int te, .long hh]), (w5, ee_i E 80 tx)] := hD
          rcases hp_62 with ⟨rfl, hv8⟩ | ⟨rfl, hv8⟩
          · refine ee_ne0 (tgt := 71) hx hb (by omega) dX9_readsNumber_63 (by decide) (fun h_65 => ?_) (fun h_65 => absurd h_65 (by decide))
            have hv9 : (1 ≤ nmV (chA tq tx) at9 ∧ nmV (chA tq tx) at9 ≤ mx) := by rw [n1]; exact (inR_iff (by omega) hmx.1 (by omega)).mp hv8
            refine lv_aload_n hx hb dX9_readsNumber_71 rfl (lv_at hl 2 rfl) ?_
            refine ee_ki (wr := []) (ee_rV (As := []) (rest := []) (kX9_next l E w0 w1 w2 w3 w4 w5 w6 w7 w8 w9 pt pa p1 p2 (-1) it dp tv tn tb th te hh tq (at9 + i) tx (by omega) (by omega)) hx hb hml hown hts 0 gX9_readsNumber_X9_next rfl rfl rfl (by decide +kernel) ⟨Nat.le_of_ble_eq_true rfl, Nat.le_of_ble_eq_true rfl⟩ hV hP hD hS hA [0, 1] rfl (by decide) hl 0 rfl rfl rfl rfl (Nat.le_of_ble_eq_true rfl) dX9_readsNumber_72 ⟨Nat.le_of_ble_eq_true rfl, Nat.le_of_ble_eq_true rfl⟩) hP hD hS hA [0, 1] [] rfl rfl (by decide) (by decide) (fun r_66 u_67 H locs hp_68 hP hD hS => ?_)
            subst hp_68
            have hP : va_P E.1 vwCl [(w0, ee_o 9 [.ref w1, .ref w2, .ref w3, .ref w4, .float pt, .float pa, .float p1, .float p2, .ref w5, .int (nI tq), .int (nI (at9 + i)), .int (-1), .ref w6, .ref w7, .int it, .ref w8, .ref w9, .int dp, .int tv, .int tn, .int tb, .int th, .int te, .long hh]), (w5, ee_i E 80 tx)] H := hP
            have hD : va_D A [(w0, ee_o 9 [.ref w1, .ref w2, .ref w3, .ref w4, .float pt, .float pa, .float p1, .float p2, .ref w5, .int (nI tq), .int (nI (at9 + i)), .int (-1), .ref w6, .ref w7, .int it, .ref w8, .ref w9, .int dp, .int tv, .int tn, .int tb, .int th, .int te, .long hh]), (w5, ee_i E 80 tx)] := hD
            refine lv_bipush (v := nI 48) hx hb dX9_readsNumber_75 (by decide) ?_
            refine lv_bipush (v := nI 57) hx hb dX9_readsNumber_77 (by decide) ?_
            refine ee_ki (wr := [(w0, ee_o 9 [.ref w1, .ref w2, .ref w3, .ref w4, .float pt, .float pa, .float p1, .float p2, .ref w5, .int (nI tq), .int (nI (at9 + i)), .int (-1), .ref w6, .ref w7, .int it, .ref w8, .ref w9, .int dp, .int tv, .int tn, .int tb, .int th, .int te, .long hh]), (w5, ee_i E 80 tx)]) (ee_rS (As := [.int (chA tq tx (at9 + i)), .int (nI 48), .int (nI 57)]) (rest := []) (kX9_in l E (chA tq tx (at9 + i)) (nI 48) (nI 57)) hx hb hml hown hts 3 gX9_readsNumber_X9_in rfl rfl rfl (by decide +kernel) ⟨Nat.le_of_ble_eq_true rfl, Nat.le_of_ble_eq_true rfl⟩ hV hP hD hS hA [] rfl (by decide) hl rfl rfl (Nat.le_of_ble_eq_true rfl) dX9_readsNumber_79 ⟨Nat.le_of_ble_eq_true rfl, Nat.le_of_ble_eq_true rfl⟩) hP hD hS hA [] [0, 1] rfl rfl (by decide) (by decide) (fun r_69 u_70 H locs hp_71 hP hD hS => ?_)
            have hP : va_P E.1 vwCl [(w0, ee_o 9 [.ref w1, .ref w2, .ref w3, .ref w4, .float pt, .float pa, .float p1, .float p2, .ref w5, .int (nI tq), .int (nI (at9 + i)), .int (-1), .ref w6, .ref w7, .int it, .ref w8, .ref w9, .int dp, .int tv, .int tn, .int tb, .int th, .int te, .long hh]), (w5, ee_i E 80 tx)] H := hP
            have hD : va_D A [(w0, ee_o 9 [.ref w1, .ref w2, .ref w3, .ref w4, .float pt, .float pa, .float p1, .float p2, .ref w5, .int (nI tq), .int (nI (at9 + i)), .int (-1), .ref w6, .ref w7, .int it, .ref w8, .ref w9, .int dp, .int tv, .int tn, .int tb, .int th, .int te, .long hh]), (w5, ee_i E 80 tx)] := hD
            rcases hp_71 with ⟨rfl, hd8⟩ | ⟨rfl, hd8⟩
            · refine ee_eq0 (tgt := 93) hx hb (by omega) dX9_readsNumber_82 (by decide) (fun h_74 => absurd h_74 (by decide)) (fun h_74 => ?_)
              refine lv_aload_n hx hb dX9_readsNumber_85 rfl (lv_at hl 2 rfl) ?_
              refine lv_aload_n hx hb dX9_readsNumber_86 rfl (lv_at hl 2 rfl) ?_
              refine va_get (ci := 9) (v := .int (nI (at9 + i))) (C := RX9) (T := TX9) (N := 24) hx hb hts i9_X9_readsNumber hown hV.1 hP 0 rfl rfl 10 (by decide) (hts _ w1_X9_readsNumber) (fun _ h9 => h9) rfl dX9_readsNumber_87 ?_
              refine ee_kv (wr := [(w5, ee_i E 80 tx)]) (ee_rV (As := [.int (nI (at9 + i))]) (rest := []) (kX9_fails l E w0 w1 w2 w3 w4 w5 w6 w7 w8 w9 pt pa p1 p2 (-1) it dp tv tn tb th te hh tq (at9 + i) (at9 + i)) hx hb hml hown hts 1 gX9_readsNumber_X9_fails rfl rfl rfl (by decide +kernel) ⟨Nat.le_of_ble_eq_true rfl, Nat.le_of_ble_eq_true rfl⟩ hV hP hD hS hA [0] rfl (by decide) hl 0 rfl rfl rfl rfl (Nat.le_of_ble_eq_true rfl) dX9_readsNumber_90 ⟨Nat.le_of_ble_eq_true rfl, Nat.le_of_ble_eq_true rfl⟩) hP hD hS hA [0] [1] rfl rfl (by decide) (by decide) (fun ft7 H locs q8 hP hD hS => ?_)
              have hP : va_P E.1 vwCl [(w5, ee_i E 80 tx), (w0, ee_o 9 [.ref w1, .ref w2, .ref w3, .ref w4, .float pt, .float pa, .float p1, .float p2, .ref w5, .int (nI tq), .int (nI (at9 + i)), .int ft7, .ref w6, .ref w7, .int it, .ref w8, .ref w9, .int dp, .int tv, .int tn, .int tb, .int th, .int te, .long hh])] H := hP
              have hD : va_D A [(w5, ee_i E 80 tx), (w0, ee_o 9 [.ref w1, .ref w2, .ref w3, .ref w4, .float pt, .float pa, .float p1, .float p2, .ref w5, .int (nI tq), .int (nI (at9 + i)), .int ft7, .ref w6, .ref w7, .int it, .ref w8, .ref w9, .int dp, .int tv, .int tn, .int tb, .int th, .int te, .long hh])] := hD
              refine lv_aload_n hx hb dX9_readsNumber_93 rfl (lv_at hl 2 rfl) ?_
              refine ee_kv (wr := []) (ee_rV (As := []) (rest := []) (kX9_skips l E w0 w1 w2 w3 w4 w5 w6 w7 w8 w9 pt pa p1 p2 ft7 it dp tv tn tb th te hh tq (at9 + i) tx (by omega) (by omega)) hx hb hml hown hts 0 gX9_readsNumber_X9_skips rfl rfl rfl (by decide +kernel) ⟨Nat.le_of_ble_eq_true rfl, Nat.le_of_ble_eq_true rfl⟩ hV hP hD hS hA [1, 0] rfl (by decide) hl 1 rfl rfl rfl rfl (Nat.le_of_ble_eq_true rfl) dX9_readsNumber_94 ⟨Nat.le_of_ble_eq_true rfl, Nat.le_of_ble_eq_true rfl⟩) hP hD hS hA [1, 0] [] rfl rfl (by decide) (by decide) (fun u_78 H locs hp_79 hP hD hS => ?_)
              have hP : va_P E.1 vwCl [(w0, ee_o 9 [.ref w1, .ref w2, .ref w3, .ref w4, .float pt, .float pa, .float p1, .float p2, .ref w5, .int (nI tq), .int (nI (skp (chA tq tx) (at9 + i))), .int ft7, .ref w6, .ref w7, .int it, .ref w8, .ref w9, .int dp, .int tv, .int tn, .int tb, .int th, .int te, .long hh]), (w5, ee_i E 80 tx)] H := hP
              have hD : va_D A [(w0, ee_o 9 [.ref w1, .ref w2, .ref w3, .ref w4, .float pt, .float pa, .float p1, .float p2, .ref w5, .int (nI tq), .int (nI (skp (chA tq tx) (at9 + i))), .int ft7, .ref w6, .ref w7, .int it, .ref w8, .ref w9, .int dp, .int tv, .int tn, .int tb, .int th, .int te, .long hh]), (w5, ee_i E 80 tx)] := hD
              refine lv_iload_n hx hb dX9_readsNumber_97 rfl (lv_at hl 0 rfl) ?_
              exact ee_fi hQ hx hb hr (rfl) hlocks hS (skp (chA tq tx) (at9 + i), ft7) (⟨congrArg nI n1.symm, by rw [n2], by rw [q8, if_pos rfl]; exact (nf_2 hv9 n2 (inB_t hd8)).symm⟩) hP hD dX9_readsNumber_98
            · refine ee_eq0 (tgt := 93) hx hb (by omega) dX9_readsNumber_82 (by decide) (fun h_80 => ?_) (fun h_80 => absurd h_80 (by decide))
              refine lv_aload_n hx hb dX9_readsNumber_93 rfl (lv_at hl 2 rfl) ?_
              refine ee_kv (wr := []) (ee_rV (As := []) (rest := []) (kX9_skips l E w0 w1 w2 w3 w4 w5 w6 w7 w8 w9 pt pa p1 p2 (-1) it dp tv tn tb th te hh tq (at9 + i) tx (by omega) (by omega)) hx hb hml hown hts 0 gX9_readsNumber_X9_skips rfl rfl rfl (by decide +kernel) ⟨Nat.le_of_ble_eq_true rfl, Nat.le_of_ble_eq_true rfl⟩ hV hP hD hS hA [0, 1] rfl (by decide) hl 0 rfl rfl rfl rfl (Nat.le_of_ble_eq_true rfl) dX9_readsNumber_94 ⟨Nat.le_of_ble_eq_true rfl, Nat.le_of_ble_eq_true rfl⟩) hP hD hS hA [0, 1] [] rfl rfl (by decide) (by decide) (fun u_82 H locs hp_83 hP hD hS => ?_)
              have hP : va_P E.1 vwCl [(w0, ee_o 9 [.ref w1, .ref w2, .ref w3, .ref w4, .float pt, .float pa, .float p1, .float p2, .ref w5, .int (nI tq), .int (nI (skp (chA tq tx) (at9 + i))), .int (-1), .ref w6, .ref w7, .int it, .ref w8, .ref w9, .int dp, .int tv, .int tn, .int tb, .int th, .int te, .long hh]), (w5, ee_i E 80 tx)] H := hP
              have hD : va_D A [(w0, ee_o 9 [.ref w1, .ref w2, .ref w3, .ref w4, .float pt, .float pa, .float p1, .float p2, .ref w5, .int (nI tq), .int (nI (skp (chA tq tx) (at9 + i))), .int (-1), .ref w6, .ref w7, .int it, .ref w8, .ref w9, .int dp, .int tv, .int tn, .int tb, .int th, .int te, .long hh]), (w5, ee_i E 80 tx)] := hD
              refine lv_iload_n hx hb dX9_readsNumber_97 rfl (lv_at hl 0 rfl) ?_
              exact ee_fi hQ hx hb hr (rfl) hlocks hS (skp (chA tq tx) (at9 + i), -1) (⟨congrArg nI n1.symm, by rw [n2], (nf_3 hv9 n2 (inB_f hd8)).symm⟩) hP hD dX9_readsNumber_98
          · refine ee_ne0 (tgt := 71) hx hb (by omega) dX9_readsNumber_63 (by decide) (fun h_84 => absurd h_84 (by decide)) (fun h_84 => ?_)
            refine lv_aload_n hx hb dX9_readsNumber_66 rfl (lv_at hl 2 rfl) ?_
            refine lv_iload_n hx hb dX9_readsNumber_67 rfl (lv_at hl 1 rfl) ?_
            refine ee_kv (wr := [(w5, ee_i E 80 tx)]) (ee_rV (As := [.int (nI at9)]) (rest := []) (kX9_fails l E w0 w1 w2 w3 w4 w5 w6 w7 w8 w9 pt pa p1 p2 (-1) it dp tv tn tb th te hh tq (at9 + i) at9) hx hb hml hown hts 1 gX9_readsNumber_X9_fails rfl rfl rfl (by decide +kernel) ⟨Nat.le_of_ble_eq_true rfl, Nat.le_of_ble_eq_true rfl⟩ hV hP hD hS hA [0] rfl (by decide) hl 0 rfl rfl rfl rfl (Nat.le_of_ble_eq_true rfl) dX9_readsNumber_68 ⟨Nat.le_of_ble_eq_true rfl, Nat.le_of_ble_eq_true rfl⟩) hP hD hS hA [0] [1] rfl rfl (by decide) (by decide) (fun ft6 H locs q6 hP hD hS => ?_)
            have hP : va_P E.1 vwCl [(w5, ee_i E 80 tx), (w0, ee_o 9 [.ref w1, .ref w2, .ref w3, .ref w4, .float pt, .float pa, .float p1, .float p2, .ref w5, .int (nI tq), .int (nI (at9 + i)), .int ft6, .ref w6, .ref w7, .int it, .ref w8, .ref w9, .int dp, .int tv, .int tn, .int tb, .int th, .int te, .long hh])] H := hP
            have hD : va_D A [(w5, ee_i E 80 tx), (w0, ee_o 9 [.ref w1, .ref w2, .ref w3, .ref w4, .float pt, .float pa, .float p1, .float p2, .ref w5, .int (nI tq), .int (nI (at9 + i)), .int ft6, .ref w6, .ref w7, .int it, .ref w8, .ref w9, .int dp, .int tv, .int tn, .int tb, .int th, .int te, .long hh])] := hD
            have hv9 : ¬ (1 ≤ nmV (chA tq tx) at9 ∧ nmV (chA tq tx) at9 ≤ mx) := by rw [n1]; exact fun q => hv8 ((inR_iff (by omega) hmx.1 (by omega)).mpr q)
            refine lv_aload_n hx hb dX9_readsNumber_71 rfl (lv_at hl 2 rfl) ?_
            refine ee_ki (wr := []) (ee_rV (As := []) (rest := []) (kX9_next l E w0 w1 w2 w3 w4 w5 w6 w7 w8 w9 pt pa p1 p2 ft6 it dp tv tn tb th te hh tq (at9 + i) tx (by omega) (by omega)) hx hb hml hown hts 0 gX9_readsNumber_X9_next rfl rfl rfl (by decide +kernel) ⟨Nat.le_of_ble_eq_true rfl, Nat.le_of_ble_eq_true rfl⟩ hV hP hD hS hA [1, 0] rfl (by decide) hl 1 rfl rfl rfl rfl (Nat.le_of_ble_eq_true rfl) dX9_readsNumber_72 ⟨Nat.le_of_ble_eq_true rfl, Nat.le_of_ble_eq_true rfl⟩) hP hD hS hA [1, 0] [] rfl rfl (by decide) (by decide) (fun r_87 u_88 H locs hp_89 hP hD hS => ?_)
            subst hp_89
            have hP : va_P E.1 vwCl [(w0, ee_o 9 [.ref w1, .ref w2, .ref w3, .ref w4, .float pt, .float pa, .float p1, .float p2, .ref w5, .int (nI tq), .int (nI (at9 + i)), .int ft6, .ref w6, .ref w7, .int it, .ref w8, .ref w9, .int dp, .int tv, .int tn, .int tb, .int th, .int te, .long hh]), (w5, ee_i E 80 tx)] H := hP
            have hD : va_D A [(w0, ee_o 9 [.ref w1, .ref w2, .ref w3, .ref w4, .float pt, .float pa, .float p1, .float p2, .ref w5, .int (nI tq), .int (nI (at9 + i)), .int ft6, .ref w6, .ref w7, .int it, .ref w8, .ref w9, .int dp, .int tv, .int tn, .int tb, .int th, .int te, .long hh]), (w5, ee_i E 80 tx)] := hD
            refine lv_bipush (v := nI 48) hx hb dX9_readsNumber_75 (by decide) ?_
            refine lv_bipush (v := nI 57) hx hb dX9_readsNumber_77 (by decide) ?_
            refine ee_ki (wr := [(w0, ee_o 9 [.ref w1, .ref w2, .ref w3, .ref w4, .float pt, .float pa, .float p1, .float p2, .ref w5, .int (nI tq), .int (nI (at9 + i)), .int ft6, .ref w6, .ref w7, .int it, .ref w8, .ref w9, .int dp, .int tv, .int tn, .int tb, .int th, .int te, .long hh]), (w5, ee_i E 80 tx)]) (ee_rS (As := [.int (chA tq tx (at9 + i)), .int (nI 48), .int (nI 57)]) (rest := []) (kX9_in l E (chA tq tx (at9 + i)) (nI 48) (nI 57)) hx hb hml hown hts 3 gX9_readsNumber_X9_in rfl rfl rfl (by decide +kernel) ⟨Nat.le_of_ble_eq_true rfl, Nat.le_of_ble_eq_true rfl⟩ hV hP hD hS hA [] rfl (by decide) hl rfl rfl (Nat.le_of_ble_eq_true rfl) dX9_readsNumber_79 ⟨Nat.le_of_ble_eq_true rfl, Nat.le_of_ble_eq_true rfl⟩) hP hD hS hA [] [0, 1] rfl rfl (by decide) (by decide) (fun r_90 u_91 H locs hp_92 hP hD hS => ?_)
            have hP : va_P E.1 vwCl [(w0, ee_o 9 [.ref w1, .ref w2, .ref w3, .ref w4, .float pt, .float pa, .float p1, .float p2, .ref w5, .int (nI tq), .int (nI (at9 + i)), .int ft6, .ref w6, .ref w7, .int it, .ref w8, .ref w9, .int dp, .int tv, .int tn, .int tb, .int th, .int te, .long hh]), (w5, ee_i E 80 tx)] H := hP
            have hD : va_D A [(w0, ee_o 9 [.ref w1, .ref w2, .ref w3, .ref w4, .float pt, .float pa, .float p1, .float p2, .ref w5, .int (nI tq), .int (nI (at9 + i)), .int ft6, .ref w6, .ref w7, .int it, .ref w8, .ref w9, .int dp, .int tv, .int tn, .int tb, .int th, .int te, .long hh]), (w5, ee_i E 80 tx)] := hD
            rcases hp_92 with ⟨rfl, hd8⟩ | ⟨rfl, hd8⟩
            · refine ee_eq0 (tgt := 93) hx hb (by omega) dX9_readsNumber_82 (by decide) (fun h_95 => absurd h_95 (by decide)) (fun h_95 => ?_)
              refine lv_aload_n hx hb dX9_readsNumber_85 rfl (lv_at hl 2 rfl) ?_
              refine lv_aload_n hx hb dX9_readsNumber_86 rfl (lv_at hl 2 rfl) ?_
              refine va_get (ci := 9) (v := .int (nI (at9 + i))) (C := RX9) (T := TX9) (N := 24) hx hb hts i9_X9_readsNumber hown hV.1 hP 0 rfl rfl 10 (by decide) (hts _ w1_X9_readsNumber) (fun _ h9 => h9) rfl dX9_readsNumber_87 ?_
              refine ee_kv (wr := [(w5, ee_i E 80 tx)]) (ee_rV (As := [.int (nI (at9 + i))]) (rest := []) (kX9_fails l E w0 w1 w2 w3 w4 w5 w6 w7 w8 w9 pt pa p1 p2 ft6 it dp tv tn tb th te hh tq (at9 + i) (at9 + i)) hx hb hml hown hts 1 gX9_readsNumber_X9_fails rfl rfl rfl (by decide +kernel) ⟨Nat.le_of_ble_eq_true rfl, Nat.le_of_ble_eq_true rfl⟩ hV hP hD hS hA [0] rfl (by decide) hl 0 rfl rfl rfl rfl (Nat.le_of_ble_eq_true rfl) dX9_readsNumber_90 ⟨Nat.le_of_ble_eq_true rfl, Nat.le_of_ble_eq_true rfl⟩) hP hD hS hA [0] [1] rfl rfl (by decide) (by decide) (fun ft7 H locs q8 hP hD hS => ?_)
              have hP : va_P E.1 vwCl [(w5, ee_i E 80 tx), (w0, ee_o 9 [.ref w1, .ref w2, .ref w3, .ref w4, .float pt, .float pa, .float p1, .float p2, .ref w5, .int (nI tq), .int (nI (at9 + i)), .int ft7, .ref w6, .ref w7, .int it, .ref w8, .ref w9, .int dp, .int tv, .int tn, .int tb, .int th, .int te, .long hh])] H := hP
              have hD : va_D A [(w5, ee_i E 80 tx), (w0, ee_o 9 [.ref w1, .ref w2, .ref w3, .ref w4, .float pt, .float pa, .float p1, .float p2, .ref w5, .int (nI tq), .int (nI (at9 + i)), .int ft7, .ref w6, .ref w7, .int it, .ref w8, .ref w9, .int dp, .int tv, .int tn, .int tb, .int th, .int te, .long hh])] := hD
              refine lv_aload_n hx hb dX9_readsNumber_93 rfl (lv_at hl 2 rfl) ?_
              refine ee_kv (wr := []) (ee_rV (As := []) (rest := []) (kX9_skips l E w0 w1 w2 w3 w4 w5 w6 w7 w8 w9 pt pa p1 p2 ft7 it dp tv tn tb th te hh tq (at9 + i) tx (by omega) (by omega)) hx hb hml hown hts 0 gX9_readsNumber_X9_skips rfl rfl rfl (by decide +kernel) ⟨Nat.le_of_ble_eq_true rfl, Nat.le_of_ble_eq_true rfl⟩ hV hP hD hS hA [1, 0] rfl (by decide) hl 1 rfl rfl rfl rfl (Nat.le_of_ble_eq_true rfl) dX9_readsNumber_94 ⟨Nat.le_of_ble_eq_true rfl, Nat.le_of_ble_eq_true rfl⟩) hP hD hS hA [1, 0] [] rfl rfl (by decide) (by decide) (fun u_99 H locs hp_100 hP hD hS => ?_)
              have hP : va_P E.1 vwCl [(w0, ee_o 9 [.ref w1, .ref w2, .ref w3, .ref w4, .float pt, .float pa, .float p1, .float p2, .ref w5, .int (nI tq), .int (nI (skp (chA tq tx) (at9 + i))), .int ft7, .ref w6, .ref w7, .int it, .ref w8, .ref w9, .int dp, .int tv, .int tn, .int tb, .int th, .int te, .long hh]), (w5, ee_i E 80 tx)] H := hP
              have hD : va_D A [(w0, ee_o 9 [.ref w1, .ref w2, .ref w3, .ref w4, .float pt, .float pa, .float p1, .float p2, .ref w5, .int (nI tq), .int (nI (skp (chA tq tx) (at9 + i))), .int ft7, .ref w6, .ref w7, .int it, .ref w8, .ref w9, .int dp, .int tv, .int tn, .int tb, .int th, .int te, .long hh]), (w5, ee_i E 80 tx)] := hD
              refine lv_iload_n hx hb dX9_readsNumber_97 rfl (lv_at hl 0 rfl) ?_
              exact ee_fi hQ hx hb hr (rfl) hlocks hS (skp (chA tq tx) (at9 + i), ft7) (⟨congrArg nI n1.symm, by rw [n2], by rw [q8, q6, if_pos rfl, if_neg (fun h => nI_m1 (by omega) h)]; exact (nf_1 hv9).symm⟩) hP hD dX9_readsNumber_98
            · refine ee_eq0 (tgt := 93) hx hb (by omega) dX9_readsNumber_82 (by decide) (fun h_101 => ?_) (fun h_101 => absurd h_101 (by decide))
              refine lv_aload_n hx hb dX9_readsNumber_93 rfl (lv_at hl 2 rfl) ?_
              refine ee_kv (wr := []) (ee_rV (As := []) (rest := []) (kX9_skips l E w0 w1 w2 w3 w4 w5 w6 w7 w8 w9 pt pa p1 p2 ft6 it dp tv tn tb th te hh tq (at9 + i) tx (by omega) (by omega)) hx hb hml hown hts 0 gX9_readsNumber_X9_skips rfl rfl rfl (by decide +kernel) ⟨Nat.le_of_ble_eq_true rfl, Nat.le_of_ble_eq_true rfl⟩ hV hP hD hS hA [0, 1] rfl (by decide) hl 0 rfl rfl rfl rfl (Nat.le_of_ble_eq_true rfl) dX9_readsNumber_94 ⟨Nat.le_of_ble_eq_true rfl, Nat.le_of_ble_eq_true rfl⟩) hP hD hS hA [0, 1] [] rfl rfl (by decide) (by decide) (fun u_103 H locs hp_104 hP hD hS => ?_)
              have hP : va_P E.1 vwCl [(w0, ee_o 9 [.ref w1, .ref w2, .ref w3, .ref w4, .float pt, .float pa, .float p1, .float p2, .ref w5, .int (nI tq), .int (nI (skp (chA tq tx) (at9 + i))), .int ft6, .ref w6, .ref w7, .int it, .ref w8, .ref w9, .int dp, .int tv, .int tn, .int tb, .int th, .int te, .long hh]), (w5, ee_i E 80 tx)] H := hP
              have hD : va_D A [(w0, ee_o 9 [.ref w1, .ref w2, .ref w3, .ref w4, .float pt, .float pa, .float p1, .float p2, .ref w5, .int (nI tq), .int (nI (skp (chA tq tx) (at9 + i))), .int ft6, .ref w6, .ref w7, .int it, .ref w8, .ref w9, .int dp, .int tv, .int tn, .int tb, .int th, .int te, .long hh]), (w5, ee_i E 80 tx)] := hD
              refine lv_iload_n hx hb dX9_readsNumber_97 rfl (lv_at hl 0 rfl) ?_
              exact ee_fi hQ hx hb hr (rfl) hlocks hS (skp (chA tq tx) (at9 + i), ft6) (⟨congrArg nI n1.symm, by rw [n2], by rw [q6, if_pos rfl]; exact (nf_1 hv9).symm⟩) hP hD dX9_readsNumber_98
  exact B_1 ((2 - 0) + 1) 0 0 _ _ _ (Nat.lt_succ_self _) (by omega) rfl (fun j h => absurd h (Nat.not_lt_zero _)) hP hD hS (lv_sub hl [0, 1, 2, 3] rfl)
