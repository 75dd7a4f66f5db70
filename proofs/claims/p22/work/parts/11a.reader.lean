/-! the reader: blanks, digits -/
abbrev rmX3_digitAt : Room := ({ frames := 1, cells := 0, slots := 0, locals := 22 } : Room)
theorem w1_X3_digitAt : Cond.fieldLink RX3 12 "LabelApplicator$Reader" "text" "LLabelApplicator$Text;" ∈ wsX3_digitAt := List.mem_of_getElem? (i := 1) (by decide +kernel)
theorem w2_X3_digitAt : Cond.methodLink RX3 55 yX7_byteAt ∈ wsX3_digitAt := List.mem_of_getElem? (i := 2) (by decide +kernel)
theorem w5_X3_digitAt : Cond.initialized RX7 ∈ wsX3_digitAt := List.mem_of_getElem? (i := 5) (by decide +kernel)
theorem w10_X3_digitAt : Cond.initialized RX8 ∈ wsX3_digitAt := List.mem_of_getElem? (i := 10) (by decide +kernel)
theorem i3_X3_digitAt : ∀ w ∈ wsX30, w ∈ wsX3_digitAt := fun w h => (goodIn_r _ [12, 13, 14, 15, 16, 17, 18, 19] (by decide +kernel) (by decide +kernel) w h).1
theorem i7_X3_digitAt : ∀ w ∈ wsX70, w ∈ wsX3_digitAt := fun w h => (goodIn_r _ [20, 21] (by decide +kernel) (by decide +kernel) w h).1
set_option maxHeartbeats 4000000 in
set_option maxRecDepth 100000 in
theorem kX3_digitAt (l : Launch) (E : ee_T) (o2 r2 o1 r5 r6 : Nat) (tm ft : Int32) (dp at9 : Nat) (o7 tq : Nat) (tx : Nat → Int32) (i : Nat) (htq : tq ≤ 80) (hi : i < 2 ^ 31) : CQ l E yX3_digitAt wsX3_digitAt rmX3_digitAt [.ref o2, .int (nI i)] [(o2, ee_o 3 [.ref o1, .ref r2, .int tm, .int ft, .ref r5, .ref r6, .int (nI dp), .int (nI at9)]), (o1, ee_o 7 [.ref o7, .int (nI tq)]), (o7, ee_b E 80 tx)] (QI E (fun (r : Int32) (u : Unit) => (dgB (chA tq tx i) = true ∧ r = nI (dgV (chA tq tx i)) ∧ dgV (chA tq tx i) ≤ 9) ∨ (dgB (chA tq tx i) = false ∧ r = (-1))) (fun (u : Unit) => [(o2, ee_o 3 [.ref o1, .ref r2, .int tm, .int ft, .ref r5, .ref r6, .int (nI dp), .int (nI at9)]), (o1, ee_o 7 [.ref o7, .int (nI tq)]), (o7, ee_b E 80 tx)])) 0 0 := by
  refine CQ_ofW (cc := cX3_digitAt) (maxL := 3) (ret := (some .int)) (by decide) rfl (Nat.le_of_ble_eq_true rfl) ?_
  intro p e s m below meth c A Q hQ hx hb hr hml hown hlocks hnm hts hV hA hP hD hS ls hl
  have hl : lv_has ls 3 [(0, .ref o2), (1, .int (nI i))] := hl
  refine lv_aload_n hx hb dX3_digitAt_0 rfl (lv_at hl 0 rfl) ?_
  refine va_get (ci := 3) (v := .ref o1) (C := RX3) (T := TX3) (N := 8) hx hb hts i3_X3_digitAt hown hV.1 hP 0 rfl rfl 0 (by decide) (hts _ w1_X3_digitAt) (fun _ h9 => h9) rfl dX3_digitAt_1 ?_
  refine lv_iload_n hx hb dX3_digitAt_4 rfl (lv_at hl 1 rfl) ?_
  refine ee_ki (wr := [(o2, ee_o 3 [.ref o1, .ref r2, .int tm, .int ft, .ref r5, .ref r6, .int (nI dp), .int (nI at9)])]) (ee_rV (As := [.int (nI i)]) (rest := []) (kX7_byteAt l E o1 o7 tq tx i (by omega) (by omega)) hx hb hml hown hts 1 gX3_digitAt_X7_byteAt rfl rfl rfl (by decide +kernel) ⟨Nat.le_of_ble_eq_true rfl, Nat.le_of_ble_eq_true rfl⟩ hV hP hD hS hA [1, 2] rfl (by decide) hl 1 rfl rfl rfl rfl (Nat.le_of_ble_eq_true rfl) dX3_digitAt_5 ⟨Nat.le_of_ble_eq_true rfl, Nat.le_of_ble_eq_true rfl⟩) hP hD hS hA [1, 2] [0] rfl rfl (by decide) (by decide) (fun r_1 u_2 H locs hp_3 hP hD hS => ?_)
  subst hp_3
  have hP : va_P E.1 vwCl [(o2, ee_o 3 [.ref o1, .ref r2, .int tm, .int ft, .ref r5, .ref r6, .int (nI dp), .int (nI at9)]), (o1, ee_o 7 [.ref o7, .int (nI tq)]), (o7, ee_b E 80 tx)] H := hP
  have hD : va_D A [(o2, ee_o 3 [.ref o1, .ref r2, .int tm, .int ft, .ref r5, .ref r6, .int (nI dp), .int (nI at9)]), (o1, ee_o 7 [.ref o7, .int (nI tq)]), (o7, ee_b E 80 tx)] := hD
  refine ee_to (z := chA tq tx i) (rfl) ?_
  refine lv_istore_n (lv' := [(2, .int (chA tq tx i)), (0, .ref o2), (1, .int (nI i))]) hx hb dX3_digitAt_8 rfl hl (by decide) rfl (fun ls hl => ?_)
  refine lv_iload_n hx hb dX3_digitAt_9 rfl (lv_at hl 0 rfl) ?_
  refine lv_bipush (v := nI 48) hx hb dX3_digitAt_10 (by decide) ?_
  refine lv_bipush (v := nI 57) hx hb dX3_digitAt_12 (by decide) ?_
  refine ee_ki (wr := [(o2, ee_o 3 [.ref o1, .ref r2, .int tm, .int ft, .ref r5, .ref r6, .int (nI dp), .int (nI at9)]), (o1, ee_o 7 [.ref o7, .int (nI tq)]), (o7, ee_b E 80 tx)]) (ee_rSN (As := [.int (chA tq tx i), .int (nI 48), .int (nI 57)]) (rest := []) (kX8_isWithin l E (chA tq tx i) (nI 48) (nI 57)) hx hb hml hown hts 3 gX3_digitAt_X8_isWithin_n102 rfl rfl rfl hV.2.1.2.1 (hts _ w10_X3_digitAt) (hts _ (List.mem_of_getElem? (i := 9) (by decide +kernel))) (by decide +kernel) ⟨Nat.le_of_ble_eq_true rfl, Nat.le_of_ble_eq_true rfl⟩ hV hP hD hS hA [] rfl (by decide) hl rfl rfl (Nat.le_of_ble_eq_true rfl) dX3_digitAt_14 ⟨Nat.le_of_ble_eq_true rfl, Nat.le_of_ble_eq_true rfl⟩) hP hD hS hA [] [0, 1, 2] rfl rfl (by decide) (by decide) (fun r_4 u_5 H locs hp_6 hP hD hS => ?_)
  have hP : va_P E.1 vwCl [(o2, ee_o 3 [.ref o1, .ref r2, .int tm, .int ft, .ref r5, .ref r6, .int (nI dp), .int (nI at9)]), (o1, ee_o 7 [.ref o7, .int (nI tq)]), (o7, ee_b E 80 tx)] H := hP
  have hD : va_D A [(o2, ee_o 3 [.ref o1, .ref r2, .int tm, .int ft, .ref r5, .ref r6, .int (nI dp), .int (nI at9)]), (o1, ee_o 7 [.ref o7, .int (nI tq)]), (o7, ee_b E 80 tx)] := hD
  rcases hp_6 with ⟨rfl, hc1⟩ | ⟨rfl, hc2⟩
  · obtain ⟨hn1, hn2⟩ := dg_nat hc1
    refine ee_eq0 (tgt := 27) hx hb (by omega) dX3_digitAt_17 (by decide) (fun h_9 => absurd h_9 (by decide)) (fun h_9 => ?_)
    refine lv_iload_n hx hb dX3_digitAt_20 rfl (lv_at hl 0 rfl) ?_
    refine ee_to (z := nI (dgV (chA tq tx i) + 48)) (hn1) ?_
    refine lv_bipush (v := nI 48) hx hb dX3_digitAt_21 (by decide) ?_
    refine ee_isub hx hb (by omega) dX3_digitAt_23 ?_
    refine lv_goto (tgt := 28) hx hb dX3_digitAt_24 (by decide) ?_
    exact ee_fi hQ hx hb hr (rfl) hlocks hS () (Or.inl ⟨inB_t hc1, congrArg nI (by omega), hn2⟩) hP hD dX3_digitAt_28
  · refine ee_eq0 (tgt := 27) hx hb (by omega) dX3_digitAt_17 (by decide) (fun h_10 => ?_) (fun h_10 => absurd h_10 (by decide))
    refine lv_iconst (v := (-1)) hx hb dX3_digitAt_27 (by decide) ?_
    exact ee_fi hQ hx hb hr (rfl) hlocks hS () (Or.inr ⟨inB_f hc2, rfl⟩) hP hD dX3_digitAt_28
abbrev rmX3_skipBlanks : Room := ({ frames := 1, cells := 0, slots := 0, locals := 21 } : Room)
theorem w1_X3_skipBlanks : Cond.fieldLink RX3 46 "LabelApplicator$Reader" "at" "I" ∈ wsX3_skipBlanks := List.mem_of_getElem? (i := 1) (by decide +kernel)
theorem w2_X3_skipBlanks : Cond.fieldLink RX3 12 "LabelApplicator$Reader" "text" "LLabelApplicator$Text;" ∈ wsX3_skipBlanks := List.mem_of_getElem? (i := 2) (by decide +kernel)
theorem w3_X3_skipBlanks : Cond.fieldLink RX3 52 "LabelApplicator$Text" "length" "I" ∈ wsX3_skipBlanks := List.mem_of_getElem? (i := 3) (by decide +kernel)
theorem w4_X3_skipBlanks : Cond.methodLink RX3 55 yX7_byteAt ∈ wsX3_skipBlanks := List.mem_of_getElem? (i := 4) (by decide +kernel)
theorem w7_X3_skipBlanks : Cond.initialized RX7 ∈ wsX3_skipBlanks := List.mem_of_getElem? (i := 7) (by decide +kernel)
theorem i3_X3_skipBlanks : ∀ w ∈ wsX30, w ∈ wsX3_skipBlanks := fun w h => (goodIn_r _ [11, 12, 13, 14, 15, 16, 17, 18] (by decide +kernel) (by decide +kernel) w h).1
theorem i7_X3_skipBlanks : ∀ w ∈ wsX70, w ∈ wsX3_skipBlanks := fun w h => (goodIn_r _ [19, 20] (by decide +kernel) (by decide +kernel) w h).1
set_option maxHeartbeats 4000000 in
set_option maxRecDepth 100000 in
theorem kX3_skipBlanks (l : Launch) (E : ee_T) (o2 r2 o1 r5 r6 : Nat) (tm ft : Int32) (dp at9 : Nat) (o7 tq : Nat) (tx : Nat → Int32) (htq : tq ≤ 80) (hat : at9 < 2 ^ 30) : CQ l E yX3_skipBlanks wsX3_skipBlanks rmX3_skipBlanks [.ref o2] [(o2, ee_o 3 [.ref o1, .ref r2, .int tm, .int ft, .ref r5, .ref r6, .int (nI dp), .int (nI at9)]), (o1, ee_o 7 [.ref o7, .int (nI tq)]), (o7, ee_b E 80 tx)] (QV E (fun (u : Unit) => True) (fun (u : Unit) => [(o2, ee_o 3 [.ref o1, .ref r2, .int tm, .int ft, .ref r5, .ref r6, .int (nI dp), .int (nI (skp (chA tq tx) at9))]), (o1, ee_o 7 [.ref o7, .int (nI tq)]), (o7, ee_b E 80 tx)])) 0 0 := by
  refine CQ_ofW (cc := cX3_skipBlanks) (maxL := 1) (ret := none) (by decide) rfl (Nat.le_of_ble_eq_true rfl) ?_
  intro p e s m below meth c A Q hQ hx hb hr hml hown hlocks hnm hts hV hA hP hD hS ls hl
  have hl : lv_has ls 1 [(0, .ref o2)] := hl
  have B_1 : ∀ (zz : Nat) (a1 : Nat) (H : Heap) (locs : List Loc) (ls : Array Slot), (tq - a1) < zz → (a1 ≤ tq ∨ a1 = at9) → (skp (chA tq tx) a1 = skp (chA tq tx) at9) → va_P E.1 vwCl [(o2, ee_o 3 [.ref o1, .ref r2, .int tm, .int ft, .ref r5, .ref r6, .int (nI dp), .int (nI a1)]), (o1, ee_o 7 [.ref o7, .int (nI tq)]), (o7, ee_b E 80 tx)] H → va_D A [(o2, ee_o 3 [.ref o1, .ref r2, .int tm, .int ft, .ref r5, .ref r6, .int (nI dp), .int (nI a1)]), (o1, ee_o 7 [.ref o7, .int (nI tq)]), (o7, ee_b E 80 tx)] → va_S A s.heap H locs → lv_has ls 1 [(0, .ref o2)] → W p l e rmX3_skipBlanks s m [.ref o2].toArray below meth c H locs 0 0 Q (F0 m 0 ls []) := by
    intro zz
    induction zz with
    | zero => intro a1 H locs ls hzz; exact absurd hzz (Nat.not_lt_zero _)
    | succ zz ihB_1 =>
      intro a1 H locs ls hzz ha1 hs hP hD hS hl
      refine lv_aload_n hx hb dX3_skipBlanks_0 rfl (lv_at hl 0 rfl) ?_
      refine va_get (ci := 3) (v := .int (nI a1)) (C := RX3) (T := TX3) (N := 8) hx hb hts i3_X3_skipBlanks hown hV.1 hP 0 rfl rfl 7 (by decide) (hts _ w1_X3_skipBlanks) (fun _ h9 => h9) rfl dX3_skipBlanks_1 ?_
      refine lv_aload_n hx hb dX3_skipBlanks_4 rfl (lv_at hl 0 rfl) ?_
      refine va_get (ci := 3) (v := .ref o1) (C := RX3) (T := TX3) (N := 8) hx hb hts i3_X3_skipBlanks hown hV.1 hP 0 rfl rfl 0 (by decide) (hts _ w2_X3_skipBlanks) (fun _ h9 => h9) rfl dX3_skipBlanks_5 ?_
      refine va_get (ci := 7) (v := .int (nI tq)) (C := RX7) (T := TX7) (N := 2) hx hb hts i7_X3_skipBlanks hown hV.1 hP 1 rfl rfl 1 (by decide) (hts _ w3_X3_skipBlanks) (fun _ h9 => h9) rfl dX3_skipBlanks_8 ?_
      refine ee_ge (tgt := 43) hx hb (by omega) (by omega) dX3_skipBlanks_11 (by decide) (fun g11 => ?_) (fun g11 => ?_)
      · have he : a1 = skp (chA tq tx) at9 := (skp_n (fun q => by have := chA_lt (by decide) q.2; omega)).symm.trans hs
        rw [he] at hP hD
        exact ee_fv hQ hx hb hr hlocks hS () (trivial) hP hD dX3_skipBlanks_43
      · refine lv_aload_n hx hb dX3_skipBlanks_14 rfl (lv_at hl 0 rfl) ?_
        refine va_get (ci := 3) (v := .ref o1) (C := RX3) (T := TX3) (N := 8) hx hb hts i3_X3_skipBlanks hown hV.1 hP 0 rfl rfl 0 (by decide) (hts _ w2_X3_skipBlanks) (fun _ h9 => h9) rfl dX3_skipBlanks_15 ?_
        refine lv_aload_n hx hb dX3_skipBlanks_18 rfl (lv_at hl 0 rfl) ?_
        refine va_get (ci := 3) (v := .int (nI a1)) (C := RX3) (T := TX3) (N := 8) hx hb hts i3_X3_skipBlanks hown hV.1 hP 0 rfl rfl 7 (by decide) (hts _ w1_X3_skipBlanks) (fun _ h9 => h9) rfl dX3_skipBlanks_19 ?_
        refine ee_ki (wr := [(o2, ee_o 3 [.ref o1, .ref r2, .int tm, .int ft, .ref r5, .ref r6, .int (nI dp), .int (nI a1)])]) (ee_rV (As := [.int (nI a1)]) (rest := []) (kX7_byteAt l E o1 o7 tq tx a1 (by omega) (by omega)) hx hb hml hown hts 1 gX3_skipBlanks_X7_byteAt rfl rfl rfl (by decide +kernel) ⟨Nat.le_of_ble_eq_true rfl, Nat.le_of_ble_eq_true rfl⟩ hV hP hD hS hA [1, 2] rfl (by decide) hl 1 rfl rfl rfl rfl (Nat.le_of_ble_eq_true rfl) dX3_skipBlanks_22 ⟨Nat.le_of_ble_eq_true rfl, Nat.le_of_ble_eq_true rfl⟩) hP hD hS hA [1, 2] [0] rfl rfl (by decide) (by decide) (fun r_2 u_3 H locs hp_4 hP hD hS => ?_)
        subst hp_4
        have hP : va_P E.1 vwCl [(o2, ee_o 3 [.ref o1, .ref r2, .int tm, .int ft, .ref r5, .ref r6, .int (nI dp), .int (nI a1)]), (o1, ee_o 7 [.ref o7, .int (nI tq)]), (o7, ee_b E 80 tx)] H := hP
        have hD : va_D A [(o2, ee_o 3 [.ref o1, .ref r2, .int tm, .int ft, .ref r5, .ref r6, .int (nI dp), .int (nI a1)]), (o1, ee_o 7 [.ref o7, .int (nI tq)]), (o7, ee_b E 80 tx)] := hD
        refine ee_to (z := chA tq tx a1) (rfl) ?_
        refine lv_bipush (v := nI 32) hx hb dX3_skipBlanks_25 (by decide) ?_
        refine lv_icmp_ne (tgt := 43) hx hb dX3_skipBlanks_27 (by decide) (fun g27 => ?_) (fun g27 => ?_)
        · have he : a1 = skp (chA tq tx) at9 := (skp_n (fun q => g27 q.2)).symm.trans hs
          rw [he] at hP hD
          exact ee_fv hQ hx hb hr hlocks hS () (trivial) hP hD dX3_skipBlanks_43
        · refine lv_aload_n hx hb dX3_skipBlanks_30 rfl (lv_at hl 0 rfl) ?_
          refine lv_dup hx hb dX3_skipBlanks_31 rfl ?_
          refine va_get (ci := 3) (v := .int (nI a1)) (C := RX3) (T := TX3) (N := 8) hx hb hts i3_X3_skipBlanks hown hV.1 hP 0 rfl rfl 7 (by decide) (hts _ w1_X3_skipBlanks) (fun _ h9 => h9) rfl dX3_skipBlanks_32 ?_
          refine lv_iconst (v := nI 1) hx hb dX3_skipBlanks_35 (by decide) ?_
          refine ee_iadd hx hb dX3_skipBlanks_36 ?_
          refine va_put (ci := 3) (v := .int (nI (a1 + 1))) (ty := .int) (C := RX3) (T := TX3) (N := 8) hx hb hts i3_X3_skipBlanks tyX3 tyX3_ok nmX3 hown hV.1 hP hD hS 0 rfl rfl 7 (by decide) (hts _ w1_X3_skipBlanks) (fun _ h9 => h9) rfl (by decide +kernel) rfl rfl (Nat.le_of_ble_eq_true rfl) dX3_skipBlanks_37 (fun H locs hP hD hS => ?_)
          have hP : va_P E.1 vwCl [(o2, ee_o 3 [.ref o1, .ref r2, .int tm, .int ft, .ref r5, .ref r6, .int (nI dp), .int (nI (a1 + 1))]), (o1, ee_o 7 [.ref o7, .int (nI tq)]), (o7, ee_b E 80 tx)] H := hP
          have hD : va_D A [(o2, ee_o 3 [.ref o1, .ref r2, .int tm, .int ft, .ref r5, .ref r6, .int (nI dp), .int (nI (a1 + 1))]), (o1, ee_o 7 [.ref o7, .int (nI tq)]), (o7, ee_b E 80 tx)] := hD
          refine lv_goto (tgt := 0) hx hb dX3_skipBlanks_40 (by decide) ?_
          exact ihB_1 (a1 + 1) _ _ _ (by omega) (by omega) ((skp_y (by omega) g27).symm.trans hs) hP hD hS (lv_sub hl [0] rfl)
  exact B_1 ((tq - at9) + 1) at9 _ _ _ (Nat.lt_succ_self _) (by omega) rfl hP hD hS (lv_sub hl [0] rfl)
abbrev rmX3_kindNamed : Room := ({ frames := 0, cells := 0, slots := 0, locals := 0 } : Room)
set_option maxHeartbeats 4000000 in
set_option maxRecDepth 100000 in
theorem kX3_kindNamed (l : Launch) (E : ee_T) (c0 : Int32)  : CQ l E yX3_kindNamed wsX3_kindNamed rmX3_kindNamed [.int c0] [] (QI E (fun (r : Int32) (u : Unit) => r = kdS c0) (fun (u : Unit) => [])) 0 0 := by
  refine CQ_ofW (cc := cX3_kindNamed) (maxL := 1) (ret := (some .int)) (by decide) rfl (Nat.le_of_ble_eq_true rfl) ?_
  intro p e s m below meth c A Q hQ hx hb hr hml hown hlocks hnm hts hV hA hP hD hS ls hl
  have hl : lv_has ls 1 [(0, .int c0)] := hl
  refine lv_iload_n hx hb dX3_kindNamed_0 rfl (lv_at hl 0 rfl) ?_
  by_cases k98 : c0 = nI 98
  · subst k98
    refine lv_lookup (off := 47) (tgt := 48) hx hb dX3_kindNamed_1 (by decide) (by decide) (by decide) ?_
    refine lv_iconst (v := nI 2) hx hb dX3_kindNamed_48 (by decide) ?_
    exact ee_fi hQ hx hb hr (rfl) hlocks hS () (rfl) hP hD dX3_kindNamed_49
  by_cases k103 : c0 = nI 103
  · subst k103
    refine lv_lookup (off := 45) (tgt := 46) hx hb dX3_kindNamed_1 (by decide) (by decide) (by decide) ?_
    refine lv_iconst (v := nI 1) hx hb dX3_kindNamed_46 (by decide) ?_
    exact ee_fi hQ hx hb hr (rfl) hlocks hS () (rfl) hP hD dX3_kindNamed_47
  by_cases k108 : c0 = nI 108
  · subst k108
    refine lv_lookup (off := 43) (tgt := 44) hx hb dX3_kindNamed_1 (by decide) (by decide) (by decide) ?_
    refine lv_iconst (v := nI 0) hx hb dX3_kindNamed_44 (by decide) ?_
    exact ee_fi hQ hx hb hr (rfl) hlocks hS () (rfl) hP hD dX3_kindNamed_45
  by_cases k115 : c0 = nI 115
  · subst k115
    refine lv_lookup (off := 49) (tgt := 50) hx hb dX3_kindNamed_1 (by decide) (by decide) (by decide) ?_
    refine lv_iconst (v := nI 3) hx hb dX3_kindNamed_50 (by decide) ?_
    exact ee_fi hQ hx hb hr (rfl) hlocks hS () (rfl) hP hD dX3_kindNamed_51
  refine lv_lookup (off := 51) (tgt := 52) hx hb dX3_kindNamed_1 (by decide) ((lv_osw k98 rfl).trans ((lv_osw k103 rfl).trans ((lv_osw k108 rfl).trans ((lv_osw k115 rfl).trans rfl)))) (by decide) ?_
  refine lv_iconst (v := (-1)) hx hb dX3_kindNamed_52 (by decide) ?_
  exact ee_fi hQ hx hb hr (rfl) hlocks hS () (by rw [kdS, if_neg k108, if_neg k103, if_neg k98, if_neg k115]) hP hD dX3_kindNamed_53
abbrev rmX3_readNumber : Room := ({ frames := 2, cells := 0, slots := 0, locals := 44 } : Room)
theorem w1_X3_readNumber : Cond.fieldLink RX3 46 "LabelApplicator$Reader" "at" "I" ∈ wsX3_readNumber := List.mem_of_getElem? (i := 1) (by decide +kernel)
theorem w2_X3_readNumber : Cond.fieldLink RX3 39 "LabelApplicator$Reader" "fault" "I" ∈ wsX3_readNumber := List.mem_of_getElem? (i := 2) (by decide +kernel)
theorem w3_X3_readNumber : Cond.methodLink RX3 65 yX3_digitAt ∈ wsX3_readNumber := List.mem_of_getElem? (i := 3) (by decide +kernel)
theorem w6_X3_readNumber : Cond.initialized RX3 ∈ wsX3_readNumber := List.mem_of_getElem? (i := 6) (by decide +kernel)
theorem w8_X3_readNumber : Cond.fieldLink RX3 12 "LabelApplicator$Reader" "text" "LLabelApplicator$Text;" ∈ wsX3_readNumber := List.mem_of_getElem? (i := 8) (by decide +kernel)
theorem w9_X3_readNumber : Cond.methodLink RX3 55 yX7_byteAt ∈ wsX3_readNumber := List.mem_of_getElem? (i := 9) (by decide +kernel)
theorem w12_X3_readNumber : Cond.initialized RX7 ∈ wsX3_readNumber := List.mem_of_getElem? (i := 12) (by decide +kernel)
theorem w17_X3_readNumber : Cond.initialized RX8 ∈ wsX3_readNumber := List.mem_of_getElem? (i := 17) (by decide +kernel)
theorem i3_X3_readNumber : ∀ w ∈ wsX30, w ∈ wsX3_readNumber := fun w h => (goodIn_r _ [19, 20, 21, 22, 23, 24, 25, 26] (by decide +kernel) (by decide +kernel) w h).1
theorem i7_X3_readNumber : ∀ w ∈ wsX70, w ∈ wsX3_readNumber := fun w h => (goodIn_r _ [27, 28] (by decide +kernel) (by decide +kernel) w h).1
set_option maxHeartbeats 4000000 in
set_option maxRecDepth 100000 in
theorem kX3_readNumber (l : Launch) (E : ee_T) (o2 r2 o1 r5 r6 : Nat) (tm : Int32) (dp at9 : Nat) (o7 tq : Nat) (tx : Nat → Int32) (mx : Nat) (htq : tq ≤ 80) (hat : at9 < 2 ^ 30) (hmx : mx ≤ 99) : CQ l E yX3_readNumber wsX3_readNumber rmX3_readNumber [.ref o2, .int (nI mx)] [(o2, ee_o 3 [.ref o1, .ref r2, .int tm, .int (-1), .ref r5, .ref r6, .int (nI dp), .int (nI at9)]), (o1, ee_o 7 [.ref o7, .int (nI tq)]), (o7, ee_b E 80 tx)] (QI E (fun (r : Int32) (u : Nat × Int32) => r = nI (nmV (chA tq tx) at9) ∧ u.1 = nmE (chA tq tx) at9 ∧ u.2 = nmF (chA tq tx) mx at9) (fun (u : Nat × Int32) => [(o2, ee_o 3 [.ref o1, .ref r2, .int tm, .int u.2, .ref r5, .ref r6, .int (nI dp), .int (nI u.1)]), (o1, ee_o 7 [.ref o7, .int (nI tq)]), (o7, ee_b E 80 tx)])) 0 0 := by
  refine CQ_ofW (cc := cX3_readNumber) (maxL := 4) (ret := (some .int)) (by decide) rfl (Nat.le_of_ble_eq_true rfl) ?_
  intro p e s m below meth c A Q hQ hx hb hr hml hown hlocks hnm hts hV hA hP hD hS ls hl
  have hl : lv_has ls 4 [(0, .ref o2), (1, .int (nI mx))] := hl
  refine lv_aload_n hx hb dX3_readNumber_0 rfl (lv_at hl 0 rfl) ?_
  refine va_get (ci := 3) (v := .int (nI at9)) (C := RX3) (T := TX3) (N := 8) hx hb hts i3_X3_readNumber hown hV.1 hP 0 rfl rfl 7 (by decide) (hts _ w1_X3_readNumber) (fun _ h9 => h9) rfl dX3_readNumber_1 ?_
  refine lv_istore_n (lv' := [(2, .int (nI at9)), (0, .ref o2), (1, .int (nI mx))]) hx hb dX3_readNumber_4 rfl hl (by decide) rfl (fun ls hl => ?_)
  refine lv_aload_n hx hb dX3_readNumber_5 rfl (lv_at hl 1 rfl) ?_
  refine lv_aload_n hx hb dX3_readNumber_6 rfl (lv_at hl 1 rfl) ?_
  refine va_get (ci := 3) (v := .int (nI at9)) (C := RX3) (T := TX3) (N := 8) hx hb hts i3_X3_readNumber hown hV.1 hP 0 rfl rfl 7 (by decide) (hts _ w1_X3_readNumber) (fun _ h9 => h9) rfl dX3_readNumber_7 ?_
  refine ee_ki (wr := []) (ee_rV (As := [.int (nI at9)]) (rest := []) (kX3_digitAt l E o2 r2 o1 r5 r6 tm (-1) dp at9 o7 tq tx at9 (by omega) (by omega)) hx hb hml hown hts 1 gX3_readNumber_X3_digitAt rfl rfl rfl (by decide +kernel) ⟨Nat.le_of_ble_eq_true rfl, Nat.le_of_ble_eq_true rfl⟩ hV hP hD hS hA [0, 1, 2] rfl (by decide) hl 0 rfl rfl rfl rfl (Nat.le_of_ble_eq_true rfl) dX3_readNumber_10 ⟨Nat.le_of_ble_eq_true rfl, Nat.le_of_ble_eq_true rfl⟩) hP hD hS hA [0, 1, 2] [] rfl rfl (by decide) (by decide) (fun r_1 u_2 H locs hp_3 hP hD hS => ?_)
  have hP : va_P E.1 vwCl [(o2, ee_o 3 [.ref o1, .ref r2, .int tm, .int (-1), .ref r5, .ref r6, .int (nI dp), .int (nI at9)]), (o1, ee_o 7 [.ref o7, .int (nI tq)]), (o7, ee_b E 80 tx)] H := hP
  have hD : va_D A [(o2, ee_o 3 [.ref o1, .ref r2, .int tm, .int (-1), .ref r5, .ref r6, .int (nI dp), .int (nI at9)]), (o1, ee_o 7 [.ref o7, .int (nI tq)]), (o7, ee_b E 80 tx)] := hD
  rcases hp_3 with ⟨hd1, rfl, hd1b⟩ | ⟨hd1, rfl⟩
  · refine lv_istore_n (lv' := [(3, .int (nI (dgV (chA tq tx at9)))), (2, .int (nI at9)), (0, .ref o2), (1, .int (nI mx))]) hx hb dX3_readNumber_13 rfl hl (by decide) rfl (fun ls hl => ?_)
    refine lv_iload_n hx hb dX3_readNumber_14 rfl (lv_at hl 0 rfl) ?_
    refine lv_iconst (v := (-1)) hx hb dX3_readNumber_15 (by decide) ?_
    refine lv_icmp_ne (tgt := 29) hx hb dX3_readNumber_16 (by decide) (fun h_6 => ?_) (fun h_6 => absurd h_6 (nI_m1 (by omega)))
    refine lv_aload_n hx hb dX3_readNumber_29 rfl (lv_at hl 2 rfl) ?_
    refine lv_dup hx hb dX3_readNumber_30 rfl ?_
    refine va_get (ci := 3) (v := .int (nI at9)) (C := RX3) (T := TX3) (N := 8) hx hb hts i3_X3_readNumber hown hV.1 hP 0 rfl rfl 7 (by decide) (hts _ w1_X3_readNumber) (fun _ h9 => h9) rfl dX3_readNumber_31 ?_
    refine lv_iconst (v := nI 1) hx hb dX3_readNumber_34 (by decide) ?_
    refine ee_iadd hx hb dX3_readNumber_35 ?_
    refine va_put (ci := 3) (v := .int (nI (at9 + 1))) (ty := .int) (C := RX3) (T := TX3) (N := 8) hx hb hts i3_X3_readNumber tyX3 tyX3_ok nmX3 hown hV.1 hP hD hS 0 rfl rfl 7 (by decide) (hts _ w1_X3_readNumber) (fun _ h9 => h9) rfl (by decide +kernel) rfl rfl (Nat.le_of_ble_eq_true rfl) dX3_readNumber_36 (fun H locs hP hD hS => ?_)
    have hP : va_P E.1 vwCl [(o2, ee_o 3 [.ref o1, .ref r2, .int tm, .int (-1), .ref r5, .ref r6, .int (nI dp), .int (nI (at9 + 1))]), (o1, ee_o 7 [.ref o7, .int (nI tq)]), (o7, ee_b E 80 tx)] H := hP
    have hD : va_D A [(o2, ee_o 3 [.ref o1, .ref r2, .int tm, .int (-1), .ref r5, .ref r6, .int (nI dp), .int (nI (at9 + 1))]), (o1, ee_o 7 [.ref o7, .int (nI tq)]), (o7, ee_b E 80 tx)] := hD
    refine lv_aload_n hx hb dX3_readNumber_39 rfl (lv_at hl 2 rfl) ?_
    refine lv_aload_n hx hb dX3_readNumber_40 rfl (lv_at hl 2 rfl) ?_
    refine va_get (ci := 3) (v := .int (nI (at9 + 1))) (C := RX3) (T := TX3) (N := 8) hx hb hts i3_X3_readNumber hown hV.1 hP 0 rfl rfl 7 (by decide) (hts _ w1_X3_readNumber) (fun _ h9 => h9) rfl dX3_readNumber_41 ?_
    refine ee_ki (wr := []) (ee_rV (As := [.int (nI (at9 + 1))]) (rest := []) (kX3_digitAt l E o2 r2 o1 r5 r6 tm (-1) dp (at9 + 1) o7 tq tx (at9 + 1) (by omega) (by omega)) hx hb hml hown hts 1 gX3_readNumber_X3_digitAt rfl rfl rfl (by decide +kernel) ⟨Nat.le_of_ble_eq_true rfl, Nat.le_of_ble_eq_true rfl⟩ hV hP hD hS hA [0, 1, 2] rfl (by decide) hl 0 rfl rfl rfl rfl (Nat.le_of_ble_eq_true rfl) dX3_readNumber_44 ⟨Nat.le_of_ble_eq_true rfl, Nat.le_of_ble_eq_true rfl⟩) hP hD hS hA [0, 1, 2] [] rfl rfl (by decide) (by decide) (fun r_7 u_8 H locs hp_9 hP hD hS => ?_)
    have hP : va_P E.1 vwCl [(o2, ee_o 3 [.ref o1, .ref r2, .int tm, .int (-1), .ref r5, .ref r6, .int (nI dp), .int (nI (at9 + 1))]), (o1, ee_o 7 [.ref o7, .int (nI tq)]), (o7, ee_b E 80 tx)] H := hP
    have hD : va_D A [(o2, ee_o 3 [.ref o1, .ref r2, .int tm, .int (-1), .ref r5, .ref r6, .int (nI dp), .int (nI (at9 + 1))]), (o1, ee_o 7 [.ref o7, .int (nI tq)]), (o7, ee_b E 80 tx)] := hD
    rcases hp_9 with ⟨hd2, rfl, hd2b⟩ | ⟨hd2, rfl⟩
    · refine lv_iconst (v := (-1)) hx hb dX3_readNumber_47 (by decide) ?_
      refine lv_icmp_eq (tgt := 75) hx hb dX3_readNumber_48 (by decide) (fun h_12 => absurd h_12 (nI_m1 (by omega))) (fun h_12 => ?_)
      refine lv_bipush (v := nI 10) hx hb dX3_readNumber_51 (by decide) ?_
      refine lv_iload_n hx hb dX3_readNumber_53 rfl (lv_at hl 0 rfl) ?_
      refine ee_imul hx hb dX3_readNumber_54 ?_
      refine lv_aload_n hx hb dX3_readNumber_55 rfl (lv_at hl 2 rfl) ?_
      refine lv_aload_n hx hb dX3_readNumber_56 rfl (lv_at hl 2 rfl) ?_
      refine va_get (ci := 3) (v := .int (nI (at9 + 1))) (C := RX3) (T := TX3) (N := 8) hx hb hts i3_X3_readNumber hown hV.1 hP 0 rfl rfl 7 (by decide) (hts _ w1_X3_readNumber) (fun _ h9 => h9) rfl dX3_readNumber_57 ?_
      refine ee_ki (wr := []) (ee_rV (As := [.int (nI (at9 + 1))]) (rest := [.int (nI (10 * (dgV (chA tq tx at9))))]) (kX3_digitAt l E o2 r2 o1 r5 r6 tm (-1) dp (at9 + 1) o7 tq tx (at9 + 1) (by omega) (by omega)) hx hb hml hown hts 1 gX3_readNumber_X3_digitAt rfl rfl rfl (by decide +kernel) ⟨Nat.le_of_ble_eq_true rfl, Nat.le_of_ble_eq_true rfl⟩ hV hP hD hS hA [0, 1, 2] rfl (by decide) hl 0 rfl rfl rfl rfl (Nat.le_of_ble_eq_true rfl) dX3_readNumber_60 ⟨Nat.le_of_ble_eq_true rfl, Nat.le_of_ble_eq_true rfl⟩) hP hD hS hA [0, 1, 2] [] rfl rfl (by decide) (by decide) (fun r_13 u_14 H locs hp_15 hP hD hS => ?_)
      have hP : va_P E.1 vwCl [(o2, ee_o 3 [.ref o1, .ref r2, .int tm, .int (-1), .ref r5, .ref r6, .int (nI dp), .int (nI (at9 + 1))]), (o1, ee_o 7 [.ref o7, .int (nI tq)]), (o7, ee_b E 80 tx)] H := hP
      have hD : va_D A [(o2, ee_o 3 [.ref o1, .ref r2, .int tm, .int (-1), .ref r5, .ref r6, .int (nI dp), .int (nI (at9 + 1))]), (o1, ee_o 7 [.ref o7, .int (nI tq)]), (o7, ee_b E 80 tx)] := hD
      rcases hp_15 with ⟨hc5, rfl, hc5b⟩ | ⟨hc5, rfl⟩
      · refine ee_iadd hx hb dX3_readNumber_63 ?_
        refine lv_istore_n (lv' := [(3, .int (nI ((10 * (dgV (chA tq tx at9))) + (dgV (chA tq tx (at9 + 1)))))), (2, .int (nI at9)), (0, .ref o2), (1, .int (nI mx))]) hx hb dX3_readNumber_64 rfl hl (by decide) rfl (fun ls hl => ?_)
        refine lv_aload_n hx hb dX3_readNumber_65 rfl (lv_at hl 2 rfl) ?_
        refine lv_dup hx hb dX3_readNumber_66 rfl ?_
        refine va_get (ci := 3) (v := .int (nI (at9 + 1))) (C := RX3) (T := TX3) (N := 8) hx hb hts i3_X3_readNumber hown hV.1 hP 0 rfl rfl 7 (by decide) (hts _ w1_X3_readNumber) (fun _ h9 => h9) rfl dX3_readNumber_67 ?_
        refine lv_iconst (v := nI 1) hx hb dX3_readNumber_70 (by decide) ?_
        refine ee_iadd hx hb dX3_readNumber_71 ?_
        refine va_put (ci := 3) (v := .int (nI (at9 + 1 + 1))) (ty := .int) (C := RX3) (T := TX3) (N := 8) hx hb hts i3_X3_readNumber tyX3 tyX3_ok nmX3 hown hV.1 hP hD hS 0 rfl rfl 7 (by decide) (hts _ w1_X3_readNumber) (fun _ h9 => h9) rfl (by decide +kernel) rfl rfl (Nat.le_of_ble_eq_true rfl) dX3_readNumber_72 (fun H locs hP hD hS => ?_)
        have hP : va_P E.1 vwCl [(o2, ee_o 3 [.ref o1, .ref r2, .int tm, .int (-1), .ref r5, .ref r6, .int (nI dp), .int (nI (at9 + 1 + 1))]), (o1, ee_o 7 [.ref o7, .int (nI tq)]), (o7, ee_b E 80 tx)] H := hP
        have hD : va_D A [(o2, ee_o 3 [.ref o1, .ref r2, .int tm, .int (-1), .ref r5, .ref r6, .int (nI dp), .int (nI (at9 + 1 + 1))]), (o1, ee_o 7 [.ref o7, .int (nI tq)]), (o7, ee_b E 80 tx)] := hD
        refine lv_iload_n hx hb dX3_readNumber_75 rfl (lv_at hl 0 rfl) ?_
        refine ee_eq0 (tgt := 84) hx hb (by omega) dX3_readNumber_76 (by decide) (fun h_18 => ?_) (fun h_18 => ?_)
        · refine lv_aload_n hx hb dX3_readNumber_84 rfl (lv_at hl 2 rfl) ?_
          refine lv_iload_n hx hb dX3_readNumber_85 rfl (lv_at hl 1 rfl) ?_
          refine va_put (ci := 3) (v := .int (nI at9)) (ty := .int) (C := RX3) (T := TX3) (N := 8) hx hb hts i3_X3_readNumber tyX3 tyX3_ok nmX3 hown hV.1 hP hD hS 0 rfl rfl 3 (by decide) (hts _ w2_X3_readNumber) (fun _ h9 => h9) rfl (by decide +kernel) rfl rfl (Nat.le_of_ble_eq_true rfl) dX3_readNumber_86 (fun H locs hP hD hS => ?_)
          have hP : va_P E.1 vwCl [(o2, ee_o 3 [.ref o1, .ref r2, .int tm, .int (nI at9), .ref r5, .ref r6, .int (nI dp), .int (nI (at9 + 1 + 1))]), (o1, ee_o 7 [.ref o7, .int (nI tq)]), (o7, ee_b E 80 tx)] H := hP
          have hD : va_D A [(o2, ee_o 3 [.ref o1, .ref r2, .int tm, .int (nI at9), .ref r5, .ref r6, .int (nI dp), .int (nI (at9 + 1 + 1))]), (o1, ee_o 7 [.ref o7, .int (nI tq)]), (o7, ee_b E 80 tx)] := hD
          refine lv_goto (tgt := 112) hx hb dX3_readNumber_89 (by decide) ?_
          refine lv_iload_n hx hb dX3_readNumber_112 rfl (lv_at hl 0 rfl) ?_
          obtain ⟨n1, n2⟩ := nm_b hd1 hd2
          exact ee_fi hQ hx hb hr (rfl) hlocks hS (at9 + 1 + 1, nI at9) (⟨congrArg nI n1.symm, n2.symm, (nf_1 (by rw [n1]; omega)).symm⟩) hP hD dX3_readNumber_113
        · refine lv_iload_n hx hb dX3_readNumber_79 rfl (lv_at hl 0 rfl) ?_
          refine lv_iload_n hx hb dX3_readNumber_80 rfl (lv_at hl 3 rfl) ?_
          refine ee_le (tgt := 92) hx hb (by omega) (by omega) dX3_readNumber_81 (by decide) (fun h_19 => ?_) (fun h_19 => ?_)
          · refine lv_aload_n hx hb dX3_readNumber_92 rfl (lv_at hl 2 rfl) ?_
            refine lv_aload_n hx hb dX3_readNumber_93 rfl (lv_at hl 2 rfl) ?_
            refine va_get (ci := 3) (v := .int (nI (at9 + 1 + 1))) (C := RX3) (T := TX3) (N := 8) hx hb hts i3_X3_readNumber hown hV.1 hP 0 rfl rfl 7 (by decide) (hts _ w1_X3_readNumber) (fun _ h9 => h9) rfl dX3_readNumber_94 ?_
            refine ee_ki (wr := []) (ee_rV (As := [.int (nI (at9 + 1 + 1))]) (rest := []) (kX3_digitAt l E o2 r2 o1 r5 r6 tm (-1) dp (at9 + 1 + 1) o7 tq tx (at9 + 1 + 1) (by omega) (by omega)) hx hb hml hown hts 1 gX3_readNumber_X3_digitAt rfl rfl rfl (by decide +kernel) ⟨Nat.le_of_ble_eq_true rfl, Nat.le_of_ble_eq_true rfl⟩ hV hP hD hS hA [0, 1, 2] rfl (by decide) hl 0 rfl rfl rfl rfl (Nat.le_of_ble_eq_true rfl) dX3_readNumber_97 ⟨Nat.le_of_ble_eq_true rfl, Nat.le_of_ble_eq_true rfl⟩) hP hD hS hA [0, 1, 2] [] rfl rfl (by decide) (by decide) (fun r_20 u_21 H locs hp_22 hP hD hS => ?_)
            have hP : va_P E.1 vwCl [(o2, ee_o 3 [.ref o1, .ref r2, .int tm, .int (-1), .ref r5, .ref r6, .int (nI dp), .int (nI (at9 + 1 + 1))]), (o1, ee_o 7 [.ref o7, .int (nI tq)]), (o7, ee_b E 80 tx)] H := hP
            have hD : va_D A [(o2, ee_o 3 [.ref o1, .ref r2, .int tm, .int (-1), .ref r5, .ref r6, .int (nI dp), .int (nI (at9 + 1 + 1))]), (o1, ee_o 7 [.ref o7, .int (nI tq)]), (o7, ee_b E 80 tx)] := hD
            rcases hp_22 with ⟨hd4, rfl, hd4b⟩ | ⟨hd4, rfl⟩
            · refine lv_iconst (v := (-1)) hx hb dX3_readNumber_100 (by decide) ?_
              refine lv_icmp_eq (tgt := 112) hx hb dX3_readNumber_101 (by decide) (fun h_25 => absurd h_25 (nI_m1 (by omega))) (fun h_25 => ?_)
              refine lv_aload_n hx hb dX3_readNumber_104 rfl (lv_at hl 2 rfl) ?_
              refine lv_aload_n hx hb dX3_readNumber_105 rfl (lv_at hl 2 rfl) ?_
              refine va_get (ci := 3) (v := .int (nI (at9 + 1 + 1))) (C := RX3) (T := TX3) (N := 8) hx hb hts i3_X3_readNumber hown hV.1 hP 0 rfl rfl 7 (by decide) (hts _ w1_X3_readNumber) (fun _ h9 => h9) rfl dX3_readNumber_106 ?_
              refine va_put (ci := 3) (v := .int (nI (at9 + 1 + 1))) (ty := .int) (C := RX3) (T := TX3) (N := 8) hx hb hts i3_X3_readNumber tyX3 tyX3_ok nmX3 hown hV.1 hP hD hS 0 rfl rfl 3 (by decide) (hts _ w2_X3_readNumber) (fun _ h9 => h9) rfl (by decide +kernel) rfl rfl (Nat.le_of_ble_eq_true rfl) dX3_readNumber_109 (fun H locs hP hD hS => ?_)
              have hP : va_P E.1 vwCl [(o2, ee_o 3 [.ref o1, .ref r2, .int tm, .int (nI (at9 + 1 + 1)), .ref r5, .ref r6, .int (nI dp), .int (nI (at9 + 1 + 1))]), (o1, ee_o 7 [.ref o7, .int (nI tq)]), (o7, ee_b E 80 tx)] H := hP
              have hD : va_D A [(o2, ee_o 3 [.ref o1, .ref r2, .int tm, .int (nI (at9 + 1 + 1)), .ref r5, .ref r6, .int (nI dp), .int (nI (at9 + 1 + 1))]), (o1, ee_o 7 [.ref o7, .int (nI tq)]), (o7, ee_b E 80 tx)] := hD
              refine lv_iload_n hx hb dX3_readNumber_112 rfl (lv_at hl 0 rfl) ?_
              obtain ⟨n1, n2⟩ := nm_b hd1 hd2
              exact ee_fi hQ hx hb hr (rfl) hlocks hS (at9 + 1 + 1, nI (at9 + 1 + 1)) (⟨congrArg nI n1.symm, n2.symm, (nf_2 (by rw [n1]; omega) n2 hd4).symm⟩) hP hD dX3_readNumber_113
            · refine lv_iconst (v := (-1)) hx hb dX3_readNumber_100 (by decide) ?_
              refine lv_icmp_eq (tgt := 112) hx hb dX3_readNumber_101 (by decide) (fun h_26 => ?_) (fun h_26 => absurd rfl h_26)
              refine lv_iload_n hx hb dX3_readNumber_112 rfl (lv_at hl 0 rfl) ?_
              obtain ⟨n1, n2⟩ := nm_b hd1 hd2
              exact ee_fi hQ hx hb hr (rfl) hlocks hS (at9 + 1 + 1, -1) (⟨congrArg nI n1.symm, n2.symm, (nf_3 (by rw [n1]; omega) n2 hd4).symm⟩) hP hD dX3_readNumber_113
          · refine lv_aload_n hx hb dX3_readNumber_84 rfl (lv_at hl 2 rfl) ?_
            refine lv_iload_n hx hb dX3_readNumber_85 rfl (lv_at hl 1 rfl) ?_
            refine va_put (ci := 3) (v := .int (nI at9)) (ty := .int) (C := RX3) (T := TX3) (N := 8) hx hb hts i3_X3_readNumber tyX3 tyX3_ok nmX3 hown hV.1 hP hD hS 0 rfl rfl 3 (by decide) (hts _ w2_X3_readNumber) (fun _ h9 => h9) rfl (by decide +kernel) rfl rfl (Nat.le_of_ble_eq_true rfl) dX3_readNumber_86 (fun H locs hP hD hS => ?_)
            have hP : va_P E.1 vwCl [(o2, ee_o 3 [.ref o1, .ref r2, .int tm, .int (nI at9), .ref r5, .ref r6, .int (nI dp), .int (nI (at9 + 1 + 1))]), (o1, ee_o 7 [.ref o7, .int (nI tq)]), (o7, ee_b E 80 tx)] H := hP
            have hD : va_D A [(o2, ee_o 3 [.ref o1, .ref r2, .int tm, .int (nI at9), .ref r5, .ref r6, .int (nI dp), .int (nI (at9 + 1 + 1))]), (o1, ee_o 7 [.ref o7, .int (nI tq)]), (o7, ee_b E 80 tx)] := hD
            refine lv_goto (tgt := 112) hx hb dX3_readNumber_89 (by decide) ?_
            refine lv_iload_n hx hb dX3_readNumber_112 rfl (lv_at hl 0 rfl) ?_
            obtain ⟨n1, n2⟩ := nm_b hd1 hd2
            exact ee_fi hQ hx hb hr (rfl) hlocks hS (at9 + 1 + 1, nI at9) (⟨congrArg nI n1.symm, n2.symm, (nf_1 (by rw [n1]; omega)).symm⟩) hP hD dX3_readNumber_113
      · exact absurd (hd2.symm.trans hc5) (by decide)
    · refine lv_iconst (v := (-1)) hx hb dX3_readNumber_47 (by decide) ?_
      refine lv_icmp_eq (tgt := 75) hx hb dX3_readNumber_48 (by decide) (fun h_27 => ?_) (fun h_27 => absurd rfl h_27)
      refine lv_iload_n hx hb dX3_readNumber_75 rfl (lv_at hl 0 rfl) ?_
      refine ee_eq0 (tgt := 84) hx hb (by omega) dX3_readNumber_76 (by decide) (fun h_28 => ?_) (fun h_28 => ?_)
      · refine lv_aload_n hx hb dX3_readNumber_84 rfl (lv_at hl 2 rfl) ?_
        refine lv_iload_n hx hb dX3_readNumber_85 rfl (lv_at hl 1 rfl) ?_
        refine va_put (ci := 3) (v := .int (nI at9)) (ty := .int) (C := RX3) (T := TX3) (N := 8) hx hb hts i3_X3_readNumber tyX3 tyX3_ok nmX3 hown hV.1 hP hD hS 0 rfl rfl 3 (by decide) (hts _ w2_X3_readNumber) (fun _ h9 => h9) rfl (by decide +kernel) rfl rfl (Nat.le_of_ble_eq_true rfl) dX3_readNumber_86 (fun H locs hP hD hS => ?_)
        have hP : va_P E.1 vwCl [(o2, ee_o 3 [.ref o1, .ref r2, .int tm, .int (nI at9), .ref r5, .ref r6, .int (nI dp), .int (nI (at9 + 1))]), (o1, ee_o 7 [.ref o7, .int (nI tq)]), (o7, ee_b E 80 tx)] H := hP
        have hD : va_D A [(o2, ee_o 3 [.ref o1, .ref r2, .int tm, .int (nI at9), .ref r5, .ref r6, .int (nI dp), .int (nI (at9 + 1))]), (o1, ee_o 7 [.ref o7, .int (nI tq)]), (o7, ee_b E 80 tx)] := hD
        refine lv_goto (tgt := 112) hx hb dX3_readNumber_89 (by decide) ?_
        refine lv_iload_n hx hb dX3_readNumber_112 rfl (lv_at hl 0 rfl) ?_
        obtain ⟨n1, n2⟩ := nm_c hd1 hd2
        exact ee_fi hQ hx hb hr (rfl) hlocks hS (at9 + 1, nI at9) (⟨congrArg nI n1.symm, n2.symm, (nf_1 (by rw [n1]; omega)).symm⟩) hP hD dX3_readNumber_113
      · refine lv_iload_n hx hb dX3_readNumber_79 rfl (lv_at hl 0 rfl) ?_
        refine lv_iload_n hx hb dX3_readNumber_80 rfl (lv_at hl 3 rfl) ?_
        refine ee_le (tgt := 92) hx hb (by omega) (by omega) dX3_readNumber_81 (by decide) (fun h_29 => ?_) (fun h_29 => ?_)
        · refine lv_aload_n hx hb dX3_readNumber_92 rfl (lv_at hl 2 rfl) ?_
          refine lv_aload_n hx hb dX3_readNumber_93 rfl (lv_at hl 2 rfl) ?_
          refine va_get (ci := 3) (v := .int (nI (at9 + 1))) (C := RX3) (T := TX3) (N := 8) hx hb hts i3_X3_readNumber hown hV.1 hP 0 rfl rfl 7 (by decide) (hts _ w1_X3_readNumber) (fun _ h9 => h9) rfl dX3_readNumber_94 ?_
          refine ee_ki (wr := []) (ee_rV (As := [.int (nI (at9 + 1))]) (rest := []) (kX3_digitAt l E o2 r2 o1 r5 r6 tm (-1) dp (at9 + 1) o7 tq tx (at9 + 1) (by omega) (by omega)) hx hb hml hown hts 1 gX3_readNumber_X3_digitAt rfl rfl rfl (by decide +kernel) ⟨Nat.le_of_ble_eq_true rfl, Nat.le_of_ble_eq_true rfl⟩ hV hP hD hS hA [0, 1, 2] rfl (by decide) hl 0 rfl rfl rfl rfl (Nat.le_of_ble_eq_true rfl) dX3_readNumber_97 ⟨Nat.le_of_ble_eq_true rfl, Nat.le_of_ble_eq_true rfl⟩) hP hD hS hA [0, 1, 2] [] rfl rfl (by decide) (by decide) (fun r_30 u_31 H locs hp_32 hP hD hS => ?_)
          have hP : va_P E.1 vwCl [(o2, ee_o 3 [.ref o1, .ref r2, .int tm, .int (-1), .ref r5, .ref r6, .int (nI dp), .int (nI (at9 + 1))]), (o1, ee_o 7 [.ref o7, .int (nI tq)]), (o7, ee_b E 80 tx)] H := hP
          have hD : va_D A [(o2, ee_o 3 [.ref o1, .ref r2, .int tm, .int (-1), .ref r5, .ref r6, .int (nI dp), .int (nI (at9 + 1))]), (o1, ee_o 7 [.ref o7, .int (nI tq)]), (o7, ee_b E 80 tx)] := hD
          rcases hp_32 with ⟨hd4, rfl, hd4b⟩ | ⟨hd4, rfl⟩
          · refine lv_iconst (v := (-1)) hx hb dX3_readNumber_100 (by decide) ?_
            refine lv_icmp_eq (tgt := 112) hx hb dX3_readNumber_101 (by decide) (fun h_35 => absurd h_35 (nI_m1 (by omega))) (fun h_35 => ?_)
            refine lv_aload_n hx hb dX3_readNumber_104 rfl (lv_at hl 2 rfl) ?_
            refine lv_aload_n hx hb dX3_readNumber_105 rfl (lv_at hl 2 rfl) ?_
            refine va_get (ci := 3) (v := .int (nI (at9 + 1))) (C := RX3) (T := TX3) (N := 8) hx hb hts i3_X3_readNumber hown hV.1 hP 0 rfl rfl 7 (by decide) (hts _ w1_X3_readNumber) (fun _ h9 => h9) rfl dX3_readNumber_106 ?_
            refine va_put (ci := 3) (v := .int (nI (at9 + 1))) (ty := .int) (C := RX3) (T := TX3) (N := 8) hx hb hts i3_X3_readNumber tyX3 tyX3_ok nmX3 hown hV.1 hP hD hS 0 rfl rfl 3 (by decide) (hts _ w2_X3_readNumber) (fun _ h9 => h9) rfl (by decide +kernel) rfl rfl (Nat.le_of_ble_eq_true rfl) dX3_readNumber_109 (fun H locs hP hD hS => ?_)
            have hP : va_P E.1 vwCl [(o2, ee_o 3 [.ref o1, .ref r2, .int tm, .int (nI (at9 + 1)), .ref r5, .ref r6, .int (nI dp), .int (nI (at9 + 1))]), (o1, ee_o 7 [.ref o7, .int (nI tq)]), (o7, ee_b E 80 tx)] H := hP
            have hD : va_D A [(o2, ee_o 3 [.ref o1, .ref r2, .int tm, .int (nI (at9 + 1)), .ref r5, .ref r6, .int (nI dp), .int (nI (at9 + 1))]), (o1, ee_o 7 [.ref o7, .int (nI tq)]), (o7, ee_b E 80 tx)] := hD
            refine lv_iload_n hx hb dX3_readNumber_112 rfl (lv_at hl 0 rfl) ?_
            obtain ⟨n1, n2⟩ := nm_c hd1 hd2
            exact ee_fi hQ hx hb hr (rfl) hlocks hS (at9 + 1, nI (at9 + 1)) (⟨congrArg nI n1.symm, n2.symm, (nf_2 (by rw [n1]; omega) n2 hd4).symm⟩) hP hD dX3_readNumber_113
          · refine lv_iconst (v := (-1)) hx hb dX3_readNumber_100 (by decide) ?_
            refine lv_icmp_eq (tgt := 112) hx hb dX3_readNumber_101 (by decide) (fun h_36 => ?_) (fun h_36 => absurd rfl h_36)
            refine lv_iload_n hx hb dX3_readNumber_112 rfl (lv_at hl 0 rfl) ?_
            obtain ⟨n1, n2⟩ := nm_c hd1 hd2
            exact ee_fi hQ hx hb hr (rfl) hlocks hS (at9 + 1, -1) (⟨congrArg nI n1.symm, n2.symm, (nf_3 (by rw [n1]; omega) n2 hd4).symm⟩) hP hD dX3_readNumber_113
        · refine lv_aload_n hx hb dX3_readNumber_84 rfl (lv_at hl 2 rfl) ?_
          refine lv_iload_n hx hb dX3_readNumber_85 rfl (lv_at hl 1 rfl) ?_
          refine va_put (ci := 3) (v := .int (nI at9)) (ty := .int) (C := RX3) (T := TX3) (N := 8) hx hb hts i3_X3_readNumber tyX3 tyX3_ok nmX3 hown hV.1 hP hD hS 0 rfl rfl 3 (by decide) (hts _ w2_X3_readNumber) (fun _ h9 => h9) rfl (by decide +kernel) rfl rfl (Nat.le_of_ble_eq_true rfl) dX3_readNumber_86 (fun H locs hP hD hS => ?_)
          have hP : va_P E.1 vwCl [(o2, ee_o 3 [.ref o1, .ref r2, .int tm, .int (nI at9), .ref r5, .ref r6, .int (nI dp), .int (nI (at9 + 1))]), (o1, ee_o 7 [.ref o7, .int (nI tq)]), (o7, ee_b E 80 tx)] H := hP
          have hD : va_D A [(o2, ee_o 3 [.ref o1, .ref r2, .int tm, .int (nI at9), .ref r5, .ref r6, .int (nI dp), .int (nI (at9 + 1))]), (o1, ee_o 7 [.ref o7, .int (nI tq)]), (o7, ee_b E 80 tx)] := hD
          refine lv_goto (tgt := 112) hx hb dX3_readNumber_89 (by decide) ?_
          refine lv_iload_n hx hb dX3_readNumber_112 rfl (lv_at hl 0 rfl) ?_
          obtain ⟨n1, n2⟩ := nm_c hd1 hd2
          exact ee_fi hQ hx hb hr (rfl) hlocks hS (at9 + 1, nI at9) (⟨congrArg nI n1.symm, n2.symm, (nf_1 (by rw [n1]; omega)).symm⟩) hP hD dX3_readNumber_113
  · refine lv_istore_n (lv' := [(3, .int (-1)), (2, .int (nI at9)), (0, .ref o2), (1, .int (nI mx))]) hx hb dX3_readNumber_13 rfl hl (by decide) rfl (fun ls hl => ?_)
    refine lv_iload_n hx hb dX3_readNumber_14 rfl (lv_at hl 0 rfl) ?_
    refine lv_iconst (v := (-1)) hx hb dX3_readNumber_15 (by decide) ?_
    refine lv_icmp_ne (tgt := 29) hx hb dX3_readNumber_16 (by decide) (fun h_37 => absurd rfl h_37) (fun h_37 => ?_)
    refine lv_aload_n hx hb dX3_readNumber_19 rfl (lv_at hl 2 rfl) ?_
    refine lv_aload_n hx hb dX3_readNumber_20 rfl (lv_at hl 2 rfl) ?_
    refine va_get (ci := 3) (v := .int (nI at9)) (C := RX3) (T := TX3) (N := 8) hx hb hts i3_X3_readNumber hown hV.1 hP 0 rfl rfl 7 (by decide) (hts _ w1_X3_readNumber) (fun _ h9 => h9) rfl dX3_readNumber_21 ?_
    refine va_put (ci := 3) (v := .int (nI at9)) (ty := .int) (C := RX3) (T := TX3) (N := 8) hx hb hts i3_X3_readNumber tyX3 tyX3_ok nmX3 hown hV.1 hP hD hS 0 rfl rfl 3 (by decide) (hts _ w2_X3_readNumber) (fun _ h9 => h9) rfl (by decide +kernel) rfl rfl (Nat.le_of_ble_eq_true rfl) dX3_readNumber_24 (fun H locs hP hD hS => ?_)
    have hP : va_P E.1 vwCl [(o2, ee_o 3 [.ref o1, .ref r2, .int tm, .int (nI at9), .ref r5, .ref r6, .int (nI dp), .int (nI at9)]), (o1, ee_o 7 [.ref o7, .int (nI tq)]), (o7, ee_b E 80 tx)] H := hP
    have hD : va_D A [(o2, ee_o 3 [.ref o1, .ref r2, .int tm, .int (nI at9), .ref r5, .ref r6, .int (nI dp), .int (nI at9)]), (o1, ee_o 7 [.ref o7, .int (nI tq)]), (o7, ee_b E 80 tx)] := hD
    refine lv_iconst (v := nI 0) hx hb dX3_readNumber_27 (by decide) ?_
    obtain ⟨n1, n2⟩ := nm_a hd1
    exact ee_fi hQ hx hb hr (rfl) hlocks hS (at9, nI at9) (⟨congrArg nI n1.symm, n2.symm, (nf_1 (by rw [n1]; omega)).symm⟩) hP hD dX3_readNumber_28
abbrev rmX3_readTimes : Room := ({ frames := 3, cells := 0, slots := 0, locals := 67 } : Room)
theorem w1_X3_readTimes : Cond.fieldLink RX3 39 "LabelApplicator$Reader" "fault" "I" ∈ wsX3_readTimes := List.mem_of_getElem? (i := 1) (by decide +kernel)
theorem w2_X3_readTimes : Cond.fieldLink RX3 12 "LabelApplicator$Reader" "text" "LLabelApplicator$Text;" ∈ wsX3_readTimes := List.mem_of_getElem? (i := 2) (by decide +kernel)
theorem w3_X3_readTimes : Cond.fieldLink RX3 46 "LabelApplicator$Reader" "at" "I" ∈ wsX3_readTimes := List.mem_of_getElem? (i := 3) (by decide +kernel)
theorem w4_X3_readTimes : Cond.methodLink RX3 79 yX3_readNumber ∈ wsX3_readTimes := List.mem_of_getElem? (i := 4) (by decide +kernel)
theorem w7_X3_readTimes : Cond.initialized RX3 ∈ wsX3_readTimes := List.mem_of_getElem? (i := 7) (by decide +kernel)
theorem w9_X3_readTimes : Cond.methodLink RX3 65 yX3_digitAt ∈ wsX3_readTimes := List.mem_of_getElem? (i := 9) (by decide +kernel)
theorem w13_X3_readTimes : Cond.methodLink RX3 55 yX7_byteAt ∈ wsX3_readTimes := List.mem_of_getElem? (i := 13) (by decide +kernel)
theorem w16_X3_readTimes : Cond.initialized RX7 ∈ wsX3_readTimes := List.mem_of_getElem? (i := 16) (by decide +kernel)
theorem w21_X3_readTimes : Cond.initialized RX8 ∈ wsX3_readTimes := List.mem_of_getElem? (i := 21) (by decide +kernel)
theorem w23_X3_readTimes : Cond.methodLink RX3 49 yX3_skipBlanks ∈ wsX3_readTimes := List.mem_of_getElem? (i := 23) (by decide +kernel)
theorem w27_X3_readTimes : Cond.fieldLink RX3 52 "LabelApplicator$Text" "length" "I" ∈ wsX3_readTimes := List.mem_of_getElem? (i := 27) (by decide +kernel)
theorem i3_X3_readTimes : ∀ w ∈ wsX30, w ∈ wsX3_readTimes := fun w h => (goodIn_r _ [28, 29, 30, 31, 32, 33, 34, 35] (by decide +kernel) (by decide +kernel) w h).1
theorem i7_X3_readTimes : ∀ w ∈ wsX70, w ∈ wsX3_readTimes := fun w h => (goodIn_r _ [36, 37] (by decide +kernel) (by decide +kernel) w h).1
set_option maxHeartbeats 4000000 in
set_option maxRecDepth 100000 in
theorem kX3_readTimes (l : Launch) (E : ee_T) (o2 r2 o1 r5 r6 : Nat) (tm : Int32) (dp at9 : Nat) (o7 tq : Nat) (tx : Nat → Int32) (htq : tq ≤ 80) (hat : at9 < 2 ^ 20) : CQ l E yX3_readTimes wsX3_readTimes rmX3_readTimes [.ref o2] [(o2, ee_o 3 [.ref o1, .ref r2, .int tm, .int (-1), .ref r5, .ref r6, .int (nI dp), .int (nI at9)]), (o1, ee_o 7 [.ref o7, .int (nI tq)]), (o7, ee_b E 80 tx)] (QI E (fun (r : Int32) (u : Nat × Int32) => r = nI (nmV (chA tq tx) at9) ∧ u.1 = tmE (chA tq tx) at9 ∧ u.2 = tmF (chA tq tx) at9) (fun (u : Nat × Int32) => [(o2, ee_o 3 [.ref o1, .ref r2, .int tm, .int u.2, .ref r5, .ref r6, .int (nI dp), .int (nI u.1)]), (o1, ee_o 7 [.ref o7, .int (nI tq)]), (o7, ee_b E 80 tx)])) 0 0 := by
  refine CQ_ofW (cc := cX3_readTimes) (maxL := 2) (ret := (some .int)) (by decide) rfl (Nat.le_of_ble_eq_true rfl) ?_
  intro p e s m below meth c A Q hQ hx hb hr hml hown hlocks hnm hts hV hA hP hD hS ls hl
  have hl : lv_has ls 2 [(0, .ref o2)] := hl
  refine lv_aload_n hx hb dX3_readTimes_0 rfl (lv_at hl 0 rfl) ?_
  refine lv_bipush (v := nI 99) hx hb dX3_readTimes_1 (by decide) ?_
  refine ee_ki (wr := []) (ee_rV (As := [.int (nI 99)]) (rest := []) (kX3_readNumber l E o2 r2 o1 r5 r6 tm dp at9 o7 tq tx 99 (by omega) (by omega) (by omega)) hx hb hml hown hts 1 gX3_readTimes_X3_readNumber rfl rfl rfl (by decide +kernel) ⟨Nat.le_of_ble_eq_true rfl, Nat.le_of_ble_eq_true rfl⟩ hV hP hD hS hA [0, 1, 2] rfl (by decide) hl 0 rfl rfl rfl rfl (Nat.le_of_ble_eq_true rfl) dX3_readTimes_3 ⟨Nat.le_of_ble_eq_true rfl, Nat.le_of_ble_eq_true rfl⟩) hP hD hS hA [0, 1, 2] [] rfl rfl (by decide) (by decide) (fun r_1 u_2 H locs hp_3 hP hD hS => ?_)
  obtain ⟨at7, ft7⟩ := u_2
  try dsimp only at hp_3
  obtain ⟨rfl, hq7⟩ := hp_3
  have hP : va_P E.1 vwCl [(o2, ee_o 3 [.ref o1, .ref r2, .int tm, .int ft7, .ref r5, .ref r6, .int (nI dp), .int (nI at7)]), (o1, ee_o 7 [.ref o7, .int (nI tq)]), (o7, ee_b E 80 tx)] H := hP
  have hD : va_D A [(o2, ee_o 3 [.ref o1, .ref r2, .int tm, .int ft7, .ref r5, .ref r6, .int (nI dp), .int (nI at7)]), (o1, ee_o 7 [.ref o7, .int (nI tq)]), (o7, ee_b E 80 tx)] := hD
  obtain ⟨q1, q2⟩ := hq7
  have hb7 := nmE_b (chA tq tx) at9
  have hs7 := skp_b (chA tq tx) at7
  refine lv_istore_n (lv' := [(1, .int (nI (nmV (chA tq tx) at9))), (0, .ref o2)]) hx hb dX3_readTimes_6 rfl hl (by decide) rfl (fun ls hl => ?_)
  refine lv_aload_n hx hb dX3_readTimes_7 rfl (lv_at hl 1 rfl) ?_
  refine ee_kv (wr := []) (ee_rV (As := []) (rest := []) (kX3_skipBlanks l E o2 r2 o1 r5 r6 tm ft7 dp at7 o7 tq tx (by omega) (by omega)) hx hb hml hown hts 0 gX3_readTimes_X3_skipBlanks rfl rfl rfl (by decide +kernel) ⟨Nat.le_of_ble_eq_true rfl, Nat.le_of_ble_eq_true rfl⟩ hV hP hD hS hA [0, 1, 2] rfl (by decide) hl 0 rfl rfl rfl rfl (Nat.le_of_ble_eq_true rfl) dX3_readTimes_8 ⟨Nat.le_of_ble_eq_true rfl, Nat.le_of_ble_eq_true rfl⟩) hP hD hS hA [0, 1, 2] [] rfl rfl (by decide) (by decide) (fun u_6 H locs hp_7 hP hD hS => ?_)
  have hP : va_P E.1 vwCl [(o2, ee_o 3 [.ref o1, .ref r2, .int tm, .int ft7, .ref r5, .ref r6, .int (nI dp), .int (nI (skp (chA tq tx) at7))]), (o1, ee_o 7 [.ref o7, .int (nI tq)]), (o7, ee_b E 80 tx)] H := hP
  have hD : va_D A [(o2, ee_o 3 [.ref o1, .ref r2, .int tm, .int ft7, .ref r5, .ref r6, .int (nI dp), .int (nI (skp (chA tq tx) at7))]), (o1, ee_o 7 [.ref o7, .int (nI tq)]), (o7, ee_b E 80 tx)] := hD
  refine lv_aload_n hx hb dX3_readTimes_11 rfl (lv_at hl 1 rfl) ?_
  refine va_get (ci := 3) (v := .int ft7) (C := RX3) (T := TX3) (N := 8) hx hb hts i3_X3_readTimes hown hV.1 hP 0 rfl rfl 3 (by decide) (hts _ w1_X3_readTimes) (fun _ h9 => h9) rfl dX3_readTimes_12 ?_
  refine lv_iconst (v := (-1)) hx hb dX3_readTimes_15 (by decide) ?_
  refine lv_icmp_ne (tgt := 43) hx hb dX3_readTimes_16 (by decide) (fun g16 => ?_) (fun g16 => ?_)
  · refine lv_aload_n hx hb dX3_readTimes_43 rfl (lv_at hl 1 rfl) ?_
    refine lv_dup hx hb dX3_readTimes_44 rfl ?_
    refine va_get (ci := 3) (v := .int (nI (skp (chA tq tx) at7))) (C := RX3) (T := TX3) (N := 8) hx hb hts i3_X3_readTimes hown hV.1 hP 0 rfl rfl 7 (by decide) (hts _ w3_X3_readTimes) (fun _ h9 => h9) rfl dX3_readTimes_45 ?_
    refine lv_iconst (v := nI 1) hx hb dX3_readTimes_48 (by decide) ?_
    refine ee_iadd hx hb dX3_readTimes_49 ?_
    refine va_put (ci := 3) (v := .int (nI (skp (chA tq tx) at7 + 1))) (ty := .int) (C := RX3) (T := TX3) (N := 8) hx hb hts i3_X3_readTimes tyX3 tyX3_ok nmX3 hown hV.1 hP hD hS 0 rfl rfl 7 (by decide) (hts _ w3_X3_readTimes) (fun _ h9 => h9) rfl (by decide +kernel) rfl rfl (Nat.le_of_ble_eq_true rfl) dX3_readTimes_50 (fun H locs hP hD hS => ?_)
    have hP : va_P E.1 vwCl [(o2, ee_o 3 [.ref o1, .ref r2, .int tm, .int ft7, .ref r5, .ref r6, .int (nI dp), .int (nI (skp (chA tq tx) at7 + 1))]), (o1, ee_o 7 [.ref o7, .int (nI tq)]), (o7, ee_b E 80 tx)] H := hP
    have hD : va_D A [(o2, ee_o 3 [.ref o1, .ref r2, .int tm, .int ft7, .ref r5, .ref r6, .int (nI dp), .int (nI (skp (chA tq tx) at7 + 1))]), (o1, ee_o 7 [.ref o7, .int (nI tq)]), (o7, ee_b E 80 tx)] := hD
    refine lv_aload_n hx hb dX3_readTimes_53 rfl (lv_at hl 1 rfl) ?_
    refine ee_kv (wr := []) (ee_rV (As := []) (rest := []) (kX3_skipBlanks l E o2 r2 o1 r5 r6 tm ft7 dp (skp (chA tq tx) at7 + 1) o7 tq tx (by omega) (by omega)) hx hb hml hown hts 0 gX3_readTimes_X3_skipBlanks rfl rfl rfl (by decide +kernel) ⟨Nat.le_of_ble_eq_true rfl, Nat.le_of_ble_eq_true rfl⟩ hV hP hD hS hA [0, 1, 2] rfl (by decide) hl 0 rfl rfl rfl rfl (Nat.le_of_ble_eq_true rfl) dX3_readTimes_54 ⟨Nat.le_of_ble_eq_true rfl, Nat.le_of_ble_eq_true rfl⟩) hP hD hS hA [0, 1, 2] [] rfl rfl (by decide) (by decide) (fun u_9 H locs hp_10 hP hD hS => ?_)
    have hP : va_P E.1 vwCl [(o2, ee_o 3 [.ref o1, .ref r2, .int tm, .int ft7, .ref r5, .ref r6, .int (nI dp), .int (nI (skp (chA tq tx) (skp (chA tq tx) at7 + 1)))]), (o1, ee_o 7 [.ref o7, .int (nI tq)]), (o7, ee_b E 80 tx)] H := hP
    have hD : va_D A [(o2, ee_o 3 [.ref o1, .ref r2, .int tm, .int ft7, .ref r5, .ref r6, .int (nI dp), .int (nI (skp (chA tq tx) (skp (chA tq tx) at7 + 1)))]), (o1, ee_o 7 [.ref o7, .int (nI tq)]), (o7, ee_b E 80 tx)] := hD
    refine lv_iload_n hx hb dX3_readTimes_57 rfl (lv_at hl 0 rfl) ?_
    exact ee_fi hQ hx hb hr (rfl) hlocks hS (skp (chA tq tx) (skp (chA tq tx) at7 + 1), ft7) (⟨rfl, by unfold tmE; rw [← q1], by unfold tmF; rw [← q2, if_neg g16]⟩) hP hD dX3_readTimes_58
  · refine lv_aload_n hx hb dX3_readTimes_19 rfl (lv_at hl 1 rfl) ?_
    refine va_get (ci := 3) (v := .ref o1) (C := RX3) (T := TX3) (N := 8) hx hb hts i3_X3_readTimes hown hV.1 hP 0 rfl rfl 0 (by decide) (hts _ w2_X3_readTimes) (fun _ h9 => h9) rfl dX3_readTimes_20 ?_
    refine lv_aload_n hx hb dX3_readTimes_23 rfl (lv_at hl 1 rfl) ?_
    refine va_get (ci := 3) (v := .int (nI (skp (chA tq tx) at7))) (C := RX3) (T := TX3) (N := 8) hx hb hts i3_X3_readTimes hown hV.1 hP 0 rfl rfl 7 (by decide) (hts _ w3_X3_readTimes) (fun _ h9 => h9) rfl dX3_readTimes_24 ?_
    refine ee_ki (wr := [(o2, ee_o 3 [.ref o1, .ref r2, .int tm, .int ft7, .ref r5, .ref r6, .int (nI dp), .int (nI (skp (chA tq tx) at7))])]) (ee_rV (As := [.int (nI (skp (chA tq tx) at7))]) (rest := []) (kX7_byteAt l E o1 o7 tq tx (skp (chA tq tx) at7) (by omega) (by omega)) hx hb hml hown hts 1 gX3_readTimes_X7_byteAt rfl rfl rfl (by decide +kernel) ⟨Nat.le_of_ble_eq_true rfl, Nat.le_of_ble_eq_true rfl⟩ hV hP hD hS hA [1, 2] rfl (by decide) hl 1 rfl rfl rfl rfl (Nat.le_of_ble_eq_true rfl) dX3_readTimes_27 ⟨Nat.le_of_ble_eq_true rfl, Nat.le_of_ble_eq_true rfl⟩) hP hD hS hA [1, 2] [0] rfl rfl (by decide) (by decide) (fun r_11 u_12 H locs hp_13 hP hD hS => ?_)
    subst hp_13
    have hP : va_P E.1 vwCl [(o2, ee_o 3 [.ref o1, .ref r2, .int tm, .int ft7, .ref r5, .ref r6, .int (nI dp), .int (nI (skp (chA tq tx) at7))]), (o1, ee_o 7 [.ref o7, .int (nI tq)]), (o7, ee_b E 80 tx)] H := hP
    have hD : va_D A [(o2, ee_o 3 [.ref o1, .ref r2, .int tm, .int ft7, .ref r5, .ref r6, .int (nI dp), .int (nI (skp (chA tq tx) at7))]), (o1, ee_o 7 [.ref o7, .int (nI tq)]), (o7, ee_b E 80 tx)] := hD
    refine ee_to (z := chA tq tx (skp (chA tq tx) at7)) (rfl) ?_
    refine lv_bipush (v := nI 42) hx hb dX3_readTimes_30 (by decide) ?_
    refine lv_icmp_eq (tgt := 43) hx hb dX3_readTimes_32 (by decide) (fun g32 => ?_) (fun g32 => ?_)
    · refine lv_aload_n hx hb dX3_readTimes_43 rfl (lv_at hl 1 rfl) ?_
      refine lv_dup hx hb dX3_readTimes_44 rfl ?_
      refine va_get (ci := 3) (v := .int (nI (skp (chA tq tx) at7))) (C := RX3) (T := TX3) (N := 8) hx hb hts i3_X3_readTimes hown hV.1 hP 0 rfl rfl 7 (by decide) (hts _ w3_X3_readTimes) (fun _ h9 => h9) rfl dX3_readTimes_45 ?_
      refine lv_iconst (v := nI 1) hx hb dX3_readTimes_48 (by decide) ?_
      refine ee_iadd hx hb dX3_readTimes_49 ?_
      refine va_put (ci := 3) (v := .int (nI (skp (chA tq tx) at7 + 1))) (ty := .int) (C := RX3) (T := TX3) (N := 8) hx hb hts i3_X3_readTimes tyX3 tyX3_ok nmX3 hown hV.1 hP hD hS 0 rfl rfl 7 (by decide) (hts _ w3_X3_readTimes) (fun _ h9 => h9) rfl (by decide +kernel) rfl rfl (Nat.le_of_ble_eq_true rfl) dX3_readTimes_50 (fun H locs hP hD hS => ?_)
      have hP : va_P E.1 vwCl [(o2, ee_o 3 [.ref o1, .ref r2, .int tm, .int ft7, .ref r5, .ref r6, .int (nI dp), .int (nI (skp (chA tq tx) at7 + 1))]), (o1, ee_o 7 [.ref o7, .int (nI tq)]), (o7, ee_b E 80 tx)] H := hP
      have hD : va_D A [(o2, ee_o 3 [.ref o1, .ref r2, .int tm, .int ft7, .ref r5, .ref r6, .int (nI dp), .int (nI (skp (chA tq tx) at7 + 1))]), (o1, ee_o 7 [.ref o7, .int (nI tq)]), (o7, ee_b E 80 tx)] := hD
      refine lv_aload_n hx hb dX3_readTimes_53 rfl (lv_at hl 1 rfl) ?_
      refine ee_kv (wr := []) (ee_rV (As := []) (rest := []) (kX3_skipBlanks l E o2 r2 o1 r5 r6 tm ft7 dp (skp (chA tq tx) at7 + 1) o7 tq tx (by omega) (by omega)) hx hb hml hown hts 0 gX3_readTimes_X3_skipBlanks rfl rfl rfl (by decide +kernel) ⟨Nat.le_of_ble_eq_true rfl, Nat.le_of_ble_eq_true rfl⟩ hV hP hD hS hA [0, 1, 2] rfl (by decide) hl 0 rfl rfl rfl rfl (Nat.le_of_ble_eq_true rfl) dX3_readTimes_54 ⟨Nat.le_of_ble_eq_true rfl, Nat.le_of_ble_eq_true rfl⟩) hP hD hS hA [0, 1, 2] [] rfl rfl (by decide) (by decide) (fun u_15 H locs hp_16 hP hD hS => ?_)
      have hP : va_P E.1 vwCl [(o2, ee_o 3 [.ref o1, .ref r2, .int tm, .int ft7, .ref r5, .ref r6, .int (nI dp), .int (nI (skp (chA tq tx) (skp (chA tq tx) at7 + 1)))]), (o1, ee_o 7 [.ref o7, .int (nI tq)]), (o7, ee_b E 80 tx)] H := hP
      have hD : va_D A [(o2, ee_o 3 [.ref o1, .ref r2, .int tm, .int ft7, .ref r5, .ref r6, .int (nI dp), .int (nI (skp (chA tq tx) (skp (chA tq tx) at7 + 1)))]), (o1, ee_o 7 [.ref o7, .int (nI tq)]), (o7, ee_b E 80 tx)] := hD
      refine lv_iload_n hx hb dX3_readTimes_57 rfl (lv_at hl 0 rfl) ?_
      exact ee_fi hQ hx hb hr (rfl) hlocks hS (skp (chA tq tx) (skp (chA tq tx) at7 + 1), ft7) (⟨rfl, by unfold tmE; rw [← q1], by unfold tmF; rw [← q2, if_pos g16, ← q1, if_pos g32]; exact g16⟩) hP hD dX3_readTimes_58
    · refine lv_aload_n hx hb dX3_readTimes_35 rfl (lv_at hl 1 rfl) ?_
      refine lv_aload_n hx hb dX3_readTimes_36 rfl (lv_at hl 1 rfl) ?_
      refine va_get (ci := 3) (v := .int (nI (skp (chA tq tx) at7))) (C := RX3) (T := TX3) (N := 8) hx hb hts i3_X3_readTimes hown hV.1 hP 0 rfl rfl 7 (by decide) (hts _ w3_X3_readTimes) (fun _ h9 => h9) rfl dX3_readTimes_37 ?_
      refine va_put (ci := 3) (v := .int (nI (skp (chA tq tx) at7))) (ty := .int) (C := RX3) (T := TX3) (N := 8) hx hb hts i3_X3_readTimes tyX3 tyX3_ok nmX3 hown hV.1 hP hD hS 0 rfl rfl 3 (by decide) (hts _ w1_X3_readTimes) (fun _ h9 => h9) rfl (by decide +kernel) rfl rfl (Nat.le_of_ble_eq_true rfl) dX3_readTimes_40 (fun H locs hP hD hS => ?_)
      have hP : va_P E.1 vwCl [(o2, ee_o 3 [.ref o1, .ref r2, .int tm, .int (nI (skp (chA tq tx) at7)), .ref r5, .ref r6, .int (nI dp), .int (nI (skp (chA tq tx) at7))]), (o1, ee_o 7 [.ref o7, .int (nI tq)]), (o7, ee_b E 80 tx)] H := hP
      have hD : va_D A [(o2, ee_o 3 [.ref o1, .ref r2, .int tm, .int (nI (skp (chA tq tx) at7)), .ref r5, .ref r6, .int (nI dp), .int (nI (skp (chA tq tx) at7))]), (o1, ee_o 7 [.ref o7, .int (nI tq)]), (o7, ee_b E 80 tx)] := hD
      refine lv_aload_n hx hb dX3_readTimes_43 rfl (lv_at hl 1 rfl) ?_
      refine lv_dup hx hb dX3_readTimes_44 rfl ?_
      refine va_get (ci := 3) (v := .int (nI (skp (chA tq tx) at7))) (C := RX3) (T := TX3) (N := 8) hx hb hts i3_X3_readTimes hown hV.1 hP 0 rfl rfl 7 (by decide) (hts _ w3_X3_readTimes) (fun _ h9 => h9) rfl dX3_readTimes_45 ?_
      refine lv_iconst (v := nI 1) hx hb dX3_readTimes_48 (by decide) ?_
      refine ee_iadd hx hb dX3_readTimes_49 ?_
      refine va_put (ci := 3) (v := .int (nI (skp (chA tq tx) at7 + 1))) (ty := .int) (C := RX3) (T := TX3) (N := 8) hx hb hts i3_X3_readTimes tyX3 tyX3_ok nmX3 hown hV.1 hP hD hS 0 rfl rfl 7 (by decide) (hts _ w3_X3_readTimes) (fun _ h9 => h9) rfl (by decide +kernel) rfl rfl (Nat.le_of_ble_eq_true rfl) dX3_readTimes_50 (fun H locs hP hD hS => ?_)
      have hP : va_P E.1 vwCl [(o2, ee_o 3 [.ref o1, .ref r2, .int tm, .int (nI (skp (chA tq tx) at7)), .ref r5, .ref r6, .int (nI dp), .int (nI (skp (chA tq tx) at7 + 1))]), (o1, ee_o 7 [.ref o7, .int (nI tq)]), (o7, ee_b E 80 tx)] H := hP
      have hD : va_D A [(o2, ee_o 3 [.ref o1, .ref r2, .int tm, .int (nI (skp (chA tq tx) at7)), .ref r5, .ref r6, .int (nI dp), .int (nI (skp (chA tq tx) at7 + 1))]), (o1, ee_o 7 [.ref o7, .int (nI tq)]), (o7, ee_b E 80 tx)] := hD
      refine lv_aload_n hx hb dX3_readTimes_53 rfl (lv_at hl 1 rfl) ?_
      refine ee_kv (wr := []) (ee_rV (As := []) (rest := []) (kX3_skipBlanks l E o2 r2 o1 r5 r6 tm (nI (skp (chA tq tx) at7)) dp (skp (chA tq tx) at7 + 1) o7 tq tx (by omega) (by omega)) hx hb hml hown hts 0 gX3_readTimes_X3_skipBlanks rfl rfl rfl (by decide +kernel) ⟨Nat.le_of_ble_eq_true rfl, Nat.le_of_ble_eq_true rfl⟩ hV hP hD hS hA [0, 1, 2] rfl (by decide) hl 0 rfl rfl rfl rfl (Nat.le_of_ble_eq_true rfl) dX3_readTimes_54 ⟨Nat.le_of_ble_eq_true rfl, Nat.le_of_ble_eq_true rfl⟩) hP hD hS hA [0, 1, 2] [] rfl rfl (by decide) (by decide) (fun u_18 H locs hp_19 hP hD hS => ?_)
      have hP : va_P E.1 vwCl [(o2, ee_o 3 [.ref o1, .ref r2, .int tm, .int (nI (skp (chA tq tx) at7)), .ref r5, .ref r6, .int (nI dp), .int (nI (skp (chA tq tx) (skp (chA tq tx) at7 + 1)))]), (o1, ee_o 7 [.ref o7, .int (nI tq)]), (o7, ee_b E 80 tx)] H := hP
      have hD : va_D A [(o2, ee_o 3 [.ref o1, .ref r2, .int tm, .int (nI (skp (chA tq tx) at7)), .ref r5, .ref r6, .int (nI dp), .int (nI (skp (chA tq tx) (skp (chA tq tx) at7 + 1)))]), (o1, ee_o 7 [.ref o7, .int (nI tq)]), (o7, ee_b E 80 tx)] := hD
      refine lv_iload_n hx hb dX3_readTimes_57 rfl (lv_at hl 0 rfl) ?_
      exact ee_fi hQ hx hb hr (rfl) hlocks hS (skp (chA tq tx) (skp (chA tq tx) at7 + 1), nI (skp (chA tq tx) at7)) (⟨rfl, by unfold tmE; rw [← q1], by unfold tmF; rw [← q2, if_pos g16, ← q1, if_neg g32]⟩) hP hD dX3_readTimes_58
