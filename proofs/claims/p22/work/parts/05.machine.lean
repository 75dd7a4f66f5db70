/-! Machine: its methods below serve -/
abbrev rmX2_cameWith : Room := ({ frames := 0, cells := 0, slots := 0, locals := 0 } : Room)
theorem w1_X2_cameWith : Cond.fieldLink RX2 39 "LabelApplicator$Machine" "cameByReason" "[I" ∈ wsX2_cameWith := List.mem_of_getElem? (i := 1) (by decide +kernel)
theorem i2_X2_cameWith : ∀ w ∈ wsX20, w ∈ wsX2_cameWith := fun w h => (goodIn_r _ [2, 3, 4, 5, 6, 7, 8, 9, 10, 11, 12, 13, 14, 15, 16, 17] (by decide +kernel) (by decide +kernel) w h).1
set_option maxHeartbeats 4000000 in
set_option maxRecDepth 100000 in
theorem kX2_cameWith (l : Launch) (E : ee_T) (h0 h1 h4 h6 h8 h9 : Nat) (pt : UInt32) (sp ft sq c0 c1 c2 c3 c4 c5 c6 : Int32) (rs : Nat → Int32) (w : Nat) (hw : w < 8) : CQ l E yX2_cameWith wsX2_cameWith rmX2_cameWith [.ref h0, .int (nI w)] [(h0, ee_o 2 [.ref h1, .ref h4, .ref h6, .ref h8, .ref h9, .float pt, .int sp, .int ft, .int sq, .int c0, .int c1, .int c2, .int c3, .int c4, .int c5, .int c6]), (h9, ee_i E 8 rs)] (QI E (fun (r : Int32) (u : Unit) => r = rs w) (fun (u : Unit) => [(h0, ee_o 2 [.ref h1, .ref h4, .ref h6, .ref h8, .ref h9, .float pt, .int sp, .int ft, .int sq, .int c0, .int c1, .int c2, .int c3, .int c4, .int c5, .int c6]), (h9, ee_i E 8 rs)])) 0 0 := by
  refine CQ_ofW (cc := cX2_cameWith) (maxL := 2) (ret := (some .int)) (by decide) rfl (Nat.le_of_ble_eq_true rfl) ?_
  intro p e s m below meth c A Q hQ hx hb hr hml hown hlocks hnm hts hV hA hP hD hS ls hl
  have hl : lv_has ls 2 [(0, .ref h0), (1, .int (nI w))] := hl
  refine lv_iload_n hx hb dX2_cameWith_0 rfl (lv_at hl 1 rfl) ?_
  refine ee_lt0 (tgt := 22) hx hb (by omega) dX2_cameWith_1 (by decide) ?_
  refine lv_iload_n hx hb dX2_cameWith_4 rfl (lv_at hl 1 rfl) ?_
  refine lv_aload_n hx hb dX2_cameWith_5 rfl (lv_at hl 0 rfl) ?_
  refine va_get (ci := 2) (v := .ref h9) (C := RX2) (T := TX2) (N := 16) hx hb hts i2_X2_cameWith hown hV.1 hP 0 rfl rfl 4 (by decide) (hts _ w1_X2_cameWith) (fun _ h9 => h9) rfl dX2_cameWith_6 ?_
  refine va_alen (v := nI 8) hx hb hV.1 hP 1 0 rfl rfl rfl dX2_cameWith_9 ?_
  refine ee_ge (tgt := 22) hx hb (by omega) (by omega) dX2_cameWith_10 (by decide) (fun h_2 => absurd h_2 (by omega)) (fun h_2 => ?_)
  refine lv_aload_n hx hb dX2_cameWith_13 rfl (lv_at hl 0 rfl) ?_
  refine va_get (ci := 2) (v := .ref h9) (C := RX2) (T := TX2) (N := 16) hx hb hts i2_X2_cameWith hown hV.1 hP 0 rfl rfl 4 (by decide) (hts _ w1_X2_cameWith) (fun _ h9 => h9) rfl dX2_cameWith_14 ?_
  refine lv_iload_n hx hb dX2_cameWith_17 rfl (lv_at hl 1 rfl) ?_
  refine ee_ild hx hb hV hP 1 rfl (j := w) (by omega) (by decide) dX2_cameWith_18 ?_
  refine lv_goto (tgt := 23) hx hb dX2_cameWith_19 (by decide) ?_
  exact ee_fi hQ hx hb hr (rfl) hlocks hS () (rfl) hP hD dX2_cameWith_23
abbrev rmX2_passGate : Room := ({ frames := 0, cells := 0, slots := 0, locals := 0 } : Room)
theorem w1_X2_passGate : Cond.fieldLink RX2 79 "LabelApplicator$Machine" "delivered" "I" ∈ wsX2_passGate := List.mem_of_getElem? (i := 1) (by decide +kernel)
theorem w2_X2_passGate : Cond.fieldLink RX2 82 "LabelApplicator$Machine" "diverted" "I" ∈ wsX2_passGate := List.mem_of_getElem? (i := 2) (by decide +kernel)
theorem i2_X2_passGate : ∀ w ∈ wsX20, w ∈ wsX2_passGate := fun w h => (goodIn_r _ [3, 4, 5, 6, 7, 8, 9, 10, 11, 12, 13, 14, 15, 16, 17, 18] (by decide +kernel) (by decide +kernel) w h).1
set_option maxHeartbeats 4000000 in
set_option maxRecDepth 100000 in
theorem kX2_passGate (l : Launch) (E : ee_T) (h0 h1 h4 h6 h8 h9 : Nat) (pt : UInt32) (sp ft sq c0 c1 c2 c3 c4 c5 c6 : Int32) (x : Int32)  : CQ l E yX2_passGate wsX2_passGate rmX2_passGate [.ref h0, .int x] [(h0, ee_o 2 [.ref h1, .ref h4, .ref h6, .ref h8, .ref h9, .float pt, .int sp, .int ft, .int sq, .int c0, .int c1, .int c2, .int c3, .int c4, .int c5, .int c6])] (QV E (fun (u : Int32 × Int32) => u.1 = gtA x c1 ∧ u.2 = gtB x c2) (fun (u : Int32 × Int32) => [(h0, ee_o 2 [.ref h1, .ref h4, .ref h6, .ref h8, .ref h9, .float pt, .int sp, .int ft, .int sq, .int c0, .int u.1, .int u.2, .int c3, .int c4, .int c5, .int c6])])) 0 0 := by
  refine CQ_ofW (cc := cX2_passGate) (maxL := 2) (ret := none) (by decide) rfl (Nat.le_of_ble_eq_true rfl) ?_
  intro p e s m below meth c A Q hQ hx hb hr hml hown hlocks hnm hts hV hA hP hD hS ls hl
  have hl : lv_has ls 2 [(0, .ref h0), (1, .int x)] := hl
  refine lv_iload_n hx hb dX2_passGate_0 rfl (lv_at hl 1 rfl) ?_
  refine ee_z_ne (tgt := 17) hx hb dX2_passGate_1 (by decide) (fun g0 => ?_) (fun g0 => ?_)
  · refine lv_iload_n hx hb dX2_passGate_17 rfl (lv_at hl 1 rfl) ?_
    refine lv_iconst (v := (-1)) hx hb dX2_passGate_18 (by decide) ?_
    refine lv_icmp_eq (tgt := 32) hx hb dX2_passGate_19 (by decide) (fun g1 => ?_) (fun g1 => ?_)
    · exact ee_fv hQ hx hb hr hlocks hS (c1, c2) (by simp only [gtA, gtB, if_neg g0, if_pos g1, and_self]) hP hD dX2_passGate_32
    · refine lv_aload_n hx hb dX2_passGate_22 rfl (lv_at hl 0 rfl) ?_
      refine lv_dup hx hb dX2_passGate_23 rfl ?_
      refine va_get (ci := 2) (v := .int c2) (C := RX2) (T := TX2) (N := 16) hx hb hts i2_X2_passGate hown hV.1 hP 0 rfl rfl 11 (by decide) (hts _ w2_X2_passGate) (fun _ h9 => h9) rfl dX2_passGate_24 ?_
      refine lv_iconst (v := nI 1) hx hb dX2_passGate_27 (by decide) ?_
      refine lv_iadd hx hb dX2_passGate_28 ?_
      refine va_put (ci := 2) (v := .int (c2 + (nI 1))) (ty := .int) (C := RX2) (T := TX2) (N := 16) hx hb hts i2_X2_passGate tyX2 tyX2_ok nmX2 hown hV.1 hP hD hS 0 rfl rfl 11 (by decide) (hts _ w2_X2_passGate) (fun _ h9 => h9) rfl (by decide +kernel) rfl rfl (Nat.le_of_ble_eq_true rfl) dX2_passGate_29 (fun H locs hP hD hS => ?_)
      have hP : va_P E.1 vwCl [(h0, ee_o 2 [.ref h1, .ref h4, .ref h6, .ref h8, .ref h9, .float pt, .int sp, .int ft, .int sq, .int c0, .int c1, .int (c2 + (nI 1)), .int c3, .int c4, .int c5, .int c6])] H := hP
      have hD : va_D A [(h0, ee_o 2 [.ref h1, .ref h4, .ref h6, .ref h8, .ref h9, .float pt, .int sp, .int ft, .int sq, .int c0, .int c1, .int (c2 + (nI 1)), .int c3, .int c4, .int c5, .int c6])] := hD
      exact ee_fv hQ hx hb hr hlocks hS (c1, c2 + (nI 1)) (by simp only [gtA, gtB, if_neg g0, if_neg g1, and_self]) hP hD dX2_passGate_32
  · refine lv_aload_n hx hb dX2_passGate_4 rfl (lv_at hl 0 rfl) ?_
    refine lv_dup hx hb dX2_passGate_5 rfl ?_
    refine va_get (ci := 2) (v := .int c1) (C := RX2) (T := TX2) (N := 16) hx hb hts i2_X2_passGate hown hV.1 hP 0 rfl rfl 10 (by decide) (hts _ w1_X2_passGate) (fun _ h9 => h9) rfl dX2_passGate_6 ?_
    refine lv_iconst (v := nI 1) hx hb dX2_passGate_9 (by decide) ?_
    refine lv_iadd hx hb dX2_passGate_10 ?_
    refine va_put (ci := 2) (v := .int (c1 + (nI 1))) (ty := .int) (C := RX2) (T := TX2) (N := 16) hx hb hts i2_X2_passGate tyX2 tyX2_ok nmX2 hown hV.1 hP hD hS 0 rfl rfl 10 (by decide) (hts _ w1_X2_passGate) (fun _ h9 => h9) rfl (by decide +kernel) rfl rfl (Nat.le_of_ble_eq_true rfl) dX2_passGate_11 (fun H locs hP hD hS => ?_)
    have hP : va_P E.1 vwCl [(h0, ee_o 2 [.ref h1, .ref h4, .ref h6, .ref h8, .ref h9, .float pt, .int sp, .int ft, .int sq, .int c0, .int (c1 + (nI 1)), .int c2, .int c3, .int c4, .int c5, .int c6])] H := hP
    have hD : va_D A [(h0, ee_o 2 [.ref h1, .ref h4, .ref h6, .ref h8, .ref h9, .float pt, .int sp, .int ft, .int sq, .int c0, .int (c1 + (nI 1)), .int c2, .int c3, .int c4, .int c5, .int c6])] := hD
    refine lv_goto (tgt := 32) hx hb dX2_passGate_14 (by decide) ?_
    exact ee_fv hQ hx hb hr hlocks hS (c1 + (nI 1), c2) (by simp only [gtA, gtB, if_pos g0, and_self]) hP hD dX2_passGate_32
abbrev rmX2_hasTooManyFaults : Room := ({ frames := 1, cells := 0, slots := 0, locals := 21 } : Room)
theorem w1_X2_hasTooManyFaults : Cond.fieldLink RX2 69 "LabelApplicator$Machine" "faults" "I" ∈ wsX2_hasTooManyFaults := List.mem_of_getElem? (i := 1) (by decide +kernel)
theorem w2_X2_hasTooManyFaults : Cond.fieldLink RX2 21 "LabelApplicator$Machine" "settings" "LLabelApplicator$Settings;" ∈ wsX2_hasTooManyFaults := List.mem_of_getElem? (i := 2) (by decide +kernel)
theorem w3_X2_hasTooManyFaults : Cond.methodLink RX2 97 yX5_value ∈ wsX2_hasTooManyFaults := List.mem_of_getElem? (i := 3) (by decide +kernel)
theorem w6_X2_hasTooManyFaults : Cond.initialized RX5 ∈ wsX2_hasTooManyFaults := List.mem_of_getElem? (i := 6) (by decide +kernel)
theorem i2_X2_hasTooManyFaults : ∀ w ∈ wsX20, w ∈ wsX2_hasTooManyFaults := fun w h => (goodIn_r _ [9, 10, 11, 12, 13, 14, 15, 16, 17, 18, 19, 20, 21, 22, 23, 24] (by decide +kernel) (by decide +kernel) w h).1
theorem i5_X2_hasTooManyFaults : ∀ w ∈ wsX50, w ∈ wsX2_hasTooManyFaults := fun w h => (goodIn_r _ [25] (by decide +kernel) (by decide +kernel) w h).1
set_option maxHeartbeats 4000000 in
set_option maxRecDepth 100000 in
theorem kX2_hasTooManyFaults (l : Launch) (E : ee_T) (h0 h1 h4 h6 h8 h9 : Nat) (pt : UInt32) (sp ft sq c0 c1 c2 c3 c4 c5 c6 : Int32) (h5 : Nat) (sv : Nat → Int32)  : CQ l E yX2_hasTooManyFaults wsX2_hasTooManyFaults rmX2_hasTooManyFaults [.ref h0] [(h0, ee_o 2 [.ref h1, .ref h4, .ref h6, .ref h8, .ref h9, .float pt, .int sp, .int ft, .int sq, .int c0, .int c1, .int c2, .int c3, .int c4, .int c5, .int c6]), (h4, ee_o 5 [.ref h5]), (h5, ee_i E 8 sv)] (QI E (fun (r : Int32) (u : Unit) => (r = nI 1 ∧ ¬ ft < sv 7) ∨ (r = nI 0 ∧ ft < sv 7)) (fun (u : Unit) => [(h0, ee_o 2 [.ref h1, .ref h4, .ref h6, .ref h8, .ref h9, .float pt, .int sp, .int ft, .int sq, .int c0, .int c1, .int c2, .int c3, .int c4, .int c5, .int c6]), (h4, ee_o 5 [.ref h5]), (h5, ee_i E 8 sv)])) 0 0 := by
  refine CQ_ofW (cc := cX2_hasTooManyFaults) (maxL := 1) (ret := (some .boolean)) (by decide) rfl (Nat.le_of_ble_eq_true rfl) ?_
  intro p e s m below meth c A Q hQ hx hb hr hml hown hlocks hnm hts hV hA hP hD hS ls hl
  have hl : lv_has ls 1 [(0, .ref h0)] := hl
  refine lv_aload_n hx hb dX2_hasTooManyFaults_0 rfl (lv_at hl 0 rfl) ?_
  refine va_get (ci := 2) (v := .int ft) (C := RX2) (T := TX2) (N := 16) hx hb hts i2_X2_hasTooManyFaults hown hV.1 hP 0 rfl rfl 7 (by decide) (hts _ w1_X2_hasTooManyFaults) (fun _ h9 => h9) rfl dX2_hasTooManyFaults_1 ?_
  refine lv_aload_n hx hb dX2_hasTooManyFaults_4 rfl (lv_at hl 0 rfl) ?_
  refine va_get (ci := 2) (v := .ref h4) (C := RX2) (T := TX2) (N := 16) hx hb hts i2_X2_hasTooManyFaults hown hV.1 hP 0 rfl rfl 1 (by decide) (hts _ w2_X2_hasTooManyFaults) (fun _ h9 => h9) rfl dX2_hasTooManyFaults_5 ?_
  refine lv_bipush (v := nI 7) hx hb dX2_hasTooManyFaults_8 (by decide) ?_
  refine ee_ki (wr := [(h0, ee_o 2 [.ref h1, .ref h4, .ref h6, .ref h8, .ref h9, .float pt, .int sp, .int ft, .int sq, .int c0, .int c1, .int c2, .int c3, .int c4, .int c5, .int c6])]) (ee_rV (As := [.int (nI 7)]) (rest := [.int ft]) (kX5_value l E h4 h5 sv 7 (by omega)) hx hb hml hown hts 1 gX2_hasTooManyFaults_X5_value rfl rfl rfl (by decide +kernel) ⟨Nat.le_of_ble_eq_true rfl, Nat.le_of_ble_eq_true rfl⟩ hV hP hD hS hA [1, 2] rfl (by decide) hl 1 rfl rfl rfl rfl (Nat.le_of_ble_eq_true rfl) dX2_hasTooManyFaults_10 ⟨Nat.le_of_ble_eq_true rfl, Nat.le_of_ble_eq_true rfl⟩) hP hD hS hA [1, 2] [0] rfl rfl (by decide) (by decide) (fun r_1 u_2 H locs hp_3 hP hD hS => ?_)
  subst hp_3
  have hP : va_P E.1 vwCl [(h0, ee_o 2 [.ref h1, .ref h4, .ref h6, .ref h8, .ref h9, .float pt, .int sp, .int ft, .int sq, .int c0, .int c1, .int c2, .int c3, .int c4, .int c5, .int c6]), (h4, ee_o 5 [.ref h5]), (h5, ee_i E 8 sv)] H := hP
  have hD : va_D A [(h0, ee_o 2 [.ref h1, .ref h4, .ref h6, .ref h8, .ref h9, .float pt, .int sp, .int ft, .int sq, .int c0, .int c1, .int c2, .int c3, .int c4, .int c5, .int c6]), (h4, ee_o 5 [.ref h5]), (h5, ee_i E 8 sv)] := hD
  refine lv_icmp_lt (tgt := 20) hx hb dX2_hasTooManyFaults_13 (by decide) (fun g0 => ?_) (fun g0 => ?_)
  · refine lv_iconst (v := nI 0) hx hb dX2_hasTooManyFaults_20 (by decide) ?_
    exact ee_fi hQ hx hb hr (by decide) hlocks hS () (Or.inr ⟨rfl, g0⟩) hP hD dX2_hasTooManyFaults_21
  · refine lv_iconst (v := nI 1) hx hb dX2_hasTooManyFaults_16 (by decide) ?_
    refine lv_goto (tgt := 21) hx hb dX2_hasTooManyFaults_17 (by decide) ?_
    exact ee_fi hQ hx hb hr (by decide) hlocks hS () (Or.inl ⟨rfl, g0⟩) hP hD dX2_hasTooManyFaults_21
abbrev rmX2_isFault : Room := ({ frames := 0, cells := 0, slots := 0, locals := 0 } : Room)
set_option maxHeartbeats 4000000 in
set_option maxRecDepth 100000 in
theorem kX2_isFault (l : Launch) (E : ee_T) (k : Nat) (hk : k ≤ 7) : CQ l E yX2_isFault wsX2_isFault rmX2_isFault [.int (nI k)] [] (QI E (fun (r : Int32) (u : Unit) => (r = nI 1 ∧ isFl k = true) ∨ (r = nI 0 ∧ isFl k = false)) (fun (u : Unit) => [])) 0 0 := by
  refine CQ_ofW (cc := cX2_isFault) (maxL := 1) (ret := (some .boolean)) (by decide) rfl (Nat.le_of_ble_eq_true rfl) ?_
  intro p e s m below meth c A Q hQ hx hb hr hml hown hlocks hnm hts hV hA hP hD hS ls hl
  have hl : lv_has ls 1 [(0, .int (nI k))] := hl
  refine lv_iload_n hx hb dX2_isFault_0 rfl (lv_at hl 0 rfl) ?_
  refine lv_iconst (v := nI 1) hx hb dX2_isFault_1 (by decide) ?_
  refine ee_eq (tgt := 21) hx hb (by omega) (by omega) dX2_isFault_2 (by decide) (fun h_1 => ?_) (fun h_1 => ?_)
  · refine lv_iconst (v := nI 1) hx hb dX2_isFault_21 (by decide) ?_
    refine lv_goto (tgt := 26) hx hb dX2_isFault_22 (by decide) ?_
    exact ee_fi hQ hx hb hr (by decide) hlocks hS () (Or.inl ⟨rfl, by subst_vars; rfl⟩) hP hD dX2_isFault_26
  · refine lv_iload_n hx hb dX2_isFault_5 rfl (lv_at hl 0 rfl) ?_
    refine lv_iconst (v := nI 2) hx hb dX2_isFault_6 (by decide) ?_
    refine ee_eq (tgt := 21) hx hb (by omega) (by omega) dX2_isFault_7 (by decide) (fun h_2 => ?_) (fun h_2 => ?_)
    · refine lv_iconst (v := nI 1) hx hb dX2_isFault_21 (by decide) ?_
      refine lv_goto (tgt := 26) hx hb dX2_isFault_22 (by decide) ?_
      exact ee_fi hQ hx hb hr (by decide) hlocks hS () (Or.inl ⟨rfl, by subst_vars; rfl⟩) hP hD dX2_isFault_26
    · refine lv_iload_n hx hb dX2_isFault_10 rfl (lv_at hl 0 rfl) ?_
      refine lv_iconst (v := nI 4) hx hb dX2_isFault_11 (by decide) ?_
      refine ee_eq (tgt := 21) hx hb (by omega) (by omega) dX2_isFault_12 (by decide) (fun h_3 => ?_) (fun h_3 => ?_)
      · refine lv_iconst (v := nI 1) hx hb dX2_isFault_21 (by decide) ?_
        refine lv_goto (tgt := 26) hx hb dX2_isFault_22 (by decide) ?_
        exact ee_fi hQ hx hb hr (by decide) hlocks hS () (Or.inl ⟨rfl, by subst_vars; rfl⟩) hP hD dX2_isFault_26
      · refine lv_iload_n hx hb dX2_isFault_15 rfl (lv_at hl 0 rfl) ?_
        refine lv_bipush (v := nI 6) hx hb dX2_isFault_16 (by decide) ?_
        refine ee_ne (tgt := 25) hx hb (by omega) (by omega) dX2_isFault_18 (by decide) (fun h_4 => ?_) (fun h_4 => ?_)
        · refine lv_iconst (v := nI 0) hx hb dX2_isFault_25 (by decide) ?_
          exact ee_fi hQ hx hb hr (by decide) hlocks hS () (Or.inr ⟨rfl, by simp [isFl, *]⟩) hP hD dX2_isFault_26
        · refine lv_iconst (v := nI 1) hx hb dX2_isFault_21 (by decide) ?_
          refine lv_goto (tgt := 26) hx hb dX2_isFault_22 (by decide) ?_
          exact ee_fi hQ hx hb hr (by decide) hlocks hS () (Or.inl ⟨rfl, by subst_vars; rfl⟩) hP hD dX2_isFault_26
abbrev rmX2_speedTowards : Room := ({ frames := 1, cells := 0, slots := 0, locals := 21 } : Room)
theorem w1_X2_speedTowards : Cond.fieldLink RX2 21 "LabelApplicator$Machine" "settings" "LLabelApplicator$Settings;" ∈ wsX2_speedTowards := List.mem_of_getElem? (i := 1) (by decide +kernel)
theorem w2_X2_speedTowards : Cond.fieldLink RX2 65 "LabelApplicator$Machine" "speed" "I" ∈ wsX2_speedTowards := List.mem_of_getElem? (i := 2) (by decide +kernel)
theorem w3_X2_speedTowards : Cond.methodLink RX2 168 Lib.Math.max.name ∈ wsX2_speedTowards := List.mem_of_getElem? (i := 3) (by decide +kernel)
theorem w4_X2_speedTowards : Cond.static Lib.Math.max.name ∈ wsX2_speedTowards := List.mem_of_getElem? (i := 4) (by decide +kernel)
theorem w5_X2_speedTowards : Cond.initialized "java/lang/Math" ∈ wsX2_speedTowards := List.mem_of_getElem? (i := 5) (by decide +kernel)
theorem w6_X2_speedTowards : Cond.code Lib.Math.max.name Lib.Math.max.code 2 (some .int) ∈ wsX2_speedTowards := List.mem_of_getElem? (i := 6) (by decide +kernel)
theorem w7_X2_speedTowards : Cond.methodLink RX2 174 Lib.Math.min.name ∈ wsX2_speedTowards := List.mem_of_getElem? (i := 7) (by decide +kernel)
theorem w8_X2_speedTowards : Cond.static Lib.Math.min.name ∈ wsX2_speedTowards := List.mem_of_getElem? (i := 8) (by decide +kernel)
theorem w9_X2_speedTowards : Cond.code Lib.Math.min.name Lib.Math.min.code 2 (some .int) ∈ wsX2_speedTowards := List.mem_of_getElem? (i := 9) (by decide +kernel)
theorem w10_X2_speedTowards : Cond.methodLink RX2 97 yX5_value ∈ wsX2_speedTowards := List.mem_of_getElem? (i := 10) (by decide +kernel)
theorem w13_X2_speedTowards : Cond.initialized RX5 ∈ wsX2_speedTowards := List.mem_of_getElem? (i := 13) (by decide +kernel)
theorem i2_X2_speedTowards : ∀ w ∈ wsX20, w ∈ wsX2_speedTowards := fun w h => (goodIn_r _ [16, 17, 18, 19, 20, 21, 22, 23, 24, 25, 26, 27, 28, 29, 30, 31] (by decide +kernel) (by decide +kernel) w h).1
theorem i5_X2_speedTowards : ∀ w ∈ wsX50, w ∈ wsX2_speedTowards := fun w h => (goodIn_r _ [32] (by decide +kernel) (by decide +kernel) w h).1
set_option maxHeartbeats 4000000 in
set_option maxRecDepth 100000 in
theorem kX2_speedTowards (l : Launch) (E : ee_T) (h0 h1 h4 h6 h8 h9 : Nat) (pt : UInt32) (sp ft sq c0 c1 c2 c3 c4 c5 c6 : Int32) (h5 : Nat) (sv : Nat → Int32) (v : Int32)  : CQ l E yX2_speedTowards wsX2_speedTowards rmX2_speedTowards [.ref h0, .int v] [(h0, ee_o 2 [.ref h1, .ref h4, .ref h6, .ref h8, .ref h9, .float pt, .int sp, .int ft, .int sq, .int c0, .int c1, .int c2, .int c3, .int c4, .int c5, .int c6]), (h4, ee_o 5 [.ref h5]), (h5, ee_i E 8 sv)] (QI E (fun (r : Int32) (u : Unit) => r = follow sp (sv 4) (sv 3) v) (fun (u : Unit) => [(h0, ee_o 2 [.ref h1, .ref h4, .ref h6, .ref h8, .ref h9, .float pt, .int sp, .int ft, .int sq, .int c0, .int c1, .int c2, .int c3, .int c4, .int c5, .int c6]), (h4, ee_o 5 [.ref h5]), (h5, ee_i E 8 sv)])) 0 0 := by
  refine CQ_ofW (cc := cX2_speedTowards) (maxL := 6) (ret := (some .int)) (by decide) rfl (Nat.le_of_ble_eq_true rfl) ?_
  intro p e s m below meth c A Q hQ hx hb hr hml hown hlocks hnm hts hV hA hP hD hS ls hl
  have hl : lv_has ls 6 [(0, .ref h0), (1, .int v)] := hl
  refine lv_aload_n hx hb dX2_speedTowards_0 rfl (lv_at hl 0 rfl) ?_
  refine va_get (ci := 2) (v := .ref h4) (C := RX2) (T := TX2) (N := 16) hx hb hts i2_X2_speedTowards hown hV.1 hP 0 rfl rfl 1 (by decide) (hts _ w1_X2_speedTowards) (fun _ h9 => h9) rfl dX2_speedTowards_1 ?_
  refine lv_iconst (v := nI 4) hx hb dX2_speedTowards_4 (by decide) ?_
  refine ee_ki (wr := [(h0, ee_o 2 [.ref h1, .ref h4, .ref h6, .ref h8, .ref h9, .float pt, .int sp, .int ft, .int sq, .int c0, .int c1, .int c2, .int c3, .int c4, .int c5, .int c6])]) (ee_rV (As := [.int (nI 4)]) (rest := []) (kX5_value l E h4 h5 sv 4 (by omega)) hx hb hml hown hts 1 gX2_speedTowards_X5_value rfl rfl rfl (by decide +kernel) ⟨Nat.le_of_ble_eq_true rfl, Nat.le_of_ble_eq_true rfl⟩ hV hP hD hS hA [1, 2] rfl (by decide) hl 1 rfl rfl rfl rfl (Nat.le_of_ble_eq_true rfl) dX2_speedTowards_5 ⟨Nat.le_of_ble_eq_true rfl, Nat.le_of_ble_eq_true rfl⟩) hP hD hS hA [1, 2] [0] rfl rfl (by decide) (by decide) (fun r_1 u_2 H locs hp_3 hP hD hS => ?_)
  subst hp_3
  have hP : va_P E.1 vwCl [(h0, ee_o 2 [.ref h1, .ref h4, .ref h6, .ref h8, .ref h9, .float pt, .int sp, .int ft, .int sq, .int c0, .int c1, .int c2, .int c3, .int c4, .int c5, .int c6]), (h4, ee_o 5 [.ref h5]), (h5, ee_i E 8 sv)] H := hP
  have hD : va_D A [(h0, ee_o 2 [.ref h1, .ref h4, .ref h6, .ref h8, .ref h9, .float pt, .int sp, .int ft, .int sq, .int c0, .int c1, .int c2, .int c3, .int c4, .int c5, .int c6]), (h4, ee_o 5 [.ref h5]), (h5, ee_i E 8 sv)] := hD
  refine lv_istore_n (lv' := [(2, .int (sv 4)), (0, .ref h0), (1, .int v)]) hx hb dX2_speedTowards_8 rfl hl (by decide) rfl (fun ls hl => ?_)
  refine lv_aload_n hx hb dX2_speedTowards_9 rfl (lv_at hl 1 rfl) ?_
  refine va_get (ci := 2) (v := .ref h4) (C := RX2) (T := TX2) (N := 16) hx hb hts i2_X2_speedTowards hown hV.1 hP 0 rfl rfl 1 (by decide) (hts _ w1_X2_speedTowards) (fun _ h9 => h9) rfl dX2_speedTowards_10 ?_
  refine lv_iconst (v := nI 3) hx hb dX2_speedTowards_13 (by decide) ?_
  refine ee_ki (wr := [(h0, ee_o 2 [.ref h1, .ref h4, .ref h6, .ref h8, .ref h9, .float pt, .int sp, .int ft, .int sq, .int c0, .int c1, .int c2, .int c3, .int c4, .int c5, .int c6])]) (ee_rV (As := [.int (nI 3)]) (rest := []) (kX5_value l E h4 h5 sv 3 (by omega)) hx hb hml hown hts 1 gX2_speedTowards_X5_value rfl rfl rfl (by decide +kernel) ⟨Nat.le_of_ble_eq_true rfl, Nat.le_of_ble_eq_true rfl⟩ hV hP hD hS hA [1, 2] rfl (by decide) hl 1 rfl rfl rfl rfl (Nat.le_of_ble_eq_true rfl) dX2_speedTowards_14 ⟨Nat.le_of_ble_eq_true rfl, Nat.le_of_ble_eq_true rfl⟩) hP hD hS hA [1, 2] [0] rfl rfl (by decide) (by decide) (fun r_4 u_5 H locs hp_6 hP hD hS => ?_)
  subst hp_6
  have hP : va_P E.1 vwCl [(h0, ee_o 2 [.ref h1, .ref h4, .ref h6, .ref h8, .ref h9, .float pt, .int sp, .int ft, .int sq, .int c0, .int c1, .int c2, .int c3, .int c4, .int c5, .int c6]), (h4, ee_o 5 [.ref h5]), (h5, ee_i E 8 sv)] H := hP
  have hD : va_D A [(h0, ee_o 2 [.ref h1, .ref h4, .ref h6, .ref h8, .ref h9, .float pt, .int sp, .int ft, .int sq, .int c0, .int c1, .int c2, .int c3, .int c4, .int c5, .int c6]), (h4, ee_o 5 [.ref h5]), (h5, ee_i E 8 sv)] := hD
  refine lv_istore_n (lv' := [(3, .int (sv 3)), (2, .int (sv 4)), (0, .ref h0), (1, .int v)]) hx hb dX2_speedTowards_17 rfl hl (by decide) rfl (fun ls hl => ?_)
  refine lv_aload_n hx hb dX2_speedTowards_18 rfl (lv_at hl 2 rfl) ?_
  refine va_get (ci := 2) (v := .int sp) (C := RX2) (T := TX2) (N := 16) hx hb hts i2_X2_speedTowards hown hV.1 hP 0 rfl rfl 6 (by decide) (hts _ w2_X2_speedTowards) (fun _ h9 => h9) rfl dX2_speedTowards_19 ?_
  refine lv_iload_n hx hb dX2_speedTowards_22 rfl (lv_at hl 1 rfl) ?_
  refine lv_isub hx hb dX2_speedTowards_23 ?_
  refine lv_iconst (v := nI 0) hx hb dX2_speedTowards_24 (by decide) ?_
  refine va_mmax hx hb (by rw [hml]; exact hl.1.symm) hown (hts _ w3_X2_speedTowards) (hts _ w4_X2_speedTowards) (hts _ w5_X2_speedTowards) (hts _ w6_X2_speedTowards) (Nat.le_of_ble_eq_true rfl) (Nat.le_of_ble_eq_true rfl) (Nat.le_of_ble_eq_true rfl) (Nat.le_of_ble_eq_true rfl) dX2_speedTowards_25 ?_
  refine lv_istore (lv' := [(4, .int (if sp - (sv 4) < nI 0 then nI 0 else sp - (sv 4))), (3, .int (sv 3)), (2, .int (sv 4)), (0, .ref h0), (1, .int v)]) hx hb dX2_speedTowards_28 hl (by decide) rfl (fun ls hl => ?_)
  refine lv_aload_n hx hb dX2_speedTowards_30 rfl (lv_at hl 3 rfl) ?_
  refine va_get (ci := 2) (v := .int sp) (C := RX2) (T := TX2) (N := 16) hx hb hts i2_X2_speedTowards hown hV.1 hP 0 rfl rfl 6 (by decide) (hts _ w2_X2_speedTowards) (fun _ h9 => h9) rfl dX2_speedTowards_31 ?_
  refine lv_iload_n hx hb dX2_speedTowards_34 rfl (lv_at hl 2 rfl) ?_
  refine lv_iadd hx hb dX2_speedTowards_35 ?_
  refine lv_iload_n hx hb dX2_speedTowards_36 rfl (lv_at hl 1 rfl) ?_
  refine va_mmin hx hb (by rw [hml]; exact hl.1.symm) hown (hts _ w7_X2_speedTowards) (hts _ w8_X2_speedTowards) (hts _ w5_X2_speedTowards) (hts _ w9_X2_speedTowards) (Nat.le_of_ble_eq_true rfl) (Nat.le_of_ble_eq_true rfl) (Nat.le_of_ble_eq_true rfl) (Nat.le_of_ble_eq_true rfl) dX2_speedTowards_37 ?_
  refine lv_istore (lv' := [(5, .int (if sv 3 < sp + (sv 4) then sv 3 else sp + (sv 4))), (4, .int (if sp - (sv 4) < nI 0 then nI 0 else sp - (sv 4))), (3, .int (sv 3)), (2, .int (sv 4)), (0, .ref h0), (1, .int v)]) hx hb dX2_speedTowards_40 hl (by decide) rfl (fun ls hl => ?_)
  refine lv_iload hx hb dX2_speedTowards_42 (lv_at hl 1 rfl) ?_
  refine lv_iload hx hb dX2_speedTowards_44 (lv_at hl 0 rfl) ?_
  refine lv_icmp_le (tgt := 51) hx hb dX2_speedTowards_46 (by decide) (fun g0 => ?_) (fun g0 => ?_)
  · refine lv_iload hx hb dX2_speedTowards_51 (lv_at hl 1 rfl) ?_
    refine lv_iload hx hb dX2_speedTowards_53 (lv_at hl 0 rfl) ?_
    refine lv_iload_n hx hb dX2_speedTowards_55 rfl (lv_at hl 5 rfl) ?_
    refine va_mmin hx hb (by rw [hml]; exact hl.1.symm) hown (hts _ w7_X2_speedTowards) (hts _ w8_X2_speedTowards) (hts _ w5_X2_speedTowards) (hts _ w9_X2_speedTowards) (Nat.le_of_ble_eq_true rfl) (Nat.le_of_ble_eq_true rfl) (Nat.le_of_ble_eq_true rfl) (Nat.le_of_ble_eq_true rfl) dX2_speedTowards_56 ?_
    refine va_mmax hx hb (by rw [hml]; exact hl.1.symm) hown (hts _ w3_X2_speedTowards) (hts _ w4_X2_speedTowards) (hts _ w5_X2_speedTowards) (hts _ w6_X2_speedTowards) (Nat.le_of_ble_eq_true rfl) (Nat.le_of_ble_eq_true rfl) (Nat.le_of_ble_eq_true rfl) (Nat.le_of_ble_eq_true rfl) dX2_speedTowards_59 ?_
    exact ee_fi hQ hx hb hr (rfl) hlocks hS () (by exact follow_lo g0) hP hD dX2_speedTowards_62
  · refine lv_iload_n hx hb dX2_speedTowards_49 rfl (lv_at hl 2 rfl) ?_
    exact ee_fi hQ hx hb hr (rfl) hlocks hS () (by exact follow_hi g0) hP hD dX2_speedTowards_50
abbrev rmX2_endingBehind : Room := ({ frames := 1, cells := 0, slots := 0, locals := 21 } : Room)
theorem w1_X2_endingBehind : Cond.fieldLink RX2 21 "LabelApplicator$Machine" "settings" "LLabelApplicator$Settings;" ∈ wsX2_endingBehind := List.mem_of_getElem? (i := 1) (by decide +kernel)
theorem w2_X2_endingBehind : Cond.fieldLink RX2 35 "LabelApplicator$Machine" "cycle" "LLabelApplicator$Cycle;" ∈ wsX2_endingBehind := List.mem_of_getElem? (i := 2) (by decide +kernel)
theorem w3_X2_endingBehind : Cond.fieldLink RX2 145 "LabelApplicator$Cycle" "travel" "I" ∈ wsX2_endingBehind := List.mem_of_getElem? (i := 3) (by decide +kernel)
theorem w4_X2_endingBehind : Cond.fieldLink RX2 44 "LabelApplicator$Machine" "pitch" "F" ∈ wsX2_endingBehind := List.mem_of_getElem? (i := 4) (by decide +kernel)
theorem w5_X2_endingBehind : Cond.methodLink RX2 97 yX5_value ∈ wsX2_endingBehind := List.mem_of_getElem? (i := 5) (by decide +kernel)
theorem w8_X2_endingBehind : Cond.initialized RX5 ∈ wsX2_endingBehind := List.mem_of_getElem? (i := 8) (by decide +kernel)
theorem i0_X2_endingBehind : ∀ w ∈ wsX00, w ∈ wsX2_endingBehind := fun w h => (goodIn_r _ [27, 28, 29, 30, 31, 32, 33, 34] (by decide +kernel) (by decide +kernel) w h).1
theorem i2_X2_endingBehind : ∀ w ∈ wsX20, w ∈ wsX2_endingBehind := fun w h => (goodIn_r _ [11, 12, 13, 14, 15, 16, 17, 18, 19, 20, 21, 22, 23, 24, 25, 26] (by decide +kernel) (by decide +kernel) w h).1
theorem i5_X2_endingBehind : ∀ w ∈ wsX50, w ∈ wsX2_endingBehind := fun w h => (goodIn_r _ [35] (by decide +kernel) (by decide +kernel) w h).1
set_option maxHeartbeats 4000000 in
set_option maxRecDepth 100000 in
theorem kX2_endingBehind (l : Launch) (E : ee_T) (h0 h1 h4 h6 h8 h9 : Nat) (pt : UInt32) (sp ft sq c0 c1 c2 c3 c4 c5 c6 : Int32) (h5 : Nat) (sv : Nat → Int32) (tr lb sc tk ed : Nat) (sd rn lt : Int32) (kd ln : Int32) (hnan : vf_n32 (FP.fsub pt (FP.i2f (sv 1)))) : CQ l E yX2_endingBehind wsX2_endingBehind rmX2_endingBehind [.ref h0, .int kd, .int ln] [(h0, ee_o 2 [.ref h1, .ref h4, .ref h6, .ref h8, .ref h9, .float pt, .int sp, .int ft, .int sq, .int c0, .int c1, .int c2, .int c3, .int c4, .int c5, .int c6]), (h4, ee_o 5 [.ref h5]), (h5, ee_i E 8 sv), (h8, ee_o 0 [.int (nI tr), .int (nI lb), .int (nI sc), .int (nI tk), .int (nI ed), .int sd, .int rn, .int lt])] (QI E (fun (r : Int32) (u : Unit) => r = nI (fdE sv pt kd ln tr)) (fun (u : Unit) => [(h0, ee_o 2 [.ref h1, .ref h4, .ref h6, .ref h8, .ref h9, .float pt, .int sp, .int ft, .int sq, .int c0, .int c1, .int c2, .int c3, .int c4, .int c5, .int c6]), (h4, ee_o 5 [.ref h5]), (h5, ee_i E 8 sv), (h8, ee_o 0 [.int (nI tr), .int (nI lb), .int (nI sc), .int (nI tk), .int (nI ed), .int sd, .int rn, .int lt])])) 0 0 := by
  refine CQ_ofW (cc := cX2_endingBehind) (maxL := 4) (ret := (some .int)) (by decide) rfl (Nat.le_of_ble_eq_true rfl) ?_
  intro p e s m below meth c A Q hQ hx hb hr hml hown hlocks hnm hts hV hA hP hD hS ls hl
  have hl : lv_has ls 4 [(0, .ref h0), (1, .int kd), (2, .int ln)] := hl
  refine lv_iload_n hx hb dX2_endingBehind_0 rfl (lv_at hl 1 rfl) ?_
  refine lv_iconst (v := nI 1) hx hb dX2_endingBehind_1 (by decide) ?_
  refine lv_icmp_ne (tgt := 21) hx hb dX2_endingBehind_2 (by decide) (fun gk => ?_) (fun gk => ?_)
  · refine lv_iconst (v := nI 0) hx hb dX2_endingBehind_21 (by decide) ?_
    refine lv_istore_n (lv' := [(3, .int (nI 0)), (0, .ref h0), (1, .int kd), (2, .int ln)]) hx hb dX2_endingBehind_22 rfl hl (by decide) rfl (fun ls hl => ?_)
    refine lv_iload_n hx hb dX2_endingBehind_23 rfl (lv_at hl 0 rfl) ?_
    refine ee_eq0 (tgt := 55) hx hb (by omega) dX2_endingBehind_24 (by decide) (fun h_1 => ?_) (fun h_1 => absurd h_1 (by decide))
    refine lv_aload_n hx hb dX2_endingBehind_55 rfl (lv_at hl 1 rfl) ?_
    refine va_get (ci := 2) (v := .ref h8) (C := RX2) (T := TX2) (N := 16) hx hb hts i2_X2_endingBehind hown hV.1 hP 0 rfl rfl 3 (by decide) (hts _ w2_X2_endingBehind) (fun _ h9 => h9) rfl dX2_endingBehind_56 ?_
    refine va_get (ci := 0) (v := .int (nI tr)) (C := RX0) (T := TX0) (N := 8) hx hb hts i0_X2_endingBehind hown hV.1 hP 3 rfl rfl 0 (by decide) (hts _ w3_X2_endingBehind) (fun _ h9 => h9) rfl dX2_endingBehind_59 ?_
    refine lv_aload_n hx hb dX2_endingBehind_62 rfl (lv_at hl 1 rfl) ?_
    refine va_get (ci := 2) (v := .ref h4) (C := RX2) (T := TX2) (N := 16) hx hb hts i2_X2_endingBehind hown hV.1 hP 0 rfl rfl 1 (by decide) (hts _ w1_X2_endingBehind) (fun _ h9 => h9) rfl dX2_endingBehind_63 ?_
    refine lv_iconst (v := nI 2) hx hb dX2_endingBehind_66 (by decide) ?_
    refine ee_ki (wr := [(h0, ee_o 2 [.ref h1, .ref h4, .ref h6, .ref h8, .ref h9, .float pt, .int sp, .int ft, .int sq, .int c0, .int c1, .int c2, .int c3, .int c4, .int c5, .int c6]), (h8, ee_o 0 [.int (nI tr), .int (nI lb), .int (nI sc), .int (nI tk), .int (nI ed), .int sd, .int rn, .int lt])]) (ee_rV (As := [.int (nI 2)]) (rest := [.int (nI tr)]) (kX5_value l E h4 h5 sv 2 (by omega)) hx hb hml hown hts 1 gX2_endingBehind_X5_value rfl rfl rfl (by decide +kernel) ⟨Nat.le_of_ble_eq_true rfl, Nat.le_of_ble_eq_true rfl⟩ hV hP hD hS hA [1, 2] rfl (by decide) hl 1 rfl rfl rfl rfl (Nat.le_of_ble_eq_true rfl) dX2_endingBehind_67 ⟨Nat.le_of_ble_eq_true rfl, Nat.le_of_ble_eq_true rfl⟩) hP hD hS hA [1, 2] [0, 3] rfl rfl (by decide) (by decide) (fun r_2 u_3 H locs hp_4 hP hD hS => ?_)
    subst hp_4
    have hP : va_P E.1 vwCl [(h0, ee_o 2 [.ref h1, .ref h4, .ref h6, .ref h8, .ref h9, .float pt, .int sp, .int ft, .int sq, .int c0, .int c1, .int c2, .int c3, .int c4, .int c5, .int c6]), (h8, ee_o 0 [.int (nI tr), .int (nI lb), .int (nI sc), .int (nI tk), .int (nI ed), .int sd, .int rn, .int lt]), (h4, ee_o 5 [.ref h5]), (h5, ee_i E 8 sv)] H := hP
    have hD : va_D A [(h0, ee_o 2 [.ref h1, .ref h4, .ref h6, .ref h8, .ref h9, .float pt, .int sp, .int ft, .int sq, .int c0, .int c1, .int c2, .int c3, .int c4, .int c5, .int c6]), (h8, ee_o 0 [.int (nI tr), .int (nI lb), .int (nI sc), .int (nI tk), .int (nI ed), .int sd, .int rn, .int lt]), (h4, ee_o 5 [.ref h5]), (h5, ee_i E 8 sv)] := hD
    refine lv_icmp_le (tgt := 77) hx hb dX2_endingBehind_70 (by decide) (fun gg => ?_) (fun gg => ?_)
    · refine lv_iconst (v := nI 0) hx hb dX2_endingBehind_77 (by decide) ?_
      exact ee_fi hQ hx hb hr (rfl) hlocks hS () (by rw [fdE, if_neg (fun q => gk q.1.1), if_pos gg]) (hP.sub [0, 2, 3, 1] rfl) (hD.sub [0, 2, 3, 1] (by decide) rfl) dX2_endingBehind_78
    · refine lv_iconst (v := nI 2) hx hb dX2_endingBehind_73 (by decide) ?_
      refine lv_goto (tgt := 78) hx hb dX2_endingBehind_74 (by decide) ?_
      exact ee_fi hQ hx hb hr (rfl) hlocks hS () (by rw [fdE, if_neg (fun q => gk q.1.1), if_neg gg]) (hP.sub [0, 2, 3, 1] rfl) (hD.sub [0, 2, 3, 1] (by decide) rfl) dX2_endingBehind_78
  · refine lv_iload_n hx hb dX2_endingBehind_5 rfl (lv_at hl 2 rfl) ?_
    refine lv_aload_n hx hb dX2_endingBehind_6 rfl (lv_at hl 0 rfl) ?_
    refine va_get (ci := 2) (v := .ref h4) (C := RX2) (T := TX2) (N := 16) hx hb hts i2_X2_endingBehind hown hV.1 hP 0 rfl rfl 1 (by decide) (hts _ w1_X2_endingBehind) (fun _ h9 => h9) rfl dX2_endingBehind_7 ?_
    refine lv_iconst (v := nI 0) hx hb dX2_endingBehind_10 (by decide) ?_
    refine ee_ki (wr := [(h0, ee_o 2 [.ref h1, .ref h4, .ref h6, .ref h8, .ref h9, .float pt, .int sp, .int ft, .int sq, .int c0, .int c1, .int c2, .int c3, .int c4, .int c5, .int c6]), (h8, ee_o 0 [.int (nI tr), .int (nI lb), .int (nI sc), .int (nI tk), .int (nI ed), .int sd, .int rn, .int lt])]) (ee_rV (As := [.int (nI 0)]) (rest := [.int ln]) (kX5_value l E h4 h5 sv 0 (by omega)) hx hb hml hown hts 1 gX2_endingBehind_X5_value rfl rfl rfl (by decide +kernel) ⟨Nat.le_of_ble_eq_true rfl, Nat.le_of_ble_eq_true rfl⟩ hV hP hD hS hA [1, 2] rfl (by decide) hl 1 rfl rfl rfl rfl (Nat.le_of_ble_eq_true rfl) dX2_endingBehind_11 ⟨Nat.le_of_ble_eq_true rfl, Nat.le_of_ble_eq_true rfl⟩) hP hD hS hA [1, 2] [0, 3] rfl rfl (by decide) (by decide) (fun r_5 u_6 H locs hp_7 hP hD hS => ?_)
    subst hp_7
    have hP : va_P E.1 vwCl [(h0, ee_o 2 [.ref h1, .ref h4, .ref h6, .ref h8, .ref h9, .float pt, .int sp, .int ft, .int sq, .int c0, .int c1, .int c2, .int c3, .int c4, .int c5, .int c6]), (h8, ee_o 0 [.int (nI tr), .int (nI lb), .int (nI sc), .int (nI tk), .int (nI ed), .int sd, .int rn, .int lt]), (h4, ee_o 5 [.ref h5]), (h5, ee_i E 8 sv)] H := hP
    have hD : va_D A [(h0, ee_o 2 [.ref h1, .ref h4, .ref h6, .ref h8, .ref h9, .float pt, .int sp, .int ft, .int sq, .int c0, .int c1, .int c2, .int c3, .int c4, .int c5, .int c6]), (h8, ee_o 0 [.int (nI tr), .int (nI lb), .int (nI sc), .int (nI tk), .int (nI ed), .int sd, .int rn, .int lt]), (h4, ee_o 5 [.ref h5]), (h5, ee_i E 8 sv)] := hD
    refine lv_icmp_lt (tgt := 21) hx hb dX2_endingBehind_14 (by decide) (fun gl => ?_) (fun gl => ?_)
    · refine lv_iconst (v := nI 0) hx hb dX2_endingBehind_21 (by decide) ?_
      refine lv_istore_n (lv' := [(3, .int (nI 0)), (0, .ref h0), (1, .int kd), (2, .int ln)]) hx hb dX2_endingBehind_22 rfl hl (by decide) rfl (fun ls hl => ?_)
      refine lv_iload_n hx hb dX2_endingBehind_23 rfl (lv_at hl 0 rfl) ?_
      refine ee_eq0 (tgt := 55) hx hb (by omega) dX2_endingBehind_24 (by decide) (fun h_8 => ?_) (fun h_8 => absurd h_8 (by decide))
      refine lv_aload_n hx hb dX2_endingBehind_55 rfl (lv_at hl 1 rfl) ?_
      refine va_get (ci := 2) (v := .ref h8) (C := RX2) (T := TX2) (N := 16) hx hb hts i2_X2_endingBehind hown hV.1 hP 0 rfl rfl 3 (by decide) (hts _ w2_X2_endingBehind) (fun _ h9 => h9) rfl dX2_endingBehind_56 ?_
      refine va_get (ci := 0) (v := .int (nI tr)) (C := RX0) (T := TX0) (N := 8) hx hb hts i0_X2_endingBehind hown hV.1 hP 1 rfl rfl 0 (by decide) (hts _ w3_X2_endingBehind) (fun _ h9 => h9) rfl dX2_endingBehind_59 ?_
      refine lv_aload_n hx hb dX2_endingBehind_62 rfl (lv_at hl 1 rfl) ?_
      refine va_get (ci := 2) (v := .ref h4) (C := RX2) (T := TX2) (N := 16) hx hb hts i2_X2_endingBehind hown hV.1 hP 0 rfl rfl 1 (by decide) (hts _ w1_X2_endingBehind) (fun _ h9 => h9) rfl dX2_endingBehind_63 ?_
      refine lv_iconst (v := nI 2) hx hb dX2_endingBehind_66 (by decide) ?_
      refine ee_ki (wr := [(h0, ee_o 2 [.ref h1, .ref h4, .ref h6, .ref h8, .ref h9, .float pt, .int sp, .int ft, .int sq, .int c0, .int c1, .int c2, .int c3, .int c4, .int c5, .int c6]), (h8, ee_o 0 [.int (nI tr), .int (nI lb), .int (nI sc), .int (nI tk), .int (nI ed), .int sd, .int rn, .int lt])]) (ee_rV (As := [.int (nI 2)]) (rest := [.int (nI tr)]) (kX5_value l E h4 h5 sv 2 (by omega)) hx hb hml hown hts 1 gX2_endingBehind_X5_value rfl rfl rfl (by decide +kernel) ⟨Nat.le_of_ble_eq_true rfl, Nat.le_of_ble_eq_true rfl⟩ hV hP hD hS hA [2, 3] rfl (by decide) hl 2 rfl rfl rfl rfl (Nat.le_of_ble_eq_true rfl) dX2_endingBehind_67 ⟨Nat.le_of_ble_eq_true rfl, Nat.le_of_ble_eq_true rfl⟩) hP hD hS hA [2, 3] [0, 1] rfl rfl (by decide) (by decide) (fun r_9 u_10 H locs hp_11 hP hD hS => ?_)
      subst hp_11
      have hP : va_P E.1 vwCl [(h0, ee_o 2 [.ref h1, .ref h4, .ref h6, .ref h8, .ref h9, .float pt, .int sp, .int ft, .int sq, .int c0, .int c1, .int c2, .int c3, .int c4, .int c5, .int c6]), (h8, ee_o 0 [.int (nI tr), .int (nI lb), .int (nI sc), .int (nI tk), .int (nI ed), .int sd, .int rn, .int lt]), (h4, ee_o 5 [.ref h5]), (h5, ee_i E 8 sv)] H := hP
      have hD : va_D A [(h0, ee_o 2 [.ref h1, .ref h4, .ref h6, .ref h8, .ref h9, .float pt, .int sp, .int ft, .int sq, .int c0, .int c1, .int c2, .int c3, .int c4, .int c5, .int c6]), (h8, ee_o 0 [.int (nI tr), .int (nI lb), .int (nI sc), .int (nI tk), .int (nI ed), .int sd, .int rn, .int lt]), (h4, ee_o 5 [.ref h5]), (h5, ee_i E 8 sv)] := hD
      refine lv_icmp_le (tgt := 77) hx hb dX2_endingBehind_70 (by decide) (fun gg => ?_) (fun gg => ?_)
      · refine lv_iconst (v := nI 0) hx hb dX2_endingBehind_77 (by decide) ?_
        exact ee_fi hQ hx hb hr (rfl) hlocks hS () (by rw [fdE, if_neg (fun q => q.1.2 gl), if_pos gg]) (hP.sub [0, 2, 3, 1] rfl) (hD.sub [0, 2, 3, 1] (by decide) rfl) dX2_endingBehind_78
      · refine lv_iconst (v := nI 2) hx hb dX2_endingBehind_73 (by decide) ?_
        refine lv_goto (tgt := 78) hx hb dX2_endingBehind_74 (by decide) ?_
        exact ee_fi hQ hx hb hr (rfl) hlocks hS () (by rw [fdE, if_neg (fun q => q.1.2 gl), if_neg gg]) (hP.sub [0, 2, 3, 1] rfl) (hD.sub [0, 2, 3, 1] (by decide) rfl) dX2_endingBehind_78
    · refine lv_iconst (v := nI 1) hx hb dX2_endingBehind_17 (by decide) ?_
      refine lv_goto (tgt := 22) hx hb dX2_endingBehind_18 (by decide) ?_
      refine lv_istore_n (lv' := [(3, .int (nI 1)), (0, .ref h0), (1, .int kd), (2, .int ln)]) hx hb dX2_endingBehind_22 rfl hl (by decide) rfl (fun ls hl => ?_)
      refine lv_iload_n hx hb dX2_endingBehind_23 rfl (lv_at hl 0 rfl) ?_
      refine ee_eq0 (tgt := 55) hx hb (by omega) dX2_endingBehind_24 (by decide) (fun h_12 => absurd h_12 (by decide)) (fun h_12 => ?_)
      refine lv_aload_n hx hb dX2_endingBehind_27 rfl (lv_at hl 1 rfl) ?_
      refine va_get (ci := 2) (v := .ref h8) (C := RX2) (T := TX2) (N := 16) hx hb hts i2_X2_endingBehind hown hV.1 hP 0 rfl rfl 3 (by decide) (hts _ w2_X2_endingBehind) (fun _ h9 => h9) rfl dX2_endingBehind_28 ?_
      refine va_get (ci := 0) (v := .int (nI tr)) (C := RX0) (T := TX0) (N := 8) hx hb hts i0_X2_endingBehind hown hV.1 hP 1 rfl rfl 0 (by decide) (hts _ w3_X2_endingBehind) (fun _ h9 => h9) rfl dX2_endingBehind_31 ?_
      refine lv_i2f hx hb dX2_endingBehind_34 ?_
      refine lv_aload_n hx hb dX2_endingBehind_35 rfl (lv_at hl 1 rfl) ?_
      refine va_get (ci := 2) (v := .float pt) (C := RX2) (T := TX2) (N := 16) hx hb hts i2_X2_endingBehind hown hV.1 hP 0 rfl rfl 5 (by decide) (hts _ w4_X2_endingBehind) (fun _ h9 => h9) rfl dX2_endingBehind_36 ?_
      refine lv_aload_n hx hb dX2_endingBehind_39 rfl (lv_at hl 1 rfl) ?_
      refine va_get (ci := 2) (v := .ref h4) (C := RX2) (T := TX2) (N := 16) hx hb hts i2_X2_endingBehind hown hV.1 hP 0 rfl rfl 1 (by decide) (hts _ w1_X2_endingBehind) (fun _ h9 => h9) rfl dX2_endingBehind_40 ?_
      refine lv_iconst (v := nI 1) hx hb dX2_endingBehind_43 (by decide) ?_
      refine ee_ki (wr := [(h0, ee_o 2 [.ref h1, .ref h4, .ref h6, .ref h8, .ref h9, .float pt, .int sp, .int ft, .int sq, .int c0, .int c1, .int c2, .int c3, .int c4, .int c5, .int c6]), (h8, ee_o 0 [.int (nI tr), .int (nI lb), .int (nI sc), .int (nI tk), .int (nI ed), .int sd, .int rn, .int lt])]) (ee_rV (As := [.int (nI 1)]) (rest := [.float pt, .float (FP.i2f (nI tr))]) (kX5_value l E h4 h5 sv 1 (by omega)) hx hb hml hown hts 1 gX2_endingBehind_X5_value rfl rfl rfl (by decide +kernel) ⟨Nat.le_of_ble_eq_true rfl, Nat.le_of_ble_eq_true rfl⟩ hV hP hD hS hA [2, 3] rfl (by decide) hl 2 rfl rfl rfl rfl (Nat.le_of_ble_eq_true rfl) dX2_endingBehind_44 ⟨Nat.le_of_ble_eq_true rfl, Nat.le_of_ble_eq_true rfl⟩) hP hD hS hA [2, 3] [0, 1] rfl rfl (by decide) (by decide) (fun r_13 u_14 H locs hp_15 hP hD hS => ?_)
      subst hp_15
      have hP : va_P E.1 vwCl [(h0, ee_o 2 [.ref h1, .ref h4, .ref h6, .ref h8, .ref h9, .float pt, .int sp, .int ft, .int sq, .int c0, .int c1, .int c2, .int c3, .int c4, .int c5, .int c6]), (h8, ee_o 0 [.int (nI tr), .int (nI lb), .int (nI sc), .int (nI tk), .int (nI ed), .int sd, .int rn, .int lt]), (h4, ee_o 5 [.ref h5]), (h5, ee_i E 8 sv)] H := hP
      have hD : va_D A [(h0, ee_o 2 [.ref h1, .ref h4, .ref h6, .ref h8, .ref h9, .float pt, .int sp, .int ft, .int sq, .int c0, .int c1, .int c2, .int c3, .int c4, .int c5, .int c6]), (h8, ee_o 0 [.int (nI tr), .int (nI lb), .int (nI sc), .int (nI tk), .int (nI ed), .int sd, .int rn, .int lt]), (h4, ee_o 5 [.ref h5]), (h5, ee_i E 8 sv)] := hD
      refine lv_i2f hx hb dX2_endingBehind_47 ?_
      refine lv_fsub hx hb dX2_endingBehind_48 (hnan) ?_
      refine lv_fcmp hx hb dX2_endingBehind_49 ?_
      refine lv_if_lt (tgt := 55) hx hb dX2_endingBehind_50 (by decide) (fun gf => ?_) (fun gf => ?_)
      · refine lv_aload_n hx hb dX2_endingBehind_55 rfl (lv_at hl 1 rfl) ?_
        refine va_get (ci := 2) (v := .ref h8) (C := RX2) (T := TX2) (N := 16) hx hb hts i2_X2_endingBehind hown hV.1 hP 0 rfl rfl 3 (by decide) (hts _ w2_X2_endingBehind) (fun _ h9 => h9) rfl dX2_endingBehind_56 ?_
        refine va_get (ci := 0) (v := .int (nI tr)) (C := RX0) (T := TX0) (N := 8) hx hb hts i0_X2_endingBehind hown hV.1 hP 1 rfl rfl 0 (by decide) (hts _ w3_X2_endingBehind) (fun _ h9 => h9) rfl dX2_endingBehind_59 ?_
        refine lv_aload_n hx hb dX2_endingBehind_62 rfl (lv_at hl 1 rfl) ?_
        refine va_get (ci := 2) (v := .ref h4) (C := RX2) (T := TX2) (N := 16) hx hb hts i2_X2_endingBehind hown hV.1 hP 0 rfl rfl 1 (by decide) (hts _ w1_X2_endingBehind) (fun _ h9 => h9) rfl dX2_endingBehind_63 ?_
        refine lv_iconst (v := nI 2) hx hb dX2_endingBehind_66 (by decide) ?_
        refine ee_ki (wr := [(h0, ee_o 2 [.ref h1, .ref h4, .ref h6, .ref h8, .ref h9, .float pt, .int sp, .int ft, .int sq, .int c0, .int c1, .int c2, .int c3, .int c4, .int c5, .int c6]), (h8, ee_o 0 [.int (nI tr), .int (nI lb), .int (nI sc), .int (nI tk), .int (nI ed), .int sd, .int rn, .int lt])]) (ee_rV (As := [.int (nI 2)]) (rest := [.int (nI tr)]) (kX5_value l E h4 h5 sv 2 (by omega)) hx hb hml hown hts 1 gX2_endingBehind_X5_value rfl rfl rfl (by decide +kernel) ⟨Nat.le_of_ble_eq_true rfl, Nat.le_of_ble_eq_true rfl⟩ hV hP hD hS hA [2, 3] rfl (by decide) hl 2 rfl rfl rfl rfl (Nat.le_of_ble_eq_true rfl) dX2_endingBehind_67 ⟨Nat.le_of_ble_eq_true rfl, Nat.le_of_ble_eq_true rfl⟩) hP hD hS hA [2, 3] [0, 1] rfl rfl (by decide) (by decide) (fun r_16 u_17 H locs hp_18 hP hD hS => ?_)
        subst hp_18
        have hP : va_P E.1 vwCl [(h0, ee_o 2 [.ref h1, .ref h4, .ref h6, .ref h8, .ref h9, .float pt, .int sp, .int ft, .int sq, .int c0, .int c1, .int c2, .int c3, .int c4, .int c5, .int c6]), (h8, ee_o 0 [.int (nI tr), .int (nI lb), .int (nI sc), .int (nI tk), .int (nI ed), .int sd, .int rn, .int lt]), (h4, ee_o 5 [.ref h5]), (h5, ee_i E 8 sv)] H := hP
        have hD : va_D A [(h0, ee_o 2 [.ref h1, .ref h4, .ref h6, .ref h8, .ref h9, .float pt, .int sp, .int ft, .int sq, .int c0, .int c1, .int c2, .int c3, .int c4, .int c5, .int c6]), (h8, ee_o 0 [.int (nI tr), .int (nI lb), .int (nI sc), .int (nI tk), .int (nI ed), .int sd, .int rn, .int lt]), (h4, ee_o 5 [.ref h5]), (h5, ee_i E 8 sv)] := hD
        refine lv_icmp_le (tgt := 77) hx hb dX2_endingBehind_70 (by decide) (fun gg => ?_) (fun gg => ?_)
        · refine lv_iconst (v := nI 0) hx hb dX2_endingBehind_77 (by decide) ?_
          exact ee_fi hQ hx hb hr (rfl) hlocks hS () (by rw [fdE, if_neg (fun q => q.2 gf), if_pos gg]) (hP.sub [0, 2, 3, 1] rfl) (hD.sub [0, 2, 3, 1] (by decide) rfl) dX2_endingBehind_78
        · refine lv_iconst (v := nI 2) hx hb dX2_endingBehind_73 (by decide) ?_
          refine lv_goto (tgt := 78) hx hb dX2_endingBehind_74 (by decide) ?_
          exact ee_fi hQ hx hb hr (rfl) hlocks hS () (by rw [fdE, if_neg (fun q => q.2 gf), if_neg gg]) (hP.sub [0, 2, 3, 1] rfl) (hD.sub [0, 2, 3, 1] (by decide) rfl) dX2_endingBehind_78
      · refine lv_iconst (v := nI 1) hx hb dX2_endingBehind_53 (by decide) ?_
        exact ee_fi hQ hx hb hr (rfl) hlocks hS () (by rw [fdE, if_pos ⟨⟨gk, gl⟩, gf⟩]) (hP.sub [0, 2, 3, 1] rfl) (hD.sub [0, 2, 3, 1] (by decide) rfl) dX2_endingBehind_54
abbrev rmX2_feed : Room := ({ frames := 2, cells := 0, slots := 0, locals := 44 } : Room)
theorem w1_X2_feed : Cond.fieldLink RX2 12 "LabelApplicator$Machine" "web" "LLabelApplicator$Items;" ∈ wsX2_feed := List.mem_of_getElem? (i := 1) (by decide +kernel)
theorem w2_X2_feed : Cond.fieldLink RX2 35 "LabelApplicator$Machine" "cycle" "LLabelApplicator$Cycle;" ∈ wsX2_feed := List.mem_of_getElem? (i := 2) (by decide +kernel)
theorem w3_X2_feed : Cond.fieldLink RX2 142 "LabelApplicator$Cycle" "ending" "I" ∈ wsX2_feed := List.mem_of_getElem? (i := 3) (by decide +kernel)
theorem w4_X2_feed : Cond.fieldLink RX2 190 "LabelApplicator$Cycle" "taken" "I" ∈ wsX2_feed := List.mem_of_getElem? (i := 4) (by decide +kernel)
theorem w5_X2_feed : Cond.methodLink RX2 100 yX1_size ∈ wsX2_feed := List.mem_of_getElem? (i := 5) (by decide +kernel)
theorem w8_X2_feed : Cond.initialized RX1 ∈ wsX2_feed := List.mem_of_getElem? (i := 8) (by decide +kernel)
theorem w12_X2_feed : Cond.methodLink RX2 177 yX1_kindOf ∈ wsX2_feed := List.mem_of_getElem? (i := 12) (by decide +kernel)
theorem w17_X2_feed : Cond.methodLink RX2 180 yX1_lengthOf ∈ wsX2_feed := List.mem_of_getElem? (i := 17) (by decide +kernel)
theorem w22_X2_feed : Cond.methodLink RX2 183 yX0_take ∈ wsX2_feed := List.mem_of_getElem? (i := 22) (by decide +kernel)
theorem w25_X2_feed : Cond.initialized RX0 ∈ wsX2_feed := List.mem_of_getElem? (i := 25) (by decide +kernel)
theorem w31_X2_feed : Cond.methodLink RX2 187 yX2_endingBehind ∈ wsX2_feed := List.mem_of_getElem? (i := 31) (by decide +kernel)
theorem w34_X2_feed : Cond.initialized RX2 ∈ wsX2_feed := List.mem_of_getElem? (i := 34) (by decide +kernel)
theorem w36_X2_feed : Cond.fieldLink RX2 21 "LabelApplicator$Machine" "settings" "LLabelApplicator$Settings;" ∈ wsX2_feed := List.mem_of_getElem? (i := 36) (by decide +kernel)
theorem w37_X2_feed : Cond.fieldLink RX2 145 "LabelApplicator$Cycle" "travel" "I" ∈ wsX2_feed := List.mem_of_getElem? (i := 37) (by decide +kernel)
theorem w38_X2_feed : Cond.fieldLink RX2 44 "LabelApplicator$Machine" "pitch" "F" ∈ wsX2_feed := List.mem_of_getElem? (i := 38) (by decide +kernel)
theorem w39_X2_feed : Cond.methodLink RX2 97 yX5_value ∈ wsX2_feed := List.mem_of_getElem? (i := 39) (by decide +kernel)
theorem w42_X2_feed : Cond.initialized RX5 ∈ wsX2_feed := List.mem_of_getElem? (i := 42) (by decide +kernel)
theorem w45_X2_feed : Cond.methodLink RX2 193 yX1_removeFirst ∈ wsX2_feed := List.mem_of_getElem? (i := 45) (by decide +kernel)
theorem i0_X2_feed : ∀ w ∈ wsX00, w ∈ wsX2_feed := fun w h => (goodIn_r _ [65, 66, 67, 68, 69, 70, 71, 72] (by decide +kernel) (by decide +kernel) w h).1
theorem i1_X2_feed : ∀ w ∈ wsX10, w ∈ wsX2_feed := fun w h => (goodIn_r _ [73, 74, 75, 76] (by decide +kernel) (by decide +kernel) w h).1
theorem i2_X2_feed : ∀ w ∈ wsX20, w ∈ wsX2_feed := fun w h => (goodIn_r _ [49, 50, 51, 52, 53, 54, 55, 56, 57, 58, 59, 60, 61, 62, 63, 64] (by decide +kernel) (by decide +kernel) w h).1
theorem i5_X2_feed : ∀ w ∈ wsX50, w ∈ wsX2_feed := fun w h => (goodIn_r _ [77] (by decide +kernel) (by decide +kernel) w h).1
set_option maxHeartbeats 4000000 in
set_option maxRecDepth 100000 in
theorem kX2_feed (l : Launch) (E : ee_T) (h0 h1 h4 h6 h8 h9 : Nat) (pt : UInt32) (sp ft sq c0 c1 c2 c3 c4 c5 c6 : Int32) (h2 h3 : Nat) (fr en : Nat) (fk fl : Nat → Int32) (h5 : Nat) (sv : Nat → Int32) (sd rn lt : Int32) (tk tr lb sc ed : Nat) (hfe : fr ≤ en) (hen : en ≤ 80) (hln : ∀ i, i < en - fr → lnOK (fl (fr + i))) (hnan : vf_n32 (FP.fsub pt (FP.i2f (sv 1)))) (hF : fdS (fun i => fk (fr + i)) (fun i => fl (fr + i)) sv pt (en - fr) 0 0 0 0 = (tk, tr, lb, sc, ed)) : CQ l E yX2_feed wsX2_feed rmX2_feed [.ref h0] [(h0, ee_o 2 [.ref h1, .ref h4, .ref h6, .ref h8, .ref h9, .float pt, .int sp, .int ft, .int sq, .int c0, .int c1, .int c2, .int c3, .int c4, .int c5, .int c6]), (h1, ee_o 1 [.ref h2, .ref h3, .int (nI fr), .int (nI en)]), (h2, ee_i E 80 fk), (h3, ee_i E 80 fl), (h4, ee_o 5 [.ref h5]), (h5, ee_i E 8 sv), (h8, ee_o 0 [.int (nI 0), .int (nI 0), .int (nI 0), .int (nI 0), .int (nI 0), .int sd, .int rn, .int lt])] (QV E (fun (u : Unit) => True) (fun (u : Unit) => [(h0, ee_o 2 [.ref h1, .ref h4, .ref h6, .ref h8, .ref h9, .float pt, .int sp, .int ft, .int sq, .int c0, .int c1, .int c2, .int c3, .int c4, .int c5, .int c6]), (h1, ee_o 1 [.ref h2, .ref h3, .int (nI (fr + tk)), .int (nI en)]), (h2, ee_i E 80 fk), (h3, ee_i E 80 fl), (h4, ee_o 5 [.ref h5]), (h5, ee_i E 8 sv), (h8, ee_o 0 [.int (nI tr), .int (nI lb), .int (nI sc), .int (nI tk), .int (nI ed), .int sd, .int rn, .int lt])])) 0 0 := by
  refine CQ_ofW (cc := cX2_feed) (maxL := 3) (ret := none) (by decide) rfl (Nat.le_of_ble_eq_true rfl) ?_
  intro p e s m below meth c A Q hQ hx hb hr hml hown hlocks hnm hts hV hA hP hD hS ls hl
  have hl : lv_has ls 3 [(0, .ref h0)] := hl
  refine lv_aload_n hx hb dX2_feed_0 rfl (lv_at hl 0 rfl) ?_
  refine va_get (ci := 2) (v := .ref h1) (C := RX2) (T := TX2) (N := 16) hx hb hts i2_X2_feed hown hV.1 hP 0 rfl rfl 0 (by decide) (hts _ w1_X2_feed) (fun _ h9 => h9) rfl dX2_feed_1 ?_
  refine ee_ki (wr := [(h0, ee_o 2 [.ref h1, .ref h4, .ref h6, .ref h8, .ref h9, .float pt, .int sp, .int ft, .int sq, .int c0, .int c1, .int c2, .int c3, .int c4, .int c5, .int c6]), (h2, ee_i E 80 fk), (h3, ee_i E 80 fl), (h4, ee_o 5 [.ref h5]), (h5, ee_i E 8 sv), (h8, ee_o 0 [.int (nI 0), .int (nI 0), .int (nI 0), .int (nI 0), .int (nI 0), .int sd, .int rn, .int lt])]) (ee_rV (As := []) (rest := []) (kX1_size l E h1 h2 h3 fr en (by omega)) hx hb hml hown hts 0 gX2_feed_X1_size rfl rfl rfl (by decide +kernel) ⟨Nat.le_of_ble_eq_true rfl, Nat.le_of_ble_eq_true rfl⟩ hV hP hD hS hA [1] rfl (by decide) hl 1 rfl rfl rfl rfl (Nat.le_of_ble_eq_true rfl) dX2_feed_4 ⟨Nat.le_of_ble_eq_true rfl, Nat.le_of_ble_eq_true rfl⟩) hP hD hS hA [1] [0, 2, 3, 4, 5, 6] rfl rfl (by decide) (by decide) (fun r_1 u_2 H locs hp_3 hP hD hS => ?_)
  subst hp_3
  have hP : va_P E.1 vwCl [(h0, ee_o 2 [.ref h1, .ref h4, .ref h6, .ref h8, .ref h9, .float pt, .int sp, .int ft, .int sq, .int c0, .int c1, .int c2, .int c3, .int c4, .int c5, .int c6]), (h2, ee_i E 80 fk), (h3, ee_i E 80 fl), (h4, ee_o 5 [.ref h5]), (h5, ee_i E 8 sv), (h8, ee_o 0 [.int (nI 0), .int (nI 0), .int (nI 0), .int (nI 0), .int (nI 0), .int sd, .int rn, .int lt]), (h1, ee_o 1 [.ref h2, .ref h3, .int (nI fr), .int (nI en)])] H := hP
  have hD : va_D A [(h0, ee_o 2 [.ref h1, .ref h4, .ref h6, .ref h8, .ref h9, .float pt, .int sp, .int ft, .int sq, .int c0, .int c1, .int c2, .int c3, .int c4, .int c5, .int c6]), (h2, ee_i E 80 fk), (h3, ee_i E 80 fl), (h4, ee_o 5 [.ref h5]), (h5, ee_i E 8 sv), (h8, ee_o 0 [.int (nI 0), .int (nI 0), .int (nI 0), .int (nI 0), .int (nI 0), .int sd, .int rn, .int lt]), (h1, ee_o 1 [.ref h2, .ref h3, .int (nI fr), .int (nI en)])] := hD
  refine lv_istore_n (lv' := [(1, .int (nI (en - fr))), (0, .ref h0)]) hx hb dX2_feed_7 rfl hl (by decide) rfl (fun ls hl => ?_)
  refine lv_iconst (v := nI 0) hx hb dX2_feed_8 (by decide) ?_
  refine lv_istore_n (lv' := [(2, .int (nI 0)), (1, .int (nI (en - fr))), (0, .ref h0)]) hx hb dX2_feed_9 rfl hl (by decide) rfl (fun ls hl => ?_)
  have B_4 : ∀ (zz : Nat) (i t1 l1 s1 ee : Nat) (H : Heap) (locs : List Loc) (ls : Array Slot), (en - fr - i) < zz → (i ≤ en - fr) → (ee ≤ 2) → ((ee = 0 ∧ fdS (fun i => fk (fr + i)) (fun i => fl (fr + i)) sv pt (en - fr - i) i t1 l1 s1 = (tk, tr, lb, sc, ed)) ∨ (ee ≠ 0 ∧ (i, t1, l1, s1, ee) = (tk, tr, lb, sc, ed))) → va_P E.1 vwCl [(h0, ee_o 2 [.ref h1, .ref h4, .ref h6, .ref h8, .ref h9, .float pt, .int sp, .int ft, .int sq, .int c0, .int c1, .int c2, .int c3, .int c4, .int c5, .int c6]), (h2, ee_i E 80 fk), (h3, ee_i E 80 fl), (h4, ee_o 5 [.ref h5]), (h5, ee_i E 8 sv), (h8, ee_o 0 [.int (nI t1), .int (nI l1), .int (nI s1), .int (nI i), .int (nI ee), .int sd, .int rn, .int lt]), (h1, ee_o 1 [.ref h2, .ref h3, .int (nI fr), .int (nI en)])] H → va_D A [(h0, ee_o 2 [.ref h1, .ref h4, .ref h6, .ref h8, .ref h9, .float pt, .int sp, .int ft, .int sq, .int c0, .int c1, .int c2, .int c3, .int c4, .int c5, .int c6]), (h2, ee_i E 80 fk), (h3, ee_i E 80 fl), (h4, ee_o 5 [.ref h5]), (h5, ee_i E 8 sv), (h8, ee_o 0 [.int (nI t1), .int (nI l1), .int (nI s1), .int (nI i), .int (nI ee), .int sd, .int rn, .int lt]), (h1, ee_o 1 [.ref h2, .ref h3, .int (nI fr), .int (nI en)])] → va_S A s.heap H locs → lv_has ls 3 [(2, .int (nI i)), (1, .int (nI (en - fr))), (0, .ref h0)] → W p l e rmX2_feed s m [.ref h0].toArray below meth c H locs 0 0 Q (F0 m 10 ls []) := by
    intro zz
    induction zz with
    | zero => intro i t1 l1 s1 ee H locs ls hzz; exact absurd hzz (Nat.not_lt_zero _)
    | succ zz ihB_4 =>
      intro i t1 l1 s1 ee H locs ls hzz hin he2 hE hP hD hS hl
      refine lv_iload_n hx hb dX2_feed_10 rfl (lv_at hl 0 rfl) ?_
      refine lv_iload_n hx hb dX2_feed_11 rfl (lv_at hl 1 rfl) ?_
      refine ee_ge (tgt := 81) hx hb (by omega) (by omega) dX2_feed_12 (by decide) (fun h_5 => ?_) (fun h_5 => ?_)
      · refine lv_aload_n hx hb dX2_feed_81 rfl (lv_at hl 2 rfl) ?_
        refine va_get (ci := 2) (v := .ref h8) (C := RX2) (T := TX2) (N := 16) hx hb hts i2_X2_feed hown hV.1 hP 0 rfl rfl 3 (by decide) (hts _ w2_X2_feed) (fun _ h9 => h9) rfl dX2_feed_82 ?_
        refine va_get (ci := 0) (v := .int (nI ee)) (C := RX0) (T := TX0) (N := 8) hx hb hts i0_X2_feed hown hV.1 hP 5 rfl rfl 4 (by decide) (hts _ w3_X2_feed) (fun _ h9 => h9) rfl dX2_feed_85 ?_
        refine ee_ne0 (tgt := 99) hx hb (by omega) dX2_feed_88 (by decide) (fun g88 => ?_) (fun g88 => ?_)
        · refine lv_aload_n hx hb dX2_feed_99 rfl (lv_at hl 2 rfl) ?_
          refine va_get (ci := 2) (v := .ref h1) (C := RX2) (T := TX2) (N := 16) hx hb hts i2_X2_feed hown hV.1 hP 0 rfl rfl 0 (by decide) (hts _ w1_X2_feed) (fun _ h9 => h9) rfl dX2_feed_100 ?_
          refine lv_aload_n hx hb dX2_feed_103 rfl (lv_at hl 2 rfl) ?_
          refine va_get (ci := 2) (v := .ref h8) (C := RX2) (T := TX2) (N := 16) hx hb hts i2_X2_feed hown hV.1 hP 0 rfl rfl 3 (by decide) (hts _ w2_X2_feed) (fun _ h9 => h9) rfl dX2_feed_104 ?_
          refine va_get (ci := 0) (v := .int (nI i)) (C := RX0) (T := TX0) (N := 8) hx hb hts i0_X2_feed hown hV.1 hP 5 rfl rfl 3 (by decide) (hts _ w4_X2_feed) (fun _ h9 => h9) rfl dX2_feed_107 ?_
          refine ee_kv (wr := [(h0, ee_o 2 [.ref h1, .ref h4, .ref h6, .ref h8, .ref h9, .float pt, .int sp, .int ft, .int sq, .int c0, .int c1, .int c2, .int c3, .int c4, .int c5, .int c6]), (h2, ee_i E 80 fk), (h3, ee_i E 80 fl), (h4, ee_o 5 [.ref h5]), (h5, ee_i E 8 sv), (h8, ee_o 0 [.int (nI t1), .int (nI l1), .int (nI s1), .int (nI i), .int (nI ee), .int sd, .int rn, .int lt])]) (ee_rV (As := [.int (nI i)]) (rest := []) (kX1_removeFirst l E h1 h2 h3 fr en i) hx hb hml hown hts 1 gX2_feed_X1_removeFirst rfl rfl rfl (by decide +kernel) ⟨Nat.le_of_ble_eq_true rfl, Nat.le_of_ble_eq_true rfl⟩ hV hP hD hS hA [6] rfl (by decide) hl 6 rfl rfl rfl rfl (Nat.le_of_ble_eq_true rfl) dX2_feed_110 ⟨Nat.le_of_ble_eq_true rfl, Nat.le_of_ble_eq_true rfl⟩) hP hD hS hA [6] [0, 1, 2, 3, 4, 5] rfl rfl (by decide) (by decide) (fun u_7 H locs hp_8 hP hD hS => ?_)
          have hP : va_P E.1 vwCl [(h0, ee_o 2 [.ref h1, .ref h4, .ref h6, .ref h8, .ref h9, .float pt, .int sp, .int ft, .int sq, .int c0, .int c1, .int c2, .int c3, .int c4, .int c5, .int c6]), (h2, ee_i E 80 fk), (h3, ee_i E 80 fl), (h4, ee_o 5 [.ref h5]), (h5, ee_i E 8 sv), (h8, ee_o 0 [.int (nI t1), .int (nI l1), .int (nI s1), .int (nI i), .int (nI ee), .int sd, .int rn, .int lt]), (h1, ee_o 1 [.ref h2, .ref h3, .int (nI (fr + i)), .int (nI en)])] H := hP
          have hD : va_D A [(h0, ee_o 2 [.ref h1, .ref h4, .ref h6, .ref h8, .ref h9, .float pt, .int sp, .int ft, .int sq, .int c0, .int c1, .int c2, .int c3, .int c4, .int c5, .int c6]), (h2, ee_i E 80 fk), (h3, ee_i E 80 fl), (h4, ee_o 5 [.ref h5]), (h5, ee_i E 8 sv), (h8, ee_o 0 [.int (nI t1), .int (nI l1), .int (nI s1), .int (nI i), .int (nI ee), .int sd, .int rn, .int lt]), (h1, ee_o 1 [.ref h2, .ref h3, .int (nI (fr + i)), .int (nI en)])] := hD
          have hE5 := fd_5 (hE.resolve_left (fun q => g88 q.1)).2
          obtain ⟨rfl, rfl, rfl, rfl, rfl⟩ := hE5
          exact ee_fv hQ hx hb hr hlocks hS () (trivial) (hP.sub [0, 6, 1, 2, 3, 4, 5] rfl) (hD.sub [0, 6, 1, 2, 3, 4, 5] (by decide) rfl) dX2_feed_113
        · refine lv_aload_n hx hb dX2_feed_91 rfl (lv_at hl 2 rfl) ?_
          refine va_get (ci := 2) (v := .ref h8) (C := RX2) (T := TX2) (N := 16) hx hb hts i2_X2_feed hown hV.1 hP 0 rfl rfl 3 (by decide) (hts _ w2_X2_feed) (fun _ h9 => h9) rfl dX2_feed_92 ?_
          refine lv_iconst (v := nI 3) hx hb dX2_feed_95 (by decide) ?_
          refine va_put (ci := 0) (v := .int (nI 3)) (ty := .int) (C := RX0) (T := TX0) (N := 8) hx hb hts i0_X2_feed tyX0 tyX0_ok nmX0 hown hV.1 hP hD hS 5 rfl rfl 4 (by decide) (hts _ w3_X2_feed) (fun _ h9 => h9) rfl (by decide +kernel) rfl rfl (Nat.le_of_ble_eq_true rfl) dX2_feed_96 (fun H locs hP hD hS => ?_)
          have hP : va_P E.1 vwCl [(h0, ee_o 2 [.ref h1, .ref h4, .ref h6, .ref h8, .ref h9, .float pt, .int sp, .int ft, .int sq, .int c0, .int c1, .int c2, .int c3, .int c4, .int c5, .int c6]), (h2, ee_i E 80 fk), (h3, ee_i E 80 fl), (h4, ee_o 5 [.ref h5]), (h5, ee_i E 8 sv), (h8, ee_o 0 [.int (nI t1), .int (nI l1), .int (nI s1), .int (nI i), .int (nI 3), .int sd, .int rn, .int lt]), (h1, ee_o 1 [.ref h2, .ref h3, .int (nI fr), .int (nI en)])] H := hP
          have hD : va_D A [(h0, ee_o 2 [.ref h1, .ref h4, .ref h6, .ref h8, .ref h9, .float pt, .int sp, .int ft, .int sq, .int c0, .int c1, .int c2, .int c3, .int c4, .int c5, .int c6]), (h2, ee_i E 80 fk), (h3, ee_i E 80 fl), (h4, ee_o 5 [.ref h5]), (h5, ee_i E 8 sv), (h8, ee_o 0 [.int (nI t1), .int (nI l1), .int (nI s1), .int (nI i), .int (nI 3), .int sd, .int rn, .int lt]), (h1, ee_o 1 [.ref h2, .ref h3, .int (nI fr), .int (nI en)])] := hD
          refine lv_aload_n hx hb dX2_feed_99 rfl (lv_at hl 2 rfl) ?_
          refine va_get (ci := 2) (v := .ref h1) (C := RX2) (T := TX2) (N := 16) hx hb hts i2_X2_feed hown hV.1 hP 0 rfl rfl 0 (by decide) (hts _ w1_X2_feed) (fun _ h9 => h9) rfl dX2_feed_100 ?_
          refine lv_aload_n hx hb dX2_feed_103 rfl (lv_at hl 2 rfl) ?_
          refine va_get (ci := 2) (v := .ref h8) (C := RX2) (T := TX2) (N := 16) hx hb hts i2_X2_feed hown hV.1 hP 0 rfl rfl 3 (by decide) (hts _ w2_X2_feed) (fun _ h9 => h9) rfl dX2_feed_104 ?_
          refine va_get (ci := 0) (v := .int (nI i)) (C := RX0) (T := TX0) (N := 8) hx hb hts i0_X2_feed hown hV.1 hP 5 rfl rfl 3 (by decide) (hts _ w4_X2_feed) (fun _ h9 => h9) rfl dX2_feed_107 ?_
          refine ee_kv (wr := [(h0, ee_o 2 [.ref h1, .ref h4, .ref h6, .ref h8, .ref h9, .float pt, .int sp, .int ft, .int sq, .int c0, .int c1, .int c2, .int c3, .int c4, .int c5, .int c6]), (h2, ee_i E 80 fk), (h3, ee_i E 80 fl), (h4, ee_o 5 [.ref h5]), (h5, ee_i E 8 sv), (h8, ee_o 0 [.int (nI t1), .int (nI l1), .int (nI s1), .int (nI i), .int (nI 3), .int sd, .int rn, .int lt])]) (ee_rV (As := [.int (nI i)]) (rest := []) (kX1_removeFirst l E h1 h2 h3 fr en i) hx hb hml hown hts 1 gX2_feed_X1_removeFirst rfl rfl rfl (by decide +kernel) ⟨Nat.le_of_ble_eq_true rfl, Nat.le_of_ble_eq_true rfl⟩ hV hP hD hS hA [6] rfl (by decide) hl 6 rfl rfl rfl rfl (Nat.le_of_ble_eq_true rfl) dX2_feed_110 ⟨Nat.le_of_ble_eq_true rfl, Nat.le_of_ble_eq_true rfl⟩) hP hD hS hA [6] [0, 1, 2, 3, 4, 5] rfl rfl (by decide) (by decide) (fun u_10 H locs hp_11 hP hD hS => ?_)
          have hP : va_P E.1 vwCl [(h0, ee_o 2 [.ref h1, .ref h4, .ref h6, .ref h8, .ref h9, .float pt, .int sp, .int ft, .int sq, .int c0, .int c1, .int c2, .int c3, .int c4, .int c5, .int c6]), (h2, ee_i E 80 fk), (h3, ee_i E 80 fl), (h4, ee_o 5 [.ref h5]), (h5, ee_i E 8 sv), (h8, ee_o 0 [.int (nI t1), .int (nI l1), .int (nI s1), .int (nI i), .int (nI 3), .int sd, .int rn, .int lt]), (h1, ee_o 1 [.ref h2, .ref h3, .int (nI (fr + i)), .int (nI en)])] H := hP
          have hD : va_D A [(h0, ee_o 2 [.ref h1, .ref h4, .ref h6, .ref h8, .ref h9, .float pt, .int sp, .int ft, .int sq, .int c0, .int c1, .int c2, .int c3, .int c4, .int c5, .int c6]), (h2, ee_i E 80 fk), (h3, ee_i E 80 fl), (h4, ee_o 5 [.ref h5]), (h5, ee_i E 8 sv), (h8, ee_o 0 [.int (nI t1), .int (nI l1), .int (nI s1), .int (nI i), .int (nI 3), .int sd, .int rn, .int lt]), (h1, ee_o 1 [.ref h2, .ref h3, .int (nI (fr + i)), .int (nI en)])] := hD
          have hE5 := fd_5 (fd_end (by omega) (hE.resolve_right (fun q => q.1 g88)).2)
          obtain ⟨rfl, rfl, rfl, rfl, rfl⟩ := hE5
          exact ee_fv hQ hx hb hr hlocks hS () (trivial) (hP.sub [0, 6, 1, 2, 3, 4, 5] rfl) (hD.sub [0, 6, 1, 2, 3, 4, 5] (by decide) rfl) dX2_feed_113
      · refine lv_aload_n hx hb dX2_feed_15 rfl (lv_at hl 2 rfl) ?_
        refine va_get (ci := 2) (v := .ref h8) (C := RX2) (T := TX2) (N := 16) hx hb hts i2_X2_feed hown hV.1 hP 0 rfl rfl 3 (by decide) (hts _ w2_X2_feed) (fun _ h9 => h9) rfl dX2_feed_16 ?_
        refine va_get (ci := 0) (v := .int (nI ee)) (C := RX0) (T := TX0) (N := 8) hx hb hts i0_X2_feed hown hV.1 hP 5 rfl rfl 4 (by decide) (hts _ w3_X2_feed) (fun _ h9 => h9) rfl dX2_feed_19 ?_
        refine ee_ne0 (tgt := 81) hx hb (by omega) dX2_feed_22 (by decide) (fun g22 => ?_) (fun g22 => ?_)
        · refine lv_aload_n hx hb dX2_feed_81 rfl (lv_at hl 2 rfl) ?_
          refine va_get (ci := 2) (v := .ref h8) (C := RX2) (T := TX2) (N := 16) hx hb hts i2_X2_feed hown hV.1 hP 0 rfl rfl 3 (by decide) (hts _ w2_X2_feed) (fun _ h9 => h9) rfl dX2_feed_82 ?_
          refine va_get (ci := 0) (v := .int (nI ee)) (C := RX0) (T := TX0) (N := 8) hx hb hts i0_X2_feed hown hV.1 hP 5 rfl rfl 4 (by decide) (hts _ w3_X2_feed) (fun _ h9 => h9) rfl dX2_feed_85 ?_
          refine ee_ne0 (tgt := 99) hx hb (by omega) dX2_feed_88 (by decide) (fun g88 => ?_) (fun g88 => absurd g88 g22)
          refine lv_aload_n hx hb dX2_feed_99 rfl (lv_at hl 2 rfl) ?_
          refine va_get (ci := 2) (v := .ref h1) (C := RX2) (T := TX2) (N := 16) hx hb hts i2_X2_feed hown hV.1 hP 0 rfl rfl 0 (by decide) (hts _ w1_X2_feed) (fun _ h9 => h9) rfl dX2_feed_100 ?_
          refine lv_aload_n hx hb dX2_feed_103 rfl (lv_at hl 2 rfl) ?_
          refine va_get (ci := 2) (v := .ref h8) (C := RX2) (T := TX2) (N := 16) hx hb hts i2_X2_feed hown hV.1 hP 0 rfl rfl 3 (by decide) (hts _ w2_X2_feed) (fun _ h9 => h9) rfl dX2_feed_104 ?_
          refine va_get (ci := 0) (v := .int (nI i)) (C := RX0) (T := TX0) (N := 8) hx hb hts i0_X2_feed hown hV.1 hP 5 rfl rfl 3 (by decide) (hts _ w4_X2_feed) (fun _ h9 => h9) rfl dX2_feed_107 ?_
          refine ee_kv (wr := [(h0, ee_o 2 [.ref h1, .ref h4, .ref h6, .ref h8, .ref h9, .float pt, .int sp, .int ft, .int sq, .int c0, .int c1, .int c2, .int c3, .int c4, .int c5, .int c6]), (h2, ee_i E 80 fk), (h3, ee_i E 80 fl), (h4, ee_o 5 [.ref h5]), (h5, ee_i E 8 sv), (h8, ee_o 0 [.int (nI t1), .int (nI l1), .int (nI s1), .int (nI i), .int (nI ee), .int sd, .int rn, .int lt])]) (ee_rV (As := [.int (nI i)]) (rest := []) (kX1_removeFirst l E h1 h2 h3 fr en i) hx hb hml hown hts 1 gX2_feed_X1_removeFirst rfl rfl rfl (by decide +kernel) ⟨Nat.le_of_ble_eq_true rfl, Nat.le_of_ble_eq_true rfl⟩ hV hP hD hS hA [6] rfl (by decide) hl 6 rfl rfl rfl rfl (Nat.le_of_ble_eq_true rfl) dX2_feed_110 ⟨Nat.le_of_ble_eq_true rfl, Nat.le_of_ble_eq_true rfl⟩) hP hD hS hA [6] [0, 1, 2, 3, 4, 5] rfl rfl (by decide) (by decide) (fun u_13 H locs hp_14 hP hD hS => ?_)
          have hP : va_P E.1 vwCl [(h0, ee_o 2 [.ref h1, .ref h4, .ref h6, .ref h8, .ref h9, .float pt, .int sp, .int ft, .int sq, .int c0, .int c1, .int c2, .int c3, .int c4, .int c5, .int c6]), (h2, ee_i E 80 fk), (h3, ee_i E 80 fl), (h4, ee_o 5 [.ref h5]), (h5, ee_i E 8 sv), (h8, ee_o 0 [.int (nI t1), .int (nI l1), .int (nI s1), .int (nI i), .int (nI ee), .int sd, .int rn, .int lt]), (h1, ee_o 1 [.ref h2, .ref h3, .int (nI (fr + i)), .int (nI en)])] H := hP
          have hD : va_D A [(h0, ee_o 2 [.ref h1, .ref h4, .ref h6, .ref h8, .ref h9, .float pt, .int sp, .int ft, .int sq, .int c0, .int c1, .int c2, .int c3, .int c4, .int c5, .int c6]), (h2, ee_i E 80 fk), (h3, ee_i E 80 fl), (h4, ee_o 5 [.ref h5]), (h5, ee_i E 8 sv), (h8, ee_o 0 [.int (nI t1), .int (nI l1), .int (nI s1), .int (nI i), .int (nI ee), .int sd, .int rn, .int lt]), (h1, ee_o 1 [.ref h2, .ref h3, .int (nI (fr + i)), .int (nI en)])] := hD
          have hE5 := fd_5 (hE.resolve_left (fun q => g22 q.1)).2
          obtain ⟨rfl, rfl, rfl, rfl, rfl⟩ := hE5
          exact ee_fv hQ hx hb hr hlocks hS () (trivial) (hP.sub [0, 6, 1, 2, 3, 4, 5] rfl) (hD.sub [0, 6, 1, 2, 3, 4, 5] (by decide) rfl) dX2_feed_113
        · refine lv_aload_n hx hb dX2_feed_25 rfl (lv_at hl 2 rfl) ?_
          refine va_get (ci := 2) (v := .ref h8) (C := RX2) (T := TX2) (N := 16) hx hb hts i2_X2_feed hown hV.1 hP 0 rfl rfl 3 (by decide) (hts _ w2_X2_feed) (fun _ h9 => h9) rfl dX2_feed_26 ?_
          refine lv_aload_n hx hb dX2_feed_29 rfl (lv_at hl 2 rfl) ?_
          refine va_get (ci := 2) (v := .ref h1) (C := RX2) (T := TX2) (N := 16) hx hb hts i2_X2_feed hown hV.1 hP 0 rfl rfl 0 (by decide) (hts _ w1_X2_feed) (fun _ h9 => h9) rfl dX2_feed_30 ?_
          refine lv_iload_n hx hb dX2_feed_33 rfl (lv_at hl 0 rfl) ?_
          refine ee_ki (wr := [(h0, ee_o 2 [.ref h1, .ref h4, .ref h6, .ref h8, .ref h9, .float pt, .int sp, .int ft, .int sq, .int c0, .int c1, .int c2, .int c3, .int c4, .int c5, .int c6]), (h3, ee_i E 80 fl), (h4, ee_o 5 [.ref h5]), (h5, ee_i E 8 sv), (h8, ee_o 0 [.int (nI t1), .int (nI l1), .int (nI s1), .int (nI i), .int (nI ee), .int sd, .int rn, .int lt])]) (ee_rV (As := [.int (nI i)]) (rest := [.ref h8]) (kX1_kindOf l E h1 h2 h3 fr en fk i (by omega)) hx hb hml hown hts 1 gX2_feed_X1_kindOf rfl rfl rfl (by decide +kernel) ⟨Nat.le_of_ble_eq_true rfl, Nat.le_of_ble_eq_true rfl⟩ hV hP hD hS hA [6, 1] rfl (by decide) hl 6 rfl rfl rfl rfl (Nat.le_of_ble_eq_true rfl) dX2_feed_34 ⟨Nat.le_of_ble_eq_true rfl, Nat.le_of_ble_eq_true rfl⟩) hP hD hS hA [6, 1] [0, 2, 3, 4, 5] rfl rfl (by decide) (by decide) (fun r_15 u_16 H locs hp_17 hP hD hS => ?_)
          subst hp_17
          have hP : va_P E.1 vwCl [(h0, ee_o 2 [.ref h1, .ref h4, .ref h6, .ref h8, .ref h9, .float pt, .int sp, .int ft, .int sq, .int c0, .int c1, .int c2, .int c3, .int c4, .int c5, .int c6]), (h3, ee_i E 80 fl), (h4, ee_o 5 [.ref h5]), (h5, ee_i E 8 sv), (h8, ee_o 0 [.int (nI t1), .int (nI l1), .int (nI s1), .int (nI i), .int (nI ee), .int sd, .int rn, .int lt]), (h1, ee_o 1 [.ref h2, .ref h3, .int (nI fr), .int (nI en)]), (h2, ee_i E 80 fk)] H := hP
          have hD : va_D A [(h0, ee_o 2 [.ref h1, .ref h4, .ref h6, .ref h8, .ref h9, .float pt, .int sp, .int ft, .int sq, .int c0, .int c1, .int c2, .int c3, .int c4, .int c5, .int c6]), (h3, ee_i E 80 fl), (h4, ee_o 5 [.ref h5]), (h5, ee_i E 8 sv), (h8, ee_o 0 [.int (nI t1), .int (nI l1), .int (nI s1), .int (nI i), .int (nI ee), .int sd, .int rn, .int lt]), (h1, ee_o 1 [.ref h2, .ref h3, .int (nI fr), .int (nI en)]), (h2, ee_i E 80 fk)] := hD
          refine lv_aload_n hx hb dX2_feed_37 rfl (lv_at hl 2 rfl) ?_
          refine va_get (ci := 2) (v := .ref h1) (C := RX2) (T := TX2) (N := 16) hx hb hts i2_X2_feed hown hV.1 hP 0 rfl rfl 0 (by decide) (hts _ w1_X2_feed) (fun _ h9 => h9) rfl dX2_feed_38 ?_
          refine lv_iload_n hx hb dX2_feed_41 rfl (lv_at hl 0 rfl) ?_
          refine ee_ki (wr := [(h0, ee_o 2 [.ref h1, .ref h4, .ref h6, .ref h8, .ref h9, .float pt, .int sp, .int ft, .int sq, .int c0, .int c1, .int c2, .int c3, .int c4, .int c5, .int c6]), (h4, ee_o 5 [.ref h5]), (h5, ee_i E 8 sv), (h8, ee_o 0 [.int (nI t1), .int (nI l1), .int (nI s1), .int (nI i), .int (nI ee), .int sd, .int rn, .int lt]), (h2, ee_i E 80 fk)]) (ee_rV (As := [.int (nI i)]) (rest := [.int (fk (fr + i)), .ref h8]) (kX1_lengthOf l E h1 h2 h3 fr en fl i (by omega)) hx hb hml hown hts 1 gX2_feed_X1_lengthOf rfl rfl rfl (by decide +kernel) ⟨Nat.le_of_ble_eq_true rfl, Nat.le_of_ble_eq_true rfl⟩ hV hP hD hS hA [5, 1] rfl (by decide) hl 5 rfl rfl rfl rfl (Nat.le_of_ble_eq_true rfl) dX2_feed_42 ⟨Nat.le_of_ble_eq_true rfl, Nat.le_of_ble_eq_true rfl⟩) hP hD hS hA [5, 1] [0, 2, 3, 4, 6] rfl rfl (by decide) (by decide) (fun r_18 u_19 H locs hp_20 hP hD hS => ?_)
          subst hp_20
          have hP : va_P E.1 vwCl [(h0, ee_o 2 [.ref h1, .ref h4, .ref h6, .ref h8, .ref h9, .float pt, .int sp, .int ft, .int sq, .int c0, .int c1, .int c2, .int c3, .int c4, .int c5, .int c6]), (h4, ee_o 5 [.ref h5]), (h5, ee_i E 8 sv), (h8, ee_o 0 [.int (nI t1), .int (nI l1), .int (nI s1), .int (nI i), .int (nI ee), .int sd, .int rn, .int lt]), (h2, ee_i E 80 fk), (h1, ee_o 1 [.ref h2, .ref h3, .int (nI fr), .int (nI en)]), (h3, ee_i E 80 fl)] H := hP
          have hD : va_D A [(h0, ee_o 2 [.ref h1, .ref h4, .ref h6, .ref h8, .ref h9, .float pt, .int sp, .int ft, .int sq, .int c0, .int c1, .int c2, .int c3, .int c4, .int c5, .int c6]), (h4, ee_o 5 [.ref h5]), (h5, ee_i E 8 sv), (h8, ee_o 0 [.int (nI t1), .int (nI l1), .int (nI s1), .int (nI i), .int (nI ee), .int sd, .int rn, .int lt]), (h2, ee_i E 80 fk), (h1, ee_o 1 [.ref h2, .ref h3, .int (nI fr), .int (nI en)]), (h3, ee_i E 80 fl)] := hD
          have hni := lnOK_nv (hln i (by omega))
          refine ee_to (z := nI (nv (fl (fr + i)))) (hni.1) ?_
          refine ee_kv (wr := [(h0, ee_o 2 [.ref h1, .ref h4, .ref h6, .ref h8, .ref h9, .float pt, .int sp, .int ft, .int sq, .int c0, .int c1, .int c2, .int c3, .int c4, .int c5, .int c6]), (h4, ee_o 5 [.ref h5]), (h5, ee_i E 8 sv), (h2, ee_i E 80 fk), (h1, ee_o 1 [.ref h2, .ref h3, .int (nI fr), .int (nI en)]), (h3, ee_i E 80 fl)]) (ee_rV (As := [.int (fk (fr + i)), .int (nI (nv (fl (fr + i))))]) (rest := []) (kX0_take l E h8 t1 l1 s1 i (nI ee) sd rn lt (fk (fr + i)) (nv (fl (fr + i)))) hx hb hml hown hts 2 gX2_feed_X0_take rfl rfl rfl (by decide +kernel) ⟨Nat.le_of_ble_eq_true rfl, Nat.le_of_ble_eq_true rfl⟩ hV hP hD hS hA [3] rfl (by decide) hl 3 rfl rfl rfl rfl (Nat.le_of_ble_eq_true rfl) dX2_feed_45 ⟨Nat.le_of_ble_eq_true rfl, Nat.le_of_ble_eq_true rfl⟩) hP hD hS hA [3] [0, 1, 2, 4, 5, 6] rfl rfl (by decide) (by decide) (fun u_22 H locs hp_23 hP hD hS => ?_)
          obtain ⟨lb4, sp4⟩ := u_22
          try dsimp only at hp_23
          obtain ⟨eL, eS⟩ := hp_23
          have hP : va_P E.1 vwCl [(h0, ee_o 2 [.ref h1, .ref h4, .ref h6, .ref h8, .ref h9, .float pt, .int sp, .int ft, .int sq, .int c0, .int c1, .int c2, .int c3, .int c4, .int c5, .int c6]), (h4, ee_o 5 [.ref h5]), (h5, ee_i E 8 sv), (h2, ee_i E 80 fk), (h1, ee_o 1 [.ref h2, .ref h3, .int (nI fr), .int (nI en)]), (h3, ee_i E 80 fl), (h8, ee_o 0 [.int (nI (t1 + (nv (fl (fr + i))))), .int (nI lb4), .int (nI sp4), .int (nI (i + 1)), .int (nI ee), .int sd, .int rn, .int lt])] H := hP
          have hD : va_D A [(h0, ee_o 2 [.ref h1, .ref h4, .ref h6, .ref h8, .ref h9, .float pt, .int sp, .int ft, .int sq, .int c0, .int c1, .int c2, .int c3, .int c4, .int c5, .int c6]), (h4, ee_o 5 [.ref h5]), (h5, ee_i E 8 sv), (h2, ee_i E 80 fk), (h1, ee_o 1 [.ref h2, .ref h3, .int (nI fr), .int (nI en)]), (h3, ee_i E 80 fl), (h8, ee_o 0 [.int (nI (t1 + (nv (fl (fr + i))))), .int (nI lb4), .int (nI sp4), .int (nI (i + 1)), .int (nI ee), .int sd, .int rn, .int lt])] := hD
          refine lv_aload_n hx hb dX2_feed_48 rfl (lv_at hl 2 rfl) ?_
          refine va_get (ci := 2) (v := .ref h8) (C := RX2) (T := TX2) (N := 16) hx hb hts i2_X2_feed hown hV.1 hP 0 rfl rfl 3 (by decide) (hts _ w2_X2_feed) (fun _ h9 => h9) rfl dX2_feed_49 ?_
          refine lv_aload_n hx hb dX2_feed_52 rfl (lv_at hl 2 rfl) ?_
          refine lv_aload_n hx hb dX2_feed_53 rfl (lv_at hl 2 rfl) ?_
          refine va_get (ci := 2) (v := .ref h1) (C := RX2) (T := TX2) (N := 16) hx hb hts i2_X2_feed hown hV.1 hP 0 rfl rfl 0 (by decide) (hts _ w1_X2_feed) (fun _ h9 => h9) rfl dX2_feed_54 ?_
          refine lv_iload_n hx hb dX2_feed_57 rfl (lv_at hl 0 rfl) ?_
          refine ee_ki (wr := [(h0, ee_o 2 [.ref h1, .ref h4, .ref h6, .ref h8, .ref h9, .float pt, .int sp, .int ft, .int sq, .int c0, .int c1, .int c2, .int c3, .int c4, .int c5, .int c6]), (h4, ee_o 5 [.ref h5]), (h5, ee_i E 8 sv), (h3, ee_i E 80 fl), (h8, ee_o 0 [.int (nI (t1 + (nv (fl (fr + i))))), .int (nI lb4), .int (nI sp4), .int (nI (i + 1)), .int (nI ee), .int sd, .int rn, .int lt])]) (ee_rV (As := [.int (nI i)]) (rest := [.ref h0, .ref h8]) (kX1_kindOf l E h1 h2 h3 fr en fk i (by omega)) hx hb hml hown hts 1 gX2_feed_X1_kindOf rfl rfl rfl (by decide +kernel) ⟨Nat.le_of_ble_eq_true rfl, Nat.le_of_ble_eq_true rfl⟩ hV hP hD hS hA [4, 3] rfl (by decide) hl 4 rfl rfl rfl rfl (Nat.le_of_ble_eq_true rfl) dX2_feed_58 ⟨Nat.le_of_ble_eq_true rfl, Nat.le_of_ble_eq_true rfl⟩) hP hD hS hA [4, 3] [0, 1, 2, 5, 6] rfl rfl (by decide) (by decide) (fun r_24 u_25 H locs hp_26 hP hD hS => ?_)
          subst hp_26
          have hP : va_P E.1 vwCl [(h0, ee_o 2 [.ref h1, .ref h4, .ref h6, .ref h8, .ref h9, .float pt, .int sp, .int ft, .int sq, .int c0, .int c1, .int c2, .int c3, .int c4, .int c5, .int c6]), (h4, ee_o 5 [.ref h5]), (h5, ee_i E 8 sv), (h3, ee_i E 80 fl), (h8, ee_o 0 [.int (nI (t1 + (nv (fl (fr + i))))), .int (nI lb4), .int (nI sp4), .int (nI (i + 1)), .int (nI ee), .int sd, .int rn, .int lt]), (h1, ee_o 1 [.ref h2, .ref h3, .int (nI fr), .int (nI en)]), (h2, ee_i E 80 fk)] H := hP
          have hD : va_D A [(h0, ee_o 2 [.ref h1, .ref h4, .ref h6, .ref h8, .ref h9, .float pt, .int sp, .int ft, .int sq, .int c0, .int c1, .int c2, .int c3, .int c4, .int c5, .int c6]), (h4, ee_o 5 [.ref h5]), (h5, ee_i E 8 sv), (h3, ee_i E 80 fl), (h8, ee_o 0 [.int (nI (t1 + (nv (fl (fr + i))))), .int (nI lb4), .int (nI sp4), .int (nI (i + 1)), .int (nI ee), .int sd, .int rn, .int lt]), (h1, ee_o 1 [.ref h2, .ref h3, .int (nI fr), .int (nI en)]), (h2, ee_i E 80 fk)] := hD
          refine lv_aload_n hx hb dX2_feed_61 rfl (lv_at hl 2 rfl) ?_
          refine va_get (ci := 2) (v := .ref h1) (C := RX2) (T := TX2) (N := 16) hx hb hts i2_X2_feed hown hV.1 hP 0 rfl rfl 0 (by decide) (hts _ w1_X2_feed) (fun _ h9 => h9) rfl dX2_feed_62 ?_
          refine lv_iload_n hx hb dX2_feed_65 rfl (lv_at hl 0 rfl) ?_
          refine ee_ki (wr := [(h0, ee_o 2 [.ref h1, .ref h4, .ref h6, .ref h8, .ref h9, .float pt, .int sp, .int ft, .int sq, .int c0, .int c1, .int c2, .int c3, .int c4, .int c5, .int c6]), (h4, ee_o 5 [.ref h5]), (h5, ee_i E 8 sv), (h8, ee_o 0 [.int (nI (t1 + (nv (fl (fr + i))))), .int (nI lb4), .int (nI sp4), .int (nI (i + 1)), .int (nI ee), .int sd, .int rn, .int lt]), (h2, ee_i E 80 fk)]) (ee_rV (As := [.int (nI i)]) (rest := [.int (fk (fr + i)), .ref h0, .ref h8]) (kX1_lengthOf l E h1 h2 h3 fr en fl i (by omega)) hx hb hml hown hts 1 gX2_feed_X1_lengthOf rfl rfl rfl (by decide +kernel) ⟨Nat.le_of_ble_eq_true rfl, Nat.le_of_ble_eq_true rfl⟩ hV hP hD hS hA [5, 3] rfl (by decide) hl 5 rfl rfl rfl rfl (Nat.le_of_ble_eq_true rfl) dX2_feed_66 ⟨Nat.le_of_ble_eq_true rfl, Nat.le_of_ble_eq_true rfl⟩) hP hD hS hA [5, 3] [0, 1, 2, 4, 6] rfl rfl (by decide) (by decide) (fun r_27 u_28 H locs hp_29 hP hD hS => ?_)
          subst hp_29
          have hP : va_P E.1 vwCl [(h0, ee_o 2 [.ref h1, .ref h4, .ref h6, .ref h8, .ref h9, .float pt, .int sp, .int ft, .int sq, .int c0, .int c1, .int c2, .int c3, .int c4, .int c5, .int c6]), (h4, ee_o 5 [.ref h5]), (h5, ee_i E 8 sv), (h8, ee_o 0 [.int (nI (t1 + (nv (fl (fr + i))))), .int (nI lb4), .int (nI sp4), .int (nI (i + 1)), .int (nI ee), .int sd, .int rn, .int lt]), (h2, ee_i E 80 fk), (h1, ee_o 1 [.ref h2, .ref h3, .int (nI fr), .int (nI en)]), (h3, ee_i E 80 fl)] H := hP
          have hD : va_D A [(h0, ee_o 2 [.ref h1, .ref h4, .ref h6, .ref h8, .ref h9, .float pt, .int sp, .int ft, .int sq, .int c0, .int c1, .int c2, .int c3, .int c4, .int c5, .int c6]), (h4, ee_o 5 [.ref h5]), (h5, ee_i E 8 sv), (h8, ee_o 0 [.int (nI (t1 + (nv (fl (fr + i))))), .int (nI lb4), .int (nI sp4), .int (nI (i + 1)), .int (nI ee), .int sd, .int rn, .int lt]), (h2, ee_i E 80 fk), (h1, ee_o 1 [.ref h2, .ref h3, .int (nI fr), .int (nI en)]), (h3, ee_i E 80 fl)] := hD
          refine ee_ki (wr := [(h2, ee_i E 80 fk), (h1, ee_o 1 [.ref h2, .ref h3, .int (nI fr), .int (nI en)]), (h3, ee_i E 80 fl)]) (ee_rV (As := [.int (fk (fr + i)), .int (fl (fr + i))]) (rest := [.ref h8]) (kX2_endingBehind l E h0 h1 h4 h6 h8 h9 pt sp ft sq c0 c1 c2 c3 c4 c5 c6 h5 sv (t1 + (nv (fl (fr + i)))) lb4 sp4 (i + 1) ee sd rn lt (fk (fr + i)) (fl (fr + i)) hnan) hx hb hml hown hts 2 gX2_feed_X2_endingBehind rfl rfl rfl (by decide +kernel) ⟨Nat.le_of_ble_eq_true rfl, Nat.le_of_ble_eq_true rfl⟩ hV hP hD hS hA [0, 1, 2, 3] rfl (by decide) hl 0 rfl rfl rfl rfl (Nat.le_of_ble_eq_true rfl) dX2_feed_69 ⟨Nat.le_of_ble_eq_true rfl, Nat.le_of_ble_eq_true rfl⟩) hP hD hS hA [0, 1, 2, 3] [4, 5, 6] rfl rfl (by decide) (by decide) (fun r_30 u_31 H locs hp_32 hP hD hS => ?_)
          subst hp_32
          have hP : va_P E.1 vwCl [(h2, ee_i E 80 fk), (h1, ee_o 1 [.ref h2, .ref h3, .int (nI fr), .int (nI en)]), (h3, ee_i E 80 fl), (h0, ee_o 2 [.ref h1, .ref h4, .ref h6, .ref h8, .ref h9, .float pt, .int sp, .int ft, .int sq, .int c0, .int c1, .int c2, .int c3, .int c4, .int c5, .int c6]), (h4, ee_o 5 [.ref h5]), (h5, ee_i E 8 sv), (h8, ee_o 0 [.int (nI (t1 + (nv (fl (fr + i))))), .int (nI lb4), .int (nI sp4), .int (nI (i + 1)), .int (nI ee), .int sd, .int rn, .int lt])] H := hP
          have hD : va_D A [(h2, ee_i E 80 fk), (h1, ee_o 1 [.ref h2, .ref h3, .int (nI fr), .int (nI en)]), (h3, ee_i E 80 fl), (h0, ee_o 2 [.ref h1, .ref h4, .ref h6, .ref h8, .ref h9, .float pt, .int sp, .int ft, .int sq, .int c0, .int c1, .int c2, .int c3, .int c4, .int c5, .int c6]), (h4, ee_o 5 [.ref h5]), (h5, ee_i E 8 sv), (h8, ee_o 0 [.int (nI (t1 + (nv (fl (fr + i))))), .int (nI lb4), .int (nI sp4), .int (nI (i + 1)), .int (nI ee), .int sd, .int rn, .int lt])] := hD
          refine va_put (ci := 0) (v := .int (nI (fdE sv pt (fk (fr + i)) (fl (fr + i)) (t1 + (nv (fl (fr + i))))))) (ty := .int) (C := RX0) (T := TX0) (N := 8) hx hb hts i0_X2_feed tyX0 tyX0_ok nmX0 hown hV.1 hP hD hS 6 rfl rfl 4 (by decide) (hts _ w3_X2_feed) (fun _ h9 => h9) rfl (by decide +kernel) rfl rfl (Nat.le_of_ble_eq_true rfl) dX2_feed_72 (fun H locs hP hD hS => ?_)
          have hP : va_P E.1 vwCl [(h2, ee_i E 80 fk), (h1, ee_o 1 [.ref h2, .ref h3, .int (nI fr), .int (nI en)]), (h3, ee_i E 80 fl), (h0, ee_o 2 [.ref h1, .ref h4, .ref h6, .ref h8, .ref h9, .float pt, .int sp, .int ft, .int sq, .int c0, .int c1, .int c2, .int c3, .int c4, .int c5, .int c6]), (h4, ee_o 5 [.ref h5]), (h5, ee_i E 8 sv), (h8, ee_o 0 [.int (nI (t1 + (nv (fl (fr + i))))), .int (nI lb4), .int (nI sp4), .int (nI (i + 1)), .int (nI (fdE sv pt (fk (fr + i)) (fl (fr + i)) (t1 + (nv (fl (fr + i)))))), .int sd, .int rn, .int lt])] H := hP
          have hD : va_D A [(h2, ee_i E 80 fk), (h1, ee_o 1 [.ref h2, .ref h3, .int (nI fr), .int (nI en)]), (h3, ee_i E 80 fl), (h0, ee_o 2 [.ref h1, .ref h4, .ref h6, .ref h8, .ref h9, .float pt, .int sp, .int ft, .int sq, .int c0, .int c1, .int c2, .int c3, .int c4, .int c5, .int c6]), (h4, ee_o 5 [.ref h5]), (h5, ee_i E 8 sv), (h8, ee_o 0 [.int (nI (t1 + (nv (fl (fr + i))))), .int (nI lb4), .int (nI sp4), .int (nI (i + 1)), .int (nI (fdE sv pt (fk (fr + i)) (fl (fr + i)) (t1 + (nv (fl (fr + i)))))), .int sd, .int rn, .int lt])] := hD
          refine lv_iinc (v := nI (i + 1)) (lv' := [(2, .int (nI (i + 1))), (1, .int (nI (en - fr))), (0, .ref h0)]) hx hb dX2_feed_75 hl (k := 0) rfl (ee_inc _) (by decide) rfl (fun ls hl => ?_)
          refine lv_goto (tgt := 10) hx hb dX2_feed_78 (by decide) ?_
          exact ihB_4 (i + 1) (t1 + (nv (fl (fr + i)))) lb4 sp4 (fdE sv pt (fk (fr + i)) (fl (fr + i)) (t1 + (nv (fl (fr + i))))) _ _ _ (by omega) (by omega) (fdE_le _ _ _ _ _) (by rw [eL, eS]; exact fd_next (κ := fun i => fk (fr + i)) (lm := fun i => fl (fr + i)) (by omega) (hE.resolve_right (fun q => q.1 g22)).2) (hP.sub [3, 0, 2, 4, 5, 6, 1] rfl) (hD.sub [3, 0, 2, 4, 5, 6, 1] (by decide) rfl) hS (lv_sub hl [0, 1, 2] rfl)
  exact B_4 ((en - fr - 0) + 1) 0 0 0 0 0 _ _ _ (Nat.lt_succ_self _) (by omega) (by omega) (Or.inl ⟨rfl, hF⟩) hP hD hS (lv_sub hl [0, 1, 2] rfl)
