/-! the model: looking ahead, runs -/
abbrev rmX9_in : Room := ({ frames := 0, cells := 0, slots := 0, locals := 0 } : Room)
set_option maxHeartbeats 4000000 in
set_option maxRecDepth 100000 in
theorem kX9_in (l : Launch) (E : ee_T) (v a b : Int32)  : CQ l E yX9_in wsX9_in rmX9_in [.int v, .int a, .int b] [] (QI E (fun (r : Int32) (u : Unit) => (r = nI 1 ∧ inR v a b) ∨ (r = nI 0 ∧ ¬ inR v a b)) (fun (u : Unit) => [])) 0 0 := by
  refine CQ_ofW (cc := cX9_in) (maxL := 3) (ret := (some .boolean)) (by decide) rfl (Nat.le_of_ble_eq_true rfl) ?_
  intro p e s m below meth c A Q hQ hx hb hr hml hown hlocks hnm hts hV hA hP hD hS ls hl
  have hl : lv_has ls 3 [(0, .int v), (1, .int a), (2, .int b)] := hl
  refine lv_iload_n hx hb dX9_in_0 rfl (lv_at hl 0 rfl) ?_
  refine lv_iload_n hx hb dX9_in_1 rfl (lv_at hl 1 rfl) ?_
  refine lv_icmp_lt (tgt := 14) hx hb dX9_in_2 (by decide) (fun h_1 => ?_) (fun h_1 => ?_)
  · refine lv_iconst (v := nI 0) hx hb dX9_in_14 (by decide) ?_
    exact ee_fi hQ hx hb hr (by decide) hlocks hS () (Or.inr ⟨rfl, fun q => Int32.not_lt.mpr q.1 h_1⟩) hP hD dX9_in_15
  · refine lv_iload_n hx hb dX9_in_5 rfl (lv_at hl 0 rfl) ?_
    refine lv_iload_n hx hb dX9_in_6 rfl (lv_at hl 2 rfl) ?_
    refine lv_icmp_gt (tgt := 14) hx hb dX9_in_7 (by decide) (fun h_2 => ?_) (fun h_2 => ?_)
    · refine lv_iconst (v := nI 0) hx hb dX9_in_14 (by decide) ?_
      exact ee_fi hQ hx hb hr (by decide) hlocks hS () (Or.inr ⟨rfl, fun q => Int32.not_lt.mpr q.2 h_2⟩) hP hD dX9_in_15
    · refine lv_iconst (v := nI 1) hx hb dX9_in_10 (by decide) ?_
      refine lv_goto (tgt := 15) hx hb dX9_in_11 (by decide) ?_
      exact ee_fi hQ hx hb hr (by decide) hlocks hS () (Or.inl ⟨rfl, Int32.not_lt.mp h_1, Int32.not_lt.mp h_2⟩) hP hD dX9_in_15
abbrev rmX9_least : Room := ({ frames := 0, cells := 0, slots := 0, locals := 0 } : Room)
set_option maxHeartbeats 4000000 in
set_option maxRecDepth 100000 in
theorem kX9_least (l : Launch) (E : ee_T) (w : Nat) (hw : w < 8) : CQ l E yX9_least wsX9_least rmX9_least [.int (nI w)] [] (QI E (fun (r : Int32) (u : Unit) => r = nI (st_lo w)) (fun (u : Unit) => [])) 0 0 := by
  refine CQ_ofW (cc := cX9_least) (maxL := 1) (ret := (some .int)) (by decide) rfl (Nat.le_of_ble_eq_true rfl) ?_
  intro p e s m below meth c A Q hQ hx hb hr hml hown hlocks hnm hts hV hA hP hD hS ls hl
  have hl : lv_has ls 1 [(0, .int (nI w))] := hl
  refine lv_iload_n hx hb dX9_least_0 rfl (lv_at hl 0 rfl) ?_
  refine lv_iconst (v := nI 2) hx hb dX9_least_1 (by decide) ?_
  refine ee_ne (tgt := 10) hx hb (by omega) (by omega) dX9_least_2 (by decide) (fun h_1 => ?_) (fun h_1 => ?_)
  · refine lv_iload_n hx hb dX9_least_10 rfl (lv_at hl 0 rfl) ?_
    refine lv_iconst (v := nI 1) hx hb dX9_least_11 (by decide) ?_
    refine ee_eq (tgt := 26) hx hb (by omega) (by omega) dX9_least_12 (by decide) (fun h_2 => ?_) (fun h_2 => ?_)
    · refine lv_iconst (v := nI 0) hx hb dX9_least_26 (by decide) ?_
      refine lv_goto (tgt := 31) hx hb dX9_least_27 (by decide) ?_
      exact ee_fi hQ hx hb hr (rfl) hlocks hS () (lo_b (by omega)) hP hD dX9_least_31
    · refine lv_iload_n hx hb dX9_least_15 rfl (lv_at hl 0 rfl) ?_
      refine lv_iconst (v := nI 5) hx hb dX9_least_16 (by decide) ?_
      refine ee_eq (tgt := 26) hx hb (by omega) (by omega) dX9_least_17 (by decide) (fun h_3 => ?_) (fun h_3 => ?_)
      · refine lv_iconst (v := nI 0) hx hb dX9_least_26 (by decide) ?_
        refine lv_goto (tgt := 31) hx hb dX9_least_27 (by decide) ?_
        exact ee_fi hQ hx hb hr (rfl) hlocks hS () (lo_b (by omega)) hP hD dX9_least_31
      · refine lv_iload_n hx hb dX9_least_20 rfl (lv_at hl 0 rfl) ?_
        refine lv_bipush (v := nI 6) hx hb dX9_least_21 (by decide) ?_
        refine ee_ne (tgt := 30) hx hb (by omega) (by omega) dX9_least_23 (by decide) (fun h_4 => ?_) (fun h_4 => ?_)
        · refine lv_iconst (v := nI 1) hx hb dX9_least_30 (by decide) ?_
          exact ee_fi hQ hx hb hr (rfl) hlocks hS () (lo_c (by omega)) hP hD dX9_least_31
        · refine lv_iconst (v := nI 0) hx hb dX9_least_26 (by decide) ?_
          refine lv_goto (tgt := 31) hx hb dX9_least_27 (by decide) ?_
          exact ee_fi hQ hx hb hr (rfl) hlocks hS () (lo_b (by omega)) hP hD dX9_least_31
  · refine lv_bipush (v := nI 10) hx hb dX9_least_5 (by decide) ?_
    refine lv_goto (tgt := 31) hx hb dX9_least_7 (by decide) ?_
    exact ee_fi hQ hx hb hr (rfl) hlocks hS () (lo_a (by omega)) hP hD dX9_least_31
abbrev rmX9_most : Room := ({ frames := 0, cells := 0, slots := 0, locals := 0 } : Room)
set_option maxHeartbeats 4000000 in
set_option maxRecDepth 100000 in
theorem kX9_most (l : Launch) (E : ee_T) (w : Nat) (hw : w < 8) : CQ l E yX9_most wsX9_most rmX9_most [.int (nI w)] [] (QI E (fun (r : Int32) (u : Unit) => r = nI (st_hi w)) (fun (u : Unit) => [])) 0 0 := by
  refine CQ_ofW (cc := cX9_most) (maxL := 1) (ret := (some .int)) (by decide) rfl (Nat.le_of_ble_eq_true rfl) ?_
  intro p e s m below meth c A Q hQ hx hb hr hml hown hlocks hnm hts hV hA hP hD hS ls hl
  have hl : lv_has ls 1 [(0, .int (nI w))] := hl
  refine lv_iload_n hx hb dX9_most_0 rfl (lv_at hl 0 rfl) ?_
  rcases (show w = 0 ∨ w = 1 ∨ w = 2 ∨ w = 3 ∨ w = 4 ∨ w = 5 ∨ w = 6 ∨ w = 7 by omega) with rfl | rfl | rfl | rfl | rfl | rfl | rfl | rfl
  · refine lv_tableIn (off := 47) (tgt := 48) hx hb dX9_most_1 (by decide) (by decide) (by decide) (by decide) ?_
    refine lv_bipush (v := nI 30) hx hb dX9_most_48 (by decide) ?_
    exact ee_fi hQ hx hb hr (rfl) hlocks hS () (rfl) hP hD dX9_most_50
  · refine lv_tableIn (off := 50) (tgt := 51) hx hb dX9_most_1 (by decide) (by decide) (by decide) (by decide) ?_
    refine lv_bipush (v := nI 50) hx hb dX9_most_51 (by decide) ?_
    exact ee_fi hQ hx hb hr (rfl) hlocks hS () (rfl) hP hD dX9_most_53
  · refine lv_tableIn (off := 53) (tgt := 54) hx hb dX9_most_1 (by decide) (by decide) (by decide) (by decide) ?_
    refine lv_sipush (v := nI 400) hx hb dX9_most_54 (by decide) ?_
    exact ee_fi hQ hx hb hr (rfl) hlocks hS () (rfl) hP hD dX9_most_57
  · refine lv_tableIn (off := 66) (tgt := 67) hx hb dX9_most_1 (by decide) (by decide) (by decide) (by decide) ?_
    refine lv_sipush (v := nI 1000) hx hb dX9_most_67 (by decide) ?_
    exact ee_fi hQ hx hb hr (rfl) hlocks hS () (rfl) hP hD dX9_most_70
  · refine lv_tableIn (off := 66) (tgt := 67) hx hb dX9_most_1 (by decide) (by decide) (by decide) (by decide) ?_
    refine lv_sipush (v := nI 1000) hx hb dX9_most_67 (by decide) ?_
    exact ee_fi hQ hx hb hr (rfl) hlocks hS () (rfl) hP hD dX9_most_70
  · refine lv_tableIn (off := 57) (tgt := 58) hx hb dX9_most_1 (by decide) (by decide) (by decide) (by decide) ?_
    refine lv_bipush (v := nI 100) hx hb dX9_most_58 (by decide) ?_
    exact ee_fi hQ hx hb hr (rfl) hlocks hS () (rfl) hP hD dX9_most_60
  · refine lv_tableIn (off := 60) (tgt := 61) hx hb dX9_most_1 (by decide) (by decide) (by decide) (by decide) ?_
    refine lv_bipush (v := nI 8) hx hb dX9_most_61 (by decide) ?_
    exact ee_fi hQ hx hb hr (rfl) hlocks hS () (rfl) hP hD dX9_most_63
  · refine lv_tableIn (off := 63) (tgt := 64) hx hb dX9_most_1 (by decide) (by decide) (by decide) (by decide) ?_
    refine lv_bipush (v := nI 9) hx hb dX9_most_64 (by decide) ?_
    exact ee_fi hQ hx hb hr (rfl) hlocks hS () (rfl) hP hD dX9_most_66
abbrev rmX9_keepsAside : Room := ({ frames := 0, cells := 0, slots := 0, locals := 0 } : Room)
theorem w1_X9_keepsAside : Cond.fieldLink RX9 13 "LabelApplicatorModel" "aside" "[I" ∈ wsX9_keepsAside := List.mem_of_getElem? (i := 1) (by decide +kernel)
theorem w2_X9_keepsAside : Cond.fieldLink RX9 7 "LabelApplicatorModel" "m" "[I" ∈ wsX9_keepsAside := List.mem_of_getElem? (i := 2) (by decide +kernel)
theorem w3_X9_keepsAside : Cond.fieldLink RX9 24 "LabelApplicatorModel" "pitch" "F" ∈ wsX9_keepsAside := List.mem_of_getElem? (i := 3) (by decide +kernel)
theorem w4_X9_keepsAside : Cond.fieldLink RX9 149 "LabelApplicatorModel" "pitchAside" "F" ∈ wsX9_keepsAside := List.mem_of_getElem? (i := 4) (by decide +kernel)
theorem i9_X9_keepsAside : ∀ w ∈ wsX90, w ∈ wsX9_keepsAside := fun w h => (goodIn_r _ [5, 6, 7, 8, 9, 10, 11, 12, 13, 14, 15, 16, 17, 18, 19, 20, 21, 22, 23, 24, 25, 26, 27, 28] (by decide +kernel) (by decide +kernel) w h).1
set_option maxHeartbeats 4000000 in
set_option maxRecDepth 100000 in
theorem kX9_keepsAside (l : Launch) (E : ee_T) (w0 w1 w2 w3 w4 w5 w6 w7 w8 w9 : Nat) (pt pa p1 p2 : UInt32) (tl ta fa it dp tv tn tb th te : Int32) (hh : Int64) (ar : Nat → Int32) (aa : Nat → Int32)  : CQ l E yX9_keepsAside wsX9_keepsAside rmX9_keepsAside [.ref w0] [(w0, ee_o 9 [.ref w1, .ref w2, .ref w3, .ref w4, .float pt, .float pa, .float p1, .float p2, .ref w5, .int tl, .int ta, .int fa, .ref w6, .ref w7, .int it, .ref w8, .ref w9, .int dp, .int tv, .int tn, .int tb, .int th, .int te, .long hh]), (w1, ee_i E 204 ar), (w2, ee_i E 204 aa)] (QV E (fun (u : Nat → Int32) => ∀ j, j < 204 → u j = ar j) (fun (u : Nat → Int32) => [(w0, ee_o 9 [.ref w1, .ref w2, .ref w3, .ref w4, .float pt, .float pt, .float p1, .float p2, .ref w5, .int tl, .int ta, .int fa, .ref w6, .ref w7, .int it, .ref w8, .ref w9, .int dp, .int tv, .int tn, .int tb, .int th, .int te, .long hh]), (w1, ee_i E 204 ar), (w2, ee_i E 204 u)])) 0 0 := by
  refine CQ_ofW (cc := cX9_keepsAside) (maxL := 2) (ret := none) (by decide) rfl (Nat.le_of_ble_eq_true rfl) ?_
  intro p e s m below meth c A Q hQ hx hb hr hml hown hlocks hnm hts hV hA hP hD hS ls hl
  have hl : lv_has ls 2 [(0, .ref w0)] := hl
  refine lv_iconst (v := nI 0) hx hb dX9_keepsAside_0 (by decide) ?_
  refine lv_istore_n (lv' := [(1, .int (nI 0)), (0, .ref w0)]) hx hb dX9_keepsAside_1 rfl hl (by decide) rfl (fun ls hl => ?_)
  have B_1 : ∀ (zz : Nat) (i : Nat) (gk : Nat → Int32) (H : Heap) (locs : List Loc) (ls : Array Slot), (204 - i) < zz → (i ≤ 204) → (∀ j, j < i → gk j = ar j) → va_P E.1 vwCl [(w0, ee_o 9 [.ref w1, .ref w2, .ref w3, .ref w4, .float pt, .float pa, .float p1, .float p2, .ref w5, .int tl, .int ta, .int fa, .ref w6, .ref w7, .int it, .ref w8, .ref w9, .int dp, .int tv, .int tn, .int tb, .int th, .int te, .long hh]), (w1, ee_i E 204 ar), (w2, ee_i E 204 gk)] H → va_D A [(w0, ee_o 9 [.ref w1, .ref w2, .ref w3, .ref w4, .float pt, .float pa, .float p1, .float p2, .ref w5, .int tl, .int ta, .int fa, .ref w6, .ref w7, .int it, .ref w8, .ref w9, .int dp, .int tv, .int tn, .int tb, .int th, .int te, .long hh]), (w1, ee_i E 204 ar), (w2, ee_i E 204 gk)] → va_S A s.heap H locs → lv_has ls 2 [(1, .int (nI i)), (0, .ref w0)] → W p l e rmX9_keepsAside s m [.ref w0].toArray below meth c H locs 0 0 Q (F0 m 2 ls []) := by
    intro zz
    induction zz with
    | zero => intro i gk H locs ls hzz; exact absurd hzz (Nat.not_lt_zero _)
    | succ zz ihB_1 =>
      intro i gk H locs ls hzz hin q1 hP hD hS hl
      refine lv_iload_n hx hb dX9_keepsAside_2 rfl (lv_at hl 0 rfl) ?_
      refine lv_sipush (v := nI 204) hx hb dX9_keepsAside_3 (by decide) ?_
      refine ee_ge (tgt := 27) hx hb (by omega) (by omega) dX9_keepsAside_6 (by decide) (fun h_2 => ?_) (fun h_2 => ?_)
      · refine lv_aload_n hx hb dX9_keepsAside_27 rfl (lv_at hl 1 rfl) ?_
        refine lv_aload_n hx hb dX9_keepsAside_28 rfl (lv_at hl 1 rfl) ?_
        refine va_get (ci := 9) (v := .float pt) (C := RX9) (T := TX9) (N := 24) hx hb hts i9_X9_keepsAside hown hV.1 hP 0 rfl rfl 4 (by decide) (hts _ w3_X9_keepsAside) (fun _ h9 => h9) rfl dX9_keepsAside_29 ?_
        refine va_put (ci := 9) (v := .float pt) (ty := .float) (C := RX9) (T := TX9) (N := 24) hx hb hts i9_X9_keepsAside tyX9 tyX9_ok nmX9 hown hV.1 hP hD hS 0 rfl rfl 5 (by decide) (hts _ w4_X9_keepsAside) (fun _ h9 => h9) rfl (by decide +kernel) rfl rfl (Nat.le_of_ble_eq_true rfl) dX9_keepsAside_32 (fun H locs hP hD hS => ?_)
        have hP : va_P E.1 vwCl [(w0, ee_o 9 [.ref w1, .ref w2, .ref w3, .ref w4, .float pt, .float pt, .float p1, .float p2, .ref w5, .int tl, .int ta, .int fa, .ref w6, .ref w7, .int it, .ref w8, .ref w9, .int dp, .int tv, .int tn, .int tb, .int th, .int te, .long hh]), (w1, ee_i E 204 ar), (w2, ee_i E 204 gk)] H := hP
        have hD : va_D A [(w0, ee_o 9 [.ref w1, .ref w2, .ref w3, .ref w4, .float pt, .float pt, .float p1, .float p2, .ref w5, .int tl, .int ta, .int fa, .ref w6, .ref w7, .int it, .ref w8, .ref w9, .int dp, .int tv, .int tn, .int tb, .int th, .int te, .long hh]), (w1, ee_i E 204 ar), (w2, ee_i E 204 gk)] := hD
        exact ee_fv hQ hx hb hr hlocks hS gk (fun j hj => q1 j (by omega)) hP hD dX9_keepsAside_35
      · refine lv_aload_n hx hb dX9_keepsAside_9 rfl (lv_at hl 1 rfl) ?_
        refine va_get (ci := 9) (v := .ref w2) (C := RX9) (T := TX9) (N := 24) hx hb hts i9_X9_keepsAside hown hV.1 hP 0 rfl rfl 1 (by decide) (hts _ w1_X9_keepsAside) (fun _ h9 => h9) rfl dX9_keepsAside_10 ?_
        refine lv_iload_n hx hb dX9_keepsAside_13 rfl (lv_at hl 0 rfl) ?_
        refine lv_aload_n hx hb dX9_keepsAside_14 rfl (lv_at hl 1 rfl) ?_
        refine va_get (ci := 9) (v := .ref w1) (C := RX9) (T := TX9) (N := 24) hx hb hts i9_X9_keepsAside hown hV.1 hP 0 rfl rfl 0 (by decide) (hts _ w2_X9_keepsAside) (fun _ h9 => h9) rfl dX9_keepsAside_15 ?_
        refine lv_iload_n hx hb dX9_keepsAside_18 rfl (lv_at hl 0 rfl) ?_
        refine ee_ild hx hb hV hP 1 rfl (j := i) (by omega) (by decide) dX9_keepsAside_19 ?_
        refine ee_ist hx hb hV hP hD hS 2 rfl (j := i) (by omega) (by decide) dX9_keepsAside_20 (fun H locs hP hD hS => ?_)
        have hP : va_P E.1 vwCl [(w0, ee_o 9 [.ref w1, .ref w2, .ref w3, .ref w4, .float pt, .float pa, .float p1, .float p2, .ref w5, .int tl, .int ta, .int fa, .ref w6, .ref w7, .int it, .ref w8, .ref w9, .int dp, .int tv, .int tn, .int tb, .int th, .int te, .long hh]), (w1, ee_i E 204 ar), (w2, ee_i E 204 (upd gk i (ar i)))] H := hP
        have hD : va_D A [(w0, ee_o 9 [.ref w1, .ref w2, .ref w3, .ref w4, .float pt, .float pa, .float p1, .float p2, .ref w5, .int tl, .int ta, .int fa, .ref w6, .ref w7, .int it, .ref w8, .ref w9, .int dp, .int tv, .int tn, .int tb, .int th, .int te, .long hh]), (w1, ee_i E 204 ar), (w2, ee_i E 204 (upd gk i (ar i)))] := hD
        refine lv_iinc (v := nI (i + 1)) (lv' := [(1, .int (nI (i + 1))), (0, .ref w0)]) hx hb dX9_keepsAside_21 hl (k := 0) rfl (ee_inc _) (by decide) rfl (fun ls hl => ?_)
        refine lv_goto (tgt := 2) hx hb dX9_keepsAside_24 (by decide) ?_
        exact ihB_1 (i + 1) (upd gk i (ar i)) _ _ _ (by omega) (by omega) (cp_s q1) hP hD hS (lv_sub hl [0, 1] rfl)
  exact B_1 ((204 - 0) + 1) 0 aa _ _ _ (Nat.lt_succ_self _) (by omega) (fun j hj => absurd hj (Nat.not_lt_zero _)) hP hD hS (lv_sub hl [0, 1] rfl)
abbrev rmX9_returns : Room := ({ frames := 0, cells := 0, slots := 0, locals := 0 } : Room)
theorem w1_X9_returns : Cond.fieldLink RX9 7 "LabelApplicatorModel" "m" "[I" ∈ wsX9_returns := List.mem_of_getElem? (i := 1) (by decide +kernel)
theorem w2_X9_returns : Cond.fieldLink RX9 13 "LabelApplicatorModel" "aside" "[I" ∈ wsX9_returns := List.mem_of_getElem? (i := 2) (by decide +kernel)
theorem w3_X9_returns : Cond.fieldLink RX9 149 "LabelApplicatorModel" "pitchAside" "F" ∈ wsX9_returns := List.mem_of_getElem? (i := 3) (by decide +kernel)
theorem w4_X9_returns : Cond.fieldLink RX9 24 "LabelApplicatorModel" "pitch" "F" ∈ wsX9_returns := List.mem_of_getElem? (i := 4) (by decide +kernel)
theorem i9_X9_returns : ∀ w ∈ wsX90, w ∈ wsX9_returns := fun w h => (goodIn_r _ [5, 6, 7, 8, 9, 10, 11, 12, 13, 14, 15, 16, 17, 18, 19, 20, 21, 22, 23, 24, 25, 26, 27, 28] (by decide +kernel) (by decide +kernel) w h).1
set_option maxHeartbeats 4000000 in
set_option maxRecDepth 100000 in
theorem kX9_returns (l : Launch) (E : ee_T) (w0 w1 w2 w3 w4 w5 w6 w7 w8 w9 : Nat) (pt pa p1 p2 : UInt32) (tl ta fa it dp tv tn tb th te : Int32) (hh : Int64) (ar : Nat → Int32) (aa : Nat → Int32)  : CQ l E yX9_returns wsX9_returns rmX9_returns [.ref w0] [(w0, ee_o 9 [.ref w1, .ref w2, .ref w3, .ref w4, .float pt, .float pa, .float p1, .float p2, .ref w5, .int tl, .int ta, .int fa, .ref w6, .ref w7, .int it, .ref w8, .ref w9, .int dp, .int tv, .int tn, .int tb, .int th, .int te, .long hh]), (w1, ee_i E 204 ar), (w2, ee_i E 204 aa)] (QV E (fun (u : Nat → Int32) => ∀ j, j < 204 → u j = aa j) (fun (u : Nat → Int32) => [(w0, ee_o 9 [.ref w1, .ref w2, .ref w3, .ref w4, .float pa, .float pa, .float p1, .float p2, .ref w5, .int tl, .int ta, .int fa, .ref w6, .ref w7, .int it, .ref w8, .ref w9, .int dp, .int tv, .int tn, .int tb, .int th, .int te, .long hh]), (w1, ee_i E 204 u), (w2, ee_i E 204 aa)])) 0 0 := by
  refine CQ_ofW (cc := cX9_returns) (maxL := 2) (ret := none) (by decide) rfl (Nat.le_of_ble_eq_true rfl) ?_
  intro p e s m below meth c A Q hQ hx hb hr hml hown hlocks hnm hts hV hA hP hD hS ls hl
  have hl : lv_has ls 2 [(0, .ref w0)] := hl
  refine lv_iconst (v := nI 0) hx hb dX9_returns_0 (by decide) ?_
  refine lv_istore_n (lv' := [(1, .int (nI 0)), (0, .ref w0)]) hx hb dX9_returns_1 rfl hl (by decide) rfl (fun ls hl => ?_)
  have B_1 : ∀ (zz : Nat) (i : Nat) (gk : Nat → Int32) (H : Heap) (locs : List Loc) (ls : Array Slot), (204 - i) < zz → (i ≤ 204) → (∀ j, j < i → gk j = aa j) → va_P E.1 vwCl [(w0, ee_o 9 [.ref w1, .ref w2, .ref w3, .ref w4, .float pt, .float pa, .float p1, .float p2, .ref w5, .int tl, .int ta, .int fa, .ref w6, .ref w7, .int it, .ref w8, .ref w9, .int dp, .int tv, .int tn, .int tb, .int th, .int te, .long hh]), (w1, ee_i E 204 gk), (w2, ee_i E 204 aa)] H → va_D A [(w0, ee_o 9 [.ref w1, .ref w2, .ref w3, .ref w4, .float pt, .float pa, .float p1, .float p2, .ref w5, .int tl, .int ta, .int fa, .ref w6, .ref w7, .int it, .ref w8, .ref w9, .int dp, .int tv, .int tn, .int tb, .int th, .int te, .long hh]), (w1, ee_i E 204 gk), (w2, ee_i E 204 aa)] → va_S A s.heap H locs → lv_has ls 2 [(1, .int (nI i)), (0, .ref w0)] → W p l e rmX9_returns s m [.ref w0].toArray below meth c H locs 0 0 Q (F0 m 2 ls []) := by
    intro zz
    induction zz with
    | zero => intro i gk H locs ls hzz; exact absurd hzz (Nat.not_lt_zero _)
    | succ zz ihB_1 =>
      intro i gk H locs ls hzz hin q1 hP hD hS hl
      refine lv_iload_n hx hb dX9_returns_2 rfl (lv_at hl 0 rfl) ?_
      refine lv_sipush (v := nI 204) hx hb dX9_returns_3 (by decide) ?_
      refine ee_ge (tgt := 27) hx hb (by omega) (by omega) dX9_returns_6 (by decide) (fun h_2 => ?_) (fun h_2 => ?_)
      · refine lv_aload_n hx hb dX9_returns_27 rfl (lv_at hl 1 rfl) ?_
        refine lv_aload_n hx hb dX9_returns_28 rfl (lv_at hl 1 rfl) ?_
        refine va_get (ci := 9) (v := .float pa) (C := RX9) (T := TX9) (N := 24) hx hb hts i9_X9_returns hown hV.1 hP 0 rfl rfl 5 (by decide) (hts _ w3_X9_returns) (fun _ h9 => h9) rfl dX9_returns_29 ?_
        refine va_put (ci := 9) (v := .float pa) (ty := .float) (C := RX9) (T := TX9) (N := 24) hx hb hts i9_X9_returns tyX9 tyX9_ok nmX9 hown hV.1 hP hD hS 0 rfl rfl 4 (by decide) (hts _ w4_X9_returns) (fun _ h9 => h9) rfl (by decide +kernel) rfl rfl (Nat.le_of_ble_eq_true rfl) dX9_returns_32 (fun H locs hP hD hS => ?_)
        have hP : va_P E.1 vwCl [(w0, ee_o 9 [.ref w1, .ref w2, .ref w3, .ref w4, .float pa, .float pa, .float p1, .float p2, .ref w5, .int tl, .int ta, .int fa, .ref w6, .ref w7, .int it, .ref w8, .ref w9, .int dp, .int tv, .int tn, .int tb, .int th, .int te, .long hh]), (w1, ee_i E 204 gk), (w2, ee_i E 204 aa)] H := hP
        have hD : va_D A [(w0, ee_o 9 [.ref w1, .ref w2, .ref w3, .ref w4, .float pa, .float pa, .float p1, .float p2, .ref w5, .int tl, .int ta, .int fa, .ref w6, .ref w7, .int it, .ref w8, .ref w9, .int dp, .int tv, .int tn, .int tb, .int th, .int te, .long hh]), (w1, ee_i E 204 gk), (w2, ee_i E 204 aa)] := hD
        exact ee_fv hQ hx hb hr hlocks hS gk (fun j hj => q1 j (by omega)) hP hD dX9_returns_35
      · refine lv_aload_n hx hb dX9_returns_9 rfl (lv_at hl 1 rfl) ?_
        refine va_get (ci := 9) (v := .ref w1) (C := RX9) (T := TX9) (N := 24) hx hb hts i9_X9_returns hown hV.1 hP 0 rfl rfl 0 (by decide) (hts _ w1_X9_returns) (fun _ h9 => h9) rfl dX9_returns_10 ?_
        refine lv_iload_n hx hb dX9_returns_13 rfl (lv_at hl 0 rfl) ?_
        refine lv_aload_n hx hb dX9_returns_14 rfl (lv_at hl 1 rfl) ?_
        refine va_get (ci := 9) (v := .ref w2) (C := RX9) (T := TX9) (N := 24) hx hb hts i9_X9_returns hown hV.1 hP 0 rfl rfl 1 (by decide) (hts _ w2_X9_returns) (fun _ h9 => h9) rfl dX9_returns_15 ?_
        refine lv_iload_n hx hb dX9_returns_18 rfl (lv_at hl 0 rfl) ?_
        refine ee_ild hx hb hV hP 2 rfl (j := i) (by omega) (by decide) dX9_returns_19 ?_
        refine ee_ist hx hb hV hP hD hS 1 rfl (j := i) (by omega) (by decide) dX9_returns_20 (fun H locs hP hD hS => ?_)
        have hP : va_P E.1 vwCl [(w0, ee_o 9 [.ref w1, .ref w2, .ref w3, .ref w4, .float pt, .float pa, .float p1, .float p2, .ref w5, .int tl, .int ta, .int fa, .ref w6, .ref w7, .int it, .ref w8, .ref w9, .int dp, .int tv, .int tn, .int tb, .int th, .int te, .long hh]), (w1, ee_i E 204 (upd gk i (aa i))), (w2, ee_i E 204 aa)] H := hP
        have hD : va_D A [(w0, ee_o 9 [.ref w1, .ref w2, .ref w3, .ref w4, .float pt, .float pa, .float p1, .float p2, .ref w5, .int tl, .int ta, .int fa, .ref w6, .ref w7, .int it, .ref w8, .ref w9, .int dp, .int tv, .int tn, .int tb, .int th, .int te, .long hh]), (w1, ee_i E 204 (upd gk i (aa i))), (w2, ee_i E 204 aa)] := hD
        refine lv_iinc (v := nI (i + 1)) (lv' := [(1, .int (nI (i + 1))), (0, .ref w0)]) hx hb dX9_returns_21 hl (k := 0) rfl (ee_inc _) (by decide) rfl (fun ls hl => ?_)
        refine lv_goto (tgt := 2) hx hb dX9_returns_24 (by decide) ?_
        exact ihB_1 (i + 1) (upd gk i (aa i)) _ _ _ (by omega) (by omega) (cp_s q1) hP hD hS (lv_sub hl [0, 1] rfl)
  exact B_1 ((204 - 0) + 1) 0 ar _ _ _ (Nat.lt_succ_self _) (by omega) (fun j hj => absurd hj (Nat.not_lt_zero _)) hP hD hS (lv_sub hl [0, 1] rfl)
abbrev rmX9_lengthBefore : Room := ({ frames := 0, cells := 0, slots := 0, locals := 0 } : Room)
theorem w1_X9_lengthBefore : Cond.fieldLink RX9 7 "LabelApplicatorModel" "m" "[I" ∈ wsX9_lengthBefore := List.mem_of_getElem? (i := 1) (by decide +kernel)
theorem i9_X9_lengthBefore : ∀ w ∈ wsX90, w ∈ wsX9_lengthBefore := fun w h => (goodIn_r _ [2, 3, 4, 5, 6, 7, 8, 9, 10, 11, 12, 13, 14, 15, 16, 17, 18, 19, 20, 21, 22, 23, 24, 25] (by decide +kernel) (by decide +kernel) w h).1
set_option maxHeartbeats 4000000 in
set_option maxRecDepth 100000 in
theorem kX9_lengthBefore (l : Launch) (E : ee_T) (w0 w1 w2 w3 w4 w5 w6 w7 w8 w9 : Nat) (pt pa p1 p2 : UInt32) (tl ta fa it dp tv tn tb th te : Int32) (hh : Int64) (ar : Nat → Int32) (n : Nat) (hn : n ≤ 80) : CQ l E yX9_lengthBefore wsX9_lengthBefore rmX9_lengthBefore [.ref w0, .int (nI n)] [(w0, ee_o 9 [.ref w1, .ref w2, .ref w3, .ref w4, .float pt, .float pa, .float p1, .float p2, .ref w5, .int tl, .int ta, .int fa, .ref w6, .ref w7, .int it, .ref w8, .ref w9, .int dp, .int tv, .int tn, .int tb, .int th, .int te, .long hh]), (w1, ee_i E 204 ar)] (QI E (fun (r : Int32) (u : Unit) => r = sumF (fun i => ar (81 + i)) 0 n) (fun (u : Unit) => [(w0, ee_o 9 [.ref w1, .ref w2, .ref w3, .ref w4, .float pt, .float pa, .float p1, .float p2, .ref w5, .int tl, .int ta, .int fa, .ref w6, .ref w7, .int it, .ref w8, .ref w9, .int dp, .int tv, .int tn, .int tb, .int th, .int te, .long hh]), (w1, ee_i E 204 ar)])) 0 0 := by
  refine CQ_ofW (cc := cX9_lengthBefore) (maxL := 4) (ret := (some .int)) (by decide) rfl (Nat.le_of_ble_eq_true rfl) ?_
  intro p e s m below meth c A Q hQ hx hb hr hml hown hlocks hnm hts hV hA hP hD hS ls hl
  have hl : lv_has ls 4 [(0, .ref w0), (1, .int (nI n))] := hl
  refine lv_iconst (v := nI 0) hx hb dX9_lengthBefore_0 (by decide) ?_
  refine lv_istore_n (lv' := [(2, .int (nI 0)), (0, .ref w0), (1, .int (nI n))]) hx hb dX9_lengthBefore_1 rfl hl (by decide) rfl (fun ls hl => ?_)
  refine lv_iconst (v := nI 0) hx hb dX9_lengthBefore_2 (by decide) ?_
  refine lv_istore_n (lv' := [(3, .int (nI 0)), (2, .int (nI 0)), (0, .ref w0), (1, .int (nI n))]) hx hb dX9_lengthBefore_3 rfl hl (by decide) rfl (fun ls hl => ?_)
  have B_1 : ∀ (zz : Nat) (i : Nat) (q1 : Int32) (H : Heap) (locs : List Loc) (ls : Array Slot), (n - i) < zz → (i ≤ n) → (q1 = sumF (fun i => ar (81 + i)) 0 i) → va_P E.1 vwCl [(w0, ee_o 9 [.ref w1, .ref w2, .ref w3, .ref w4, .float pt, .float pa, .float p1, .float p2, .ref w5, .int tl, .int ta, .int fa, .ref w6, .ref w7, .int it, .ref w8, .ref w9, .int dp, .int tv, .int tn, .int tb, .int th, .int te, .long hh]), (w1, ee_i E 204 ar)] H → va_D A [(w0, ee_o 9 [.ref w1, .ref w2, .ref w3, .ref w4, .float pt, .float pa, .float p1, .float p2, .ref w5, .int tl, .int ta, .int fa, .ref w6, .ref w7, .int it, .ref w8, .ref w9, .int dp, .int tv, .int tn, .int tb, .int th, .int te, .long hh]), (w1, ee_i E 204 ar)] → va_S A s.heap H locs → lv_has ls 4 [(3, .int (nI i)), (2, .int q1), (0, .ref w0), (1, .int (nI n))] → W p l e rmX9_lengthBefore s m [.ref w0, .int (nI n)].toArray below meth c H locs 0 0 Q (F0 m 4 ls []) := by
    intro zz
    induction zz with
    | zero => intro i q1 H locs ls hzz; exact absurd hzz (Nat.not_lt_zero _)
    | succ zz ihB_1 =>
      intro i q1 H locs ls hzz hin hq hP hD hS hl
      refine lv_iload_n hx hb dX9_lengthBefore_4 rfl (lv_at hl 0 rfl) ?_
      refine lv_iload_n hx hb dX9_lengthBefore_5 rfl (lv_at hl 3 rfl) ?_
      refine ee_ge (tgt := 27) hx hb (by omega) (by omega) dX9_lengthBefore_6 (by decide) (fun h_2 => ?_) (fun h_2 => ?_)
      · refine lv_iload_n hx hb dX9_lengthBefore_27 rfl (lv_at hl 1 rfl) ?_
        obtain rfl : i = n := by omega
        exact ee_fi hQ hx hb hr (rfl) hlocks hS () (hq) hP hD dX9_lengthBefore_28
      · refine lv_iload_n hx hb dX9_lengthBefore_9 rfl (lv_at hl 1 rfl) ?_
        refine lv_aload_n hx hb dX9_lengthBefore_10 rfl (lv_at hl 2 rfl) ?_
        refine va_get (ci := 9) (v := .ref w1) (C := RX9) (T := TX9) (N := 24) hx hb hts i9_X9_lengthBefore hown hV.1 hP 0 rfl rfl 0 (by decide) (hts _ w1_X9_lengthBefore) (fun _ h9 => h9) rfl dX9_lengthBefore_11 ?_
        refine lv_bipush (v := nI 81) hx hb dX9_lengthBefore_14 (by decide) ?_
        refine lv_iload_n hx hb dX9_lengthBefore_16 rfl (lv_at hl 0 rfl) ?_
        refine ee_iadd hx hb dX9_lengthBefore_17 ?_
        refine ee_ild hx hb hV hP 1 rfl (j := (81 + i)) (by omega) (by decide) dX9_lengthBefore_18 ?_
        refine lv_iadd hx hb dX9_lengthBefore_19 ?_
        refine lv_istore_n (lv' := [(2, .int (q1 + (ar (81 + i)))), (3, .int (nI i)), (0, .ref w0), (1, .int (nI n))]) hx hb dX9_lengthBefore_20 rfl hl (by decide) rfl (fun ls hl => ?_)
        refine lv_iinc (v := nI (i + 1)) (lv' := [(3, .int (nI (i + 1))), (2, .int (q1 + (ar (81 + i)))), (0, .ref w0), (1, .int (nI n))]) hx hb dX9_lengthBefore_21 hl (k := 1) rfl (ee_inc _) (by decide) rfl (fun ls hl => ?_)
        refine lv_goto (tgt := 4) hx hb dX9_lengthBefore_24 (by decide) ?_
        exact ihB_1 (i + 1) (q1 + (ar (81 + i))) _ _ _ (by omega) (by omega) (by rw [sumF, ← hq, Nat.zero_add]) hP hD hS (lv_sub hl [0, 1, 2, 3] rfl)
  exact B_1 ((n - 0) + 1) 0 (nI 0) _ _ _ (Nat.lt_succ_self _) (by omega) rfl hP hD hS (lv_sub hl [0, 1, 2, 3] rfl)
abbrev rmX9_looksAhead : Room := ({ frames := 3, cells := 0, slots := 0, locals := 66 } : Room)
theorem w1_X9_looksAhead : Cond.fieldLink RX9 7 "LabelApplicatorModel" "m" "[I" ∈ wsX9_looksAhead := List.mem_of_getElem? (i := 1) (by decide +kernel)
theorem w2_X9_looksAhead : Cond.methodLink RX9 146 yX9_cycles ∈ wsX9_looksAhead := List.mem_of_getElem? (i := 2) (by decide +kernel)
theorem w5_X9_looksAhead : Cond.initialized RX9 ∈ wsX9_looksAhead := List.mem_of_getElem? (i := 5) (by decide +kernel)
theorem w7_X9_looksAhead : Cond.fieldLink RX9 129 "LabelApplicatorModel" "end" "I" ∈ wsX9_looksAhead := List.mem_of_getElem? (i := 7) (by decide +kernel)
theorem w8_X9_looksAhead : Cond.fieldLink RX9 116 "LabelApplicatorModel" "travel" "I" ∈ wsX9_looksAhead := List.mem_of_getElem? (i := 8) (by decide +kernel)
theorem w9_X9_looksAhead : Cond.fieldLink RX9 24 "LabelApplicatorModel" "pitch" "F" ∈ wsX9_looksAhead := List.mem_of_getElem? (i := 9) (by decide +kernel)
theorem w10_X9_looksAhead : Cond.constantFloat RX9 142 (1090519040) ∈ wsX9_looksAhead := List.mem_of_getElem? (i := 10) (by decide +kernel)
theorem w11_X9_looksAhead : Cond.fieldLink RX9 122 "LabelApplicatorModel" "labels" "I" ∈ wsX9_looksAhead := List.mem_of_getElem? (i := 11) (by decide +kernel)
theorem w12_X9_looksAhead : Cond.fieldLink RX9 125 "LabelApplicatorModel" "hasSplice" "Z" ∈ wsX9_looksAhead := List.mem_of_getElem? (i := 12) (by decide +kernel)
theorem w13_X9_looksAhead : Cond.fieldLink RX9 119 "LabelApplicatorModel" "taken" "I" ∈ wsX9_looksAhead := List.mem_of_getElem? (i := 13) (by decide +kernel)
theorem w14_X9_looksAhead : Cond.methodLink RX9 132 yX9_follows ∈ wsX9_looksAhead := List.mem_of_getElem? (i := 14) (by decide +kernel)
theorem w18_X9_looksAhead : Cond.methodLink RX9 135 yX9_feeds ∈ wsX9_looksAhead := List.mem_of_getElem? (i := 18) (by decide +kernel)
theorem w22_X9_looksAhead : Cond.methodLink RX9 138 yX9_reasonAt ∈ wsX9_looksAhead := List.mem_of_getElem? (i := 22) (by decide +kernel)
theorem w26_X9_looksAhead : Cond.methodLink RX9 143 yX9_turns ∈ wsX9_looksAhead := List.mem_of_getElem? (i := 26) (by decide +kernel)
theorem w30_X9_looksAhead : Cond.methodLink RX9 113 yX9_leaves ∈ wsX9_looksAhead := List.mem_of_getElem? (i := 30) (by decide +kernel)
theorem i9_X9_looksAhead : ∀ w ∈ wsX90, w ∈ wsX9_looksAhead := fun w h => (goodIn_r _ [34, 35, 36, 37, 38, 39, 40, 41, 42, 43, 44, 45, 46, 47, 48, 49, 50, 51, 52, 53, 54, 55, 56, 57] (by decide +kernel) (by decide +kernel) w h).1
set_option maxHeartbeats 4000000 in
set_option maxRecDepth 100000 in
theorem kX9_looksAhead (l : Launch) (E : ee_T) (w0 w1 w2 w3 w4 w5 w6 w7 w8 w9 : Nat) (pt pa p1 p2 : UInt32) (tl ta fa it dp tv tn tb th te : Int32) (hh : Int64) (ar : Nat → Int32) (z : Sg) (n v w : Nat) (hR : rM z ar pt) (hn : n ≤ 100) (hv : v ≤ 1000) (hw : w ≤ 3) : CQ l E yX9_looksAhead wsX9_looksAhead rmX9_looksAhead [.ref w0, .int (nI n), .int (nI v), .int (nI w)] [(w0, ee_o 9 [.ref w1, .ref w2, .ref w3, .ref w4, .float pt, .float pa, .float p1, .float p2, .ref w5, .int tl, .int ta, .int fa, .ref w6, .ref w7, .int it, .ref w8, .ref w9, .int dp, .int tv, .int tn, .int tb, .int th, .int te, .long hh]), (w1, ee_i E 204 ar)] (QI E (fun (r : Int32) (u : (Nat → Int32) × UInt32 × Int32 × Int32 × Int32 × Int32 × Int32) => r = foS z n (nI v) w ∧ rM (itr z (nI v) n) u.1 u.2.1) (fun (u : (Nat → Int32) × UInt32 × Int32 × Int32 × Int32 × Int32 × Int32) => [(w0, ee_o 9 [.ref w1, .ref w2, .ref w3, .ref w4, .float u.2.1, .float pa, .float p1, .float p2, .ref w5, .int tl, .int ta, .int fa, .ref w6, .ref w7, .int it, .ref w8, .ref w9, .int dp, .int u.2.2.1, .int u.2.2.2.1, .int u.2.2.2.2.1, .int u.2.2.2.2.2.1, .int u.2.2.2.2.2.2, .long hh]), (w1, ee_i E 204 u.1)])) 0 0 := by
  refine CQ_ofW (cc := cX9_looksAhead) (maxL := 8) (ret := (some .int)) (by decide) rfl (Nat.le_of_ble_eq_true rfl) ?_
  intro p e s m below meth c A Q hQ hx hb hr hml hown hlocks hnm hts hV hA hP hD hS ls hl
  have hl : lv_has ls 8 [(0, .ref w0), (1, .int (nI n)), (2, .int (nI v)), (3, .int (nI w))] := hl
  refine lv_aload_n hx hb dX9_looksAhead_0 rfl (lv_at hl 0 rfl) ?_
  refine va_get (ci := 9) (v := .ref w1) (C := RX9) (T := TX9) (N := 24) hx hb hts i9_X9_looksAhead hown hV.1 hP 0 rfl rfl 0 (by decide) (hts _ w1_X9_looksAhead) (fun _ h9 => h9) rfl dX9_looksAhead_1 ?_
  refine lv_sipush (v := nI 190) hx hb dX9_looksAhead_4 (by decide) ?_
  refine ee_ild hx hb hV hP 1 rfl (j := 190) (by omega) (by decide) dX9_looksAhead_7 ?_
  refine ee_to (z := gB z 0) (rM_B hR 0 (by decide)) ?_
  refine lv_istore (lv' := [(4, .int (gB z 0)), (0, .ref w0), (1, .int (nI n)), (2, .int (nI v)), (3, .int (nI w))]) hx hb dX9_looksAhead_8 hl (by decide) rfl (fun ls hl => ?_)
  refine lv_aload_n hx hb dX9_looksAhead_10 rfl (lv_at hl 1 rfl) ?_
  refine va_get (ci := 9) (v := .ref w1) (C := RX9) (T := TX9) (N := 24) hx hb hts i9_X9_looksAhead hown hV.1 hP 0 rfl rfl 0 (by decide) (hts _ w1_X9_looksAhead) (fun _ h9 => h9) rfl dX9_looksAhead_11 ?_
  refine lv_sipush (v := nI 185) hx hb dX9_looksAhead_14 (by decide) ?_
  refine ee_ild hx hb hV hP 1 rfl (j := 185) (by omega) (by decide) dX9_looksAhead_17 ?_
  refine ee_to (z := gC z 4) (rM_C hR 4 (by decide)) ?_
  refine lv_istore (lv' := [(5, .int (gC z 4)), (4, .int (gB z 0)), (0, .ref w0), (1, .int (nI n)), (2, .int (nI v)), (3, .int (nI w))]) hx hb dX9_looksAhead_18 hl (by decide) rfl (fun ls hl => ?_)
  refine lv_iconst (v := (-1)) hx hb dX9_looksAhead_20 (by decide) ?_
  refine lv_istore (lv' := [(6, .int (-1)), (5, .int (gC z 4)), (4, .int (gB z 0)), (0, .ref w0), (1, .int (nI n)), (2, .int (nI v)), (3, .int (nI w))]) hx hb dX9_looksAhead_21 hl (by decide) rfl (fun ls hl => ?_)
  refine lv_iconst (v := nI 1) hx hb dX9_looksAhead_23 (by decide) ?_
  refine lv_istore (lv' := [(7, .int (nI 1)), (6, .int (-1)), (5, .int (gC z 4)), (4, .int (gB z 0)), (0, .ref w0), (1, .int (nI n)), (2, .int (nI v)), (3, .int (nI w))]) hx hb dX9_looksAhead_24 hl (by decide) rfl (fun ls hl => ?_)
  have B_1 : ∀ (zz : Nat) (i : Nat) (q1 : Int32) (gk : Nat → Int32) (pu : UInt32) (xv xn xb xh xe : Int32) (H : Heap) (locs : List Loc) (ls : Array Slot), (n - i) < zz → (i ≤ n) → (q1 = stS z (nI v) i) → (rM (itr z (nI v) i) gk pu) → va_P E.1 vwCl [(w0, ee_o 9 [.ref w1, .ref w2, .ref w3, .ref w4, .float pu, .float pa, .float p1, .float p2, .ref w5, .int tl, .int ta, .int fa, .ref w6, .ref w7, .int it, .ref w8, .ref w9, .int dp, .int xv, .int xn, .int xb, .int xh, .int xe, .long hh]), (w1, ee_i E 204 gk)] H → va_D A [(w0, ee_o 9 [.ref w1, .ref w2, .ref w3, .ref w4, .float pu, .float pa, .float p1, .float p2, .ref w5, .int tl, .int ta, .int fa, .ref w6, .ref w7, .int it, .ref w8, .ref w9, .int dp, .int xv, .int xn, .int xb, .int xh, .int xe, .long hh]), (w1, ee_i E 204 gk)] → va_S A s.heap H locs → lv_has ls 8 [(7, .int (nI (i + 1))), (6, .int q1), (5, .int (gC z 4)), (4, .int (gB z 0)), (0, .ref w0), (1, .int (nI n)), (2, .int (nI v)), (3, .int (nI w))] → W p l e rmX9_looksAhead s m [.ref w0, .int (nI n), .int (nI v), .int (nI w)].toArray below meth c H locs 0 0 Q (F0 m 26 ls []) := by
    intro zz
    induction zz with
    | zero => intro i q1 gk pu xv xn xb xh xe H locs ls hzz; exact absurd hzz (Nat.not_lt_zero _)
    | succ zz ihB_1 =>
      intro i q1 gk pu xv xn xb xh xe H locs ls hzz hin hq hR1 hP hD hS hl
      refine lv_iload hx hb dX9_looksAhead_26 (lv_at hl 0 rfl) ?_
      refine lv_iload_n hx hb dX9_looksAhead_28 rfl (lv_at hl 5 rfl) ?_
      refine ee_gt (tgt := 77) hx hb (by omega) (by omega) dX9_looksAhead_29 (by decide) (fun h_2 => ?_) (fun h_2 => ?_)
      · have hi : i = n := by omega
        rw [hi] at hq hR1
        refine lv_iload_n hx hb dX9_looksAhead_77 rfl (lv_at hl 7 rfl) ?_
        rcases (show w = 0 ∨ w = 1 ∨ w = 2 ∨ w = 3 by omega) with rfl | rfl | rfl | rfl
        · refine lv_tableIn (off := 26) (tgt := 104) hx hb dX9_looksAhead_78 (by decide) (by decide) (by decide) (by decide) ?_
          refine lv_aload_n hx hb dX9_looksAhead_104 rfl (lv_at hl 4 rfl) ?_
          refine va_get (ci := 9) (v := .ref w1) (C := RX9) (T := TX9) (N := 24) hx hb hts i9_X9_looksAhead hown hV.1 hP 0 rfl rfl 0 (by decide) (hts _ w1_X9_looksAhead) (fun _ h9 => h9) rfl dX9_looksAhead_105 ?_
          refine lv_sipush (v := nI 190) hx hb dX9_looksAhead_108 (by decide) ?_
          refine ee_ild hx hb hV hP 1 rfl (j := 190) (by omega) (by decide) dX9_looksAhead_111 ?_
          refine ee_to (z := gB (itr z (nI v) n) 0) (rM_B hR1 0 (by decide)) ?_
          refine lv_iload hx hb dX9_looksAhead_112 (lv_at hl 3 rfl) ?_
          refine lv_isub hx hb dX9_looksAhead_114 ?_
          exact ee_fi hQ hx hb hr (rfl) hlocks hS (gk, pu, xv, xn, xb, xh, xe) (⟨rfl, hR1⟩) hP hD dX9_looksAhead_115
        · refine lv_tableIn (off := 38) (tgt := 116) hx hb dX9_looksAhead_78 (by decide) (by decide) (by decide) (by decide) ?_
          refine lv_aload_n hx hb dX9_looksAhead_116 rfl (lv_at hl 4 rfl) ?_
          refine va_get (ci := 9) (v := .ref w1) (C := RX9) (T := TX9) (N := 24) hx hb hts i9_X9_looksAhead hown hV.1 hP 0 rfl rfl 0 (by decide) (hts _ w1_X9_looksAhead) (fun _ h9 => h9) rfl dX9_looksAhead_117 ?_
          refine lv_sipush (v := nI 185) hx hb dX9_looksAhead_120 (by decide) ?_
          refine ee_ild hx hb hV hP 1 rfl (j := 185) (by omega) (by decide) dX9_looksAhead_123 ?_
          refine ee_to (z := gC (itr z (nI v) n) 4) (rM_C hR1 4 (by decide)) ?_
          refine lv_iload hx hb dX9_looksAhead_124 (lv_at hl 2 rfl) ?_
          refine lv_isub hx hb dX9_looksAhead_126 ?_
          exact ee_fi hQ hx hb hr (rfl) hlocks hS (gk, pu, xv, xn, xb, xh, xe) (⟨rfl, hR1⟩) hP hD dX9_looksAhead_127
        · refine lv_tableIn (off := 50) (tgt := 128) hx hb dX9_looksAhead_78 (by decide) (by decide) (by decide) (by decide) ?_
          refine lv_aload_n hx hb dX9_looksAhead_128 rfl (lv_at hl 4 rfl) ?_
          refine va_get (ci := 9) (v := .ref w1) (C := RX9) (T := TX9) (N := 24) hx hb hts i9_X9_looksAhead hown hV.1 hP 0 rfl rfl 0 (by decide) (hts _ w1_X9_looksAhead) (fun _ h9 => h9) rfl dX9_looksAhead_129 ?_
          refine lv_iconst (v := nI 0) hx hb dX9_looksAhead_132 (by decide) ?_
          refine ee_ild hx hb hV hP 1 rfl (j := 0) (by omega) (by decide) dX9_looksAhead_133 ?_
          refine ee_to (z := nI (gN (itr z (nI v) n))) (rM_N hR1) ?_
          exact ee_fi hQ hx hb hr (rfl) hlocks hS (gk, pu, xv, xn, xb, xh, xe) (⟨rfl, hR1⟩) hP hD dX9_looksAhead_134
        · refine lv_tableOut (tgt := 135) hx hb dX9_looksAhead_78 (by decide) (by decide) ?_
          refine lv_iload hx hb dX9_looksAhead_135 (lv_at hl 1 rfl) ?_
          exact ee_fi hQ hx hb hr (rfl) hlocks hS (gk, pu, xv, xn, xb, xh, xe) (⟨hq, hR1⟩) hP hD dX9_looksAhead_137
      · refine lv_aload_n hx hb dX9_looksAhead_32 rfl (lv_at hl 4 rfl) ?_
        refine lv_iload_n hx hb dX9_looksAhead_33 rfl (lv_at hl 6 rfl) ?_
        refine ee_kv (wr := []) (ee_rV (As := [.int (nI v)]) (rest := []) (kX9_cycles l E w0 w1 w2 w3 w4 w5 w6 w7 w8 w9 pu pa p1 p2 tl ta fa it dp xv xn xb xh xe hh gk (itr z (nI v) i) v hR1 (by omega)) hx hb hml hown hts 1 gX9_looksAhead_X9_cycles rfl rfl rfl (by decide +kernel) ⟨Nat.le_of_ble_eq_true rfl, Nat.le_of_ble_eq_true rfl⟩ hV hP hD hS hA [0, 1] rfl (by decide) hl 0 rfl rfl rfl rfl (Nat.le_of_ble_eq_true rfl) dX9_looksAhead_34 ⟨Nat.le_of_ble_eq_true rfl, Nat.le_of_ble_eq_true rfl⟩) hP hD hS hA [0, 1] [] rfl rfl (by decide) (by decide) (fun u_4 H locs hR2 hP hD hS => ?_)
        obtain ⟨gk_9, pu_9⟩ := u_4
        try dsimp only at hR2
        have hP : va_P E.1 vwCl [(w0, ee_o 9 [.ref w1, .ref w2, .ref w3, .ref w4, .float pu_9, .float pa, .float p1, .float p2, .ref w5, .int tl, .int ta, .int fa, .ref w6, .ref w7, .int it, .ref w8, .ref w9, .int dp, .int (nI (cTr (itr z (nI v) i))), .int (nI (cTk (itr z (nI v) i))), .int (nI (cLb (itr z (nI v) i))), .int (nI (cHs (itr z (nI v) i))), .int (nI (cEd (itr z (nI v) i))), .long hh]), (w1, ee_i E 204 gk_9)] H := hP
        have hD : va_D A [(w0, ee_o 9 [.ref w1, .ref w2, .ref w3, .ref w4, .float pu_9, .float pa, .float p1, .float p2, .ref w5, .int tl, .int ta, .int fa, .ref w6, .ref w7, .int it, .ref w8, .ref w9, .int dp, .int (nI (cTr (itr z (nI v) i))), .int (nI (cTk (itr z (nI v) i))), .int (nI (cLb (itr z (nI v) i))), .int (nI (cHs (itr z (nI v) i))), .int (nI (cEd (itr z (nI v) i))), .long hh]), (w1, ee_i E 204 gk_9)] := hD
        have hR2 : rM (itr z (nI v) (i + 1)) gk_9 pu_9 := hR2
        refine lv_iload hx hb dX9_looksAhead_37 (lv_at hl 1 rfl) ?_
        refine lv_iconst (v := (-1)) hx hb dX9_looksAhead_39 (by decide) ?_
        refine lv_icmp_ne (tgt := 67) hx hb dX9_looksAhead_40 (by decide) (fun g40 => ?_) (fun g40 => ?_)
        · refine lv_iload hx hb dX9_looksAhead_67 (lv_at hl 1 rfl) ?_
          refine lv_istore (lv' := [(6, .int q1), (7, .int (nI (i + 1))), (5, .int (gC z 4)), (4, .int (gB z 0)), (0, .ref w0), (1, .int (nI n)), (2, .int (nI v)), (3, .int (nI w))]) hx hb dX9_looksAhead_69 hl (by decide) rfl (fun ls hl => ?_)
          refine lv_iinc (v := nI (i + 1 + 1)) (lv' := [(7, .int (nI (i + 1 + 1))), (6, .int q1), (5, .int (gC z 4)), (4, .int (gB z 0)), (0, .ref w0), (1, .int (nI n)), (2, .int (nI v)), (3, .int (nI w))]) hx hb dX9_looksAhead_71 hl (k := 1) rfl (ee_inc _) (by decide) rfl (fun ls hl => ?_)
          refine lv_goto (tgt := 26) hx hb dX9_looksAhead_74 (by decide) ?_
          exact ihB_1 (i + 1) q1 gk_9 pu_9 (nI (cTr (itr z (nI v) i))) (nI (cTk (itr z (nI v) i))) (nI (cLb (itr z (nI v) i))) (nI (cHs (itr z (nI v) i))) (nI (cEd (itr z (nI v) i))) _ _ _ (by omega) (by omega) (stS_n1 hq g40) hR2 hP hD hS (lv_sub hl [0, 1, 2, 3, 4, 5, 6, 7] rfl)
        · refine lv_aload_n hx hb dX9_looksAhead_43 rfl (lv_at hl 4 rfl) ?_
          refine va_get (ci := 9) (v := .ref w1) (C := RX9) (T := TX9) (N := 24) hx hb hts i9_X9_looksAhead hown hV.1 hP 0 rfl rfl 0 (by decide) (hts _ w1_X9_looksAhead) (fun _ h9 => h9) rfl dX9_looksAhead_44 ?_
          refine lv_sipush (v := nI 188) hx hb dX9_looksAhead_47 (by decide) ?_
          refine ee_ild hx hb hV hP 1 rfl (j := 188) (by omega) (by decide) dX9_looksAhead_50 ?_
          refine lv_aload_n hx hb dX9_looksAhead_51 rfl (lv_at hl 4 rfl) ?_
          refine va_get (ci := 9) (v := .ref w1) (C := RX9) (T := TX9) (N := 24) hx hb hts i9_X9_looksAhead hown hV.1 hP 0 rfl rfl 0 (by decide) (hts _ w1_X9_looksAhead) (fun _ h9 => h9) rfl dX9_looksAhead_52 ?_
          refine lv_sipush (v := nI 168) hx hb dX9_looksAhead_55 (by decide) ?_
          refine ee_ild hx hb hV hP 1 rfl (j := 168) (by omega) (by decide) dX9_looksAhead_58 ?_
          refine lv_icmp_lt (tgt := 67) hx hb dX9_looksAhead_59 (by decide) (fun g59 => ?_) (fun g59 => ?_)
          · refine lv_iload hx hb dX9_looksAhead_67 (lv_at hl 1 rfl) ?_
            refine lv_istore (lv' := [(6, .int q1), (7, .int (nI (i + 1))), (5, .int (gC z 4)), (4, .int (gB z 0)), (0, .ref w0), (1, .int (nI n)), (2, .int (nI v)), (3, .int (nI w))]) hx hb dX9_looksAhead_69 hl (by decide) rfl (fun ls hl => ?_)
            refine lv_iinc (v := nI (i + 1 + 1)) (lv' := [(7, .int (nI (i + 1 + 1))), (6, .int q1), (5, .int (gC z 4)), (4, .int (gB z 0)), (0, .ref w0), (1, .int (nI n)), (2, .int (nI v)), (3, .int (nI w))]) hx hb dX9_looksAhead_71 hl (k := 1) rfl (ee_inc _) (by decide) rfl (fun ls hl => ?_)
            refine lv_goto (tgt := 26) hx hb dX9_looksAhead_74 (by decide) ?_
            exact ihB_1 (i + 1) q1 gk_9 pu_9 (nI (cTr (itr z (nI v) i))) (nI (cTk (itr z (nI v) i))) (nI (cLb (itr z (nI v) i))) (nI (cHs (itr z (nI v) i))) (nI (cEd (itr z (nI v) i))) _ _ _ (by omega) (by omega) (stS_n2 hq (cyc_7 hR2) g59) hR2 hP hD hS (lv_sub hl [0, 1, 2, 3, 4, 5, 6, 7] rfl)
          · refine lv_iload hx hb dX9_looksAhead_62 (lv_at hl 0 rfl) ?_
            refine lv_goto (tgt := 69) hx hb dX9_looksAhead_64 (by decide) ?_
            refine lv_istore (lv' := [(6, .int (nI (i + 1))), (7, .int (nI (i + 1))), (5, .int (gC z 4)), (4, .int (gB z 0)), (0, .ref w0), (1, .int (nI n)), (2, .int (nI v)), (3, .int (nI w))]) hx hb dX9_looksAhead_69 hl (by decide) rfl (fun ls hl => ?_)
            refine lv_iinc (v := nI (i + 1 + 1)) (lv' := [(7, .int (nI (i + 1 + 1))), (6, .int (nI (i + 1))), (5, .int (gC z 4)), (4, .int (gB z 0)), (0, .ref w0), (1, .int (nI n)), (2, .int (nI v)), (3, .int (nI w))]) hx hb dX9_looksAhead_71 hl (k := 1) rfl (ee_inc _) (by decide) rfl (fun ls hl => ?_)
            refine lv_goto (tgt := 26) hx hb dX9_looksAhead_74 (by decide) ?_
            exact ihB_1 (i + 1) (nI (i + 1)) gk_9 pu_9 (nI (cTr (itr z (nI v) i))) (nI (cTk (itr z (nI v) i))) (nI (cLb (itr z (nI v) i))) (nI (cHs (itr z (nI v) i))) (nI (cEd (itr z (nI v) i))) _ _ _ (by omega) (by omega) (stS_y hq g40 (cyc_7 hR2) g59) hR2 hP hD hS (lv_sub hl [0, 1, 2, 3, 4, 5, 6, 7] rfl)
  exact B_1 ((n - 0) + 1) 0 (-1) ar pt tv tn tb th te _ _ _ (Nat.lt_succ_self _) (by omega) rfl hR hP hD hS (lv_sub hl [0, 1, 2, 3, 4, 5, 6, 7] rfl)
abbrev rmX9_ahead : Room := ({ frames := 4, cells := 0, slots := 0, locals := 93 } : Room)
theorem w1_X9_ahead : Cond.methodLink RX9 152 yX9_keepsAside ∈ wsX9_ahead := List.mem_of_getElem? (i := 1) (by decide +kernel)
theorem w4_X9_ahead : Cond.initialized RX9 ∈ wsX9_ahead := List.mem_of_getElem? (i := 4) (by decide +kernel)
theorem w6_X9_ahead : Cond.fieldLink RX9 13 "LabelApplicatorModel" "aside" "[I" ∈ wsX9_ahead := List.mem_of_getElem? (i := 6) (by decide +kernel)
theorem w7_X9_ahead : Cond.fieldLink RX9 7 "LabelApplicatorModel" "m" "[I" ∈ wsX9_ahead := List.mem_of_getElem? (i := 7) (by decide +kernel)
theorem w8_X9_ahead : Cond.fieldLink RX9 24 "LabelApplicatorModel" "pitch" "F" ∈ wsX9_ahead := List.mem_of_getElem? (i := 8) (by decide +kernel)
theorem w9_X9_ahead : Cond.fieldLink RX9 149 "LabelApplicatorModel" "pitchAside" "F" ∈ wsX9_ahead := List.mem_of_getElem? (i := 9) (by decide +kernel)
theorem w10_X9_ahead : Cond.methodLink RX9 155 yX9_looksAhead ∈ wsX9_ahead := List.mem_of_getElem? (i := 10) (by decide +kernel)
theorem w14_X9_ahead : Cond.methodLink RX9 146 yX9_cycles ∈ wsX9_ahead := List.mem_of_getElem? (i := 14) (by decide +kernel)
theorem w18_X9_ahead : Cond.fieldLink RX9 129 "LabelApplicatorModel" "end" "I" ∈ wsX9_ahead := List.mem_of_getElem? (i := 18) (by decide +kernel)
theorem w19_X9_ahead : Cond.fieldLink RX9 116 "LabelApplicatorModel" "travel" "I" ∈ wsX9_ahead := List.mem_of_getElem? (i := 19) (by decide +kernel)
theorem w20_X9_ahead : Cond.constantFloat RX9 142 (1090519040) ∈ wsX9_ahead := List.mem_of_getElem? (i := 20) (by decide +kernel)
theorem w21_X9_ahead : Cond.fieldLink RX9 122 "LabelApplicatorModel" "labels" "I" ∈ wsX9_ahead := List.mem_of_getElem? (i := 21) (by decide +kernel)
theorem w22_X9_ahead : Cond.fieldLink RX9 125 "LabelApplicatorModel" "hasSplice" "Z" ∈ wsX9_ahead := List.mem_of_getElem? (i := 22) (by decide +kernel)
theorem w23_X9_ahead : Cond.fieldLink RX9 119 "LabelApplicatorModel" "taken" "I" ∈ wsX9_ahead := List.mem_of_getElem? (i := 23) (by decide +kernel)
theorem w24_X9_ahead : Cond.methodLink RX9 132 yX9_follows ∈ wsX9_ahead := List.mem_of_getElem? (i := 24) (by decide +kernel)
theorem w28_X9_ahead : Cond.methodLink RX9 135 yX9_feeds ∈ wsX9_ahead := List.mem_of_getElem? (i := 28) (by decide +kernel)
theorem w32_X9_ahead : Cond.methodLink RX9 138 yX9_reasonAt ∈ wsX9_ahead := List.mem_of_getElem? (i := 32) (by decide +kernel)
theorem w36_X9_ahead : Cond.methodLink RX9 143 yX9_turns ∈ wsX9_ahead := List.mem_of_getElem? (i := 36) (by decide +kernel)
theorem w40_X9_ahead : Cond.methodLink RX9 113 yX9_leaves ∈ wsX9_ahead := List.mem_of_getElem? (i := 40) (by decide +kernel)
theorem w44_X9_ahead : Cond.methodLink RX9 159 yX9_returns ∈ wsX9_ahead := List.mem_of_getElem? (i := 44) (by decide +kernel)
theorem i9_X9_ahead : ∀ w ∈ wsX90, w ∈ wsX9_ahead := fun w h => (goodIn_r _ [48, 49, 50, 51, 52, 53, 54, 55, 56, 57, 58, 59, 60, 61, 62, 63, 64, 65, 66, 67, 68, 69, 70, 71] (by decide +kernel) (by decide +kernel) w h).1
set_option maxHeartbeats 4000000 in
set_option maxRecDepth 100000 in
theorem kX9_ahead (l : Launch) (E : ee_T) (w0 w1 w2 w3 w4 w5 w6 w7 w8 w9 : Nat) (pt pa p1 p2 : UInt32) (tl ta fa it dp tv tn tb th te : Int32) (hh : Int64) (ar : Nat → Int32) (aa : Nat → Int32) (z : Sg) (n v w : Nat) (hR : rM z ar pt) (hn : n ≤ 100) (hv : v ≤ 1000) (hw : w ≤ 3) : CQ l E yX9_ahead wsX9_ahead rmX9_ahead [.ref w0, .int (nI n), .int (nI v), .int (nI w)] [(w0, ee_o 9 [.ref w1, .ref w2, .ref w3, .ref w4, .float pt, .float pa, .float p1, .float p2, .ref w5, .int tl, .int ta, .int fa, .ref w6, .ref w7, .int it, .ref w8, .ref w9, .int dp, .int tv, .int tn, .int tb, .int th, .int te, .long hh]), (w1, ee_i E 204 ar), (w2, ee_i E 204 aa)] (QI E (fun (r : Int32) (u : (Nat → Int32) × (Nat → Int32) × Int32 × Int32 × Int32 × Int32 × Int32) => r = foS z n (nI v) w ∧ ∀ j, j < 204 → u.1 j = ar j) (fun (u : (Nat → Int32) × (Nat → Int32) × Int32 × Int32 × Int32 × Int32 × Int32) => [(w0, ee_o 9 [.ref w1, .ref w2, .ref w3, .ref w4, .float pt, .float pt, .float p1, .float p2, .ref w5, .int tl, .int ta, .int fa, .ref w6, .ref w7, .int it, .ref w8, .ref w9, .int dp, .int u.2.2.1, .int u.2.2.2.1, .int u.2.2.2.2.1, .int u.2.2.2.2.2.1, .int u.2.2.2.2.2.2, .long hh]), (w1, ee_i E 204 u.1), (w2, ee_i E 204 u.2.1)])) 0 0 := by
  refine CQ_ofW (cc := cX9_ahead) (maxL := 5) (ret := (some .int)) (by decide) rfl (Nat.le_of_ble_eq_true rfl) ?_
  intro p e s m below meth c A Q hQ hx hb hr hml hown hlocks hnm hts hV hA hP hD hS ls hl
  have hl : lv_has ls 5 [(0, .ref w0), (1, .int (nI n)), (2, .int (nI v)), (3, .int (nI w))] := hl
  refine lv_aload_n hx hb dX9_ahead_0 rfl (lv_at hl 0 rfl) ?_
  refine ee_kv (wr := []) (ee_rV (As := []) (rest := []) (kX9_keepsAside l E w0 w1 w2 w3 w4 w5 w6 w7 w8 w9 pt pa p1 p2 tl ta fa it dp tv tn tb th te hh ar aa) hx hb hml hown hts 0 gX9_ahead_X9_keepsAside rfl rfl rfl (by decide +kernel) ⟨Nat.le_of_ble_eq_true rfl, Nat.le_of_ble_eq_true rfl⟩ hV hP hD hS hA [0, 1, 2] rfl (by decide) hl 0 rfl rfl rfl rfl (Nat.le_of_ble_eq_true rfl) dX9_ahead_1 ⟨Nat.le_of_ble_eq_true rfl, Nat.le_of_ble_eq_true rfl⟩) hP hD hS hA [0, 1, 2] [] rfl rfl (by decide) (by decide) (fun ak H locs hk hP hD hS => ?_)
  have hP : va_P E.1 vwCl [(w0, ee_o 9 [.ref w1, .ref w2, .ref w3, .ref w4, .float pt, .float pt, .float p1, .float p2, .ref w5, .int tl, .int ta, .int fa, .ref w6, .ref w7, .int it, .ref w8, .ref w9, .int dp, .int tv, .int tn, .int tb, .int th, .int te, .long hh]), (w1, ee_i E 204 ar), (w2, ee_i E 204 ak)] H := hP
  have hD : va_D A [(w0, ee_o 9 [.ref w1, .ref w2, .ref w3, .ref w4, .float pt, .float pt, .float p1, .float p2, .ref w5, .int tl, .int ta, .int fa, .ref w6, .ref w7, .int it, .ref w8, .ref w9, .int dp, .int tv, .int tn, .int tb, .int th, .int te, .long hh]), (w1, ee_i E 204 ar), (w2, ee_i E 204 ak)] := hD
  refine lv_aload_n hx hb dX9_ahead_4 rfl (lv_at hl 0 rfl) ?_
  refine lv_iload_n hx hb dX9_ahead_5 rfl (lv_at hl 1 rfl) ?_
  refine lv_iload_n hx hb dX9_ahead_6 rfl (lv_at hl 2 rfl) ?_
  refine lv_iload_n hx hb dX9_ahead_7 rfl (lv_at hl 3 rfl) ?_
  refine ee_ki (wr := [(w2, ee_i E 204 ak)]) (ee_rV (As := [.int (nI n), .int (nI v), .int (nI w)]) (rest := []) (kX9_looksAhead l E w0 w1 w2 w3 w4 w5 w6 w7 w8 w9 pt pt p1 p2 tl ta fa it dp tv tn tb th te hh ar z n v w (by omega) (by omega) (by omega) (by omega)) hx hb hml hown hts 3 gX9_ahead_X9_looksAhead rfl rfl rfl (by decide +kernel) ⟨Nat.le_of_ble_eq_true rfl, Nat.le_of_ble_eq_true rfl⟩ hV hP hD hS hA [0, 1] rfl (by decide) hl 0 rfl rfl rfl rfl (Nat.le_of_ble_eq_true rfl) dX9_ahead_8 ⟨Nat.le_of_ble_eq_true rfl, Nat.le_of_ble_eq_true rfl⟩) hP hD hS hA [0, 1] [2] rfl rfl (by decide) (by decide) (fun r_3 u_4 H locs hp_5 hP hD hS => ?_)
  obtain ⟨gk_6, pu_7, xv_8, xn_9, xb_10, xh_11, xe_12⟩ := u_4
  try dsimp only at hp_5
  obtain ⟨rfl, hR2⟩ := hp_5
  have hP : va_P E.1 vwCl [(w2, ee_i E 204 ak), (w0, ee_o 9 [.ref w1, .ref w2, .ref w3, .ref w4, .float pu_7, .float pt, .float p1, .float p2, .ref w5, .int tl, .int ta, .int fa, .ref w6, .ref w7, .int it, .ref w8, .ref w9, .int dp, .int xv_8, .int xn_9, .int xb_10, .int xh_11, .int xe_12, .long hh]), (w1, ee_i E 204 gk_6)] H := hP
  have hD : va_D A [(w2, ee_i E 204 ak), (w0, ee_o 9 [.ref w1, .ref w2, .ref w3, .ref w4, .float pu_7, .float pt, .float p1, .float p2, .ref w5, .int tl, .int ta, .int fa, .ref w6, .ref w7, .int it, .ref w8, .ref w9, .int dp, .int xv_8, .int xn_9, .int xb_10, .int xh_11, .int xe_12, .long hh]), (w1, ee_i E 204 gk_6)] := hD
  refine lv_istore (lv' := [(4, .int (foS z n (nI v) w)), (0, .ref w0), (1, .int (nI n)), (2, .int (nI v)), (3, .int (nI w))]) hx hb dX9_ahead_11 hl (by decide) rfl (fun ls hl => ?_)
  refine lv_aload_n hx hb dX9_ahead_13 rfl (lv_at hl 1 rfl) ?_
  refine ee_kv (wr := []) (ee_rV (As := []) (rest := []) (kX9_returns l E w0 w1 w2 w3 w4 w5 w6 w7 w8 w9 pu_7 pt p1 p2 tl ta fa it dp xv_8 xn_9 xb_10 xh_11 xe_12 hh gk_6 ak) hx hb hml hown hts 0 gX9_ahead_X9_returns rfl rfl rfl (by decide +kernel) ⟨Nat.le_of_ble_eq_true rfl, Nat.le_of_ble_eq_true rfl⟩ hV hP hD hS hA [1, 2, 0] rfl (by decide) hl 1 rfl rfl rfl rfl (Nat.le_of_ble_eq_true rfl) dX9_ahead_14 ⟨Nat.le_of_ble_eq_true rfl, Nat.le_of_ble_eq_true rfl⟩) hP hD hS hA [1, 2, 0] [] rfl rfl (by decide) (by decide) (fun bk H locs hk2 hP hD hS => ?_)
  have hP : va_P E.1 vwCl [(w0, ee_o 9 [.ref w1, .ref w2, .ref w3, .ref w4, .float pt, .float pt, .float p1, .float p2, .ref w5, .int tl, .int ta, .int fa, .ref w6, .ref w7, .int it, .ref w8, .ref w9, .int dp, .int xv_8, .int xn_9, .int xb_10, .int xh_11, .int xe_12, .long hh]), (w1, ee_i E 204 bk), (w2, ee_i E 204 ak)] H := hP
  have hD : va_D A [(w0, ee_o 9 [.ref w1, .ref w2, .ref w3, .ref w4, .float pt, .float pt, .float p1, .float p2, .ref w5, .int tl, .int ta, .int fa, .ref w6, .ref w7, .int it, .ref w8, .ref w9, .int dp, .int xv_8, .int xn_9, .int xb_10, .int xh_11, .int xe_12, .long hh]), (w1, ee_i E 204 bk), (w2, ee_i E 204 ak)] := hD
  refine lv_iload hx hb dX9_ahead_17 (lv_at hl 0 rfl) ?_
  exact ee_fi hQ hx hb hr (rfl) hlocks hS (bk, ak, xv_8, xn_9, xb_10, xh_11, xe_12) (⟨rfl, fun j hj => (hk2 j hj).trans (hk j hj)⟩) hP hD dX9_ahead_19
abbrev rmX9_foretell : Room := ({ frames := 5, cells := 0, slots := 0, locals := 117 } : Room)
theorem w1_X9_foretell : Cond.methodLink RX9 43 yX9_in ∈ wsX9_foretell := List.mem_of_getElem? (i := 1) (by decide +kernel)
theorem w3_X9_foretell : Cond.initialized RX9 ∈ wsX9_foretell := List.mem_of_getElem? (i := 3) (by decide +kernel)
theorem w5_X9_foretell : Cond.methodLink RX9 162 yX9_ahead ∈ wsX9_foretell := List.mem_of_getElem? (i := 5) (by decide +kernel)
theorem w9_X9_foretell : Cond.methodLink RX9 152 yX9_keepsAside ∈ wsX9_foretell := List.mem_of_getElem? (i := 9) (by decide +kernel)
theorem w13_X9_foretell : Cond.fieldLink RX9 13 "LabelApplicatorModel" "aside" "[I" ∈ wsX9_foretell := List.mem_of_getElem? (i := 13) (by decide +kernel)
theorem w14_X9_foretell : Cond.fieldLink RX9 7 "LabelApplicatorModel" "m" "[I" ∈ wsX9_foretell := List.mem_of_getElem? (i := 14) (by decide +kernel)
theorem w15_X9_foretell : Cond.fieldLink RX9 24 "LabelApplicatorModel" "pitch" "F" ∈ wsX9_foretell := List.mem_of_getElem? (i := 15) (by decide +kernel)
theorem w16_X9_foretell : Cond.fieldLink RX9 149 "LabelApplicatorModel" "pitchAside" "F" ∈ wsX9_foretell := List.mem_of_getElem? (i := 16) (by decide +kernel)
theorem w17_X9_foretell : Cond.methodLink RX9 155 yX9_looksAhead ∈ wsX9_foretell := List.mem_of_getElem? (i := 17) (by decide +kernel)
theorem w21_X9_foretell : Cond.methodLink RX9 146 yX9_cycles ∈ wsX9_foretell := List.mem_of_getElem? (i := 21) (by decide +kernel)
theorem w25_X9_foretell : Cond.fieldLink RX9 129 "LabelApplicatorModel" "end" "I" ∈ wsX9_foretell := List.mem_of_getElem? (i := 25) (by decide +kernel)
theorem w26_X9_foretell : Cond.fieldLink RX9 116 "LabelApplicatorModel" "travel" "I" ∈ wsX9_foretell := List.mem_of_getElem? (i := 26) (by decide +kernel)
theorem w27_X9_foretell : Cond.constantFloat RX9 142 (1090519040) ∈ wsX9_foretell := List.mem_of_getElem? (i := 27) (by decide +kernel)
theorem w28_X9_foretell : Cond.fieldLink RX9 122 "LabelApplicatorModel" "labels" "I" ∈ wsX9_foretell := List.mem_of_getElem? (i := 28) (by decide +kernel)
theorem w29_X9_foretell : Cond.fieldLink RX9 125 "LabelApplicatorModel" "hasSplice" "Z" ∈ wsX9_foretell := List.mem_of_getElem? (i := 29) (by decide +kernel)
theorem w30_X9_foretell : Cond.fieldLink RX9 119 "LabelApplicatorModel" "taken" "I" ∈ wsX9_foretell := List.mem_of_getElem? (i := 30) (by decide +kernel)
theorem w31_X9_foretell : Cond.methodLink RX9 132 yX9_follows ∈ wsX9_foretell := List.mem_of_getElem? (i := 31) (by decide +kernel)
theorem w35_X9_foretell : Cond.methodLink RX9 135 yX9_feeds ∈ wsX9_foretell := List.mem_of_getElem? (i := 35) (by decide +kernel)
theorem w39_X9_foretell : Cond.methodLink RX9 138 yX9_reasonAt ∈ wsX9_foretell := List.mem_of_getElem? (i := 39) (by decide +kernel)
theorem w43_X9_foretell : Cond.methodLink RX9 143 yX9_turns ∈ wsX9_foretell := List.mem_of_getElem? (i := 43) (by decide +kernel)
theorem w47_X9_foretell : Cond.methodLink RX9 113 yX9_leaves ∈ wsX9_foretell := List.mem_of_getElem? (i := 47) (by decide +kernel)
theorem w51_X9_foretell : Cond.methodLink RX9 159 yX9_returns ∈ wsX9_foretell := List.mem_of_getElem? (i := 51) (by decide +kernel)
theorem i9_X9_foretell : ∀ w ∈ wsX90, w ∈ wsX9_foretell := fun w h => (goodIn_r _ [55, 56, 57, 58, 59, 60, 61, 62, 63, 64, 65, 66, 67, 68, 69, 70, 71, 72, 73, 74, 75, 76, 77, 78] (by decide +kernel) (by decide +kernel) w h).1
set_option maxHeartbeats 4000000 in
set_option maxRecDepth 100000 in
theorem kX9_foretell (l : Launch) (E : ee_T) (w0 w1 w2 w3 w4 w5 w6 w7 w8 w9 : Nat) (pt pa p1 p2 : UInt32) (tl ta fa it dp tv tn tb th te : Int32) (hh : Int64) (ar : Nat → Int32) (aa : Nat → Int32) (z : Sg) (n v w : Int32) (hR : rM z ar pt) : CQ l E yX9_foretell wsX9_foretell rmX9_foretell [.ref w0, .int n, .int v, .int w] [(w0, ee_o 9 [.ref w1, .ref w2, .ref w3, .ref w4, .float pt, .float pa, .float p1, .float p2, .ref w5, .int tl, .int ta, .int fa, .ref w6, .ref w7, .int it, .ref w8, .ref w9, .int dp, .int tv, .int tn, .int tb, .int th, .int te, .long hh]), (w1, ee_i E 204 ar), (w2, ee_i E 204 aa)] (QI E (fun (r : Int32) (u : (Nat → Int32) × (Nat → Int32) × UInt32 × Int32 × Int32 × Int32 × Int32 × Int32) => r = foA z n v w ∧ ∀ j, j < 204 → u.1 j = ar j) (fun (u : (Nat → Int32) × (Nat → Int32) × UInt32 × Int32 × Int32 × Int32 × Int32 × Int32) => [(w0, ee_o 9 [.ref w1, .ref w2, .ref w3, .ref w4, .float pt, .float u.2.2.1, .float p1, .float p2, .ref w5, .int tl, .int ta, .int fa, .ref w6, .ref w7, .int it, .ref w8, .ref w9, .int dp, .int u.2.2.2.1, .int u.2.2.2.2.1, .int u.2.2.2.2.2.1, .int u.2.2.2.2.2.2.1, .int u.2.2.2.2.2.2.2, .long hh]), (w1, ee_i E 204 u.1), (w2, ee_i E 204 u.2.1)])) 0 0 := by
  refine CQ_ofW (cc := cX9_foretell) (maxL := 4) (ret := (some .int)) (by decide) rfl (Nat.le_of_ble_eq_true rfl) ?_
  intro p e s m below meth c A Q hQ hx hb hr hml hown hlocks hnm hts hV hA hP hD hS ls hl
  have hl : lv_has ls 4 [(0, .ref w0), (1, .int n), (2, .int v), (3, .int w)] := hl
  refine lv_iload_n hx hb dX9_foretell_0 rfl (lv_at hl 1 rfl) ?_
  refine lv_iconst (v := nI 1) hx hb dX9_foretell_1 (by decide) ?_
  refine lv_bipush (v := nI 100) hx hb dX9_foretell_2 (by decide) ?_
  refine ee_ki (wr := [(w0, ee_o 9 [.ref w1, .ref w2, .ref w3, .ref w4, .float pt, .float pa, .float p1, .float p2, .ref w5, .int tl, .int ta, .int fa, .ref w6, .ref w7, .int it, .ref w8, .ref w9, .int dp, .int tv, .int tn, .int tb, .int th, .int te, .long hh]), (w1, ee_i E 204 ar), (w2, ee_i E 204 aa)]) (ee_rS (As := [.int n, .int (nI 1), .int (nI 100)]) (rest := []) (kX9_in l E n (nI 1) (nI 100)) hx hb hml hown hts 3 gX9_foretell_X9_in rfl rfl rfl (by decide +kernel) ⟨Nat.le_of_ble_eq_true rfl, Nat.le_of_ble_eq_true rfl⟩ hV hP hD hS hA [] rfl (by decide) hl rfl rfl (Nat.le_of_ble_eq_true rfl) dX9_foretell_4 ⟨Nat.le_of_ble_eq_true rfl, Nat.le_of_ble_eq_true rfl⟩) hP hD hS hA [] [0, 1, 2] rfl rfl (by decide) (by decide) (fun r_1 u_2 H locs hp_3 hP hD hS => ?_)
  have hP : va_P E.1 vwCl [(w0, ee_o 9 [.ref w1, .ref w2, .ref w3, .ref w4, .float pt, .float pa, .float p1, .float p2, .ref w5, .int tl, .int ta, .int fa, .ref w6, .ref w7, .int it, .ref w8, .ref w9, .int dp, .int tv, .int tn, .int tb, .int th, .int te, .long hh]), (w1, ee_i E 204 ar), (w2, ee_i E 204 aa)] H := hP
  have hD : va_D A [(w0, ee_o 9 [.ref w1, .ref w2, .ref w3, .ref w4, .float pt, .float pa, .float p1, .float p2, .ref w5, .int tl, .int ta, .int fa, .ref w6, .ref w7, .int it, .ref w8, .ref w9, .int dp, .int tv, .int tn, .int tb, .int th, .int te, .long hh]), (w1, ee_i E 204 ar), (w2, ee_i E 204 aa)] := hD
  rcases hp_3 with ⟨rfl, hc1⟩ | ⟨rfl, hc2⟩
  · refine ee_eq0 (tgt := 40) hx hb (by omega) dX9_foretell_7 (by decide) (fun h_6 => absurd h_6 (by decide)) (fun h_6 => ?_)
    refine lv_iload_n hx hb dX9_foretell_10 rfl (lv_at hl 2 rfl) ?_
    refine lv_iconst (v := nI 0) hx hb dX9_foretell_11 (by decide) ?_
    refine lv_sipush (v := nI 1000) hx hb dX9_foretell_12 (by decide) ?_
    refine ee_ki (wr := [(w0, ee_o 9 [.ref w1, .ref w2, .ref w3, .ref w4, .float pt, .float pa, .float p1, .float p2, .ref w5, .int tl, .int ta, .int fa, .ref w6, .ref w7, .int it, .ref w8, .ref w9, .int dp, .int tv, .int tn, .int tb, .int th, .int te, .long hh]), (w1, ee_i E 204 ar), (w2, ee_i E 204 aa)]) (ee_rS (As := [.int v, .int (nI 0), .int (nI 1000)]) (rest := []) (kX9_in l E v (nI 0) (nI 1000)) hx hb hml hown hts 3 gX9_foretell_X9_in rfl rfl rfl (by decide +kernel) ⟨Nat.le_of_ble_eq_true rfl, Nat.le_of_ble_eq_true rfl⟩ hV hP hD hS hA [] rfl (by decide) hl rfl rfl (Nat.le_of_ble_eq_true rfl) dX9_foretell_15 ⟨Nat.le_of_ble_eq_true rfl, Nat.le_of_ble_eq_true rfl⟩) hP hD hS hA [] [0, 1, 2] rfl rfl (by decide) (by decide) (fun r_7 u_8 H locs hp_9 hP hD hS => ?_)
    have hP : va_P E.1 vwCl [(w0, ee_o 9 [.ref w1, .ref w2, .ref w3, .ref w4, .float pt, .float pa, .float p1, .float p2, .ref w5, .int tl, .int ta, .int fa, .ref w6, .ref w7, .int it, .ref w8, .ref w9, .int dp, .int tv, .int tn, .int tb, .int th, .int te, .long hh]), (w1, ee_i E 204 ar), (w2, ee_i E 204 aa)] H := hP
    have hD : va_D A [(w0, ee_o 9 [.ref w1, .ref w2, .ref w3, .ref w4, .float pt, .float pa, .float p1, .float p2, .ref w5, .int tl, .int ta, .int fa, .ref w6, .ref w7, .int it, .ref w8, .ref w9, .int dp, .int tv, .int tn, .int tb, .int th, .int te, .long hh]), (w1, ee_i E 204 ar), (w2, ee_i E 204 aa)] := hD
    rcases hp_9 with ⟨rfl, hc3⟩ | ⟨rfl, hc4⟩
    · refine ee_eq0 (tgt := 40) hx hb (by omega) dX9_foretell_18 (by decide) (fun h_12 => absurd h_12 (by decide)) (fun h_12 => ?_)
      refine lv_iload_n hx hb dX9_foretell_21 rfl (lv_at hl 3 rfl) ?_
      refine lv_iconst (v := nI 0) hx hb dX9_foretell_22 (by decide) ?_
      refine lv_iconst (v := nI 3) hx hb dX9_foretell_23 (by decide) ?_
      refine ee_ki (wr := [(w0, ee_o 9 [.ref w1, .ref w2, .ref w3, .ref w4, .float pt, .float pa, .float p1, .float p2, .ref w5, .int tl, .int ta, .int fa, .ref w6, .ref w7, .int it, .ref w8, .ref w9, .int dp, .int tv, .int tn, .int tb, .int th, .int te, .long hh]), (w1, ee_i E 204 ar), (w2, ee_i E 204 aa)]) (ee_rS (As := [.int w, .int (nI 0), .int (nI 3)]) (rest := []) (kX9_in l E w (nI 0) (nI 3)) hx hb hml hown hts 3 gX9_foretell_X9_in rfl rfl rfl (by decide +kernel) ⟨Nat.le_of_ble_eq_true rfl, Nat.le_of_ble_eq_true rfl⟩ hV hP hD hS hA [] rfl (by decide) hl rfl rfl (Nat.le_of_ble_eq_true rfl) dX9_foretell_24 ⟨Nat.le_of_ble_eq_true rfl, Nat.le_of_ble_eq_true rfl⟩) hP hD hS hA [] [0, 1, 2] rfl rfl (by decide) (by decide) (fun r_13 u_14 H locs hp_15 hP hD hS => ?_)
      have hP : va_P E.1 vwCl [(w0, ee_o 9 [.ref w1, .ref w2, .ref w3, .ref w4, .float pt, .float pa, .float p1, .float p2, .ref w5, .int tl, .int ta, .int fa, .ref w6, .ref w7, .int it, .ref w8, .ref w9, .int dp, .int tv, .int tn, .int tb, .int th, .int te, .long hh]), (w1, ee_i E 204 ar), (w2, ee_i E 204 aa)] H := hP
      have hD : va_D A [(w0, ee_o 9 [.ref w1, .ref w2, .ref w3, .ref w4, .float pt, .float pa, .float p1, .float p2, .ref w5, .int tl, .int ta, .int fa, .ref w6, .ref w7, .int it, .ref w8, .ref w9, .int dp, .int tv, .int tn, .int tb, .int th, .int te, .long hh]), (w1, ee_i E 204 ar), (w2, ee_i E 204 aa)] := hD
      rcases hp_15 with ⟨rfl, hc5⟩ | ⟨rfl, hc6⟩
      · obtain ⟨nn, n_1, n_2, rfl⟩ := inR_nat (by decide) (by decide) hc1
        obtain ⟨vv, v_1, v_2, rfl⟩ := inR_nat (by decide) (by decide) hc3
        obtain ⟨ww, w_1, w_2, rfl⟩ := inR_nat (by decide) (by decide) hc5
        refine ee_eq0 (tgt := 40) hx hb (by omega) dX9_foretell_27 (by decide) (fun h_18 => absurd h_18 (by decide)) (fun h_18 => ?_)
        refine lv_aload_n hx hb dX9_foretell_30 rfl (lv_at hl 0 rfl) ?_
        refine lv_iload_n hx hb dX9_foretell_31 rfl (lv_at hl 1 rfl) ?_
        refine lv_iload_n hx hb dX9_foretell_32 rfl (lv_at hl 2 rfl) ?_
        refine lv_iload_n hx hb dX9_foretell_33 rfl (lv_at hl 3 rfl) ?_
        refine ee_ki (wr := []) (ee_rV (As := [.int (nI nn), .int (nI vv), .int (nI ww)]) (rest := []) (kX9_ahead l E w0 w1 w2 w3 w4 w5 w6 w7 w8 w9 pt pa p1 p2 tl ta fa it dp tv tn tb th te hh ar aa z nn vv ww (by omega) (by omega) (by omega) (by omega)) hx hb hml hown hts 3 gX9_foretell_X9_ahead rfl rfl rfl (by decide +kernel) ⟨Nat.le_of_ble_eq_true rfl, Nat.le_of_ble_eq_true rfl⟩ hV hP hD hS hA [0, 1, 2] rfl (by decide) hl 0 rfl rfl rfl rfl (Nat.le_of_ble_eq_true rfl) dX9_foretell_34 ⟨Nat.le_of_ble_eq_true rfl, Nat.le_of_ble_eq_true rfl⟩) hP hD hS hA [0, 1, 2] [] rfl rfl (by decide) (by decide) (fun r_19 u_20 H locs hp_21 hP hD hS => ?_)
        obtain ⟨gk_22, ak_23, xv_24, xn_25, xb_26, xh_27, xe_28⟩ := u_20
        try dsimp only at hp_21
        obtain ⟨rfl, hcp⟩ := hp_21
        have hP : va_P E.1 vwCl [(w0, ee_o 9 [.ref w1, .ref w2, .ref w3, .ref w4, .float pt, .float pt, .float p1, .float p2, .ref w5, .int tl, .int ta, .int fa, .ref w6, .ref w7, .int it, .ref w8, .ref w9, .int dp, .int xv_24, .int xn_25, .int xb_26, .int xh_27, .int xe_28, .long hh]), (w1, ee_i E 204 gk_22), (w2, ee_i E 204 ak_23)] H := hP
        have hD : va_D A [(w0, ee_o 9 [.ref w1, .ref w2, .ref w3, .ref w4, .float pt, .float pt, .float p1, .float p2, .ref w5, .int tl, .int ta, .int fa, .ref w6, .ref w7, .int it, .ref w8, .ref w9, .int dp, .int xv_24, .int xn_25, .int xb_26, .int xh_27, .int xe_28, .long hh]), (w1, ee_i E 204 gk_22), (w2, ee_i E 204 ak_23)] := hD
        refine lv_goto (tgt := 42) hx hb dX9_foretell_37 (by decide) ?_
        exact ee_fi hQ hx hb hr (rfl) hlocks hS (gk_22, ak_23, pt, xv_24, xn_25, xb_26, xh_27, xe_28) (⟨by rw [foA, inB_t hc1, inB_t hc3, inB_t hc5, nv_nI (by omega), nv_nI (by omega)]; rfl, hcp⟩) hP hD dX9_foretell_42
      · refine ee_eq0 (tgt := 40) hx hb (by omega) dX9_foretell_27 (by decide) (fun h_30 => ?_) (fun h_30 => absurd h_30 (by decide))
        refine lv_bipush (v := (-2)) hx hb dX9_foretell_40 (by decide) ?_
        exact ee_fi hQ hx hb hr (rfl) hlocks hS (ar, aa, pa, tv, tn, tb, th, te) (⟨by rw [foA, inB_t hc1, inB_t hc3, inB_f hc6]; rfl, fun _ _ => rfl⟩) hP hD dX9_foretell_42
    · refine ee_eq0 (tgt := 40) hx hb (by omega) dX9_foretell_18 (by decide) (fun h_31 => ?_) (fun h_31 => absurd h_31 (by decide))
      refine lv_bipush (v := (-2)) hx hb dX9_foretell_40 (by decide) ?_
      exact ee_fi hQ hx hb hr (rfl) hlocks hS (ar, aa, pa, tv, tn, tb, th, te) (⟨by rw [foA, inB_t hc1, inB_f hc4]; rfl, fun _ _ => rfl⟩) hP hD dX9_foretell_42
  · refine ee_eq0 (tgt := 40) hx hb (by omega) dX9_foretell_7 (by decide) (fun h_32 => ?_) (fun h_32 => absurd h_32 (by decide))
    refine lv_bipush (v := (-2)) hx hb dX9_foretell_40 (by decide) ?_
    exact ee_fi hQ hx hb hr (rfl) hlocks hS (ar, aa, pa, tv, tn, tb, th, te) (⟨by rw [foA, inB_f hc2]; rfl, fun _ _ => rfl⟩) hP hD dX9_foretell_42
abbrev rmX9_run : Room := ({ frames := 3, cells := 0, slots := 0, locals := 66 } : Room)
theorem w1_X9_run : Cond.fieldLink RX9 7 "LabelApplicatorModel" "m" "[I" ∈ wsX9_run := List.mem_of_getElem? (i := 1) (by decide +kernel)
theorem w2_X9_run : Cond.methodLink RX9 43 yX9_in ∈ wsX9_run := List.mem_of_getElem? (i := 2) (by decide +kernel)
theorem w4_X9_run : Cond.initialized RX9 ∈ wsX9_run := List.mem_of_getElem? (i := 4) (by decide +kernel)
theorem w6_X9_run : Cond.methodLink RX9 146 yX9_cycles ∈ wsX9_run := List.mem_of_getElem? (i := 6) (by decide +kernel)
theorem w10_X9_run : Cond.fieldLink RX9 129 "LabelApplicatorModel" "end" "I" ∈ wsX9_run := List.mem_of_getElem? (i := 10) (by decide +kernel)
theorem w11_X9_run : Cond.fieldLink RX9 116 "LabelApplicatorModel" "travel" "I" ∈ wsX9_run := List.mem_of_getElem? (i := 11) (by decide +kernel)
theorem w12_X9_run : Cond.fieldLink RX9 24 "LabelApplicatorModel" "pitch" "F" ∈ wsX9_run := List.mem_of_getElem? (i := 12) (by decide +kernel)
theorem w13_X9_run : Cond.constantFloat RX9 142 (1090519040) ∈ wsX9_run := List.mem_of_getElem? (i := 13) (by decide +kernel)
theorem w14_X9_run : Cond.fieldLink RX9 122 "LabelApplicatorModel" "labels" "I" ∈ wsX9_run := List.mem_of_getElem? (i := 14) (by decide +kernel)
theorem w15_X9_run : Cond.fieldLink RX9 125 "LabelApplicatorModel" "hasSplice" "Z" ∈ wsX9_run := List.mem_of_getElem? (i := 15) (by decide +kernel)
theorem w16_X9_run : Cond.fieldLink RX9 119 "LabelApplicatorModel" "taken" "I" ∈ wsX9_run := List.mem_of_getElem? (i := 16) (by decide +kernel)
theorem w17_X9_run : Cond.methodLink RX9 132 yX9_follows ∈ wsX9_run := List.mem_of_getElem? (i := 17) (by decide +kernel)
theorem w21_X9_run : Cond.methodLink RX9 135 yX9_feeds ∈ wsX9_run := List.mem_of_getElem? (i := 21) (by decide +kernel)
theorem w25_X9_run : Cond.methodLink RX9 138 yX9_reasonAt ∈ wsX9_run := List.mem_of_getElem? (i := 25) (by decide +kernel)
theorem w29_X9_run : Cond.methodLink RX9 143 yX9_turns ∈ wsX9_run := List.mem_of_getElem? (i := 29) (by decide +kernel)
theorem w33_X9_run : Cond.methodLink RX9 113 yX9_leaves ∈ wsX9_run := List.mem_of_getElem? (i := 33) (by decide +kernel)
theorem i9_X9_run : ∀ w ∈ wsX90, w ∈ wsX9_run := fun w h => (goodIn_r _ [37, 38, 39, 40, 41, 42, 43, 44, 45, 46, 47, 48, 49, 50, 51, 52, 53, 54, 55, 56, 57, 58, 59, 60] (by decide +kernel) (by decide +kernel) w h).1
set_option maxHeartbeats 4000000 in
set_option maxRecDepth 100000 in
theorem kX9_run (l : Launch) (E : ee_T) (w0 w1 w2 w3 w4 w5 w6 w7 w8 w9 : Nat) (pt pa p1 p2 : UInt32) (tl ta fa it dp tv tn tb th te : Int32) (hh : Int64) (ar : Nat → Int32) (z : Sg) (n v : Int32) (hR : rM z ar pt) : CQ l E yX9_run wsX9_run rmX9_run [.ref w0, .int n, .int v] [(w0, ee_o 9 [.ref w1, .ref w2, .ref w3, .ref w4, .float pt, .float pa, .float p1, .float p2, .ref w5, .int tl, .int ta, .int fa, .ref w6, .ref w7, .int it, .ref w8, .ref w9, .int dp, .int tv, .int tn, .int tb, .int th, .int te, .long hh]), (w1, ee_i E 204 ar)] (QI E (fun (r : Int32) (u : (Nat → Int32) × UInt32 × Int32 × Int32 × Int32 × Int32 × Int32) => r = (runA z n v).1 ∧ rM (runA z n v).2 u.1 u.2.1) (fun (u : (Nat → Int32) × UInt32 × Int32 × Int32 × Int32 × Int32 × Int32) => [(w0, ee_o 9 [.ref w1, .ref w2, .ref w3, .ref w4, .float u.2.1, .float pa, .float p1, .float p2, .ref w5, .int tl, .int ta, .int fa, .ref w6, .ref w7, .int it, .ref w8, .ref w9, .int dp, .int u.2.2.1, .int u.2.2.2.1, .int u.2.2.2.2.1, .int u.2.2.2.2.2.1, .int u.2.2.2.2.2.2, .long hh]), (w1, ee_i E 204 u.1)])) 0 0 := by
  refine CQ_ofW (cc := cX9_run) (maxL := 4) (ret := (some .int)) (by decide) rfl (Nat.le_of_ble_eq_true rfl) ?_
  intro p e s m below meth c A Q hQ hx hb hr hml hown hlocks hnm hts hV hA hP hD hS ls hl
  have hl : lv_has ls 4 [(0, .ref w0), (1, .int n), (2, .int v)] := hl
  refine lv_iload_n hx hb dX9_run_0 rfl (lv_at hl 1 rfl) ?_
  refine lv_iconst (v := nI 1) hx hb dX9_run_1 (by decide) ?_
  refine lv_bipush (v := nI 100) hx hb dX9_run_2 (by decide) ?_
  refine ee_ki (wr := [(w0, ee_o 9 [.ref w1, .ref w2, .ref w3, .ref w4, .float pt, .float pa, .float p1, .float p2, .ref w5, .int tl, .int ta, .int fa, .ref w6, .ref w7, .int it, .ref w8, .ref w9, .int dp, .int tv, .int tn, .int tb, .int th, .int te, .long hh]), (w1, ee_i E 204 ar)]) (ee_rS (As := [.int n, .int (nI 1), .int (nI 100)]) (rest := []) (kX9_in l E n (nI 1) (nI 100)) hx hb hml hown hts 3 gX9_run_X9_in rfl rfl rfl (by decide +kernel) ⟨Nat.le_of_ble_eq_true rfl, Nat.le_of_ble_eq_true rfl⟩ hV hP hD hS hA [] rfl (by decide) hl rfl rfl (Nat.le_of_ble_eq_true rfl) dX9_run_4 ⟨Nat.le_of_ble_eq_true rfl, Nat.le_of_ble_eq_true rfl⟩) hP hD hS hA [] [0, 1] rfl rfl (by decide) (by decide) (fun r_1 u_2 H locs hp_3 hP hD hS => ?_)
  have hP : va_P E.1 vwCl [(w0, ee_o 9 [.ref w1, .ref w2, .ref w3, .ref w4, .float pt, .float pa, .float p1, .float p2, .ref w5, .int tl, .int ta, .int fa, .ref w6, .ref w7, .int it, .ref w8, .ref w9, .int dp, .int tv, .int tn, .int tb, .int th, .int te, .long hh]), (w1, ee_i E 204 ar)] H := hP
  have hD : va_D A [(w0, ee_o 9 [.ref w1, .ref w2, .ref w3, .ref w4, .float pt, .float pa, .float p1, .float p2, .ref w5, .int tl, .int ta, .int fa, .ref w6, .ref w7, .int it, .ref w8, .ref w9, .int dp, .int tv, .int tn, .int tb, .int th, .int te, .long hh]), (w1, ee_i E 204 ar)] := hD
  rcases hp_3 with ⟨rfl, hc1⟩ | ⟨rfl, hc2⟩
  · refine ee_eq0 (tgt := 21) hx hb (by omega) dX9_run_7 (by decide) (fun h_6 => absurd h_6 (by decide)) (fun h_6 => ?_)
    refine lv_iload_n hx hb dX9_run_10 rfl (lv_at hl 2 rfl) ?_
    refine lv_iconst (v := nI 0) hx hb dX9_run_11 (by decide) ?_
    refine lv_sipush (v := nI 1000) hx hb dX9_run_12 (by decide) ?_
    refine ee_ki (wr := [(w0, ee_o 9 [.ref w1, .ref w2, .ref w3, .ref w4, .float pt, .float pa, .float p1, .float p2, .ref w5, .int tl, .int ta, .int fa, .ref w6, .ref w7, .int it, .ref w8, .ref w9, .int dp, .int tv, .int tn, .int tb, .int th, .int te, .long hh]), (w1, ee_i E 204 ar)]) (ee_rS (As := [.int v, .int (nI 0), .int (nI 1000)]) (rest := []) (kX9_in l E v (nI 0) (nI 1000)) hx hb hml hown hts 3 gX9_run_X9_in rfl rfl rfl (by decide +kernel) ⟨Nat.le_of_ble_eq_true rfl, Nat.le_of_ble_eq_true rfl⟩ hV hP hD hS hA [] rfl (by decide) hl rfl rfl (Nat.le_of_ble_eq_true rfl) dX9_run_15 ⟨Nat.le_of_ble_eq_true rfl, Nat.le_of_ble_eq_true rfl⟩) hP hD hS hA [] [0, 1] rfl rfl (by decide) (by decide) (fun r_7 u_8 H locs hp_9 hP hD hS => ?_)
    have hP : va_P E.1 vwCl [(w0, ee_o 9 [.ref w1, .ref w2, .ref w3, .ref w4, .float pt, .float pa, .float p1, .float p2, .ref w5, .int tl, .int ta, .int fa, .ref w6, .ref w7, .int it, .ref w8, .ref w9, .int dp, .int tv, .int tn, .int tb, .int th, .int te, .long hh]), (w1, ee_i E 204 ar)] H := hP
    have hD : va_D A [(w0, ee_o 9 [.ref w1, .ref w2, .ref w3, .ref w4, .float pt, .float pa, .float p1, .float p2, .ref w5, .int tl, .int ta, .int fa, .ref w6, .ref w7, .int it, .ref w8, .ref w9, .int dp, .int tv, .int tn, .int tb, .int th, .int te, .long hh]), (w1, ee_i E 204 ar)] := hD
    rcases hp_9 with ⟨rfl, hc3⟩ | ⟨rfl, hc4⟩
    · obtain ⟨nn, n_1, n_2, rfl⟩ := inR_nat (by decide) (by decide) hc1
      obtain ⟨vv, v_1, v_2, rfl⟩ := inR_nat (by decide) (by decide) hc3
      refine ee_ne0 (tgt := 24) hx hb (by omega) dX9_run_18 (by decide) (fun h_12 => ?_) (fun h_12 => absurd h_12 (by decide))
      refine lv_aload_n hx hb dX9_run_24 rfl (lv_at hl 0 rfl) ?_
      refine va_get (ci := 9) (v := .ref w1) (C := RX9) (T := TX9) (N := 24) hx hb hts i9_X9_run hown hV.1 hP 0 rfl rfl 0 (by decide) (hts _ w1_X9_run) (fun _ h9 => h9) rfl dX9_run_25 ?_
      refine lv_sipush (v := nI 189) hx hb dX9_run_28 (by decide) ?_
      refine ee_ild hx hb hV hP 1 rfl (j := 189) (by omega) (by decide) dX9_run_31 ?_
      refine ee_to (z := gC z 8) (rM_C hR 8 (by decide)) ?_
      refine lv_iconst (v := nI 1) hx hb dX9_run_32 (by decide) ?_
      refine lv_icmp_ne (tgt := 39) hx hb dX9_run_33 (by decide) (fun g33 => ?_) (fun g33 => ?_)
      · refine lv_iconst (v := nI 0) hx hb dX9_run_39 (by decide) ?_
        refine lv_istore_n (lv' := [(3, .int (nI 0)), (0, .ref w0), (1, .int (nI nn)), (2, .int (nI vv))]) hx hb dX9_run_40 rfl hl (by decide) rfl (fun ls hl => ?_)
        have B_13 : ∀ (zz : Nat) (i : Nat) (zi : Sg) (gk : Nat → Int32) (pu : UInt32) (xv xn xb xh xe : Int32) (H : Heap) (locs : List Loc) (ls : Array Slot), (nn - i) < zz → (i ≤ nn) → (rnI z (nI vv) nn i zi) → (rM zi gk pu) → va_P E.1 vwCl [(w0, ee_o 9 [.ref w1, .ref w2, .ref w3, .ref w4, .float pu, .float pa, .float p1, .float p2, .ref w5, .int tl, .int ta, .int fa, .ref w6, .ref w7, .int it, .ref w8, .ref w9, .int dp, .int xv, .int xn, .int xb, .int xh, .int xe, .long hh]), (w1, ee_i E 204 gk)] H → va_D A [(w0, ee_o 9 [.ref w1, .ref w2, .ref w3, .ref w4, .float pu, .float pa, .float p1, .float p2, .ref w5, .int tl, .int ta, .int fa, .ref w6, .ref w7, .int it, .ref w8, .ref w9, .int dp, .int xv, .int xn, .int xb, .int xh, .int xe, .long hh]), (w1, ee_i E 204 gk)] → va_S A s.heap H locs → lv_has ls 4 [(3, .int (nI i)), (0, .ref w0), (1, .int (nI nn)), (2, .int (nI vv))] → W p l e rmX9_run s m [.ref w0, .int (nI nn), .int (nI vv)].toArray below meth c H locs 0 0 Q (F0 m 41 ls []) := by
          intro zz
          induction zz with
          | zero => intro i zi gk pu xv xn xb xh xe H locs ls hzz; exact absurd hzz (Nat.not_lt_zero _)
          | succ zz ihB_13 =>
            intro i zi gk pu xv xn xb xh xe H locs ls hzz hin hI hR1 hP hD hS hl
            refine lv_iload_n hx hb dX9_run_41 rfl (lv_at hl 0 rfl) ?_
            refine lv_iload_n hx hb dX9_run_42 rfl (lv_at hl 2 rfl) ?_
            refine ee_ge (tgt := 68) hx hb (by omega) (by omega) dX9_run_43 (by decide) (fun g43 => ?_) (fun g43 => ?_)
            · refine lv_iload_n hx hb dX9_run_68 rfl (lv_at hl 0 rfl) ?_
              obtain ⟨e1, e2⟩ := rnI_e hI (Or.inl (by omega))
              exact ee_fi hQ hx hb hr (rfl) hlocks hS (gk, pu, xv, xn, xb, xh, xe) (by rw [runA, inB_t hc1, inB_t hc3, nv_nI (by omega), show (true && true) = true from rfl, if_pos rfl, if_neg g33, ← e1, ← e2]; exact ⟨rfl, hR1⟩) hP hD dX9_run_69
            · refine lv_aload_n hx hb dX9_run_46 rfl (lv_at hl 1 rfl) ?_
              refine va_get (ci := 9) (v := .ref w1) (C := RX9) (T := TX9) (N := 24) hx hb hts i9_X9_run hown hV.1 hP 0 rfl rfl 0 (by decide) (hts _ w1_X9_run) (fun _ h9 => h9) rfl dX9_run_47 ?_
              refine lv_sipush (v := nI 189) hx hb dX9_run_50 (by decide) ?_
              refine ee_ild hx hb hV hP 1 rfl (j := 189) (by omega) (by decide) dX9_run_53 ?_
              refine ee_to (z := gC zi 8) (rM_C hR1 8 (by decide)) ?_
              refine ee_z_ne (tgt := 68) hx hb dX9_run_54 (by decide) (fun g54 => ?_) (fun g54 => ?_)
              · refine lv_iload_n hx hb dX9_run_68 rfl (lv_at hl 0 rfl) ?_
                obtain ⟨e1, e2⟩ := rnI_e hI (Or.inr g54)
                exact ee_fi hQ hx hb hr (rfl) hlocks hS (gk, pu, xv, xn, xb, xh, xe) (by rw [runA, inB_t hc1, inB_t hc3, nv_nI (by omega), show (true && true) = true from rfl, if_pos rfl, if_neg g33, ← e1, ← e2]; exact ⟨rfl, hR1⟩) hP hD dX9_run_69
              · refine lv_aload_n hx hb dX9_run_57 rfl (lv_at hl 1 rfl) ?_
                refine lv_iload_n hx hb dX9_run_58 rfl (lv_at hl 3 rfl) ?_
                refine ee_kv (wr := []) (ee_rV (As := [.int (nI vv)]) (rest := []) (kX9_cycles l E w0 w1 w2 w3 w4 w5 w6 w7 w8 w9 pu pa p1 p2 tl ta fa it dp xv xn xb xh xe hh gk zi vv hR1 (by omega)) hx hb hml hown hts 1 gX9_run_X9_cycles rfl rfl rfl (by decide +kernel) ⟨Nat.le_of_ble_eq_true rfl, Nat.le_of_ble_eq_true rfl⟩ hV hP hD hS hA [0, 1] rfl (by decide) hl 0 rfl rfl rfl rfl (Nat.le_of_ble_eq_true rfl) dX9_run_59 ⟨Nat.le_of_ble_eq_true rfl, Nat.le_of_ble_eq_true rfl⟩) hP hD hS hA [0, 1] [] rfl rfl (by decide) (by decide) (fun u_15 H locs hR2 hP hD hS => ?_)
                obtain ⟨gk_16, pu_17⟩ := u_15
                try dsimp only at hR2
                have hP : va_P E.1 vwCl [(w0, ee_o 9 [.ref w1, .ref w2, .ref w3, .ref w4, .float pu_17, .float pa, .float p1, .float p2, .ref w5, .int tl, .int ta, .int fa, .ref w6, .ref w7, .int it, .ref w8, .ref w9, .int dp, .int (nI (cTr zi)), .int (nI (cTk zi)), .int (nI (cLb zi)), .int (nI (cHs zi)), .int (nI (cEd zi)), .long hh]), (w1, ee_i E 204 gk_16)] H := hP
                have hD : va_D A [(w0, ee_o 9 [.ref w1, .ref w2, .ref w3, .ref w4, .float pu_17, .float pa, .float p1, .float p2, .ref w5, .int tl, .int ta, .int fa, .ref w6, .ref w7, .int it, .ref w8, .ref w9, .int dp, .int (nI (cTr zi)), .int (nI (cTk zi)), .int (nI (cLb zi)), .int (nI (cHs zi)), .int (nI (cEd zi)), .long hh]), (w1, ee_i E 204 gk_16)] := hD
                refine lv_iinc (v := nI (i + 1)) (lv' := [(3, .int (nI (i + 1))), (0, .ref w0), (1, .int (nI nn)), (2, .int (nI vv))]) hx hb dX9_run_62 hl (k := 0) rfl (ee_inc _) (by decide) rfl (fun ls hl => ?_)
                refine lv_goto (tgt := 41) hx hb dX9_run_65 (by decide) ?_
                exact ihB_13 (i + 1) (cyc zi (nI vv)) gk_16 pu_17 (nI (cTr zi)) (nI (cTk zi)) (nI (cLb zi)) (nI (cHs zi)) (nI (cEd zi)) _ _ _ (by omega) (by omega) (rnI_s hI (by omega) g54) hR2 hP hD hS (lv_sub hl [0, 1, 2, 3] rfl)
        exact B_13 ((nn - 0) + 1) 0 z ar pt tv tn tb th te _ _ _ (Nat.lt_succ_self _) (by omega) (rnI_0 _ _ _) hR hP hD hS (lv_sub hl [0, 1, 2, 3] rfl)
      · refine lv_bipush (v := (-3)) hx hb dX9_run_36 (by decide) ?_
        exact ee_fi hQ hx hb hr (rfl) hlocks hS (ar, pt, tv, tn, tb, th, te) (by rw [runA, inB_t hc1, inB_t hc3, nv_nI (by omega), show (true && true) = true from rfl, if_pos rfl, if_pos g33]; exact ⟨rfl, hR⟩) hP hD dX9_run_38
    · refine ee_ne0 (tgt := 24) hx hb (by omega) dX9_run_18 (by decide) (fun h_18 => absurd h_18 (by decide)) (fun h_18 => ?_)
      refine lv_bipush (v := (-2)) hx hb dX9_run_21 (by decide) ?_
      exact ee_fi hQ hx hb hr (rfl) hlocks hS (ar, pt, tv, tn, tb, th, te) (by rw [runA, inB_t hc1, inB_f hc4]; exact ⟨rfl, hR⟩) hP hD dX9_run_23
  · refine ee_eq0 (tgt := 21) hx hb (by omega) dX9_run_7 (by decide) (fun h_19 => ?_) (fun h_19 => absurd h_19 (by decide))
    refine lv_bipush (v := (-2)) hx hb dX9_run_21 (by decide) ?_
    exact ee_fi hQ hx hb hr (rfl) hlocks hS (ar, pt, tv, tn, tb, th, te) (by rw [runA, inB_f hc2]; exact ⟨rfl, hR⟩) hP hD dX9_run_23
