/-! the model: speed, ring -/
abbrev rmX9_leaves : Room := ({ frames := 0, cells := 0, slots := 0, locals := 0 } : Room)
theorem w1_X9_leaves : Cond.fieldLink RX9 7 "LabelApplicatorModel" "m" "[I" ∈ wsX9_leaves := List.mem_of_getElem? (i := 1) (by decide +kernel)
theorem i9_X9_leaves : ∀ w ∈ wsX90, w ∈ wsX9_leaves := fun w h => (goodIn_r _ [2, 3, 4, 5, 6, 7, 8, 9, 10, 11, 12, 13, 14, 15, 16, 17, 18, 19, 20, 21, 22, 23, 24, 25] (by decide +kernel) (by decide +kernel) w h).1
set_option maxHeartbeats 4000000 in
set_option maxRecDepth 100000 in
theorem kX9_leaves (l : Launch) (E : ee_T) (w0 w1 w2 w3 w4 w5 w6 w7 w8 w9 : Nat) (pt pa p1 p2 : UInt32) (tl ta fa it dp tv tn tb th te : Int32) (hh : Int64) (ar : Nat → Int32) (x : Int32) (hx0 : x = (-1) ∨ ∃ k, k ≤ 7 ∧ x = nI k) : CQ l E yX9_leaves wsX9_leaves rmX9_leaves [.ref w0, .int x] [(w0, ee_o 9 [.ref w1, .ref w2, .ref w3, .ref w4, .float pt, .float pa, .float p1, .float p2, .ref w5, .int tl, .int ta, .int fa, .ref w6, .ref w7, .int it, .ref w8, .ref w9, .int dp, .int tv, .int tn, .int tb, .int th, .int te, .long hh]), (w1, ee_i E 204 ar)] (QV E (fun (u : Nat → Int32) => u 182 = gtA x (ar 182) ∧ u 183 = gtB x (ar 183) ∧ ∀ j, j ≠ 182 → j ≠ 183 → u j = ar j) (fun (u : Nat → Int32) => [(w0, ee_o 9 [.ref w1, .ref w2, .ref w3, .ref w4, .float pt, .float pa, .float p1, .float p2, .ref w5, .int tl, .int ta, .int fa, .ref w6, .ref w7, .int it, .ref w8, .ref w9, .int dp, .int tv, .int tn, .int tb, .int th, .int te, .long hh]), (w1, ee_i E 204 u)])) 0 0 := by
  refine CQ_ofW (cc := cX9_leaves) (maxL := 2) (ret := none) (by decide) rfl (Nat.le_of_ble_eq_true rfl) ?_
  intro p e s m below meth c A Q hQ hx hb hr hml hown hlocks hnm hts hV hA hP hD hS ls hl
  have hl : lv_has ls 2 [(0, .ref w0), (1, .int x)] := hl
  refine lv_aload_n hx hb dX9_leaves_0 rfl (lv_at hl 0 rfl) ?_
  refine va_get (ci := 9) (v := .ref w1) (C := RX9) (T := TX9) (N := 24) hx hb hts i9_X9_leaves hown hV.1 hP 0 rfl rfl 0 (by decide) (hts _ w1_X9_leaves) (fun _ h9 => h9) rfl dX9_leaves_1 ?_
  refine lv_sipush (v := nI 182) hx hb dX9_leaves_4 (by decide) ?_
  refine lv_dup2_11 hx hb dX9_leaves_7 rfl rfl ?_
  refine ee_ild hx hb hV hP 1 rfl (j := 182) (by omega) (by decide) dX9_leaves_8 ?_
  refine lv_iload_n hx hb dX9_leaves_9 rfl (lv_at hl 1 rfl) ?_
  refine ee_z_ne (tgt := 17) hx hb dX9_leaves_10 (by decide) (fun ga => ?_) (fun ga => ?_)
  · refine lv_iconst (v := nI 0) hx hb dX9_leaves_17 (by decide) ?_
    refine lv_iadd hx hb dX9_leaves_18 ?_
    refine ee_ist hx hb hV hP hD hS 1 rfl (j := 182) (by omega) (by decide) dX9_leaves_19 (fun H locs hP hD hS => ?_)
    have hP : va_P E.1 vwCl [(w0, ee_o 9 [.ref w1, .ref w2, .ref w3, .ref w4, .float pt, .float pa, .float p1, .float p2, .ref w5, .int tl, .int ta, .int fa, .ref w6, .ref w7, .int it, .ref w8, .ref w9, .int dp, .int tv, .int tn, .int tb, .int th, .int te, .long hh]), (w1, ee_i E 204 (upd ar 182 ((ar 182) + (nI 0))))] H := hP
    have hD : va_D A [(w0, ee_o 9 [.ref w1, .ref w2, .ref w3, .ref w4, .float pt, .float pa, .float p1, .float p2, .ref w5, .int tl, .int ta, .int fa, .ref w6, .ref w7, .int it, .ref w8, .ref w9, .int dp, .int tv, .int tn, .int tb, .int th, .int te, .long hh]), (w1, ee_i E 204 (upd ar 182 ((ar 182) + (nI 0))))] := hD
    refine lv_aload_n hx hb dX9_leaves_20 rfl (lv_at hl 0 rfl) ?_
    refine va_get (ci := 9) (v := .ref w1) (C := RX9) (T := TX9) (N := 24) hx hb hts i9_X9_leaves hown hV.1 hP 0 rfl rfl 0 (by decide) (hts _ w1_X9_leaves) (fun _ h9 => h9) rfl dX9_leaves_21 ?_
    refine lv_sipush (v := nI 183) hx hb dX9_leaves_24 (by decide) ?_
    refine lv_dup2_11 hx hb dX9_leaves_27 rfl rfl ?_
    refine ee_ild hx hb hV hP 1 rfl (j := 183) (by omega) (by decide) dX9_leaves_28 ?_
    refine lv_iload_n hx hb dX9_leaves_29 rfl (lv_at hl 1 rfl) ?_
    refine lv_if_le (tgt := 37) hx hb dX9_leaves_30 (by decide) (fun gb => ?_) (fun gb => ?_)
    · refine lv_iconst (v := nI 0) hx hb dX9_leaves_37 (by decide) ?_
      refine lv_iadd hx hb dX9_leaves_38 ?_
      refine ee_ist hx hb hV hP hD hS 1 rfl (j := 183) (by omega) (by decide) dX9_leaves_39 (fun H locs hP hD hS => ?_)
      have hP : va_P E.1 vwCl [(w0, ee_o 9 [.ref w1, .ref w2, .ref w3, .ref w4, .float pt, .float pa, .float p1, .float p2, .ref w5, .int tl, .int ta, .int fa, .ref w6, .ref w7, .int it, .ref w8, .ref w9, .int dp, .int tv, .int tn, .int tb, .int th, .int te, .long hh]), (w1, ee_i E 204 (upd (upd ar 182 ((ar 182) + (nI 0))) 183 (((upd ar 182 ((ar 182) + (nI 0))) 183) + (nI 0))))] H := hP
      have hD : va_D A [(w0, ee_o 9 [.ref w1, .ref w2, .ref w3, .ref w4, .float pt, .float pa, .float p1, .float p2, .ref w5, .int tl, .int ta, .int fa, .ref w6, .ref w7, .int it, .ref w8, .ref w9, .int dp, .int tv, .int tn, .int tb, .int th, .int te, .long hh]), (w1, ee_i E 204 (upd (upd ar 182 ((ar 182) + (nI 0))) 183 (((upd ar 182 ((ar 182) + (nI 0))) 183) + (nI 0))))] := hD
      exact ee_fv hQ hx hb hr hlocks hS (upd (upd ar 182 ((ar 182) + (nI 0))) 183 (((upd ar 182 ((ar 182) + (nI 0))) 183) + (nI 0))) (⟨(upd2 (by decide)).1.trans (gtA_n ga rfl), (upd2 (by decide)).2.1.trans (gtB_n hx0 gb (by rw [pk_un (by decide)])), fun j h1 h2 => (upd2 (by decide)).2.2 j h1 h2⟩) hP hD dX9_leaves_40
    · refine lv_iconst (v := nI 1) hx hb dX9_leaves_33 (by decide) ?_
      refine lv_goto (tgt := 38) hx hb dX9_leaves_34 (by decide) ?_
      refine lv_iadd hx hb dX9_leaves_38 ?_
      refine ee_ist hx hb hV hP hD hS 1 rfl (j := 183) (by omega) (by decide) dX9_leaves_39 (fun H locs hP hD hS => ?_)
      have hP : va_P E.1 vwCl [(w0, ee_o 9 [.ref w1, .ref w2, .ref w3, .ref w4, .float pt, .float pa, .float p1, .float p2, .ref w5, .int tl, .int ta, .int fa, .ref w6, .ref w7, .int it, .ref w8, .ref w9, .int dp, .int tv, .int tn, .int tb, .int th, .int te, .long hh]), (w1, ee_i E 204 (upd (upd ar 182 ((ar 182) + (nI 0))) 183 (((upd ar 182 ((ar 182) + (nI 0))) 183) + (nI 1))))] H := hP
      have hD : va_D A [(w0, ee_o 9 [.ref w1, .ref w2, .ref w3, .ref w4, .float pt, .float pa, .float p1, .float p2, .ref w5, .int tl, .int ta, .int fa, .ref w6, .ref w7, .int it, .ref w8, .ref w9, .int dp, .int tv, .int tn, .int tb, .int th, .int te, .long hh]), (w1, ee_i E 204 (upd (upd ar 182 ((ar 182) + (nI 0))) 183 (((upd ar 182 ((ar 182) + (nI 0))) 183) + (nI 1))))] := hD
      exact ee_fv hQ hx hb hr hlocks hS (upd (upd ar 182 ((ar 182) + (nI 0))) 183 (((upd ar 182 ((ar 182) + (nI 0))) 183) + (nI 1))) (⟨(upd2 (by decide)).1.trans (gtA_n ga rfl), (upd2 (by decide)).2.1.trans (gtB_y hx0 gb (by rw [pk_un (by decide)])), fun j h1 h2 => (upd2 (by decide)).2.2 j h1 h2⟩) hP hD dX9_leaves_40
  · refine lv_iconst (v := nI 1) hx hb dX9_leaves_13 (by decide) ?_
    refine lv_goto (tgt := 18) hx hb dX9_leaves_14 (by decide) ?_
    refine lv_iadd hx hb dX9_leaves_18 ?_
    refine ee_ist hx hb hV hP hD hS 1 rfl (j := 182) (by omega) (by decide) dX9_leaves_19 (fun H locs hP hD hS => ?_)
    have hP : va_P E.1 vwCl [(w0, ee_o 9 [.ref w1, .ref w2, .ref w3, .ref w4, .float pt, .float pa, .float p1, .float p2, .ref w5, .int tl, .int ta, .int fa, .ref w6, .ref w7, .int it, .ref w8, .ref w9, .int dp, .int tv, .int tn, .int tb, .int th, .int te, .long hh]), (w1, ee_i E 204 (upd ar 182 ((ar 182) + (nI 1))))] H := hP
    have hD : va_D A [(w0, ee_o 9 [.ref w1, .ref w2, .ref w3, .ref w4, .float pt, .float pa, .float p1, .float p2, .ref w5, .int tl, .int ta, .int fa, .ref w6, .ref w7, .int it, .ref w8, .ref w9, .int dp, .int tv, .int tn, .int tb, .int th, .int te, .long hh]), (w1, ee_i E 204 (upd ar 182 ((ar 182) + (nI 1))))] := hD
    refine lv_aload_n hx hb dX9_leaves_20 rfl (lv_at hl 0 rfl) ?_
    refine va_get (ci := 9) (v := .ref w1) (C := RX9) (T := TX9) (N := 24) hx hb hts i9_X9_leaves hown hV.1 hP 0 rfl rfl 0 (by decide) (hts _ w1_X9_leaves) (fun _ h9 => h9) rfl dX9_leaves_21 ?_
    refine lv_sipush (v := nI 183) hx hb dX9_leaves_24 (by decide) ?_
    refine lv_dup2_11 hx hb dX9_leaves_27 rfl rfl ?_
    refine ee_ild hx hb hV hP 1 rfl (j := 183) (by omega) (by decide) dX9_leaves_28 ?_
    refine lv_iload_n hx hb dX9_leaves_29 rfl (lv_at hl 1 rfl) ?_
    refine lv_if_le (tgt := 37) hx hb dX9_leaves_30 (by decide) (fun gb => ?_) (fun gb => ?_)
    · refine lv_iconst (v := nI 0) hx hb dX9_leaves_37 (by decide) ?_
      refine lv_iadd hx hb dX9_leaves_38 ?_
      refine ee_ist hx hb hV hP hD hS 1 rfl (j := 183) (by omega) (by decide) dX9_leaves_39 (fun H locs hP hD hS => ?_)
      have hP : va_P E.1 vwCl [(w0, ee_o 9 [.ref w1, .ref w2, .ref w3, .ref w4, .float pt, .float pa, .float p1, .float p2, .ref w5, .int tl, .int ta, .int fa, .ref w6, .ref w7, .int it, .ref w8, .ref w9, .int dp, .int tv, .int tn, .int tb, .int th, .int te, .long hh]), (w1, ee_i E 204 (upd (upd ar 182 ((ar 182) + (nI 1))) 183 (((upd ar 182 ((ar 182) + (nI 1))) 183) + (nI 0))))] H := hP
      have hD : va_D A [(w0, ee_o 9 [.ref w1, .ref w2, .ref w3, .ref w4, .float pt, .float pa, .float p1, .float p2, .ref w5, .int tl, .int ta, .int fa, .ref w6, .ref w7, .int it, .ref w8, .ref w9, .int dp, .int tv, .int tn, .int tb, .int th, .int te, .long hh]), (w1, ee_i E 204 (upd (upd ar 182 ((ar 182) + (nI 1))) 183 (((upd ar 182 ((ar 182) + (nI 1))) 183) + (nI 0))))] := hD
      exact ee_fv hQ hx hb hr hlocks hS (upd (upd ar 182 ((ar 182) + (nI 1))) 183 (((upd ar 182 ((ar 182) + (nI 1))) 183) + (nI 0))) (⟨(upd2 (by decide)).1.trans (gtA_y ga rfl), (upd2 (by decide)).2.1.trans (gtB_n hx0 gb (by rw [pk_un (by decide)])), fun j h1 h2 => (upd2 (by decide)).2.2 j h1 h2⟩) hP hD dX9_leaves_40
    · refine lv_iconst (v := nI 1) hx hb dX9_leaves_33 (by decide) ?_
      refine lv_goto (tgt := 38) hx hb dX9_leaves_34 (by decide) ?_
      refine lv_iadd hx hb dX9_leaves_38 ?_
      refine ee_ist hx hb hV hP hD hS 1 rfl (j := 183) (by omega) (by decide) dX9_leaves_39 (fun H locs hP hD hS => ?_)
      have hP : va_P E.1 vwCl [(w0, ee_o 9 [.ref w1, .ref w2, .ref w3, .ref w4, .float pt, .float pa, .float p1, .float p2, .ref w5, .int tl, .int ta, .int fa, .ref w6, .ref w7, .int it, .ref w8, .ref w9, .int dp, .int tv, .int tn, .int tb, .int th, .int te, .long hh]), (w1, ee_i E 204 (upd (upd ar 182 ((ar 182) + (nI 1))) 183 (((upd ar 182 ((ar 182) + (nI 1))) 183) + (nI 1))))] H := hP
      have hD : va_D A [(w0, ee_o 9 [.ref w1, .ref w2, .ref w3, .ref w4, .float pt, .float pa, .float p1, .float p2, .ref w5, .int tl, .int ta, .int fa, .ref w6, .ref w7, .int it, .ref w8, .ref w9, .int dp, .int tv, .int tn, .int tb, .int th, .int te, .long hh]), (w1, ee_i E 204 (upd (upd ar 182 ((ar 182) + (nI 1))) 183 (((upd ar 182 ((ar 182) + (nI 1))) 183) + (nI 1))))] := hD
      exact ee_fv hQ hx hb hr hlocks hS (upd (upd ar 182 ((ar 182) + (nI 1))) 183 (((upd ar 182 ((ar 182) + (nI 1))) 183) + (nI 1))) (⟨(upd2 (by decide)).1.trans (gtA_y ga rfl), (upd2 (by decide)).2.1.trans (gtB_y hx0 gb (by rw [pk_un (by decide)])), fun j h1 h2 => (upd2 (by decide)).2.2 j h1 h2⟩) hP hD dX9_leaves_40
abbrev rmX9_turns : Room := ({ frames := 1, cells := 0, slots := 0, locals := 21 } : Room)
theorem w1_X9_turns : Cond.fieldLink RX9 7 "LabelApplicatorModel" "m" "[I" ∈ wsX9_turns := List.mem_of_getElem? (i := 1) (by decide +kernel)
theorem w2_X9_turns : Cond.methodLink RX9 113 yX9_leaves ∈ wsX9_turns := List.mem_of_getElem? (i := 2) (by decide +kernel)
theorem w5_X9_turns : Cond.initialized RX9 ∈ wsX9_turns := List.mem_of_getElem? (i := 5) (by decide +kernel)
theorem i9_X9_turns : ∀ w ∈ wsX90, w ∈ wsX9_turns := fun w h => (goodIn_r _ [7, 8, 9, 10, 11, 12, 13, 14, 15, 16, 17, 18, 19, 20, 21, 22, 23, 24, 25, 26, 27, 28, 29, 30] (by decide +kernel) (by decide +kernel) w h).1
set_option maxHeartbeats 4000000 in
set_option maxRecDepth 100000 in
theorem kX9_turns (l : Launch) (E : ee_T) (w0 w1 w2 w3 w4 w5 w6 w7 w8 w9 : Nat) (pt pa p1 p2 : UInt32) (tl ta fa it dp tv tn tb th te : Int32) (hh : Int64) (ar : Nat → Int32) (st k : Nat) (ht : ar 170 = nI st) (hst : 1 ≤ st ∧ st ≤ 10) (hrg : ∀ j, j < 10 → ar (171 + j) = (-1) ∨ ∃ k, k ≤ 7 ∧ ar (171 + j) = nI k) : CQ l E yX9_turns wsX9_turns rmX9_turns [.ref w0, .int (nI k)] [(w0, ee_o 9 [.ref w1, .ref w2, .ref w3, .ref w4, .float pt, .float pa, .float p1, .float p2, .ref w5, .int tl, .int ta, .int fa, .ref w6, .ref w7, .int it, .ref w8, .ref w9, .int dp, .int tv, .int tn, .int tb, .int th, .int te, .long hh]), (w1, ee_i E 204 ar)] (QV E (fun (u : Nat → Int32) => (∀ j, j < 10 → u (171 + j) = rgS (fun j => ar (171 + j)) st (nI k) j) ∧ u 182 = gtA (ar (171 + (st - 1))) (ar 182) ∧ u 183 = gtB (ar (171 + (st - 1))) (ar 183) ∧ ∀ j, (j < 171 ∨ 181 ≤ j) → j ≠ 182 → j ≠ 183 → u j = ar j) (fun (u : Nat → Int32) => [(w0, ee_o 9 [.ref w1, .ref w2, .ref w3, .ref w4, .float pt, .float pa, .float p1, .float p2, .ref w5, .int tl, .int ta, .int fa, .ref w6, .ref w7, .int it, .ref w8, .ref w9, .int dp, .int tv, .int tn, .int tb, .int th, .int te, .long hh]), (w1, ee_i E 204 u)])) 0 0 := by
  refine CQ_ofW (cc := cX9_turns) (maxL := 3) (ret := none) (by decide) rfl (Nat.le_of_ble_eq_true rfl) ?_
  intro p e s m below meth c A Q hQ hx hb hr hml hown hlocks hnm hts hV hA hP hD hS ls hl
  have hl : lv_has ls 3 [(0, .ref w0), (1, .int (nI k))] := hl
  refine lv_aload_n hx hb dX9_turns_0 rfl (lv_at hl 0 rfl) ?_
  refine lv_aload_n hx hb dX9_turns_1 rfl (lv_at hl 0 rfl) ?_
  refine va_get (ci := 9) (v := .ref w1) (C := RX9) (T := TX9) (N := 24) hx hb hts i9_X9_turns hown hV.1 hP 0 rfl rfl 0 (by decide) (hts _ w1_X9_turns) (fun _ h9 => h9) rfl dX9_turns_2 ?_
  refine lv_sipush (v := nI 171) hx hb dX9_turns_5 (by decide) ?_
  refine lv_aload_n hx hb dX9_turns_8 rfl (lv_at hl 0 rfl) ?_
  refine va_get (ci := 9) (v := .ref w1) (C := RX9) (T := TX9) (N := 24) hx hb hts i9_X9_turns hown hV.1 hP 0 rfl rfl 0 (by decide) (hts _ w1_X9_turns) (fun _ h9 => h9) rfl dX9_turns_9 ?_
  refine lv_sipush (v := nI 170) hx hb dX9_turns_12 (by decide) ?_
  refine ee_ild hx hb hV hP 1 rfl (j := 170) (by omega) (by decide) dX9_turns_15 ?_
  refine ee_to (z := nI st) (ht) ?_
  refine ee_iadd hx hb dX9_turns_16 ?_
  refine lv_iconst (v := nI 1) hx hb dX9_turns_17 (by decide) ?_
  refine ee_isub hx hb (by omega) dX9_turns_18 ?_
  refine ee_ild hx hb hV hP 1 rfl (j := (171 + st - 1)) (by omega) (by decide) dX9_turns_19 ?_
  refine ee_kv (wr := []) (ee_rV (As := [.int (ar (171 + st - 1))]) (rest := []) (kX9_leaves l E w0 w1 w2 w3 w4 w5 w6 w7 w8 w9 pt pa p1 p2 tl ta fa it dp tv tn tb th te hh ar (ar (171 + st - 1)) (by rw [show 171 + st - 1 = 171 + (st - 1) by omega]; exact hrg (st - 1) (by omega))) hx hb hml hown hts 1 gX9_turns_X9_leaves rfl rfl rfl (by decide +kernel) ⟨Nat.le_of_ble_eq_true rfl, Nat.le_of_ble_eq_true rfl⟩ hV hP hD hS hA [0, 1] rfl (by decide) hl 0 rfl rfl rfl rfl (Nat.le_of_ble_eq_true rfl) dX9_turns_20 ⟨Nat.le_of_ble_eq_true rfl, Nat.le_of_ble_eq_true rfl⟩) hP hD hS hA [0, 1] [] rfl rfl (by decide) (by decide) (fun gk H locs hp_2 hP hD hS => ?_)
  obtain ⟨c1, c2, c3⟩ := hp_2
  have hP : va_P E.1 vwCl [(w0, ee_o 9 [.ref w1, .ref w2, .ref w3, .ref w4, .float pt, .float pa, .float p1, .float p2, .ref w5, .int tl, .int ta, .int fa, .ref w6, .ref w7, .int it, .ref w8, .ref w9, .int dp, .int tv, .int tn, .int tb, .int th, .int te, .long hh]), (w1, ee_i E 204 gk)] H := hP
  have hD : va_D A [(w0, ee_o 9 [.ref w1, .ref w2, .ref w3, .ref w4, .float pt, .float pa, .float p1, .float p2, .ref w5, .int tl, .int ta, .int fa, .ref w6, .ref w7, .int it, .ref w8, .ref w9, .int dp, .int tv, .int tn, .int tb, .int th, .int te, .long hh]), (w1, ee_i E 204 gk)] := hD
  rw [show 171 + st - 1 = 171 + (st - 1) by omega] at c1 c2
  refine lv_aload_n hx hb dX9_turns_23 rfl (lv_at hl 0 rfl) ?_
  refine va_get (ci := 9) (v := .ref w1) (C := RX9) (T := TX9) (N := 24) hx hb hts i9_X9_turns hown hV.1 hP 0 rfl rfl 0 (by decide) (hts _ w1_X9_turns) (fun _ h9 => h9) rfl dX9_turns_24 ?_
  refine lv_sipush (v := nI 170) hx hb dX9_turns_27 (by decide) ?_
  refine ee_ild hx hb hV hP 1 rfl (j := 170) (by omega) (by decide) dX9_turns_30 ?_
  refine ee_to (z := nI st) (by rw [c3 170 (by decide) (by decide)]; exact ht) ?_
  refine lv_iconst (v := nI 1) hx hb dX9_turns_31 (by decide) ?_
  refine ee_isub hx hb (by omega) dX9_turns_32 ?_
  refine lv_istore_n (lv' := [(2, .int (nI (st - 1))), (0, .ref w0), (1, .int (nI k))]) hx hb dX9_turns_33 rfl hl (by decide) rfl (fun ls hl => ?_)
  have B_4 : ∀ (zz : Nat) (kk : Nat) (bk : Nat → Int32) (H : Heap) (locs : List Loc) (ls : Array Slot), kk < zz → (kk ≤ st - 1) → (∀ j, kk < j → j < st → bk (171 + j) = gk (171 + (j - 1))) → (∀ j, j ≤ kk ∨ st ≤ j → bk (171 + j) = gk (171 + j)) → (∀ j, j < 171 → bk j = gk j) → va_P E.1 vwCl [(w0, ee_o 9 [.ref w1, .ref w2, .ref w3, .ref w4, .float pt, .float pa, .float p1, .float p2, .ref w5, .int tl, .int ta, .int fa, .ref w6, .ref w7, .int it, .ref w8, .ref w9, .int dp, .int tv, .int tn, .int tb, .int th, .int te, .long hh]), (w1, ee_i E 204 bk)] H → va_D A [(w0, ee_o 9 [.ref w1, .ref w2, .ref w3, .ref w4, .float pt, .float pa, .float p1, .float p2, .ref w5, .int tl, .int ta, .int fa, .ref w6, .ref w7, .int it, .ref w8, .ref w9, .int dp, .int tv, .int tn, .int tb, .int th, .int te, .long hh]), (w1, ee_i E 204 bk)] → va_S A s.heap H locs → lv_has ls 3 [(2, .int (nI kk)), (0, .ref w0), (1, .int (nI k))] → W p l e rmX9_turns s m [.ref w0, .int (nI k)].toArray below meth c H locs 0 0 Q (F0 m 34 ls []) := by
    intro zz
    induction zz with
    | zero => intro kk bk H locs ls hzz; exact absurd hzz (Nat.not_lt_zero _)
    | succ zz ihB_4 =>
      intro kk bk H locs ls hzz hkk q1 q2 q3 hP hD hS hl
      refine lv_iload_n hx hb dX9_turns_34 rfl (lv_at hl 0 rfl) ?_
      refine ee_le0 (tgt := 66) hx hb (by omega) dX9_turns_35 (by decide) (fun h_5 => ?_) (fun h_5 => ?_)
      · refine lv_aload_n hx hb dX9_turns_66 rfl (lv_at hl 1 rfl) ?_
        refine va_get (ci := 9) (v := .ref w1) (C := RX9) (T := TX9) (N := 24) hx hb hts i9_X9_turns hown hV.1 hP 0 rfl rfl 0 (by decide) (hts _ w1_X9_turns) (fun _ h9 => h9) rfl dX9_turns_67 ?_
        refine lv_sipush (v := nI 171) hx hb dX9_turns_70 (by decide) ?_
        refine lv_iload_n hx hb dX9_turns_73 rfl (lv_at hl 2 rfl) ?_
        refine ee_ist hx hb hV hP hD hS 1 rfl (j := 171) (by omega) (by decide) dX9_turns_74 (fun H locs hP hD hS => ?_)
        have hP : va_P E.1 vwCl [(w0, ee_o 9 [.ref w1, .ref w2, .ref w3, .ref w4, .float pt, .float pa, .float p1, .float p2, .ref w5, .int tl, .int ta, .int fa, .ref w6, .ref w7, .int it, .ref w8, .ref w9, .int dp, .int tv, .int tn, .int tb, .int th, .int te, .long hh]), (w1, ee_i E 204 (upd bk 171 (nI k)))] H := hP
        have hD : va_D A [(w0, ee_o 9 [.ref w1, .ref w2, .ref w3, .ref w4, .float pt, .float pa, .float p1, .float p2, .ref w5, .int tl, .int ta, .int fa, .ref w6, .ref w7, .int it, .ref w8, .ref w9, .int dp, .int tv, .int tn, .int tb, .int th, .int te, .long hh]), (w1, ee_i E 204 (upd bk 171 (nI k)))] := hD
        exact ee_fv hQ hx hb hr hlocks hS (upd bk 171 (nI k)) (tn_end hst.1 hst.2 (by omega) q1 q2 q3 c1 c2 c3) hP hD dX9_turns_75
      · refine lv_aload_n hx hb dX9_turns_38 rfl (lv_at hl 1 rfl) ?_
        refine va_get (ci := 9) (v := .ref w1) (C := RX9) (T := TX9) (N := 24) hx hb hts i9_X9_turns hown hV.1 hP 0 rfl rfl 0 (by decide) (hts _ w1_X9_turns) (fun _ h9 => h9) rfl dX9_turns_39 ?_
        refine lv_sipush (v := nI 171) hx hb dX9_turns_42 (by decide) ?_
        refine lv_iload_n hx hb dX9_turns_45 rfl (lv_at hl 0 rfl) ?_
        refine ee_iadd hx hb dX9_turns_46 ?_
        refine lv_aload_n hx hb dX9_turns_47 rfl (lv_at hl 1 rfl) ?_
        refine va_get (ci := 9) (v := .ref w1) (C := RX9) (T := TX9) (N := 24) hx hb hts i9_X9_turns hown hV.1 hP 0 rfl rfl 0 (by decide) (hts _ w1_X9_turns) (fun _ h9 => h9) rfl dX9_turns_48 ?_
        refine lv_sipush (v := nI 171) hx hb dX9_turns_51 (by decide) ?_
        refine lv_iload_n hx hb dX9_turns_54 rfl (lv_at hl 0 rfl) ?_
        refine ee_iadd hx hb dX9_turns_55 ?_
        refine lv_iconst (v := nI 1) hx hb dX9_turns_56 (by decide) ?_
        refine ee_isub hx hb (by omega) dX9_turns_57 ?_
        refine ee_ild hx hb hV hP 1 rfl (j := (171 + kk - 1)) (by omega) (by decide) dX9_turns_58 ?_
        refine ee_ist hx hb hV hP hD hS 1 rfl (j := (171 + kk)) (by omega) (by decide) dX9_turns_59 (fun H locs hP hD hS => ?_)
        have hP : va_P E.1 vwCl [(w0, ee_o 9 [.ref w1, .ref w2, .ref w3, .ref w4, .float pt, .float pa, .float p1, .float p2, .ref w5, .int tl, .int ta, .int fa, .ref w6, .ref w7, .int it, .ref w8, .ref w9, .int dp, .int tv, .int tn, .int tb, .int th, .int te, .long hh]), (w1, ee_i E 204 (upd bk (171 + kk) (bk (171 + kk - 1))))] H := hP
        have hD : va_D A [(w0, ee_o 9 [.ref w1, .ref w2, .ref w3, .ref w4, .float pt, .float pa, .float p1, .float p2, .ref w5, .int tl, .int ta, .int fa, .ref w6, .ref w7, .int it, .ref w8, .ref w9, .int dp, .int tv, .int tn, .int tb, .int th, .int te, .long hh]), (w1, ee_i E 204 (upd bk (171 + kk) (bk (171 + kk - 1))))] := hD
        refine lv_iinc (v := nI (kk - 1)) (lv' := [(2, .int (nI (kk - 1))), (0, .ref w0), (1, .int (nI k))]) hx hb dX9_turns_60 hl (k := 0) rfl (ee_dec (by omega)) (by decide) rfl (fun ls hl => ?_)
        refine lv_goto (tgt := 34) hx hb dX9_turns_63 (by decide) ?_
        exact ihB_4 (kk - 1) (upd bk (171 + kk) (bk (171 + kk - 1))) _ _ _ (by omega) (by omega) (tn_1 (x := 0) (by omega) q1 q2) (tn_2 (x := bk (171 + kk - 1)) q2 (by omega) (by omega)) (fun j h => by rw [pk_un (by omega)]; exact q3 j h) hP hD hS (lv_sub hl [0, 1, 2] rfl)
  exact B_4 ((st - 1) + 1) (st - 1) gk _ _ _ (Nat.lt_succ_self _) (by omega) (fun j h1 h2 => by omega) (fun _ _ => rfl) (fun _ _ => rfl) hP hD hS (lv_sub hl [0, 1, 2] rfl)
abbrev rmX9_follows : Room := ({ frames := 0, cells := 0, slots := 0, locals := 0 } : Room)
theorem w1_X9_follows : Cond.fieldLink RX9 7 "LabelApplicatorModel" "m" "[I" ∈ wsX9_follows := List.mem_of_getElem? (i := 1) (by decide +kernel)
theorem i9_X9_follows : ∀ w ∈ wsX90, w ∈ wsX9_follows := fun w h => (goodIn_r _ [2, 3, 4, 5, 6, 7, 8, 9, 10, 11, 12, 13, 14, 15, 16, 17, 18, 19, 20, 21, 22, 23, 24, 25] (by decide +kernel) (by decide +kernel) w h).1
set_option maxHeartbeats 4000000 in
set_option maxRecDepth 100000 in
theorem kX9_follows (l : Launch) (E : ee_T) (w0 w1 w2 w3 w4 w5 w6 w7 w8 w9 : Nat) (pt pa p1 p2 : UInt32) (tl ta fa it dp tv tn tb th te : Int32) (hh : Int64) (ar : Nat → Int32) (v : Int32)  : CQ l E yX9_follows wsX9_follows rmX9_follows [.ref w0, .int v] [(w0, ee_o 9 [.ref w1, .ref w2, .ref w3, .ref w4, .float pt, .float pa, .float p1, .float p2, .ref w5, .int tl, .int ta, .int fa, .ref w6, .ref w7, .int it, .ref w8, .ref w9, .int dp, .int tv, .int tn, .int tb, .int th, .int te, .long hh]), (w1, ee_i E 204 ar)] (QV E (fun (u : Unit) => True) (fun (u : Unit) => [(w0, ee_o 9 [.ref w1, .ref w2, .ref w3, .ref w4, .float pt, .float pa, .float p1, .float p2, .ref w5, .int tl, .int ta, .int fa, .ref w6, .ref w7, .int it, .ref w8, .ref w9, .int dp, .int tv, .int tn, .int tb, .int th, .int te, .long hh]), (w1, ee_i E 204 (upd ar 169 (follow (ar 169) (ar 165) (ar 164) v)))])) 0 0 := by
  refine CQ_ofW (cc := cX9_follows) (maxL := 4) (ret := none) (by decide) rfl (Nat.le_of_ble_eq_true rfl) ?_
  intro p e s m below meth c A Q hQ hx hb hr hml hown hlocks hnm hts hV hA hP hD hS ls hl
  have hl : lv_has ls 4 [(0, .ref w0), (1, .int v)] := hl
  refine lv_aload_n hx hb dX9_follows_0 rfl (lv_at hl 0 rfl) ?_
  refine va_get (ci := 9) (v := .ref w1) (C := RX9) (T := TX9) (N := 24) hx hb hts i9_X9_follows hown hV.1 hP 0 rfl rfl 0 (by decide) (hts _ w1_X9_follows) (fun _ h9 => h9) rfl dX9_follows_1 ?_
  refine lv_sipush (v := nI 169) hx hb dX9_follows_4 (by decide) ?_
  refine ee_ild hx hb hV hP 1 rfl (j := 169) (by omega) (by decide) dX9_follows_7 ?_
  refine lv_aload_n hx hb dX9_follows_8 rfl (lv_at hl 0 rfl) ?_
  refine va_get (ci := 9) (v := .ref w1) (C := RX9) (T := TX9) (N := 24) hx hb hts i9_X9_follows hown hV.1 hP 0 rfl rfl 0 (by decide) (hts _ w1_X9_follows) (fun _ h9 => h9) rfl dX9_follows_9 ?_
  refine lv_sipush (v := nI 165) hx hb dX9_follows_12 (by decide) ?_
  refine ee_ild hx hb hV hP 1 rfl (j := 165) (by omega) (by decide) dX9_follows_15 ?_
  refine lv_isub hx hb dX9_follows_16 ?_
  refine lv_istore_n (lv' := [(2, .int ((ar 169) - (ar 165))), (0, .ref w0), (1, .int v)]) hx hb dX9_follows_17 rfl hl (by decide) rfl (fun ls hl => ?_)
  refine lv_aload_n hx hb dX9_follows_18 rfl (lv_at hl 1 rfl) ?_
  refine va_get (ci := 9) (v := .ref w1) (C := RX9) (T := TX9) (N := 24) hx hb hts i9_X9_follows hown hV.1 hP 0 rfl rfl 0 (by decide) (hts _ w1_X9_follows) (fun _ h9 => h9) rfl dX9_follows_19 ?_
  refine lv_sipush (v := nI 169) hx hb dX9_follows_22 (by decide) ?_
  refine ee_ild hx hb hV hP 1 rfl (j := 169) (by omega) (by decide) dX9_follows_25 ?_
  refine lv_aload_n hx hb dX9_follows_26 rfl (lv_at hl 1 rfl) ?_
  refine va_get (ci := 9) (v := .ref w1) (C := RX9) (T := TX9) (N := 24) hx hb hts i9_X9_follows hown hV.1 hP 0 rfl rfl 0 (by decide) (hts _ w1_X9_follows) (fun _ h9 => h9) rfl dX9_follows_27 ?_
  refine lv_sipush (v := nI 165) hx hb dX9_follows_30 (by decide) ?_
  refine ee_ild hx hb hV hP 1 rfl (j := 165) (by omega) (by decide) dX9_follows_33 ?_
  refine lv_iadd hx hb dX9_follows_34 ?_
  refine lv_istore_n (lv' := [(3, .int ((ar 169) + (ar 165))), (2, .int ((ar 169) - (ar 165))), (0, .ref w0), (1, .int v)]) hx hb dX9_follows_35 rfl hl (by decide) rfl (fun ls hl => ?_)
  have B_1 : ∀ (lo : Int32) (H : Heap) (locs : List Loc) (ls : Array Slot), (lo = (if ar 169 - ar 165 < 0 then (0 : Int32) else ar 169 - ar 165)) → va_P E.1 vwCl [(w0, ee_o 9 [.ref w1, .ref w2, .ref w3, .ref w4, .float pt, .float pa, .float p1, .float p2, .ref w5, .int tl, .int ta, .int fa, .ref w6, .ref w7, .int it, .ref w8, .ref w9, .int dp, .int tv, .int tn, .int tb, .int th, .int te, .long hh]), (w1, ee_i E 204 ar)] H → va_D A [(w0, ee_o 9 [.ref w1, .ref w2, .ref w3, .ref w4, .float pt, .float pa, .float p1, .float p2, .ref w5, .int tl, .int ta, .int fa, .ref w6, .ref w7, .int it, .ref w8, .ref w9, .int dp, .int tv, .int tn, .int tb, .int th, .int te, .long hh]), (w1, ee_i E 204 ar)] → va_S A s.heap H locs → lv_has ls 4 [(3, .int ((ar 169) + (ar 165))), (2, .int ((ar 169) - (ar 165))), (0, .ref w0), (1, .int v)] → W p l e rmX9_follows s m [.ref w0, .int v].toArray below meth c H locs 0 0 Q (F0 m 45 ls [.int lo]) := by
    intro lo H locs ls e1 hP hD hS hl
    refine lv_istore_n (lv' := [(2, .int lo), (3, .int ((ar 169) + (ar 165))), (0, .ref w0), (1, .int v)]) hx hb dX9_follows_45 rfl hl (by decide) rfl (fun ls hl => ?_)
    have B_2 : ∀ (hi : Int32) (H : Heap) (locs : List Loc) (ls : Array Slot), (hi = (if ar 164 < ar 169 + ar 165 then ar 164 else ar 169 + ar 165)) → va_P E.1 vwCl [(w0, ee_o 9 [.ref w1, .ref w2, .ref w3, .ref w4, .float pt, .float pa, .float p1, .float p2, .ref w5, .int tl, .int ta, .int fa, .ref w6, .ref w7, .int it, .ref w8, .ref w9, .int dp, .int tv, .int tn, .int tb, .int th, .int te, .long hh]), (w1, ee_i E 204 ar)] H → va_D A [(w0, ee_o 9 [.ref w1, .ref w2, .ref w3, .ref w4, .float pt, .float pa, .float p1, .float p2, .ref w5, .int tl, .int ta, .int fa, .ref w6, .ref w7, .int it, .ref w8, .ref w9, .int dp, .int tv, .int tn, .int tb, .int th, .int te, .long hh]), (w1, ee_i E 204 ar)] → va_S A s.heap H locs → lv_has ls 4 [(2, .int lo), (3, .int ((ar 169) + (ar 165))), (0, .ref w0), (1, .int v)] → W p l e rmX9_follows s m [.ref w0, .int v].toArray below meth c H locs 0 0 Q (F0 m 70 ls [.int hi]) := by
      intro hi H locs ls e2 hP hD hS hl
      refine lv_istore_n (lv' := [(3, .int hi), (2, .int lo), (0, .ref w0), (1, .int v)]) hx hb dX9_follows_70 rfl hl (by decide) rfl (fun ls hl => ?_)
      refine lv_aload_n hx hb dX9_follows_71 rfl (lv_at hl 2 rfl) ?_
      refine va_get (ci := 9) (v := .ref w1) (C := RX9) (T := TX9) (N := 24) hx hb hts i9_X9_follows hown hV.1 hP 0 rfl rfl 0 (by decide) (hts _ w1_X9_follows) (fun _ h9 => h9) rfl dX9_follows_72 ?_
      refine lv_sipush (v := nI 169) hx hb dX9_follows_75 (by decide) ?_
      have B_3 : ∀ (s3 : Int32) (H : Heap) (locs : List Loc) (ls : Array Slot), (s3 = follow (ar 169) (ar 165) (ar 164) v) → va_P E.1 vwCl [(w0, ee_o 9 [.ref w1, .ref w2, .ref w3, .ref w4, .float pt, .float pa, .float p1, .float p2, .ref w5, .int tl, .int ta, .int fa, .ref w6, .ref w7, .int it, .ref w8, .ref w9, .int dp, .int tv, .int tn, .int tb, .int th, .int te, .long hh]), (w1, ee_i E 204 ar)] H → va_D A [(w0, ee_o 9 [.ref w1, .ref w2, .ref w3, .ref w4, .float pt, .float pa, .float p1, .float p2, .ref w5, .int tl, .int ta, .int fa, .ref w6, .ref w7, .int it, .ref w8, .ref w9, .int dp, .int tv, .int tn, .int tb, .int th, .int te, .long hh]), (w1, ee_i E 204 ar)] → va_S A s.heap H locs → lv_has ls 4 [(3, .int hi), (2, .int lo), (0, .ref w0), (1, .int v)] → W p l e rmX9_follows s m [.ref w0, .int v].toArray below meth c H locs 0 0 Q (F0 m 113 ls [.int s3, .int (nI 169), .ref w1]) := by
        intro s3 H locs ls e3 hP hD hS hl
        refine ee_ist hx hb hV hP hD hS 1 rfl (j := 169) (by omega) (by decide) dX9_follows_113 (fun H locs hP hD hS => ?_)
        have hP : va_P E.1 vwCl [(w0, ee_o 9 [.ref w1, .ref w2, .ref w3, .ref w4, .float pt, .float pa, .float p1, .float p2, .ref w5, .int tl, .int ta, .int fa, .ref w6, .ref w7, .int it, .ref w8, .ref w9, .int dp, .int tv, .int tn, .int tb, .int th, .int te, .long hh]), (w1, ee_i E 204 (upd ar 169 s3))] H := hP
        have hD : va_D A [(w0, ee_o 9 [.ref w1, .ref w2, .ref w3, .ref w4, .float pt, .float pa, .float p1, .float p2, .ref w5, .int tl, .int ta, .int fa, .ref w6, .ref w7, .int it, .ref w8, .ref w9, .int dp, .int tv, .int tn, .int tb, .int th, .int te, .long hh]), (w1, ee_i E 204 (upd ar 169 s3))] := hD
        subst e3
        exact ee_fv hQ hx hb hr hlocks hS () (trivial) hP hD dX9_follows_114
      refine lv_iload_n hx hb dX9_follows_78 rfl (lv_at hl 1 rfl) ?_
      refine lv_iload_n hx hb dX9_follows_79 rfl (lv_at hl 0 rfl) ?_
      refine lv_icmp_le (tgt := 94) hx hb dX9_follows_80 (by decide) (fun g80 => ?_) (fun g80 => ?_)
      · refine lv_iload_n hx hb dX9_follows_94 rfl (lv_at hl 3 rfl) ?_
        refine lv_iload_n hx hb dX9_follows_95 rfl (lv_at hl 1 rfl) ?_
        refine lv_icmp_ge (tgt := 103) hx hb dX9_follows_96 (by decide) (fun g96 => ?_) (fun g96 => ?_)
        · refine lv_iload_n hx hb dX9_follows_103 rfl (lv_at hl 3 rfl) ?_
          refine lv_iload_n hx hb dX9_follows_104 rfl (lv_at hl 0 rfl) ?_
          refine lv_icmp_le (tgt := 112) hx hb dX9_follows_105 (by decide) (fun g105 => ?_) (fun g105 => ?_)
          · refine lv_iload_n hx hb dX9_follows_112 rfl (lv_at hl 3 rfl) ?_
            exact B_3 v _ _ _ (fo_3 e1 e2 (Or.inr ⟨Int32.not_lt.mpr g80, Or.inr ⟨Int32.not_lt.mpr g96, Or.inr ⟨Int32.not_lt.mpr g105, rfl⟩⟩⟩)) hP hD hS (lv_sub hl [0, 1, 2, 3] rfl)
          · refine lv_iload_n hx hb dX9_follows_108 rfl (lv_at hl 0 rfl) ?_
            refine lv_goto (tgt := 113) hx hb dX9_follows_109 (by decide) ?_
            exact B_3 hi _ _ _ (fo_3 e1 e2 (Or.inr ⟨Int32.not_lt.mpr g80, Or.inr ⟨Int32.not_lt.mpr g96, Or.inl ⟨Int32.not_le.mp g105, rfl⟩⟩⟩)) hP hD hS (lv_sub hl [0, 1, 2, 3] rfl)
        · refine lv_iload_n hx hb dX9_follows_99 rfl (lv_at hl 1 rfl) ?_
          refine lv_goto (tgt := 113) hx hb dX9_follows_100 (by decide) ?_
          exact B_3 lo _ _ _ (fo_3 e1 e2 (Or.inr ⟨Int32.not_lt.mpr g80, Or.inl ⟨Int32.not_le.mp g96, rfl⟩⟩)) hP hD hS (lv_sub hl [0, 1, 2, 3] rfl)
      · refine lv_aload_n hx hb dX9_follows_83 rfl (lv_at hl 2 rfl) ?_
        refine va_get (ci := 9) (v := .ref w1) (C := RX9) (T := TX9) (N := 24) hx hb hts i9_X9_follows hown hV.1 hP 0 rfl rfl 0 (by decide) (hts _ w1_X9_follows) (fun _ h9 => h9) rfl dX9_follows_84 ?_
        refine lv_sipush (v := nI 164) hx hb dX9_follows_87 (by decide) ?_
        refine ee_ild hx hb hV hP 1 rfl (j := 164) (by omega) (by decide) dX9_follows_90 ?_
        refine lv_goto (tgt := 113) hx hb dX9_follows_91 (by decide) ?_
        exact B_3 (ar 164) _ _ _ (fo_3 e1 e2 (Or.inl ⟨Int32.not_le.mp g80, rfl⟩)) hP hD hS (lv_sub hl [0, 1, 2, 3] rfl)
    refine lv_iload_n hx hb dX9_follows_46 rfl (lv_at hl 1 rfl) ?_
    refine lv_aload_n hx hb dX9_follows_47 rfl (lv_at hl 2 rfl) ?_
    refine va_get (ci := 9) (v := .ref w1) (C := RX9) (T := TX9) (N := 24) hx hb hts i9_X9_follows hown hV.1 hP 0 rfl rfl 0 (by decide) (hts _ w1_X9_follows) (fun _ h9 => h9) rfl dX9_follows_48 ?_
    refine lv_sipush (v := nI 164) hx hb dX9_follows_51 (by decide) ?_
    refine ee_ild hx hb hV hP 1 rfl (j := 164) (by omega) (by decide) dX9_follows_54 ?_
    refine lv_icmp_le (tgt := 69) hx hb dX9_follows_55 (by decide) (fun g55 => ?_) (fun g55 => ?_)
    · refine lv_iload_n hx hb dX9_follows_69 rfl (lv_at hl 1 rfl) ?_
      exact B_2 ((ar 169) + (ar 165)) _ _ _ ((if_neg (Int32.not_lt.mpr g55)).symm) hP hD hS (lv_sub hl [0, 1, 2, 3] rfl)
    · refine lv_aload_n hx hb dX9_follows_58 rfl (lv_at hl 2 rfl) ?_
      refine va_get (ci := 9) (v := .ref w1) (C := RX9) (T := TX9) (N := 24) hx hb hts i9_X9_follows hown hV.1 hP 0 rfl rfl 0 (by decide) (hts _ w1_X9_follows) (fun _ h9 => h9) rfl dX9_follows_59 ?_
      refine lv_sipush (v := nI 164) hx hb dX9_follows_62 (by decide) ?_
      refine ee_ild hx hb hV hP 1 rfl (j := 164) (by omega) (by decide) dX9_follows_65 ?_
      refine lv_goto (tgt := 70) hx hb dX9_follows_66 (by decide) ?_
      exact B_2 (ar 164) _ _ _ ((if_pos (Int32.not_le.mp g55)).symm) hP hD hS (lv_sub hl [0, 1, 2, 3] rfl)
  refine lv_iload_n hx hb dX9_follows_36 rfl (lv_at hl 1 rfl) ?_
  refine lv_if_ge (tgt := 44) hx hb dX9_follows_37 (by decide) (fun g37 => ?_) (fun g37 => ?_)
  · refine lv_iload_n hx hb dX9_follows_44 rfl (lv_at hl 1 rfl) ?_
    exact B_1 ((ar 169) - (ar 165)) _ _ _ ((if_neg (Int32.not_lt.mpr g37)).symm) hP hD hS (lv_sub hl [0, 1, 2, 3] rfl)
  · refine lv_iconst (v := nI 0) hx hb dX9_follows_40 (by decide) ?_
    refine lv_goto (tgt := 45) hx hb dX9_follows_41 (by decide) ?_
    exact B_1 (nI 0) _ _ _ (by rw [if_pos (Int32.not_le.mp g37)]; exact nI_0) hP hD hS (lv_sub hl [0, 1, 2, 3] rfl)
