/-! the reader: repeats, parentheses, items -/
abbrev rmX3_repeat : Room := ({ frames := 1, cells := 0, slots := 0, locals := 22 } : Room)
theorem w1_X3_repeat : Cond.fieldLink RX3 21 "LabelApplicator$Reader" "items" "LLabelApplicator$Items;" ∈ wsX3_repeat := List.mem_of_getElem? (i := 1) (by decide +kernel)
theorem w2_X3_repeat : Cond.fieldLink RX3 35 "LabelApplicator$Reader" "tooMany" "Z" ∈ wsX3_repeat := List.mem_of_getElem? (i := 2) (by decide +kernel)
theorem w3_X3_repeat : Cond.methodLink RX3 85 yX1_size ∈ wsX3_repeat := List.mem_of_getElem? (i := 3) (by decide +kernel)
theorem w6_X3_repeat : Cond.initialized RX1 ∈ wsX3_repeat := List.mem_of_getElem? (i := 6) (by decide +kernel)
theorem w10_X3_repeat : Cond.methodLink RX3 96 yX1_kindOf ∈ wsX3_repeat := List.mem_of_getElem? (i := 10) (by decide +kernel)
theorem w15_X3_repeat : Cond.methodLink RX3 99 yX1_lengthOf ∈ wsX3_repeat := List.mem_of_getElem? (i := 15) (by decide +kernel)
theorem w20_X3_repeat : Cond.methodLink RX3 88 yX1_append ∈ wsX3_repeat := List.mem_of_getElem? (i := 20) (by decide +kernel)
theorem i1_X3_repeat : ∀ w ∈ wsX10, w ∈ wsX3_repeat := fun w h => (goodIn_r _ [32, 33, 34, 35] (by decide +kernel) (by decide +kernel) w h).1
theorem i3_X3_repeat : ∀ w ∈ wsX30, w ∈ wsX3_repeat := fun w h => (goodIn_r _ [24, 25, 26, 27, 28, 29, 30, 31] (by decide +kernel) (by decide +kernel) w h).1
set_option maxHeartbeats 4000000 in
set_option maxRecDepth 100000 in
theorem kX3_repeat (l : Launch) (E : ee_T) (o2 r2 o1 r5 r6 : Nat) (tm ft : Int32) (dp at9 : Nat) (r3 r4 en : Nat) (rk rl : Nat → Int32) (f0 t0 : Nat) (hf : f0 ≤ en) (hen : en ≤ 80) (ht0 : 1 ≤ t0 ∧ t0 ≤ 99) : CQ l E yX3_repeat wsX3_repeat rmX3_repeat [.ref o2, .int (nI f0), .int (nI t0)] [(o2, ee_o 3 [.ref o1, .ref r2, .int tm, .int ft, .ref r5, .ref r6, .int (nI dp), .int (nI at9)]), (r2, ee_o 1 [.ref r3, .ref r4, .int (nI 0), .int (nI en)]), (r3, ee_i E 80 rk), (r4, ee_i E 80 rl)] (QV E (fun (u : Int32 × Nat × (Nat → Int32) × (Nat → Int32)) => rpC f0 en t0 tm rk rl u.1 u.2.1 u.2.2.1 u.2.2.2) (fun (u : Int32 × Nat × (Nat → Int32) × (Nat → Int32)) => [(o2, ee_o 3 [.ref o1, .ref r2, .int u.1, .int ft, .ref r5, .ref r6, .int (nI dp), .int (nI at9)]), (r2, ee_o 1 [.ref r3, .ref r4, .int (nI 0), .int (nI u.2.1)]), (r3, ee_i E 80 u.2.2.1), (r4, ee_i E 80 u.2.2.2)])) 0 0 := by
  refine CQ_ofW (cc := cX3_repeat) (maxL := 5) (ret := none) (by decide) rfl (Nat.le_of_ble_eq_true rfl) ?_
  intro p e s m below meth c A Q hQ hx hb hr hml hown hlocks hnm hts hV hA hP hD hS ls hl
  have hl : lv_has ls 5 [(0, .ref o2), (1, .int (nI f0)), (2, .int (nI t0))] := hl
  obtain ⟨cn, hc⟩ : ∃ cn, cn = en - f0 := ⟨_, rfl⟩
  obtain ⟨T, hT⟩ : ∃ T, T = cn * t0 := ⟨_, rfl⟩
  obtain ⟨T2, hT2⟩ : ∃ T2, T2 = cn * (t0 - 1) := ⟨_, rfl⟩
  have hTT : T = T2 + cn := by rw [hT, hT2, show t0 = (t0 - 1) + 1 by omega, Nat.mul_succ, Nat.add_sub_cancel]
  have hTb : T ≤ cn * 99 := by rw [hT]; exact Nat.mul_le_mul_left cn ht0.2
  have hc0 : cn = 0 → T2 = 0 := fun q => by rw [hT2, q, Nat.zero_mul]
  refine lv_aload_n hx hb dX3_repeat_0 rfl (lv_at hl 0 rfl) ?_
  refine va_get (ci := 3) (v := .ref r2) (C := RX3) (T := TX3) (N := 8) hx hb hts i3_X3_repeat hown hV.1 hP 0 rfl rfl 1 (by decide) (hts _ w1_X3_repeat) (fun _ h9 => h9) rfl dX3_repeat_1 ?_
  refine ee_ki (wr := [(o2, ee_o 3 [.ref o1, .ref r2, .int tm, .int ft, .ref r5, .ref r6, .int (nI dp), .int (nI at9)]), (r3, ee_i E 80 rk), (r4, ee_i E 80 rl)]) (ee_rV (As := []) (rest := []) (kX1_size l E r2 r3 r4 0 en (by omega)) hx hb hml hown hts 0 gX3_repeat_X1_size rfl rfl rfl (by decide +kernel) ⟨Nat.le_of_ble_eq_true rfl, Nat.le_of_ble_eq_true rfl⟩ hV hP hD hS hA [1] rfl (by decide) hl 1 rfl rfl rfl rfl (Nat.le_of_ble_eq_true rfl) dX3_repeat_4 ⟨Nat.le_of_ble_eq_true rfl, Nat.le_of_ble_eq_true rfl⟩) hP hD hS hA [1] [0, 2, 3] rfl rfl (by decide) (by decide) (fun r_1 u_2 H locs hp_3 hP hD hS => ?_)
  subst hp_3
  have hP : va_P E.1 vwCl [(o2, ee_o 3 [.ref o1, .ref r2, .int tm, .int ft, .ref r5, .ref r6, .int (nI dp), .int (nI at9)]), (r3, ee_i E 80 rk), (r4, ee_i E 80 rl), (r2, ee_o 1 [.ref r3, .ref r4, .int (nI 0), .int (nI en)])] H := hP
  have hD : va_D A [(o2, ee_o 3 [.ref o1, .ref r2, .int tm, .int ft, .ref r5, .ref r6, .int (nI dp), .int (nI at9)]), (r3, ee_i E 80 rk), (r4, ee_i E 80 rl), (r2, ee_o 1 [.ref r3, .ref r4, .int (nI 0), .int (nI en)])] := hD
  refine ee_to (z := nI en) (rfl) ?_
  refine lv_iload_n hx hb dX3_repeat_7 rfl (lv_at hl 1 rfl) ?_
  refine ee_isub hx hb (by omega) dX3_repeat_8 ?_
  refine ee_to (z := nI cn) (by rw [hc]) ?_
  refine lv_istore_n (lv' := [(3, .int (nI cn)), (0, .ref o2), (1, .int (nI f0)), (2, .int (nI t0))]) hx hb dX3_repeat_9 rfl hl (by decide) rfl (fun ls hl => ?_)
  refine lv_iload_n hx hb dX3_repeat_10 rfl (lv_at hl 2 rfl) ?_
  refine lv_iload_n hx hb dX3_repeat_11 rfl (lv_at hl 0 rfl) ?_
  refine lv_iload_n hx hb dX3_repeat_12 rfl (lv_at hl 3 rfl) ?_
  refine ee_imul hx hb dX3_repeat_13 ?_
  refine ee_to (z := nI T) (by rw [hT]) ?_
  refine ee_iadd hx hb dX3_repeat_14 ?_
  refine lv_bipush (v := nI 80) hx hb dX3_repeat_15 (by decide) ?_
  refine ee_le (tgt := 26) hx hb (by omega) (by omega) dX3_repeat_17 (by decide) (fun h_4 => ?_) (fun h_4 => ?_)
  · refine lv_iconst (v := nI 0) hx hb dX3_repeat_26 (by decide) ?_
    refine lv_istore (lv' := [(4, .int (nI 0)), (3, .int (nI cn)), (0, .ref o2), (1, .int (nI f0)), (2, .int (nI t0))]) hx hb dX3_repeat_27 hl (by decide) rfl (fun ls hl => ?_)
    have B_5 : ∀ (zz : Nat) (i : Nat) (gk gl : Nat → Int32) (H : Heap) (locs : List Loc) (ls : Array Slot), (T2 - i) < zz → (i ≤ T2) → (rpI f0 cn (en + i) rk gk) → (rpI f0 cn (en + i) rl gl) → va_P E.1 vwCl [(o2, ee_o 3 [.ref o1, .ref r2, .int tm, .int ft, .ref r5, .ref r6, .int (nI dp), .int (nI at9)]), (r3, ee_i E 80 gk), (r4, ee_i E 80 gl), (r2, ee_o 1 [.ref r3, .ref r4, .int (nI 0), .int (nI (en + i))])] H → va_D A [(o2, ee_o 3 [.ref o1, .ref r2, .int tm, .int ft, .ref r5, .ref r6, .int (nI dp), .int (nI at9)]), (r3, ee_i E 80 gk), (r4, ee_i E 80 gl), (r2, ee_o 1 [.ref r3, .ref r4, .int (nI 0), .int (nI (en + i))])] → va_S A s.heap H locs → lv_has ls 5 [(4, .int (nI i)), (3, .int (nI cn)), (0, .ref o2), (1, .int (nI f0)), (2, .int (nI t0))] → W p l e rmX3_repeat s m [.ref o2, .int (nI f0), .int (nI t0)].toArray below meth c H locs 0 0 Q (F0 m 29 ls []) := by
      intro zz
      induction zz with
      | zero => intro i gk gl H locs ls hzz; exact absurd hzz (Nat.not_lt_zero _)
      | succ zz ihB_5 =>
        intro i gk gl H locs ls hzz hi1 q1 q2 hP hD hS hl
        refine lv_iload hx hb dX3_repeat_29 (lv_at hl 0 rfl) ?_
        refine lv_iload_n hx hb dX3_repeat_31 rfl (lv_at hl 1 rfl) ?_
        refine lv_iload_n hx hb dX3_repeat_32 rfl (lv_at hl 4 rfl) ?_
        refine lv_iconst (v := nI 1) hx hb dX3_repeat_33 (by decide) ?_
        refine ee_isub hx hb (by omega) dX3_repeat_34 ?_
        refine ee_imul hx hb dX3_repeat_35 ?_
        refine ee_to (z := nI T2) (by rw [hT2]) ?_
        refine ee_ge (tgt := 75) hx hb (by omega) (by omega) dX3_repeat_36 (by decide) (fun h_6 => ?_) (fun h_6 => ?_)
        · have hi3 : i = T2 := by omega
          rw [hi3] at q1 q2 hP hD
          exact ee_fv hQ hx hb hr hlocks hS (tm, en + T2, gk, gl) (Or.inl ⟨by rw [← hc, ← hT]; omega, rfl, by rw [← hc, ← hT]; (try dsimp only); omega, by rw [← hc]; exact q1, by rw [← hc]; exact q2⟩) (hP.sub [0, 3, 1, 2] rfl) (hD.sub [0, 3, 1, 2] (by decide) rfl) dX3_repeat_75
        · refine lv_aload_n hx hb dX3_repeat_39 rfl (lv_at hl 2 rfl) ?_
          refine va_get (ci := 3) (v := .ref r2) (C := RX3) (T := TX3) (N := 8) hx hb hts i3_X3_repeat hown hV.1 hP 0 rfl rfl 1 (by decide) (hts _ w1_X3_repeat) (fun _ h9 => h9) rfl dX3_repeat_40 ?_
          refine lv_aload_n hx hb dX3_repeat_43 rfl (lv_at hl 2 rfl) ?_
          refine va_get (ci := 3) (v := .ref r2) (C := RX3) (T := TX3) (N := 8) hx hb hts i3_X3_repeat hown hV.1 hP 0 rfl rfl 1 (by decide) (hts _ w1_X3_repeat) (fun _ h9 => h9) rfl dX3_repeat_44 ?_
          refine lv_iload_n hx hb dX3_repeat_47 rfl (lv_at hl 3 rfl) ?_
          refine lv_iload hx hb dX3_repeat_48 (lv_at hl 0 rfl) ?_
          refine ee_iadd hx hb dX3_repeat_50 ?_
          refine ee_ki (wr := [(o2, ee_o 3 [.ref o1, .ref r2, .int tm, .int ft, .ref r5, .ref r6, .int (nI dp), .int (nI at9)]), (r4, ee_i E 80 gl)]) (ee_rV (As := [.int (nI (f0 + i))]) (rest := [.ref r2]) (kX1_kindOf l E r2 r3 r4 0 (en + i) gk (f0 + i) (by omega)) hx hb hml hown hts 1 gX3_repeat_X1_kindOf rfl rfl rfl (by decide +kernel) ⟨Nat.le_of_ble_eq_true rfl, Nat.le_of_ble_eq_true rfl⟩ hV hP hD hS hA [3, 1] rfl (by decide) hl 3 rfl rfl rfl rfl (Nat.le_of_ble_eq_true rfl) dX3_repeat_51 ⟨Nat.le_of_ble_eq_true rfl, Nat.le_of_ble_eq_true rfl⟩) hP hD hS hA [3, 1] [0, 2] rfl rfl (by decide) (by decide) (fun r_7 u_8 H locs hp_9 hP hD hS => ?_)
          subst hp_9
          have hP : va_P E.1 vwCl [(o2, ee_o 3 [.ref o1, .ref r2, .int tm, .int ft, .ref r5, .ref r6, .int (nI dp), .int (nI at9)]), (r4, ee_i E 80 gl), (r2, ee_o 1 [.ref r3, .ref r4, .int (nI 0), .int (nI (en + i))]), (r3, ee_i E 80 gk)] H := hP
          have hD : va_D A [(o2, ee_o 3 [.ref o1, .ref r2, .int tm, .int ft, .ref r5, .ref r6, .int (nI dp), .int (nI at9)]), (r4, ee_i E 80 gl), (r2, ee_o 1 [.ref r3, .ref r4, .int (nI 0), .int (nI (en + i))]), (r3, ee_i E 80 gk)] := hD
          refine ee_to (z := gk (en + i - cn)) (congrArg gk (by omega)) ?_
          refine lv_aload_n hx hb dX3_repeat_54 rfl (lv_at hl 2 rfl) ?_
          refine va_get (ci := 3) (v := .ref r2) (C := RX3) (T := TX3) (N := 8) hx hb hts i3_X3_repeat hown hV.1 hP 0 rfl rfl 1 (by decide) (hts _ w1_X3_repeat) (fun _ h9 => h9) rfl dX3_repeat_55 ?_
          refine lv_iload_n hx hb dX3_repeat_58 rfl (lv_at hl 3 rfl) ?_
          refine lv_iload hx hb dX3_repeat_59 (lv_at hl 0 rfl) ?_
          refine ee_iadd hx hb dX3_repeat_61 ?_
          refine ee_ki (wr := [(o2, ee_o 3 [.ref o1, .ref r2, .int tm, .int ft, .ref r5, .ref r6, .int (nI dp), .int (nI at9)]), (r3, ee_i E 80 gk)]) (ee_rV (As := [.int (nI (f0 + i))]) (rest := [.int (gk (en + i - cn)), .ref r2]) (kX1_lengthOf l E r2 r3 r4 0 (en + i) gl (f0 + i) (by omega)) hx hb hml hown hts 1 gX3_repeat_X1_lengthOf rfl rfl rfl (by decide +kernel) ⟨Nat.le_of_ble_eq_true rfl, Nat.le_of_ble_eq_true rfl⟩ hV hP hD hS hA [2, 1] rfl (by decide) hl 2 rfl rfl rfl rfl (Nat.le_of_ble_eq_true rfl) dX3_repeat_62 ⟨Nat.le_of_ble_eq_true rfl, Nat.le_of_ble_eq_true rfl⟩) hP hD hS hA [2, 1] [0, 3] rfl rfl (by decide) (by decide) (fun r_10 u_11 H locs hp_12 hP hD hS => ?_)
          subst hp_12
          have hP : va_P E.1 vwCl [(o2, ee_o 3 [.ref o1, .ref r2, .int tm, .int ft, .ref r5, .ref r6, .int (nI dp), .int (nI at9)]), (r3, ee_i E 80 gk), (r2, ee_o 1 [.ref r3, .ref r4, .int (nI 0), .int (nI (en + i))]), (r4, ee_i E 80 gl)] H := hP
          have hD : va_D A [(o2, ee_o 3 [.ref o1, .ref r2, .int tm, .int ft, .ref r5, .ref r6, .int (nI dp), .int (nI at9)]), (r3, ee_i E 80 gk), (r2, ee_o 1 [.ref r3, .ref r4, .int (nI 0), .int (nI (en + i))]), (r4, ee_i E 80 gl)] := hD
          refine ee_to (z := gl (en + i - cn)) (congrArg gl (by omega)) ?_
          refine ee_ki (wr := [(o2, ee_o 3 [.ref o1, .ref r2, .int tm, .int ft, .ref r5, .ref r6, .int (nI dp), .int (nI at9)])]) (ee_rV (As := [.int (gk (en + i - cn)), .int (gl (en + i - cn))]) (rest := []) (kX1_append l E r2 r3 r4 0 (en + i) gk gl (gk (en + i - cn)) (gl (en + i - cn)) (by omega)) hx hb hml hown hts 2 gX3_repeat_X1_append rfl rfl rfl (by decide +kernel) ⟨Nat.le_of_ble_eq_true rfl, Nat.le_of_ble_eq_true rfl⟩ hV hP hD hS hA [2, 1, 3] rfl (by decide) hl 2 rfl rfl rfl rfl (Nat.le_of_ble_eq_true rfl) dX3_repeat_65 ⟨Nat.le_of_ble_eq_true rfl, Nat.le_of_ble_eq_true rfl⟩) hP hD hS hA [2, 1, 3] [0] rfl rfl (by decide) (by decide) (fun r_13 u_14 H locs hp_15 hP hD hS => ?_)
          subst hp_15
          have hP : va_P E.1 vwCl [(o2, ee_o 3 [.ref o1, .ref r2, .int tm, .int ft, .ref r5, .ref r6, .int (nI dp), .int (nI at9)]), (r2, ee_o 1 [.ref r3, .ref r4, .int (nI 0), .int (nI ((en + i) + 1))]), (r3, ee_i E 80 (upd gk (en + i) (gk (en + i - cn)))), (r4, ee_i E 80 (upd gl (en + i) (gl (en + i - cn))))] H := hP
          have hD : va_D A [(o2, ee_o 3 [.ref o1, .ref r2, .int tm, .int ft, .ref r5, .ref r6, .int (nI dp), .int (nI at9)]), (r2, ee_o 1 [.ref r3, .ref r4, .int (nI 0), .int (nI ((en + i) + 1))]), (r3, ee_i E 80 (upd gk (en + i) (gk (en + i - cn)))), (r4, ee_i E 80 (upd gl (en + i) (gl (en + i - cn))))] := hD
          refine lv_pop hx hb dX3_repeat_68 rfl ?_
          refine lv_iinc (v := nI (i + 1)) (lv' := [(4, .int (nI (i + 1))), (3, .int (nI cn)), (0, .ref o2), (1, .int (nI f0)), (2, .int (nI t0))]) hx hb dX3_repeat_69 hl (k := 0) rfl (ee_inc _) (by decide) rfl (fun ls hl => ?_)
          refine lv_goto (tgt := 29) hx hb dX3_repeat_72 (by decide) ?_
          exact ihB_5 (i + 1) (upd gk (en + i) (gk (en + i - cn))) (upd gl (en + i) (gl (en + i - cn))) _ _ _ (by omega) (by omega) (rp_s (c := cn) (n := en + i) (Nat.pos_of_ne_zero (fun q => by have := hc0 q; omega)) (by omega) q1) (rp_s (c := cn) (n := en + i) (Nat.pos_of_ne_zero (fun q => by have := hc0 q; omega)) (by omega) q2) (hP.sub [0, 2, 3, 1] rfl) (hD.sub [0, 2, 3, 1] (by decide) rfl) hS (lv_sub hl [0, 1, 2, 3, 4] rfl)
    exact B_5 ((T2 - 0) + 1) 0 rk rl _ _ _ (Nat.lt_succ_self _) (by omega) (⟨fun _ _ => rfl, fun j h1 h2 => by omega⟩) (⟨fun _ _ => rfl, fun j h1 h2 => by omega⟩) hP hD hS (lv_sub hl [0, 1, 2, 3, 4] rfl)
  · refine lv_aload_n hx hb dX3_repeat_20 rfl (lv_at hl 1 rfl) ?_
    refine lv_iconst (v := nI 1) hx hb dX3_repeat_21 (by decide) ?_
    refine va_put (ci := 3) (v := .int (nI 1)) (ty := .boolean) (C := RX3) (T := TX3) (N := 8) hx hb hts i3_X3_repeat tyX3 tyX3_ok nmX3 hown hV.1 hP hD hS 0 rfl rfl 2 (by decide) (hts _ w2_X3_repeat) (fun _ h9 => h9) rfl (by decide +kernel) (by decide) rfl (Nat.le_of_ble_eq_true rfl) dX3_repeat_22 (fun H locs hP hD hS => ?_)
    have hP : va_P E.1 vwCl [(o2, ee_o 3 [.ref o1, .ref r2, .int (nI 1), .int ft, .ref r5, .ref r6, .int (nI dp), .int (nI at9)]), (r3, ee_i E 80 rk), (r4, ee_i E 80 rl), (r2, ee_o 1 [.ref r3, .ref r4, .int (nI 0), .int (nI en)])] H := hP
    have hD : va_D A [(o2, ee_o 3 [.ref o1, .ref r2, .int (nI 1), .int ft, .ref r5, .ref r6, .int (nI dp), .int (nI at9)]), (r3, ee_i E 80 rk), (r4, ee_i E 80 rl), (r2, ee_o 1 [.ref r3, .ref r4, .int (nI 0), .int (nI en)])] := hD
    exact ee_fv hQ hx hb hr hlocks hS (nI 1, en, rk, rl) (Or.inr ⟨by rw [← hc, ← hT]; omega, rfl, rfl, rfl, rfl⟩) (hP.sub [0, 3, 1, 2] rfl) (hD.sub [0, 3, 1, 2] (by decide) rfl) dX3_repeat_25
abbrev rmX3_openParenthesis : Room := ({ frames := 1, cells := 0, slots := 0, locals := 20 } : Room)
theorem w1_X3_openParenthesis : Cond.fieldLink RX3 43 "LabelApplicator$Reader" "depth" "I" ∈ wsX3_openParenthesis := List.mem_of_getElem? (i := 1) (by decide +kernel)
theorem w2_X3_openParenthesis : Cond.fieldLink RX3 25 "LabelApplicator$Reader" "firstInside" "[I" ∈ wsX3_openParenthesis := List.mem_of_getElem? (i := 2) (by decide +kernel)
theorem w3_X3_openParenthesis : Cond.fieldLink RX3 29 "LabelApplicator$Reader" "timesInside" "[I" ∈ wsX3_openParenthesis := List.mem_of_getElem? (i := 3) (by decide +kernel)
theorem w4_X3_openParenthesis : Cond.fieldLink RX3 46 "LabelApplicator$Reader" "at" "I" ∈ wsX3_openParenthesis := List.mem_of_getElem? (i := 4) (by decide +kernel)
theorem w5_X3_openParenthesis : Cond.fieldLink RX3 39 "LabelApplicator$Reader" "fault" "I" ∈ wsX3_openParenthesis := List.mem_of_getElem? (i := 5) (by decide +kernel)
theorem w6_X3_openParenthesis : Cond.fieldLink RX3 21 "LabelApplicator$Reader" "items" "LLabelApplicator$Items;" ∈ wsX3_openParenthesis := List.mem_of_getElem? (i := 6) (by decide +kernel)
theorem w7_X3_openParenthesis : Cond.methodLink RX3 85 yX1_size ∈ wsX3_openParenthesis := List.mem_of_getElem? (i := 7) (by decide +kernel)
theorem w10_X3_openParenthesis : Cond.initialized RX1 ∈ wsX3_openParenthesis := List.mem_of_getElem? (i := 10) (by decide +kernel)
theorem i1_X3_openParenthesis : ∀ w ∈ wsX10, w ∈ wsX3_openParenthesis := fun w h => (goodIn_r _ [22, 23, 24, 25] (by decide +kernel) (by decide +kernel) w h).1
theorem i3_X3_openParenthesis : ∀ w ∈ wsX30, w ∈ wsX3_openParenthesis := fun w h => (goodIn_r _ [14, 15, 16, 17, 18, 19, 20, 21] (by decide +kernel) (by decide +kernel) w h).1
set_option maxHeartbeats 4000000 in
set_option maxRecDepth 100000 in
theorem kX3_openParenthesis (l : Launch) (E : ee_T) (o2 r2 o1 r5 r6 : Nat) (tm ft : Int32) (dp at9 : Nat) (r3 r4 en : Nat) (fi ti : Nat → Int32) (t0 : Nat) (hdp : dp ≤ 3) (hen : en ≤ 80) (hat : at9 < 2 ^ 20) : CQ l E yX3_openParenthesis wsX3_openParenthesis rmX3_openParenthesis [.ref o2, .int (nI t0)] [(o2, ee_o 3 [.ref o1, .ref r2, .int tm, .int ft, .ref r5, .ref r6, .int (nI dp), .int (nI at9)]), (r2, ee_o 1 [.ref r3, .ref r4, .int (nI 0), .int (nI en)]), (r5, ee_i E 3 fi), (r6, ee_i E 3 ti)] (QV E (fun (u : Int32 × Nat × Nat × (Nat → Int32) × (Nat → Int32)) => (dp < 3 ∧ u.1 = ft ∧ u.2.1 = dp + 1 ∧ u.2.2.1 = at9 + 1 ∧ u.2.2.2.1 = upd fi dp (nI en) ∧ u.2.2.2.2 = upd ti dp (nI t0)) ∨ (¬ dp < 3 ∧ u.1 = nI at9 ∧ u.2.1 = dp ∧ u.2.2.1 = at9 ∧ u.2.2.2.1 = fi ∧ u.2.2.2.2 = ti)) (fun (u : Int32 × Nat × Nat × (Nat → Int32) × (Nat → Int32)) => [(o2, ee_o 3 [.ref o1, .ref r2, .int tm, .int u.1, .ref r5, .ref r6, .int (nI u.2.1), .int (nI u.2.2.1)]), (r2, ee_o 1 [.ref r3, .ref r4, .int (nI 0), .int (nI en)]), (r5, ee_i E 3 u.2.2.2.1), (r6, ee_i E 3 u.2.2.2.2)])) 0 0 := by
  refine CQ_ofW (cc := cX3_openParenthesis) (maxL := 2) (ret := none) (by decide) rfl (Nat.le_of_ble_eq_true rfl) ?_
  intro p e s m below meth c A Q hQ hx hb hr hml hown hlocks hnm hts hV hA hP hD hS ls hl
  have hl : lv_has ls 2 [(0, .ref o2), (1, .int (nI t0))] := hl
  refine lv_aload_n hx hb dX3_openParenthesis_0 rfl (lv_at hl 0 rfl) ?_
  refine va_get (ci := 3) (v := .int (nI dp)) (C := RX3) (T := TX3) (N := 8) hx hb hts i3_X3_openParenthesis hown hV.1 hP 0 rfl rfl 6 (by decide) (hts _ w1_X3_openParenthesis) (fun _ h9 => h9) rfl dX3_openParenthesis_1 ?_
  refine ee_lt0 (tgt := 31) hx hb (by omega) dX3_openParenthesis_4 (by decide) ?_
  refine lv_aload_n hx hb dX3_openParenthesis_7 rfl (lv_at hl 0 rfl) ?_
  refine va_get (ci := 3) (v := .int (nI dp)) (C := RX3) (T := TX3) (N := 8) hx hb hts i3_X3_openParenthesis hown hV.1 hP 0 rfl rfl 6 (by decide) (hts _ w1_X3_openParenthesis) (fun _ h9 => h9) rfl dX3_openParenthesis_8 ?_
  refine lv_aload_n hx hb dX3_openParenthesis_11 rfl (lv_at hl 0 rfl) ?_
  refine va_get (ci := 3) (v := .ref r5) (C := RX3) (T := TX3) (N := 8) hx hb hts i3_X3_openParenthesis hown hV.1 hP 0 rfl rfl 4 (by decide) (hts _ w2_X3_openParenthesis) (fun _ h9 => h9) rfl dX3_openParenthesis_12 ?_
  refine va_alen (v := nI 3) hx hb hV.1 hP 2 0 rfl rfl rfl dX3_openParenthesis_15 ?_
  refine ee_ge (tgt := 31) hx hb (by omega) (by omega) dX3_openParenthesis_16 (by decide) (fun h_2 => ?_) (fun h_2 => ?_)
  · refine lv_aload_n hx hb dX3_openParenthesis_31 rfl (lv_at hl 0 rfl) ?_
    refine lv_aload_n hx hb dX3_openParenthesis_32 rfl (lv_at hl 0 rfl) ?_
    refine va_get (ci := 3) (v := .int (nI at9)) (C := RX3) (T := TX3) (N := 8) hx hb hts i3_X3_openParenthesis hown hV.1 hP 0 rfl rfl 7 (by decide) (hts _ w4_X3_openParenthesis) (fun _ h9 => h9) rfl dX3_openParenthesis_33 ?_
    refine va_put (ci := 3) (v := .int (nI at9)) (ty := .int) (C := RX3) (T := TX3) (N := 8) hx hb hts i3_X3_openParenthesis tyX3 tyX3_ok nmX3 hown hV.1 hP hD hS 0 rfl rfl 3 (by decide) (hts _ w5_X3_openParenthesis) (fun _ h9 => h9) rfl (by decide +kernel) rfl rfl (Nat.le_of_ble_eq_true rfl) dX3_openParenthesis_36 (fun H locs hP hD hS => ?_)
    have hP : va_P E.1 vwCl [(o2, ee_o 3 [.ref o1, .ref r2, .int tm, .int (nI at9), .ref r5, .ref r6, .int (nI dp), .int (nI at9)]), (r2, ee_o 1 [.ref r3, .ref r4, .int (nI 0), .int (nI en)]), (r5, ee_i E 3 fi), (r6, ee_i E 3 ti)] H := hP
    have hD : va_D A [(o2, ee_o 3 [.ref o1, .ref r2, .int tm, .int (nI at9), .ref r5, .ref r6, .int (nI dp), .int (nI at9)]), (r2, ee_o 1 [.ref r3, .ref r4, .int (nI 0), .int (nI en)]), (r5, ee_i E 3 fi), (r6, ee_i E 3 ti)] := hD
    exact ee_fv hQ hx hb hr hlocks hS (nI at9, dp, at9, fi, ti) (Or.inr ⟨by omega, rfl, rfl, rfl, rfl, rfl⟩) hP hD dX3_openParenthesis_39
  · refine lv_aload_n hx hb dX3_openParenthesis_19 rfl (lv_at hl 0 rfl) ?_
    refine va_get (ci := 3) (v := .int (nI dp)) (C := RX3) (T := TX3) (N := 8) hx hb hts i3_X3_openParenthesis hown hV.1 hP 0 rfl rfl 6 (by decide) (hts _ w1_X3_openParenthesis) (fun _ h9 => h9) rfl dX3_openParenthesis_20 ?_
    refine lv_aload_n hx hb dX3_openParenthesis_23 rfl (lv_at hl 0 rfl) ?_
    refine va_get (ci := 3) (v := .ref r6) (C := RX3) (T := TX3) (N := 8) hx hb hts i3_X3_openParenthesis hown hV.1 hP 0 rfl rfl 5 (by decide) (hts _ w3_X3_openParenthesis) (fun _ h9 => h9) rfl dX3_openParenthesis_24 ?_
    refine va_alen (v := nI 3) hx hb hV.1 hP 3 0 rfl rfl rfl dX3_openParenthesis_27 ?_
    refine ee_lt (tgt := 40) hx hb (by omega) (by omega) dX3_openParenthesis_28 (by decide) (fun h_3 => ?_) (fun h_3 => absurd h_3 (by omega))
    refine lv_aload_n hx hb dX3_openParenthesis_40 rfl (lv_at hl 0 rfl) ?_
    refine va_get (ci := 3) (v := .ref r5) (C := RX3) (T := TX3) (N := 8) hx hb hts i3_X3_openParenthesis hown hV.1 hP 0 rfl rfl 4 (by decide) (hts _ w2_X3_openParenthesis) (fun _ h9 => h9) rfl dX3_openParenthesis_41 ?_
    refine lv_aload_n hx hb dX3_openParenthesis_44 rfl (lv_at hl 0 rfl) ?_
    refine va_get (ci := 3) (v := .int (nI dp)) (C := RX3) (T := TX3) (N := 8) hx hb hts i3_X3_openParenthesis hown hV.1 hP 0 rfl rfl 6 (by decide) (hts _ w1_X3_openParenthesis) (fun _ h9 => h9) rfl dX3_openParenthesis_45 ?_
    refine lv_aload_n hx hb dX3_openParenthesis_48 rfl (lv_at hl 0 rfl) ?_
    refine va_get (ci := 3) (v := .ref r2) (C := RX3) (T := TX3) (N := 8) hx hb hts i3_X3_openParenthesis hown hV.1 hP 0 rfl rfl 1 (by decide) (hts _ w6_X3_openParenthesis) (fun _ h9 => h9) rfl dX3_openParenthesis_49 ?_
    refine ee_ki (wr := [(o2, ee_o 3 [.ref o1, .ref r2, .int tm, .int ft, .ref r5, .ref r6, .int (nI dp), .int (nI at9)]), (r5, ee_i E 3 fi), (r6, ee_i E 3 ti)]) (ee_rV (As := []) (rest := [.int (nI dp), .ref r5]) (kX1_size l E r2 r3 r4 0 en (by omega)) hx hb hml hown hts 0 gX3_openParenthesis_X1_size rfl rfl rfl (by decide +kernel) ⟨Nat.le_of_ble_eq_true rfl, Nat.le_of_ble_eq_true rfl⟩ hV hP hD hS hA [1] rfl (by decide) hl 1 rfl rfl rfl rfl (Nat.le_of_ble_eq_true rfl) dX3_openParenthesis_52 ⟨Nat.le_of_ble_eq_true rfl, Nat.le_of_ble_eq_true rfl⟩) hP hD hS hA [1] [0, 2, 3] rfl rfl (by decide) (by decide) (fun r_4 u_5 H locs hp_6 hP hD hS => ?_)
    subst hp_6
    have hP : va_P E.1 vwCl [(o2, ee_o 3 [.ref o1, .ref r2, .int tm, .int ft, .ref r5, .ref r6, .int (nI dp), .int (nI at9)]), (r5, ee_i E 3 fi), (r6, ee_i E 3 ti), (r2, ee_o 1 [.ref r3, .ref r4, .int (nI 0), .int (nI en)])] H := hP
    have hD : va_D A [(o2, ee_o 3 [.ref o1, .ref r2, .int tm, .int ft, .ref r5, .ref r6, .int (nI dp), .int (nI at9)]), (r5, ee_i E 3 fi), (r6, ee_i E 3 ti), (r2, ee_o 1 [.ref r3, .ref r4, .int (nI 0), .int (nI en)])] := hD
    refine ee_to (z := nI en) (rfl) ?_
    refine ee_ist hx hb hV hP hD hS 1 rfl (j := dp) (by omega) (by decide) dX3_openParenthesis_55 (fun H locs hP hD hS => ?_)
    have hP : va_P E.1 vwCl [(o2, ee_o 3 [.ref o1, .ref r2, .int tm, .int ft, .ref r5, .ref r6, .int (nI dp), .int (nI at9)]), (r5, ee_i E 3 (upd fi dp (nI en))), (r6, ee_i E 3 ti), (r2, ee_o 1 [.ref r3, .ref r4, .int (nI 0), .int (nI en)])] H := hP
    have hD : va_D A [(o2, ee_o 3 [.ref o1, .ref r2, .int tm, .int ft, .ref r5, .ref r6, .int (nI dp), .int (nI at9)]), (r5, ee_i E 3 (upd fi dp (nI en))), (r6, ee_i E 3 ti), (r2, ee_o 1 [.ref r3, .ref r4, .int (nI 0), .int (nI en)])] := hD
    refine lv_aload_n hx hb dX3_openParenthesis_56 rfl (lv_at hl 0 rfl) ?_
    refine va_get (ci := 3) (v := .ref r6) (C := RX3) (T := TX3) (N := 8) hx hb hts i3_X3_openParenthesis hown hV.1 hP 0 rfl rfl 5 (by decide) (hts _ w3_X3_openParenthesis) (fun _ h9 => h9) rfl dX3_openParenthesis_57 ?_
    refine lv_aload_n hx hb dX3_openParenthesis_60 rfl (lv_at hl 0 rfl) ?_
    refine va_get (ci := 3) (v := .int (nI dp)) (C := RX3) (T := TX3) (N := 8) hx hb hts i3_X3_openParenthesis hown hV.1 hP 0 rfl rfl 6 (by decide) (hts _ w1_X3_openParenthesis) (fun _ h9 => h9) rfl dX3_openParenthesis_61 ?_
    refine lv_iload_n hx hb dX3_openParenthesis_64 rfl (lv_at hl 1 rfl) ?_
    refine ee_ist hx hb hV hP hD hS 2 rfl (j := dp) (by omega) (by decide) dX3_openParenthesis_65 (fun H locs hP hD hS => ?_)
    have hP : va_P E.1 vwCl [(o2, ee_o 3 [.ref o1, .ref r2, .int tm, .int ft, .ref r5, .ref r6, .int (nI dp), .int (nI at9)]), (r5, ee_i E 3 (upd fi dp (nI en))), (r6, ee_i E 3 (upd ti dp (nI t0))), (r2, ee_o 1 [.ref r3, .ref r4, .int (nI 0), .int (nI en)])] H := hP
    have hD : va_D A [(o2, ee_o 3 [.ref o1, .ref r2, .int tm, .int ft, .ref r5, .ref r6, .int (nI dp), .int (nI at9)]), (r5, ee_i E 3 (upd fi dp (nI en))), (r6, ee_i E 3 (upd ti dp (nI t0))), (r2, ee_o 1 [.ref r3, .ref r4, .int (nI 0), .int (nI en)])] := hD
    refine lv_aload_n hx hb dX3_openParenthesis_66 rfl (lv_at hl 0 rfl) ?_
    refine lv_dup hx hb dX3_openParenthesis_67 rfl ?_
    refine va_get (ci := 3) (v := .int (nI dp)) (C := RX3) (T := TX3) (N := 8) hx hb hts i3_X3_openParenthesis hown hV.1 hP 0 rfl rfl 6 (by decide) (hts _ w1_X3_openParenthesis) (fun _ h9 => h9) rfl dX3_openParenthesis_68 ?_
    refine lv_iconst (v := nI 1) hx hb dX3_openParenthesis_71 (by decide) ?_
    refine ee_iadd hx hb dX3_openParenthesis_72 ?_
    refine va_put (ci := 3) (v := .int (nI (dp + 1))) (ty := .int) (C := RX3) (T := TX3) (N := 8) hx hb hts i3_X3_openParenthesis tyX3 tyX3_ok nmX3 hown hV.1 hP hD hS 0 rfl rfl 6 (by decide) (hts _ w1_X3_openParenthesis) (fun _ h9 => h9) rfl (by decide +kernel) rfl rfl (Nat.le_of_ble_eq_true rfl) dX3_openParenthesis_73 (fun H locs hP hD hS => ?_)
    have hP : va_P E.1 vwCl [(o2, ee_o 3 [.ref o1, .ref r2, .int tm, .int ft, .ref r5, .ref r6, .int (nI (dp + 1)), .int (nI at9)]), (r5, ee_i E 3 (upd fi dp (nI en))), (r6, ee_i E 3 (upd ti dp (nI t0))), (r2, ee_o 1 [.ref r3, .ref r4, .int (nI 0), .int (nI en)])] H := hP
    have hD : va_D A [(o2, ee_o 3 [.ref o1, .ref r2, .int tm, .int ft, .ref r5, .ref r6, .int (nI (dp + 1)), .int (nI at9)]), (r5, ee_i E 3 (upd fi dp (nI en))), (r6, ee_i E 3 (upd ti dp (nI t0))), (r2, ee_o 1 [.ref r3, .ref r4, .int (nI 0), .int (nI en)])] := hD
    refine lv_aload_n hx hb dX3_openParenthesis_76 rfl (lv_at hl 0 rfl) ?_
    refine lv_dup hx hb dX3_openParenthesis_77 rfl ?_
    refine va_get (ci := 3) (v := .int (nI at9)) (C := RX3) (T := TX3) (N := 8) hx hb hts i3_X3_openParenthesis hown hV.1 hP 0 rfl rfl 7 (by decide) (hts _ w4_X3_openParenthesis) (fun _ h9 => h9) rfl dX3_openParenthesis_78 ?_
    refine lv_iconst (v := nI 1) hx hb dX3_openParenthesis_81 (by decide) ?_
    refine ee_iadd hx hb dX3_openParenthesis_82 ?_
    refine va_put (ci := 3) (v := .int (nI (at9 + 1))) (ty := .int) (C := RX3) (T := TX3) (N := 8) hx hb hts i3_X3_openParenthesis tyX3 tyX3_ok nmX3 hown hV.1 hP hD hS 0 rfl rfl 7 (by decide) (hts _ w4_X3_openParenthesis) (fun _ h9 => h9) rfl (by decide +kernel) rfl rfl (Nat.le_of_ble_eq_true rfl) dX3_openParenthesis_83 (fun H locs hP hD hS => ?_)
    have hP : va_P E.1 vwCl [(o2, ee_o 3 [.ref o1, .ref r2, .int tm, .int ft, .ref r5, .ref r6, .int (nI (dp + 1)), .int (nI (at9 + 1))]), (r5, ee_i E 3 (upd fi dp (nI en))), (r6, ee_i E 3 (upd ti dp (nI t0))), (r2, ee_o 1 [.ref r3, .ref r4, .int (nI 0), .int (nI en)])] H := hP
    have hD : va_D A [(o2, ee_o 3 [.ref o1, .ref r2, .int tm, .int ft, .ref r5, .ref r6, .int (nI (dp + 1)), .int (nI (at9 + 1))]), (r5, ee_i E 3 (upd fi dp (nI en))), (r6, ee_i E 3 (upd ti dp (nI t0))), (r2, ee_o 1 [.ref r3, .ref r4, .int (nI 0), .int (nI en)])] := hD
    exact ee_fv hQ hx hb hr hlocks hS (ft, dp + 1, at9 + 1, upd fi dp (nI en), upd ti dp (nI t0)) (Or.inl ⟨by omega, rfl, rfl, rfl, rfl, rfl⟩) (hP.sub [0, 3, 1, 2] rfl) (hD.sub [0, 3, 1, 2] (by decide) rfl) dX3_openParenthesis_86
abbrev rmX3_closeParenthesis : Room := ({ frames := 2, cells := 0, slots := 0, locals := 46 } : Room)
theorem w1_X3_closeParenthesis : Cond.fieldLink RX3 43 "LabelApplicator$Reader" "depth" "I" ∈ wsX3_closeParenthesis := List.mem_of_getElem? (i := 1) (by decide +kernel)
theorem w2_X3_closeParenthesis : Cond.fieldLink RX3 25 "LabelApplicator$Reader" "firstInside" "[I" ∈ wsX3_closeParenthesis := List.mem_of_getElem? (i := 2) (by decide +kernel)
theorem w3_X3_closeParenthesis : Cond.fieldLink RX3 29 "LabelApplicator$Reader" "timesInside" "[I" ∈ wsX3_closeParenthesis := List.mem_of_getElem? (i := 3) (by decide +kernel)
theorem w4_X3_closeParenthesis : Cond.fieldLink RX3 46 "LabelApplicator$Reader" "at" "I" ∈ wsX3_closeParenthesis := List.mem_of_getElem? (i := 4) (by decide +kernel)
theorem w5_X3_closeParenthesis : Cond.fieldLink RX3 39 "LabelApplicator$Reader" "fault" "I" ∈ wsX3_closeParenthesis := List.mem_of_getElem? (i := 5) (by decide +kernel)
theorem w6_X3_closeParenthesis : Cond.methodLink RX3 92 yX3_repeat ∈ wsX3_closeParenthesis := List.mem_of_getElem? (i := 6) (by decide +kernel)
theorem w9_X3_closeParenthesis : Cond.initialized RX3 ∈ wsX3_closeParenthesis := List.mem_of_getElem? (i := 9) (by decide +kernel)
theorem w11_X3_closeParenthesis : Cond.fieldLink RX3 21 "LabelApplicator$Reader" "items" "LLabelApplicator$Items;" ∈ wsX3_closeParenthesis := List.mem_of_getElem? (i := 11) (by decide +kernel)
theorem w12_X3_closeParenthesis : Cond.fieldLink RX3 35 "LabelApplicator$Reader" "tooMany" "Z" ∈ wsX3_closeParenthesis := List.mem_of_getElem? (i := 12) (by decide +kernel)
theorem w13_X3_closeParenthesis : Cond.methodLink RX3 85 yX1_size ∈ wsX3_closeParenthesis := List.mem_of_getElem? (i := 13) (by decide +kernel)
theorem w16_X3_closeParenthesis : Cond.initialized RX1 ∈ wsX3_closeParenthesis := List.mem_of_getElem? (i := 16) (by decide +kernel)
theorem w20_X3_closeParenthesis : Cond.methodLink RX3 96 yX1_kindOf ∈ wsX3_closeParenthesis := List.mem_of_getElem? (i := 20) (by decide +kernel)
theorem w25_X3_closeParenthesis : Cond.methodLink RX3 99 yX1_lengthOf ∈ wsX3_closeParenthesis := List.mem_of_getElem? (i := 25) (by decide +kernel)
theorem w30_X3_closeParenthesis : Cond.methodLink RX3 88 yX1_append ∈ wsX3_closeParenthesis := List.mem_of_getElem? (i := 30) (by decide +kernel)
theorem i1_X3_closeParenthesis : ∀ w ∈ wsX10, w ∈ wsX3_closeParenthesis := fun w h => (goodIn_r _ [42, 43, 44, 45] (by decide +kernel) (by decide +kernel) w h).1
theorem i3_X3_closeParenthesis : ∀ w ∈ wsX30, w ∈ wsX3_closeParenthesis := fun w h => (goodIn_r _ [34, 35, 36, 37, 38, 39, 40, 41] (by decide +kernel) (by decide +kernel) w h).1
set_option maxHeartbeats 4000000 in
set_option maxRecDepth 100000 in
theorem kX3_closeParenthesis (l : Launch) (E : ee_T) (o2 r2 o1 r5 r6 : Nat) (tm ft : Int32) (d1 at9 : Nat) (r3 r4 en : Nat) (rk rl : Nat → Int32) (fi ti : Nat → Int32) (b0 t0 : Nat) (hd1 : d1 < 3) (hen : en ≤ 80) (hat : at9 < 2 ^ 20) (hfi : fi d1 = nI b0) (hti : ti d1 = nI t0) (hb0 : b0 ≤ en) (ht0 : 1 ≤ t0 ∧ t0 ≤ 99) : CQ l E yX3_closeParenthesis wsX3_closeParenthesis rmX3_closeParenthesis [.ref o2] [(o2, ee_o 3 [.ref o1, .ref r2, .int tm, .int ft, .ref r5, .ref r6, .int (nI (d1 + 1)), .int (nI at9)]), (r2, ee_o 1 [.ref r3, .ref r4, .int (nI 0), .int (nI en)]), (r3, ee_i E 80 rk), (r4, ee_i E 80 rl), (r5, ee_i E 3 fi), (r6, ee_i E 3 ti)] (QV E (fun (u : Int32 × Nat × (Nat → Int32) × (Nat → Int32)) => rpC b0 en t0 tm rk rl u.1 u.2.1 u.2.2.1 u.2.2.2) (fun (u : Int32 × Nat × (Nat → Int32) × (Nat → Int32)) => [(o2, ee_o 3 [.ref o1, .ref r2, .int u.1, .int ft, .ref r5, .ref r6, .int (nI d1), .int (nI (at9 + 1))]), (r2, ee_o 1 [.ref r3, .ref r4, .int (nI 0), .int (nI u.2.1)]), (r3, ee_i E 80 u.2.2.1), (r4, ee_i E 80 u.2.2.2), (r5, ee_i E 3 fi), (r6, ee_i E 3 ti)])) 0 0 := by
  refine CQ_ofW (cc := cX3_closeParenthesis) (maxL := 2) (ret := none) (by decide) rfl (Nat.le_of_ble_eq_true rfl) ?_
  intro p e s m below meth c A Q hQ hx hb hr hml hown hlocks hnm hts hV hA hP hD hS ls hl
  have hl : lv_has ls 2 [(0, .ref o2)] := hl
  refine lv_aload_n hx hb dX3_closeParenthesis_0 rfl (lv_at hl 0 rfl) ?_
  refine va_get (ci := 3) (v := .int (nI (d1 + 1))) (C := RX3) (T := TX3) (N := 8) hx hb hts i3_X3_closeParenthesis hown hV.1 hP 0 rfl rfl 6 (by decide) (hts _ w1_X3_closeParenthesis) (fun _ h9 => h9) rfl dX3_closeParenthesis_1 ?_
  refine lv_iconst (v := nI 1) hx hb dX3_closeParenthesis_4 (by decide) ?_
  refine ee_isub hx hb (by omega) dX3_closeParenthesis_5 ?_
  refine ee_to (z := nI d1) (rfl) ?_
  refine lv_istore_n (lv' := [(1, .int (nI d1)), (0, .ref o2)]) hx hb dX3_closeParenthesis_6 rfl hl (by decide) rfl (fun ls hl => ?_)
  refine lv_iload_n hx hb dX3_closeParenthesis_7 rfl (lv_at hl 0 rfl) ?_
  refine ee_lt0 (tgt := 29) hx hb (by omega) dX3_closeParenthesis_8 (by decide) ?_
  refine lv_iload_n hx hb dX3_closeParenthesis_11 rfl (lv_at hl 0 rfl) ?_
  refine lv_aload_n hx hb dX3_closeParenthesis_12 rfl (lv_at hl 1 rfl) ?_
  refine va_get (ci := 3) (v := .ref r5) (C := RX3) (T := TX3) (N := 8) hx hb hts i3_X3_closeParenthesis hown hV.1 hP 0 rfl rfl 4 (by decide) (hts _ w2_X3_closeParenthesis) (fun _ h9 => h9) rfl dX3_closeParenthesis_13 ?_
  refine va_alen (v := nI 3) hx hb hV.1 hP 4 0 rfl rfl rfl dX3_closeParenthesis_16 ?_
  refine ee_ge (tgt := 29) hx hb (by omega) (by omega) dX3_closeParenthesis_17 (by decide) (fun h_2 => absurd h_2 (by omega)) (fun h_2 => ?_)
  refine lv_iload_n hx hb dX3_closeParenthesis_20 rfl (lv_at hl 0 rfl) ?_
  refine lv_aload_n hx hb dX3_closeParenthesis_21 rfl (lv_at hl 1 rfl) ?_
  refine va_get (ci := 3) (v := .ref r6) (C := RX3) (T := TX3) (N := 8) hx hb hts i3_X3_closeParenthesis hown hV.1 hP 0 rfl rfl 5 (by decide) (hts _ w3_X3_closeParenthesis) (fun _ h9 => h9) rfl dX3_closeParenthesis_22 ?_
  refine va_alen (v := nI 3) hx hb hV.1 hP 5 0 rfl rfl rfl dX3_closeParenthesis_25 ?_
  refine ee_lt (tgt := 38) hx hb (by omega) (by omega) dX3_closeParenthesis_26 (by decide) (fun h_3 => ?_) (fun h_3 => absurd h_3 (by omega))
  refine lv_aload_n hx hb dX3_closeParenthesis_38 rfl (lv_at hl 1 rfl) ?_
  refine lv_iload_n hx hb dX3_closeParenthesis_39 rfl (lv_at hl 0 rfl) ?_
  refine va_put (ci := 3) (v := .int (nI d1)) (ty := .int) (C := RX3) (T := TX3) (N := 8) hx hb hts i3_X3_closeParenthesis tyX3 tyX3_ok nmX3 hown hV.1 hP hD hS 0 rfl rfl 6 (by decide) (hts _ w1_X3_closeParenthesis) (fun _ h9 => h9) rfl (by decide +kernel) rfl rfl (Nat.le_of_ble_eq_true rfl) dX3_closeParenthesis_40 (fun H locs hP hD hS => ?_)
  have hP : va_P E.1 vwCl [(o2, ee_o 3 [.ref o1, .ref r2, .int tm, .int ft, .ref r5, .ref r6, .int (nI d1), .int (nI at9)]), (r2, ee_o 1 [.ref r3, .ref r4, .int (nI 0), .int (nI en)]), (r3, ee_i E 80 rk), (r4, ee_i E 80 rl), (r5, ee_i E 3 fi), (r6, ee_i E 3 ti)] H := hP
  have hD : va_D A [(o2, ee_o 3 [.ref o1, .ref r2, .int tm, .int ft, .ref r5, .ref r6, .int (nI d1), .int (nI at9)]), (r2, ee_o 1 [.ref r3, .ref r4, .int (nI 0), .int (nI en)]), (r3, ee_i E 80 rk), (r4, ee_i E 80 rl), (r5, ee_i E 3 fi), (r6, ee_i E 3 ti)] := hD
  refine lv_aload_n hx hb dX3_closeParenthesis_43 rfl (lv_at hl 1 rfl) ?_
  refine lv_dup hx hb dX3_closeParenthesis_44 rfl ?_
  refine va_get (ci := 3) (v := .int (nI at9)) (C := RX3) (T := TX3) (N := 8) hx hb hts i3_X3_closeParenthesis hown hV.1 hP 0 rfl rfl 7 (by decide) (hts _ w4_X3_closeParenthesis) (fun _ h9 => h9) rfl dX3_closeParenthesis_45 ?_
  refine lv_iconst (v := nI 1) hx hb dX3_closeParenthesis_48 (by decide) ?_
  refine ee_iadd hx hb dX3_closeParenthesis_49 ?_
  refine va_put (ci := 3) (v := .int (nI (at9 + 1))) (ty := .int) (C := RX3) (T := TX3) (N := 8) hx hb hts i3_X3_closeParenthesis tyX3 tyX3_ok nmX3 hown hV.1 hP hD hS 0 rfl rfl 7 (by decide) (hts _ w4_X3_closeParenthesis) (fun _ h9 => h9) rfl (by decide +kernel) rfl rfl (Nat.le_of_ble_eq_true rfl) dX3_closeParenthesis_50 (fun H locs hP hD hS => ?_)
  have hP : va_P E.1 vwCl [(o2, ee_o 3 [.ref o1, .ref r2, .int tm, .int ft, .ref r5, .ref r6, .int (nI d1), .int (nI (at9 + 1))]), (r2, ee_o 1 [.ref r3, .ref r4, .int (nI 0), .int (nI en)]), (r3, ee_i E 80 rk), (r4, ee_i E 80 rl), (r5, ee_i E 3 fi), (r6, ee_i E 3 ti)] H := hP
  have hD : va_D A [(o2, ee_o 3 [.ref o1, .ref r2, .int tm, .int ft, .ref r5, .ref r6, .int (nI d1), .int (nI (at9 + 1))]), (r2, ee_o 1 [.ref r3, .ref r4, .int (nI 0), .int (nI en)]), (r3, ee_i E 80 rk), (r4, ee_i E 80 rl), (r5, ee_i E 3 fi), (r6, ee_i E 3 ti)] := hD
  refine lv_aload_n hx hb dX3_closeParenthesis_53 rfl (lv_at hl 1 rfl) ?_
  refine lv_aload_n hx hb dX3_closeParenthesis_54 rfl (lv_at hl 1 rfl) ?_
  refine va_get (ci := 3) (v := .ref r5) (C := RX3) (T := TX3) (N := 8) hx hb hts i3_X3_closeParenthesis hown hV.1 hP 0 rfl rfl 4 (by decide) (hts _ w2_X3_closeParenthesis) (fun _ h9 => h9) rfl dX3_closeParenthesis_55 ?_
  refine lv_iload_n hx hb dX3_closeParenthesis_58 rfl (lv_at hl 0 rfl) ?_
  refine ee_ild hx hb hV hP 4 rfl (j := d1) (by omega) (by decide) dX3_closeParenthesis_59 ?_
  refine ee_to (z := nI b0) (hfi) ?_
  refine lv_aload_n hx hb dX3_closeParenthesis_60 rfl (lv_at hl 1 rfl) ?_
  refine va_get (ci := 3) (v := .ref r6) (C := RX3) (T := TX3) (N := 8) hx hb hts i3_X3_closeParenthesis hown hV.1 hP 0 rfl rfl 5 (by decide) (hts _ w3_X3_closeParenthesis) (fun _ h9 => h9) rfl dX3_closeParenthesis_61 ?_
  refine lv_iload_n hx hb dX3_closeParenthesis_64 rfl (lv_at hl 0 rfl) ?_
  refine ee_ild hx hb hV hP 5 rfl (j := d1) (by omega) (by decide) dX3_closeParenthesis_65 ?_
  refine ee_to (z := nI t0) (hti) ?_
  refine ee_kv (wr := [(r5, ee_i E 3 fi), (r6, ee_i E 3 ti)]) (ee_rV (As := [.int (nI b0), .int (nI t0)]) (rest := []) (kX3_repeat l E o2 r2 o1 r5 r6 tm ft d1 (at9 + 1) r3 r4 en rk rl b0 t0 (by omega) (by omega) (by omega)) hx hb hml hown hts 2 gX3_closeParenthesis_X3_repeat rfl rfl rfl (by decide +kernel) ⟨Nat.le_of_ble_eq_true rfl, Nat.le_of_ble_eq_true rfl⟩ hV hP hD hS hA [0, 1, 2, 3] rfl (by decide) hl 0 rfl rfl rfl rfl (Nat.le_of_ble_eq_true rfl) dX3_closeParenthesis_66 ⟨Nat.le_of_ble_eq_true rfl, Nat.le_of_ble_eq_true rfl⟩) hP hD hS hA [0, 1, 2, 3] [4, 5] rfl rfl (by decide) (by decide) (fun u_5 H locs hC hP hD hS => ?_)
  obtain ⟨tm9, en9, gk, gl⟩ := u_5
  try dsimp only at hC
  have hP : va_P E.1 vwCl [(r5, ee_i E 3 fi), (r6, ee_i E 3 ti), (o2, ee_o 3 [.ref o1, .ref r2, .int tm9, .int ft, .ref r5, .ref r6, .int (nI d1), .int (nI (at9 + 1))]), (r2, ee_o 1 [.ref r3, .ref r4, .int (nI 0), .int (nI en9)]), (r3, ee_i E 80 gk), (r4, ee_i E 80 gl)] H := hP
  have hD : va_D A [(r5, ee_i E 3 fi), (r6, ee_i E 3 ti), (o2, ee_o 3 [.ref o1, .ref r2, .int tm9, .int ft, .ref r5, .ref r6, .int (nI d1), .int (nI (at9 + 1))]), (r2, ee_o 1 [.ref r3, .ref r4, .int (nI 0), .int (nI en9)]), (r3, ee_i E 80 gk), (r4, ee_i E 80 gl)] := hD
  exact ee_fv hQ hx hb hr hlocks hS (tm9, en9, gk, gl) (hC) (hP.sub [2, 3, 4, 5, 0, 1] rfl) (hD.sub [2, 3, 4, 5, 0, 1] (by decide) rfl) dX3_closeParenthesis_69
set_option maxHeartbeats 4000000 in
set_option maxRecDepth 100000 in
theorem kX3_closeParenthesis0 (l : Launch) (E : ee_T) (o2 r2 o1 r5 r6 : Nat) (tm ft : Int32) (at9 : Nat)  (hat : at9 < 2 ^ 20) : CQ l E yX3_closeParenthesis wsX3_closeParenthesis rmX3_closeParenthesis [.ref o2] [(o2, ee_o 3 [.ref o1, .ref r2, .int tm, .int ft, .ref r5, .ref r6, .int (nI 0), .int (nI at9)])] (QV E (fun (u : Unit) => True) (fun (u : Unit) => [(o2, ee_o 3 [.ref o1, .ref r2, .int tm, .int (nI at9), .ref r5, .ref r6, .int (nI 0), .int (nI at9)])])) 0 0 := by
  refine CQ_ofW (cc := cX3_closeParenthesis) (maxL := 2) (ret := none) (by decide) rfl (Nat.le_of_ble_eq_true rfl) ?_
  intro p e s m below meth c A Q hQ hx hb hr hml hown hlocks hnm hts hV hA hP hD hS ls hl
  have hl : lv_has ls 2 [(0, .ref o2)] := hl
  refine lv_aload_n hx hb dX3_closeParenthesis_0 rfl (lv_at hl 0 rfl) ?_
  refine va_get (ci := 3) (v := .int (nI 0)) (C := RX3) (T := TX3) (N := 8) hx hb hts i3_X3_closeParenthesis hown hV.1 hP 0 rfl rfl 6 (by decide) (hts _ w1_X3_closeParenthesis) (fun _ h9 => h9) rfl dX3_closeParenthesis_1 ?_
  refine lv_iconst (v := nI 1) hx hb dX3_closeParenthesis_4 (by decide) ?_
  refine lv_isub hx hb dX3_closeParenthesis_5 ?_
  refine ee_to (z := (-1)) (rfl) ?_
  refine lv_istore_n (lv' := [(1, .int (-1)), (0, .ref o2)]) hx hb dX3_closeParenthesis_6 rfl hl (by decide) rfl (fun ls hl => ?_)
  refine lv_iload_n hx hb dX3_closeParenthesis_7 rfl (lv_at hl 0 rfl) ?_
  refine lv_if_lt (tgt := 29) hx hb dX3_closeParenthesis_8 (by decide) (fun h_1 => ?_) (fun h_1 => absurd (by decide : ((-1) : Int32) < 0) h_1)
  refine lv_aload_n hx hb dX3_closeParenthesis_29 rfl (lv_at hl 1 rfl) ?_
  refine lv_aload_n hx hb dX3_closeParenthesis_30 rfl (lv_at hl 1 rfl) ?_
  refine va_get (ci := 3) (v := .int (nI at9)) (C := RX3) (T := TX3) (N := 8) hx hb hts i3_X3_closeParenthesis hown hV.1 hP 0 rfl rfl 7 (by decide) (hts _ w4_X3_closeParenthesis) (fun _ h9 => h9) rfl dX3_closeParenthesis_31 ?_
  refine va_put (ci := 3) (v := .int (nI at9)) (ty := .int) (C := RX3) (T := TX3) (N := 8) hx hb hts i3_X3_closeParenthesis tyX3 tyX3_ok nmX3 hown hV.1 hP hD hS 0 rfl rfl 3 (by decide) (hts _ w5_X3_closeParenthesis) (fun _ h9 => h9) rfl (by decide +kernel) rfl rfl (Nat.le_of_ble_eq_true rfl) dX3_closeParenthesis_34 (fun H locs hP hD hS => ?_)
  have hP : va_P E.1 vwCl [(o2, ee_o 3 [.ref o1, .ref r2, .int tm, .int (nI at9), .ref r5, .ref r6, .int (nI 0), .int (nI at9)])] H := hP
  have hD : va_D A [(o2, ee_o 3 [.ref o1, .ref r2, .int tm, .int (nI at9), .ref r5, .ref r6, .int (nI 0), .int (nI at9)])] := hD
  exact ee_fv hQ hx hb hr hlocks hS () (trivial) hP hD dX3_closeParenthesis_37
abbrev rmX3_readItem : Room := ({ frames := 3, cells := 0, slots := 0, locals := 67 } : Room)
theorem w1_X3_readItem : Cond.fieldLink RX3 12 "LabelApplicator$Reader" "text" "LLabelApplicator$Text;" ∈ wsX3_readItem := List.mem_of_getElem? (i := 1) (by decide +kernel)
theorem w2_X3_readItem : Cond.fieldLink RX3 46 "LabelApplicator$Reader" "at" "I" ∈ wsX3_readItem := List.mem_of_getElem? (i := 2) (by decide +kernel)
theorem w3_X3_readItem : Cond.fieldLink RX3 39 "LabelApplicator$Reader" "fault" "I" ∈ wsX3_readItem := List.mem_of_getElem? (i := 3) (by decide +kernel)
theorem w4_X3_readItem : Cond.fieldLink RX3 21 "LabelApplicator$Reader" "items" "LLabelApplicator$Items;" ∈ wsX3_readItem := List.mem_of_getElem? (i := 4) (by decide +kernel)
theorem w5_X3_readItem : Cond.fieldLink RX3 35 "LabelApplicator$Reader" "tooMany" "Z" ∈ wsX3_readItem := List.mem_of_getElem? (i := 5) (by decide +kernel)
theorem w6_X3_readItem : Cond.methodLink RX3 55 yX7_byteAt ∈ wsX3_readItem := List.mem_of_getElem? (i := 6) (by decide +kernel)
theorem w9_X3_readItem : Cond.initialized RX7 ∈ wsX3_readItem := List.mem_of_getElem? (i := 9) (by decide +kernel)
theorem w13_X3_readItem : Cond.methodLink RX3 82 yX3_kindNamed ∈ wsX3_readItem := List.mem_of_getElem? (i := 13) (by decide +kernel)
theorem w15_X3_readItem : Cond.initialized RX3 ∈ wsX3_readItem := List.mem_of_getElem? (i := 15) (by decide +kernel)
theorem w17_X3_readItem : Cond.methodLink RX3 49 yX3_skipBlanks ∈ wsX3_readItem := List.mem_of_getElem? (i := 17) (by decide +kernel)
theorem w21_X3_readItem : Cond.fieldLink RX3 52 "LabelApplicator$Text" "length" "I" ∈ wsX3_readItem := List.mem_of_getElem? (i := 21) (by decide +kernel)
theorem w22_X3_readItem : Cond.methodLink RX3 79 yX3_readNumber ∈ wsX3_readItem := List.mem_of_getElem? (i := 22) (by decide +kernel)
theorem w26_X3_readItem : Cond.methodLink RX3 65 yX3_digitAt ∈ wsX3_readItem := List.mem_of_getElem? (i := 26) (by decide +kernel)
theorem w31_X3_readItem : Cond.initialized RX8 ∈ wsX3_readItem := List.mem_of_getElem? (i := 31) (by decide +kernel)
theorem w33_X3_readItem : Cond.methodLink RX3 85 yX1_size ∈ wsX3_readItem := List.mem_of_getElem? (i := 33) (by decide +kernel)
theorem w36_X3_readItem : Cond.initialized RX1 ∈ wsX3_readItem := List.mem_of_getElem? (i := 36) (by decide +kernel)
theorem w40_X3_readItem : Cond.methodLink RX3 88 yX1_append ∈ wsX3_readItem := List.mem_of_getElem? (i := 40) (by decide +kernel)
theorem w46_X3_readItem : Cond.methodLink RX3 92 yX3_repeat ∈ wsX3_readItem := List.mem_of_getElem? (i := 46) (by decide +kernel)
theorem w50_X3_readItem : Cond.methodLink RX3 96 yX1_kindOf ∈ wsX3_readItem := List.mem_of_getElem? (i := 50) (by decide +kernel)
theorem w54_X3_readItem : Cond.methodLink RX3 99 yX1_lengthOf ∈ wsX3_readItem := List.mem_of_getElem? (i := 54) (by decide +kernel)
theorem i1_X3_readItem : ∀ w ∈ wsX10, w ∈ wsX3_readItem := fun w h => (goodIn_r _ [68, 69, 70, 71] (by decide +kernel) (by decide +kernel) w h).1
theorem i3_X3_readItem : ∀ w ∈ wsX30, w ∈ wsX3_readItem := fun w h => (goodIn_r _ [58, 59, 60, 61, 62, 63, 64, 65] (by decide +kernel) (by decide +kernel) w h).1
theorem i7_X3_readItem : ∀ w ∈ wsX70, w ∈ wsX3_readItem := fun w h => (goodIn_r _ [66, 67] (by decide +kernel) (by decide +kernel) w h).1
set_option maxHeartbeats 4000000 in
set_option maxRecDepth 100000 in
theorem kX3_readItem (l : Launch) (E : ee_T) (o2 r2 o1 r5 r6 : Nat) (tm : Int32) (dp at9 : Nat) (r3 r4 en : Nat) (rk rl : Nat → Int32) (o7 tq : Nat) (tx : Nat → Int32) (t0 : Nat) (htq : tq ≤ 80) (hen : en ≤ 80) (hat : at9 < 2 ^ 19) (ht0 : 1 ≤ t0 ∧ t0 ≤ 99) : CQ l E yX3_readItem wsX3_readItem rmX3_readItem [.ref o2, .int (nI t0)] [(o2, ee_o 3 [.ref o1, .ref r2, .int tm, .int (-1), .ref r5, .ref r6, .int (nI dp), .int (nI at9)]), (r2, ee_o 1 [.ref r3, .ref r4, .int (nI 0), .int (nI en)]), (r3, ee_i E 80 rk), (r4, ee_i E 80 rl), (o1, ee_o 7 [.ref o7, .int (nI tq)]), (o7, ee_b E 80 tx)] (QV E (fun (u : Int32 × Int32 × Nat × Nat × (Nat → Int32) × (Nat → Int32)) => u.2.1 = itF (chA tq tx) at9 ∧ (itF (chA tq tx) at9 = (-1) → u.2.2.1 = nmE (chA tq tx) (skp (chA tq tx) (at9 + 1)) ∧ itC en t0 tm rk rl (kdS (chA tq tx at9)) (nI (nmV (chA tq tx) (skp (chA tq tx) (at9 + 1)))) u.1 u.2.2.2.1 u.2.2.2.2.1 u.2.2.2.2.2) ∧ u.2.2.2.1 ≤ 80 ∧ u.2.2.1 ≤ at9 + 84) (fun (u : Int32 × Int32 × Nat × Nat × (Nat → Int32) × (Nat → Int32)) => [(o2, ee_o 3 [.ref o1, .ref r2, .int u.1, .int u.2.1, .ref r5, .ref r6, .int (nI dp), .int (nI u.2.2.1)]), (r2, ee_o 1 [.ref r3, .ref r4, .int (nI 0), .int (nI u.2.2.2.1)]), (r3, ee_i E 80 u.2.2.2.2.1), (r4, ee_i E 80 u.2.2.2.2.2), (o1, ee_o 7 [.ref o7, .int (nI tq)]), (o7, ee_b E 80 tx)])) 0 0 := by
  refine CQ_ofW (cc := cX3_readItem) (maxL := 5) (ret := none) (by decide) rfl (Nat.le_of_ble_eq_true rfl) ?_
  intro p e s m below meth c A Q hQ hx hb hr hml hown hlocks hnm hts hV hA hP hD hS ls hl
  have hl : lv_has ls 5 [(0, .ref o2), (1, .int (nI t0))] := hl
  refine lv_aload_n hx hb dX3_readItem_0 rfl (lv_at hl 0 rfl) ?_
  refine va_get (ci := 3) (v := .ref o1) (C := RX3) (T := TX3) (N := 8) hx hb hts i3_X3_readItem hown hV.1 hP 0 rfl rfl 0 (by decide) (hts _ w1_X3_readItem) (fun _ h9 => h9) rfl dX3_readItem_1 ?_
  refine lv_aload_n hx hb dX3_readItem_4 rfl (lv_at hl 0 rfl) ?_
  refine va_get (ci := 3) (v := .int (nI at9)) (C := RX3) (T := TX3) (N := 8) hx hb hts i3_X3_readItem hown hV.1 hP 0 rfl rfl 7 (by decide) (hts _ w2_X3_readItem) (fun _ h9 => h9) rfl dX3_readItem_5 ?_
  refine ee_ki (wr := [(o2, ee_o 3 [.ref o1, .ref r2, .int tm, .int (-1), .ref r5, .ref r6, .int (nI dp), .int (nI at9)]), (r2, ee_o 1 [.ref r3, .ref r4, .int (nI 0), .int (nI en)]), (r3, ee_i E 80 rk), (r4, ee_i E 80 rl)]) (ee_rV (As := [.int (nI at9)]) (rest := []) (kX7_byteAt l E o1 o7 tq tx at9 (by omega) (by omega)) hx hb hml hown hts 1 gX3_readItem_X7_byteAt rfl rfl rfl (by decide +kernel) ⟨Nat.le_of_ble_eq_true rfl, Nat.le_of_ble_eq_true rfl⟩ hV hP hD hS hA [4, 5] rfl (by decide) hl 4 rfl rfl rfl rfl (Nat.le_of_ble_eq_true rfl) dX3_readItem_8 ⟨Nat.le_of_ble_eq_true rfl, Nat.le_of_ble_eq_true rfl⟩) hP hD hS hA [4, 5] [0, 1, 2, 3] rfl rfl (by decide) (by decide) (fun r_1 u_2 H locs hp_3 hP hD hS => ?_)
  subst hp_3
  have hP : va_P E.1 vwCl [(o2, ee_o 3 [.ref o1, .ref r2, .int tm, .int (-1), .ref r5, .ref r6, .int (nI dp), .int (nI at9)]), (r2, ee_o 1 [.ref r3, .ref r4, .int (nI 0), .int (nI en)]), (r3, ee_i E 80 rk), (r4, ee_i E 80 rl), (o1, ee_o 7 [.ref o7, .int (nI tq)]), (o7, ee_b E 80 tx)] H := hP
  have hD : va_D A [(o2, ee_o 3 [.ref o1, .ref r2, .int tm, .int (-1), .ref r5, .ref r6, .int (nI dp), .int (nI at9)]), (r2, ee_o 1 [.ref r3, .ref r4, .int (nI 0), .int (nI en)]), (r3, ee_i E 80 rk), (r4, ee_i E 80 rl), (o1, ee_o 7 [.ref o7, .int (nI tq)]), (o7, ee_b E 80 tx)] := hD
  refine ee_to (z := chA tq tx at9) (rfl) ?_
  refine ee_ki (wr := [(o2, ee_o 3 [.ref o1, .ref r2, .int tm, .int (-1), .ref r5, .ref r6, .int (nI dp), .int (nI at9)]), (r2, ee_o 1 [.ref r3, .ref r4, .int (nI 0), .int (nI en)]), (r3, ee_i E 80 rk), (r4, ee_i E 80 rl), (o1, ee_o 7 [.ref o7, .int (nI tq)]), (o7, ee_b E 80 tx)]) (ee_rS (As := [.int (chA tq tx at9)]) (rest := []) (kX3_kindNamed l E (chA tq tx at9)) hx hb hml hown hts 1 gX3_readItem_X3_kindNamed rfl rfl rfl (by decide +kernel) ⟨Nat.le_of_ble_eq_true rfl, Nat.le_of_ble_eq_true rfl⟩ hV hP hD hS hA [] rfl (by decide) hl rfl rfl (Nat.le_of_ble_eq_true rfl) dX3_readItem_11 ⟨Nat.le_of_ble_eq_true rfl, Nat.le_of_ble_eq_true rfl⟩) hP hD hS hA [] [0, 1, 2, 3, 4, 5] rfl rfl (by decide) (by decide) (fun r_4 u_5 H locs hp_6 hP hD hS => ?_)
  subst hp_6
  have hP : va_P E.1 vwCl [(o2, ee_o 3 [.ref o1, .ref r2, .int tm, .int (-1), .ref r5, .ref r6, .int (nI dp), .int (nI at9)]), (r2, ee_o 1 [.ref r3, .ref r4, .int (nI 0), .int (nI en)]), (r3, ee_i E 80 rk), (r4, ee_i E 80 rl), (o1, ee_o 7 [.ref o7, .int (nI tq)]), (o7, ee_b E 80 tx)] H := hP
  have hD : va_D A [(o2, ee_o 3 [.ref o1, .ref r2, .int tm, .int (-1), .ref r5, .ref r6, .int (nI dp), .int (nI at9)]), (r2, ee_o 1 [.ref r3, .ref r4, .int (nI 0), .int (nI en)]), (r3, ee_i E 80 rk), (r4, ee_i E 80 rl), (o1, ee_o 7 [.ref o7, .int (nI tq)]), (o7, ee_b E 80 tx)] := hD
  refine lv_istore_n (lv' := [(2, .int (kdS (chA tq tx at9))), (0, .ref o2), (1, .int (nI t0))]) hx hb dX3_readItem_14 rfl hl (by decide) rfl (fun ls hl => ?_)
  refine lv_iload_n hx hb dX3_readItem_15 rfl (lv_at hl 0 rfl) ?_
  refine lv_iconst (v := (-1)) hx hb dX3_readItem_16 (by decide) ?_
  refine lv_icmp_ne (tgt := 29) hx hb dX3_readItem_17 (by decide) (fun g17 => ?_) (fun g17 => ?_)
  · refine lv_aload_n hx hb dX3_readItem_29 rfl (lv_at hl 1 rfl) ?_
    refine lv_dup hx hb dX3_readItem_30 rfl ?_
    refine va_get (ci := 3) (v := .int (nI at9)) (C := RX3) (T := TX3) (N := 8) hx hb hts i3_X3_readItem hown hV.1 hP 0 rfl rfl 7 (by decide) (hts _ w2_X3_readItem) (fun _ h9 => h9) rfl dX3_readItem_31 ?_
    refine lv_iconst (v := nI 1) hx hb dX3_readItem_34 (by decide) ?_
    refine ee_iadd hx hb dX3_readItem_35 ?_
    refine va_put (ci := 3) (v := .int (nI (at9 + 1))) (ty := .int) (C := RX3) (T := TX3) (N := 8) hx hb hts i3_X3_readItem tyX3 tyX3_ok nmX3 hown hV.1 hP hD hS 0 rfl rfl 7 (by decide) (hts _ w2_X3_readItem) (fun _ h9 => h9) rfl (by decide +kernel) rfl rfl (Nat.le_of_ble_eq_true rfl) dX3_readItem_36 (fun H locs hP hD hS => ?_)
    have hP : va_P E.1 vwCl [(o2, ee_o 3 [.ref o1, .ref r2, .int tm, .int (-1), .ref r5, .ref r6, .int (nI dp), .int (nI (at9 + 1))]), (r2, ee_o 1 [.ref r3, .ref r4, .int (nI 0), .int (nI en)]), (r3, ee_i E 80 rk), (r4, ee_i E 80 rl), (o1, ee_o 7 [.ref o7, .int (nI tq)]), (o7, ee_b E 80 tx)] H := hP
    have hD : va_D A [(o2, ee_o 3 [.ref o1, .ref r2, .int tm, .int (-1), .ref r5, .ref r6, .int (nI dp), .int (nI (at9 + 1))]), (r2, ee_o 1 [.ref r3, .ref r4, .int (nI 0), .int (nI en)]), (r3, ee_i E 80 rk), (r4, ee_i E 80 rl), (o1, ee_o 7 [.ref o7, .int (nI tq)]), (o7, ee_b E 80 tx)] := hD
    refine lv_aload_n hx hb dX3_readItem_39 rfl (lv_at hl 1 rfl) ?_
    refine ee_kv (wr := [(r2, ee_o 1 [.ref r3, .ref r4, .int (nI 0), .int (nI en)]), (r3, ee_i E 80 rk), (r4, ee_i E 80 rl)]) (ee_rV (As := []) (rest := []) (kX3_skipBlanks l E o2 r2 o1 r5 r6 tm (-1) dp (at9 + 1) o7 tq tx (by omega) (by omega)) hx hb hml hown hts 0 gX3_readItem_X3_skipBlanks rfl rfl rfl (by decide +kernel) ⟨Nat.le_of_ble_eq_true rfl, Nat.le_of_ble_eq_true rfl⟩ hV hP hD hS hA [0, 4, 5] rfl (by decide) hl 0 rfl rfl rfl rfl (Nat.le_of_ble_eq_true rfl) dX3_readItem_40 ⟨Nat.le_of_ble_eq_true rfl, Nat.le_of_ble_eq_true rfl⟩) hP hD hS hA [0, 4, 5] [1, 2, 3] rfl rfl (by decide) (by decide) (fun u_8 H locs hp_9 hP hD hS => ?_)
    have hP : va_P E.1 vwCl [(r2, ee_o 1 [.ref r3, .ref r4, .int (nI 0), .int (nI en)]), (r3, ee_i E 80 rk), (r4, ee_i E 80 rl), (o2, ee_o 3 [.ref o1, .ref r2, .int tm, .int (-1), .ref r5, .ref r6, .int (nI dp), .int (nI (skp (chA tq tx) (at9 + 1)))]), (o1, ee_o 7 [.ref o7, .int (nI tq)]), (o7, ee_b E 80 tx)] H := hP
    have hD : va_D A [(r2, ee_o 1 [.ref r3, .ref r4, .int (nI 0), .int (nI en)]), (r3, ee_i E 80 rk), (r4, ee_i E 80 rl), (o2, ee_o 3 [.ref o1, .ref r2, .int tm, .int (-1), .ref r5, .ref r6, .int (nI dp), .int (nI (skp (chA tq tx) (at9 + 1)))]), (o1, ee_o 7 [.ref o7, .int (nI tq)]), (o7, ee_b E 80 tx)] := hD
    refine lv_aload_n hx hb dX3_readItem_43 rfl (lv_at hl 1 rfl) ?_
    have B_10 : ∀ (mx : Nat) (H : Heap) (locs : List Loc) (ls : Array Slot), (mx = kmx (kdS (chA tq tx at9))) → va_P E.1 vwCl [(r2, ee_o 1 [.ref r3, .ref r4, .int (nI 0), .int (nI en)]), (r3, ee_i E 80 rk), (r4, ee_i E 80 rl), (o2, ee_o 3 [.ref o1, .ref r2, .int tm, .int (-1), .ref r5, .ref r6, .int (nI dp), .int (nI (skp (chA tq tx) (at9 + 1)))]), (o1, ee_o 7 [.ref o7, .int (nI tq)]), (o7, ee_b E 80 tx)] H → va_D A [(r2, ee_o 1 [.ref r3, .ref r4, .int (nI 0), .int (nI en)]), (r3, ee_i E 80 rk), (r4, ee_i E 80 rl), (o2, ee_o 3 [.ref o1, .ref r2, .int tm, .int (-1), .ref r5, .ref r6, .int (nI dp), .int (nI (skp (chA tq tx) (at9 + 1)))]), (o1, ee_o 7 [.ref o7, .int (nI tq)]), (o7, ee_b E 80 tx)] → va_S A s.heap H locs → lv_has ls 5 [(2, .int (kdS (chA tq tx at9))), (0, .ref o2), (1, .int (nI t0))] → W p l e rmX3_readItem s m [.ref o2, .int (nI t0)].toArray below meth c H locs 0 0 Q (F0 m 61 ls [.int (nI mx), .ref o2]) := by
      intro mx H locs ls hmxv hP hD hS hl
      have hs8 := skp_b (chA tq tx) (at9 + 1)
      have hk8 := kmx_b (kdS (chA tq tx at9))
      refine ee_ki (wr := [(r2, ee_o 1 [.ref r3, .ref r4, .int (nI 0), .int (nI en)]), (r3, ee_i E 80 rk), (r4, ee_i E 80 rl)]) (ee_rV (As := [.int (nI mx)]) (rest := []) (kX3_readNumber l E o2 r2 o1 r5 r6 tm dp (skp (chA tq tx) (at9 + 1)) o7 tq tx mx (by omega) (by omega) (by omega)) hx hb hml hown hts 1 gX3_readItem_X3_readNumber rfl rfl rfl (by decide +kernel) ⟨Nat.le_of_ble_eq_true rfl, Nat.le_of_ble_eq_true rfl⟩ hV hP hD hS hA [3, 4, 5] rfl (by decide) hl 3 rfl rfl rfl rfl (Nat.le_of_ble_eq_true rfl) dX3_readItem_61 ⟨Nat.le_of_ble_eq_true rfl, Nat.le_of_ble_eq_true rfl⟩) hP hD hS hA [3, 4, 5] [0, 1, 2] rfl rfl (by decide) (by decide) (fun r_11 u_12 H locs hp_13 hP hD hS => ?_)
      obtain ⟨at8, ft8⟩ := u_12
      try dsimp only at hp_13
      obtain ⟨rfl, hq8⟩ := hp_13
      have hP : va_P E.1 vwCl [(r2, ee_o 1 [.ref r3, .ref r4, .int (nI 0), .int (nI en)]), (r3, ee_i E 80 rk), (r4, ee_i E 80 rl), (o2, ee_o 3 [.ref o1, .ref r2, .int tm, .int ft8, .ref r5, .ref r6, .int (nI dp), .int (nI at8)]), (o1, ee_o 7 [.ref o7, .int (nI tq)]), (o7, ee_b E 80 tx)] H := hP
      have hD : va_D A [(r2, ee_o 1 [.ref r3, .ref r4, .int (nI 0), .int (nI en)]), (r3, ee_i E 80 rk), (r4, ee_i E 80 rl), (o2, ee_o 3 [.ref o1, .ref r2, .int tm, .int ft8, .ref r5, .ref r6, .int (nI dp), .int (nI at8)]), (o1, ee_o 7 [.ref o7, .int (nI tq)]), (o7, ee_b E 80 tx)] := hD
      obtain ⟨q1, q2⟩ := hq8
      have hn8 := nmE_b (chA tq tx) (skp (chA tq tx) (at9 + 1))
      have hF : ft8 = itF (chA tq tx) at9 := by rw [itF, if_neg g17, ← hmxv]; exact q2
      refine lv_istore_n (lv' := [(3, .int (nI (nmV (chA tq tx) (skp (chA tq tx) (at9 + 1))))), (2, .int (kdS (chA tq tx at9))), (0, .ref o2), (1, .int (nI t0))]) hx hb dX3_readItem_64 rfl hl (by decide) rfl (fun ls hl => ?_)
      refine lv_aload_n hx hb dX3_readItem_65 rfl (lv_at hl 2 rfl) ?_
      refine va_get (ci := 3) (v := .int ft8) (C := RX3) (T := TX3) (N := 8) hx hb hts i3_X3_readItem hown hV.1 hP 3 rfl rfl 3 (by decide) (hts _ w3_X3_readItem) (fun _ h9 => h9) rfl dX3_readItem_66 ?_
      refine lv_iconst (v := (-1)) hx hb dX3_readItem_69 (by decide) ?_
      refine lv_icmp_eq (tgt := 74) hx hb dX3_readItem_70 (by decide) (fun g70 => ?_) (fun g70 => ?_)
      · refine lv_aload_n hx hb dX3_readItem_74 rfl (lv_at hl 2 rfl) ?_
        refine va_get (ci := 3) (v := .ref r2) (C := RX3) (T := TX3) (N := 8) hx hb hts i3_X3_readItem hown hV.1 hP 3 rfl rfl 1 (by decide) (hts _ w4_X3_readItem) (fun _ h9 => h9) rfl dX3_readItem_75 ?_
        refine ee_ki (wr := [(r3, ee_i E 80 rk), (r4, ee_i E 80 rl), (o2, ee_o 3 [.ref o1, .ref r2, .int tm, .int ft8, .ref r5, .ref r6, .int (nI dp), .int (nI at8)]), (o1, ee_o 7 [.ref o7, .int (nI tq)]), (o7, ee_b E 80 tx)]) (ee_rV (As := []) (rest := []) (kX1_size l E r2 r3 r4 0 en (by omega)) hx hb hml hown hts 0 gX3_readItem_X1_size rfl rfl rfl (by decide +kernel) ⟨Nat.le_of_ble_eq_true rfl, Nat.le_of_ble_eq_true rfl⟩ hV hP hD hS hA [0] rfl (by decide) hl 0 rfl rfl rfl rfl (Nat.le_of_ble_eq_true rfl) dX3_readItem_78 ⟨Nat.le_of_ble_eq_true rfl, Nat.le_of_ble_eq_true rfl⟩) hP hD hS hA [0] [1, 2, 3, 4, 5] rfl rfl (by decide) (by decide) (fun r_15 u_16 H locs hp_17 hP hD hS => ?_)
        subst hp_17
        have hP : va_P E.1 vwCl [(r3, ee_i E 80 rk), (r4, ee_i E 80 rl), (o2, ee_o 3 [.ref o1, .ref r2, .int tm, .int ft8, .ref r5, .ref r6, .int (nI dp), .int (nI at8)]), (o1, ee_o 7 [.ref o7, .int (nI tq)]), (o7, ee_b E 80 tx), (r2, ee_o 1 [.ref r3, .ref r4, .int (nI 0), .int (nI en)])] H := hP
        have hD : va_D A [(r3, ee_i E 80 rk), (r4, ee_i E 80 rl), (o2, ee_o 3 [.ref o1, .ref r2, .int tm, .int ft8, .ref r5, .ref r6, .int (nI dp), .int (nI at8)]), (o1, ee_o 7 [.ref o7, .int (nI tq)]), (o7, ee_b E 80 tx), (r2, ee_o 1 [.ref r3, .ref r4, .int (nI 0), .int (nI en)])] := hD
        refine ee_to (z := nI en) (rfl) ?_
        refine lv_istore (lv' := [(4, .int (nI en)), (3, .int (nI (nmV (chA tq tx) (skp (chA tq tx) (at9 + 1))))), (2, .int (kdS (chA tq tx at9))), (0, .ref o2), (1, .int (nI t0))]) hx hb dX3_readItem_81 hl (by decide) rfl (fun ls hl => ?_)
        rcases (show en < 80 ∨ en = 80 by omega) with h80 | h80
        · refine lv_aload_n hx hb dX3_readItem_83 rfl (lv_at hl 3 rfl) ?_
          refine va_get (ci := 3) (v := .ref r2) (C := RX3) (T := TX3) (N := 8) hx hb hts i3_X3_readItem hown hV.1 hP 2 rfl rfl 1 (by decide) (hts _ w4_X3_readItem) (fun _ h9 => h9) rfl dX3_readItem_84 ?_
          refine lv_iload_n hx hb dX3_readItem_87 rfl (lv_at hl 2 rfl) ?_
          refine lv_iload_n hx hb dX3_readItem_88 rfl (lv_at hl 1 rfl) ?_
          refine ee_ki (wr := [(o2, ee_o 3 [.ref o1, .ref r2, .int tm, .int ft8, .ref r5, .ref r6, .int (nI dp), .int (nI at8)]), (o1, ee_o 7 [.ref o7, .int (nI tq)]), (o7, ee_b E 80 tx)]) (ee_rV (As := [.int (kdS (chA tq tx at9)), .int (nI (nmV (chA tq tx) (skp (chA tq tx) (at9 + 1))))]) (rest := []) (kX1_append l E r2 r3 r4 0 en rk rl (kdS (chA tq tx at9)) (nI (nmV (chA tq tx) (skp (chA tq tx) (at9 + 1)))) (by omega)) hx hb hml hown hts 2 gX3_readItem_X1_append rfl rfl rfl (by decide +kernel) ⟨Nat.le_of_ble_eq_true rfl, Nat.le_of_ble_eq_true rfl⟩ hV hP hD hS hA [5, 0, 1] rfl (by decide) hl 5 rfl rfl rfl rfl (Nat.le_of_ble_eq_true rfl) dX3_readItem_89 ⟨Nat.le_of_ble_eq_true rfl, Nat.le_of_ble_eq_true rfl⟩) hP hD hS hA [5, 0, 1] [2, 3, 4] rfl rfl (by decide) (by decide) (fun r_18 u_19 H locs hp_20 hP hD hS => ?_)
          subst hp_20
          have hP : va_P E.1 vwCl [(o2, ee_o 3 [.ref o1, .ref r2, .int tm, .int ft8, .ref r5, .ref r6, .int (nI dp), .int (nI at8)]), (o1, ee_o 7 [.ref o7, .int (nI tq)]), (o7, ee_b E 80 tx), (r2, ee_o 1 [.ref r3, .ref r4, .int (nI 0), .int (nI (en + 1))]), (r3, ee_i E 80 (upd rk en (kdS (chA tq tx at9)))), (r4, ee_i E 80 (upd rl en (nI (nmV (chA tq tx) (skp (chA tq tx) (at9 + 1))))))] H := hP
          have hD : va_D A [(o2, ee_o 3 [.ref o1, .ref r2, .int tm, .int ft8, .ref r5, .ref r6, .int (nI dp), .int (nI at8)]), (o1, ee_o 7 [.ref o7, .int (nI tq)]), (o7, ee_b E 80 tx), (r2, ee_o 1 [.ref r3, .ref r4, .int (nI 0), .int (nI (en + 1))]), (r3, ee_i E 80 (upd rk en (kdS (chA tq tx at9)))), (r4, ee_i E 80 (upd rl en (nI (nmV (chA tq tx) (skp (chA tq tx) (at9 + 1))))))] := hD
          refine ee_ne0 (tgt := 100) hx hb (by omega) dX3_readItem_92 (by decide) (fun h_21 => ?_) (fun h_21 => absurd h_21 (by decide))
          refine lv_aload_n hx hb dX3_readItem_100 rfl (lv_at hl 3 rfl) ?_
          refine lv_iload hx hb dX3_readItem_101 (lv_at hl 0 rfl) ?_
          refine lv_iload_n hx hb dX3_readItem_103 rfl (lv_at hl 4 rfl) ?_
          refine ee_kv (wr := [(o1, ee_o 7 [.ref o7, .int (nI tq)]), (o7, ee_b E 80 tx)]) (ee_rV (As := [.int (nI en), .int (nI t0)]) (rest := []) (kX3_repeat l E o2 r2 o1 r5 r6 tm ft8 dp at8 r3 r4 (en + 1) (upd rk en (kdS (chA tq tx at9))) (upd rl en (nI (nmV (chA tq tx) (skp (chA tq tx) (at9 + 1))))) en t0 (by omega) (by omega) ht0) hx hb hml hown hts 2 gX3_readItem_X3_repeat rfl rfl rfl (by decide +kernel) ⟨Nat.le_of_ble_eq_true rfl, Nat.le_of_ble_eq_true rfl⟩ hV hP hD hS hA [0, 3, 4, 5] rfl (by decide) hl 0 rfl rfl rfl rfl (Nat.le_of_ble_eq_true rfl) dX3_readItem_104 ⟨Nat.le_of_ble_eq_true rfl, Nat.le_of_ble_eq_true rfl⟩) hP hD hS hA [0, 3, 4, 5] [1, 2] rfl rfl (by decide) (by decide) (fun u_23 H locs hC hP hD hS => ?_)
          obtain ⟨tm9, en9, gk, gl⟩ := u_23
          try dsimp only at hC
          have hP : va_P E.1 vwCl [(o1, ee_o 7 [.ref o7, .int (nI tq)]), (o7, ee_b E 80 tx), (o2, ee_o 3 [.ref o1, .ref r2, .int tm9, .int ft8, .ref r5, .ref r6, .int (nI dp), .int (nI at8)]), (r2, ee_o 1 [.ref r3, .ref r4, .int (nI 0), .int (nI en9)]), (r3, ee_i E 80 gk), (r4, ee_i E 80 gl)] H := hP
          have hD : va_D A [(o1, ee_o 7 [.ref o7, .int (nI tq)]), (o7, ee_b E 80 tx), (o2, ee_o 3 [.ref o1, .ref r2, .int tm9, .int ft8, .ref r5, .ref r6, .int (nI dp), .int (nI at8)]), (r2, ee_o 1 [.ref r3, .ref r4, .int (nI 0), .int (nI en9)]), (r3, ee_i E 80 gk), (r4, ee_i E 80 gl)] := hD
          have hI : itC en t0 tm rk rl (kdS (chA tq tx at9)) (nI (nmV (chA tq tx) (skp (chA tq tx) (at9 + 1)))) tm9 en9 gk gl := Or.inl ⟨h80, hC⟩
          have hI9 := itC_b hI ht0.1
          exact ee_fv hQ hx hb hr hlocks hS (tm9, ft8, at8, en9, gk, gl) (⟨hF, fun _ => ⟨q1, hI⟩, hI9.1, by (try dsimp only); omega⟩) (hP.sub [2, 3, 4, 5, 0, 1] rfl) (hD.sub [2, 3, 4, 5, 0, 1] (by decide) rfl) dX3_readItem_107
        · subst h80
          refine lv_aload_n hx hb dX3_readItem_83 rfl (lv_at hl 3 rfl) ?_
          refine va_get (ci := 3) (v := .ref r2) (C := RX3) (T := TX3) (N := 8) hx hb hts i3_X3_readItem hown hV.1 hP 2 rfl rfl 1 (by decide) (hts _ w4_X3_readItem) (fun _ h9 => h9) rfl dX3_readItem_84 ?_
          refine lv_iload_n hx hb dX3_readItem_87 rfl (lv_at hl 2 rfl) ?_
          refine lv_iload_n hx hb dX3_readItem_88 rfl (lv_at hl 1 rfl) ?_
          refine ee_ki (wr := [(o2, ee_o 3 [.ref o1, .ref r2, .int tm, .int ft8, .ref r5, .ref r6, .int (nI dp), .int (nI at8)]), (o1, ee_o 7 [.ref o7, .int (nI tq)]), (o7, ee_b E 80 tx)]) (ee_rV (As := [.int (kdS (chA tq tx at9)), .int (nI (nmV (chA tq tx) (skp (chA tq tx) (at9 + 1))))]) (rest := []) (kX1_appendF l E r2 r3 r4 0 rk rl (kdS (chA tq tx at9)) (nI (nmV (chA tq tx) (skp (chA tq tx) (at9 + 1))))) hx hb hml hown hts 2 gX3_readItem_X1_append rfl rfl rfl (by decide +kernel) ⟨Nat.le_of_ble_eq_true rfl, Nat.le_of_ble_eq_true rfl⟩ hV hP hD hS hA [5, 0, 1] rfl (by decide) hl 5 rfl rfl rfl rfl (Nat.le_of_ble_eq_true rfl) dX3_readItem_89 ⟨Nat.le_of_ble_eq_true rfl, Nat.le_of_ble_eq_true rfl⟩) hP hD hS hA [5, 0, 1] [2, 3, 4] rfl rfl (by decide) (by decide) (fun r_24 u_25 H locs hp_26 hP hD hS => ?_)
          subst hp_26
          have hP : va_P E.1 vwCl [(o2, ee_o 3 [.ref o1, .ref r2, .int tm, .int ft8, .ref r5, .ref r6, .int (nI dp), .int (nI at8)]), (o1, ee_o 7 [.ref o7, .int (nI tq)]), (o7, ee_b E 80 tx), (r2, ee_o 1 [.ref r3, .ref r4, .int (nI 0), .int (nI 80)]), (r3, ee_i E 80 rk), (r4, ee_i E 80 rl)] H := hP
          have hD : va_D A [(o2, ee_o 3 [.ref o1, .ref r2, .int tm, .int ft8, .ref r5, .ref r6, .int (nI dp), .int (nI at8)]), (o1, ee_o 7 [.ref o7, .int (nI tq)]), (o7, ee_b E 80 tx), (r2, ee_o 1 [.ref r3, .ref r4, .int (nI 0), .int (nI 80)]), (r3, ee_i E 80 rk), (r4, ee_i E 80 rl)] := hD
          refine ee_ne0 (tgt := 100) hx hb (by omega) dX3_readItem_92 (by decide) (fun h_27 => absurd h_27 (by decide)) (fun h_27 => ?_)
          refine lv_aload_n hx hb dX3_readItem_95 rfl (lv_at hl 3 rfl) ?_
          refine lv_iconst (v := nI 1) hx hb dX3_readItem_96 (by decide) ?_
          refine va_put (ci := 3) (v := .int (nI 1)) (ty := .boolean) (C := RX3) (T := TX3) (N := 8) hx hb hts i3_X3_readItem tyX3 tyX3_ok nmX3 hown hV.1 hP hD hS 0 rfl rfl 2 (by decide) (hts _ w5_X3_readItem) (fun _ h9 => h9) rfl (by decide +kernel) (by decide) rfl (Nat.le_of_ble_eq_true rfl) dX3_readItem_97 (fun H locs hP hD hS => ?_)
          have hP : va_P E.1 vwCl [(o2, ee_o 3 [.ref o1, .ref r2, .int (nI 1), .int ft8, .ref r5, .ref r6, .int (nI dp), .int (nI at8)]), (o1, ee_o 7 [.ref o7, .int (nI tq)]), (o7, ee_b E 80 tx), (r2, ee_o 1 [.ref r3, .ref r4, .int (nI 0), .int (nI 80)]), (r3, ee_i E 80 rk), (r4, ee_i E 80 rl)] H := hP
          have hD : va_D A [(o2, ee_o 3 [.ref o1, .ref r2, .int (nI 1), .int ft8, .ref r5, .ref r6, .int (nI dp), .int (nI at8)]), (o1, ee_o 7 [.ref o7, .int (nI tq)]), (o7, ee_b E 80 tx), (r2, ee_o 1 [.ref r3, .ref r4, .int (nI 0), .int (nI 80)]), (r3, ee_i E 80 rk), (r4, ee_i E 80 rl)] := hD
          refine lv_aload_n hx hb dX3_readItem_100 rfl (lv_at hl 3 rfl) ?_
          refine lv_iload hx hb dX3_readItem_101 (lv_at hl 0 rfl) ?_
          refine lv_iload_n hx hb dX3_readItem_103 rfl (lv_at hl 4 rfl) ?_
          refine ee_kv (wr := [(o1, ee_o 7 [.ref o7, .int (nI tq)]), (o7, ee_b E 80 tx)]) (ee_rV (As := [.int (nI 80), .int (nI t0)]) (rest := []) (kX3_repeat l E o2 r2 o1 r5 r6 (nI 1) ft8 dp at8 r3 r4 80 rk rl 80 t0 (by omega) (by omega) ht0) hx hb hml hown hts 2 gX3_readItem_X3_repeat rfl rfl rfl (by decide +kernel) ⟨Nat.le_of_ble_eq_true rfl, Nat.le_of_ble_eq_true rfl⟩ hV hP hD hS hA [0, 3, 4, 5] rfl (by decide) hl 0 rfl rfl rfl rfl (Nat.le_of_ble_eq_true rfl) dX3_readItem_104 ⟨Nat.le_of_ble_eq_true rfl, Nat.le_of_ble_eq_true rfl⟩) hP hD hS hA [0, 3, 4, 5] [1, 2] rfl rfl (by decide) (by decide) (fun u_29 H locs hC hP hD hS => ?_)
          obtain ⟨tm9, en9, gk, gl⟩ := u_29
          try dsimp only at hC
          have hP : va_P E.1 vwCl [(o1, ee_o 7 [.ref o7, .int (nI tq)]), (o7, ee_b E 80 tx), (o2, ee_o 3 [.ref o1, .ref r2, .int tm9, .int ft8, .ref r5, .ref r6, .int (nI dp), .int (nI at8)]), (r2, ee_o 1 [.ref r3, .ref r4, .int (nI 0), .int (nI en9)]), (r3, ee_i E 80 gk), (r4, ee_i E 80 gl)] H := hP
          have hD : va_D A [(o1, ee_o 7 [.ref o7, .int (nI tq)]), (o7, ee_b E 80 tx), (o2, ee_o 3 [.ref o1, .ref r2, .int tm9, .int ft8, .ref r5, .ref r6, .int (nI dp), .int (nI at8)]), (r2, ee_o 1 [.ref r3, .ref r4, .int (nI 0), .int (nI en9)]), (r3, ee_i E 80 gk), (r4, ee_i E 80 gl)] := hD
          have hI : itC 80 t0 tm rk rl (kdS (chA tq tx at9)) (nI (nmV (chA tq tx) (skp (chA tq tx) (at9 + 1)))) tm9 en9 gk gl := Or.inr ⟨rfl, hC⟩
          have hI9 := itC_b hI ht0.1
          exact ee_fv hQ hx hb hr hlocks hS (tm9, ft8, at8, en9, gk, gl) (⟨hF, fun _ => ⟨q1, hI⟩, hI9.1, by (try dsimp only); omega⟩) (hP.sub [2, 3, 4, 5, 0, 1] rfl) (hD.sub [2, 3, 4, 5, 0, 1] (by decide) rfl) dX3_readItem_107
      · exact ee_fv hQ hx hb hr hlocks hS (tm, ft8, at8, en, rk, rl) (⟨hF, fun q => absurd (hF.trans q) g70, by (try dsimp only); omega, by (try dsimp only); omega⟩) (hP.sub [3, 0, 1, 2, 4, 5] rfl) (hD.sub [3, 0, 1, 2, 4, 5] (by decide) rfl) dX3_readItem_73
    refine lv_iload_n hx hb dX3_readItem_44 rfl (lv_at hl 0 rfl) ?_
    refine lv_iconst (v := nI 1) hx hb dX3_readItem_45 (by decide) ?_
    refine lv_icmp_eq (tgt := 54) hx hb dX3_readItem_46 (by decide) (fun g46 => ?_) (fun g46 => ?_)
    · refine lv_bipush (v := nI 30) hx hb dX3_readItem_54 (by decide) ?_
      refine lv_goto (tgt := 61) hx hb dX3_readItem_56 (by decide) ?_
      exact B_10 30 _ _ _ (by rw [kmx, if_pos (Or.inl g46)]) hP hD hS (lv_sub hl [0, 1, 2] rfl)
    · refine lv_iload_n hx hb dX3_readItem_49 rfl (lv_at hl 0 rfl) ?_
      refine lv_iconst (v := nI 3) hx hb dX3_readItem_50 (by decide) ?_
      refine lv_icmp_ne (tgt := 59) hx hb dX3_readItem_51 (by decide) (fun g51 => ?_) (fun g51 => ?_)
      · refine lv_bipush (v := nI 99) hx hb dX3_readItem_59 (by decide) ?_
        exact B_10 99 _ _ _ (by rw [kmx, if_neg (fun q => q.elim g46 g51)]) hP hD hS (lv_sub hl [0, 1, 2] rfl)
      · refine lv_bipush (v := nI 30) hx hb dX3_readItem_54 (by decide) ?_
        refine lv_goto (tgt := 61) hx hb dX3_readItem_56 (by decide) ?_
        exact B_10 30 _ _ _ (by rw [kmx, if_pos (Or.inr g51)]) hP hD hS (lv_sub hl [0, 1, 2] rfl)
  · refine lv_aload_n hx hb dX3_readItem_20 rfl (lv_at hl 1 rfl) ?_
    refine lv_aload_n hx hb dX3_readItem_21 rfl (lv_at hl 1 rfl) ?_
    refine va_get (ci := 3) (v := .int (nI at9)) (C := RX3) (T := TX3) (N := 8) hx hb hts i3_X3_readItem hown hV.1 hP 0 rfl rfl 7 (by decide) (hts _ w2_X3_readItem) (fun _ h9 => h9) rfl dX3_readItem_22 ?_
    refine va_put (ci := 3) (v := .int (nI at9)) (ty := .int) (C := RX3) (T := TX3) (N := 8) hx hb hts i3_X3_readItem tyX3 tyX3_ok nmX3 hown hV.1 hP hD hS 0 rfl rfl 3 (by decide) (hts _ w3_X3_readItem) (fun _ h9 => h9) rfl (by decide +kernel) rfl rfl (Nat.le_of_ble_eq_true rfl) dX3_readItem_25 (fun H locs hP hD hS => ?_)
    have hP : va_P E.1 vwCl [(o2, ee_o 3 [.ref o1, .ref r2, .int tm, .int (nI at9), .ref r5, .ref r6, .int (nI dp), .int (nI at9)]), (r2, ee_o 1 [.ref r3, .ref r4, .int (nI 0), .int (nI en)]), (r3, ee_i E 80 rk), (r4, ee_i E 80 rl), (o1, ee_o 7 [.ref o7, .int (nI tq)]), (o7, ee_b E 80 tx)] H := hP
    have hD : va_D A [(o2, ee_o 3 [.ref o1, .ref r2, .int tm, .int (nI at9), .ref r5, .ref r6, .int (nI dp), .int (nI at9)]), (r2, ee_o 1 [.ref r3, .ref r4, .int (nI 0), .int (nI en)]), (r3, ee_i E 80 rk), (r4, ee_i E 80 rl), (o1, ee_o 7 [.ref o7, .int (nI tq)]), (o7, ee_b E 80 tx)] := hD
    exact ee_fv hQ hx hb hr hlocks hS (tm, nI at9, at9, en, rk, rl) (⟨by rw [itF, if_pos g17], fun q => absurd ((by rw [itF, if_pos g17] : itF (chA tq tx) at9 = nI at9).symm.trans q) (nI_m1 (by omega)), by (try dsimp only); omega, by (try dsimp only); omega⟩) hP hD dX3_readItem_28
