/-! the model reads: repeats -/
abbrev rmX9_repeats : Room := ({ frames := 0, cells := 0, slots := 0, locals := 0 } : Room)
theorem w1_X9_repeats : Cond.fieldLink RX9 68 "LabelApplicatorModel" "items" "I" ∈ wsX9_repeats := List.mem_of_getElem? (i := 1) (by decide +kernel)
theorem w2_X9_repeats : Cond.fieldLink RX9 31 "LabelApplicatorModel" "kind" "[I" ∈ wsX9_repeats := List.mem_of_getElem? (i := 2) (by decide +kernel)
theorem w3_X9_repeats : Cond.fieldLink RX9 34 "LabelApplicatorModel" "length" "[I" ∈ wsX9_repeats := List.mem_of_getElem? (i := 3) (by decide +kernel)
theorem i9_X9_repeats : ∀ w ∈ wsX90, w ∈ wsX9_repeats := fun w h => (goodIn_r _ [4, 5, 6, 7, 8, 9, 10, 11, 12, 13, 14, 15, 16, 17, 18, 19, 20, 21, 22, 23, 24, 25, 26, 27] (by decide +kernel) (by decide +kernel) w h).1
set_option maxHeartbeats 4000000 in
set_option maxRecDepth 100000 in
theorem kX9_repeats (l : Launch) (E : ee_T) (w0 w1 w2 w3 w4 w5 w6 w7 w8 w9 : Nat) (pt pa p1 p2 : UInt32) (tl ta fa dp tv tn tb th te : Int32) (hh : Int64) (n0 : Nat) (kk ll : Nat → Int32) (f0 t0 : Nat) (hf : f0 < n0) (hn0 : n0 ≤ 81) (ht0 : 1 ≤ t0 ∧ t0 ≤ 99) : CQ l E yX9_repeats wsX9_repeats rmX9_repeats [.ref w0, .int (nI f0), .int (nI t0)] [(w0, ee_o 9 [.ref w1, .ref w2, .ref w3, .ref w4, .float pt, .float pa, .float p1, .float p2, .ref w5, .int tl, .int ta, .int fa, .ref w6, .ref w7, .int (nI n0), .ref w8, .ref w9, .int dp, .int tv, .int tn, .int tb, .int th, .int te, .long hh]), (w6, ee_i E 81 kk), (w7, ee_i E 81 ll)] (QV E (fun (u : (Nat → Int32) × (Nat → Int32)) => rpI f0 (n0 - f0) (rpN f0 (n0 - f0) t0) kk u.1 ∧ rpI f0 (n0 - f0) (rpN f0 (n0 - f0) t0) ll u.2) (fun (u : (Nat → Int32) × (Nat → Int32)) => [(w0, ee_o 9 [.ref w1, .ref w2, .ref w3, .ref w4, .float pt, .float pa, .float p1, .float p2, .ref w5, .int tl, .int ta, .int fa, .ref w6, .ref w7, .int (nI (rpN f0 (n0 - f0) t0)), .ref w8, .ref w9, .int dp, .int tv, .int tn, .int tb, .int th, .int te, .long hh]), (w6, ee_i E 81 u.1), (w7, ee_i E 81 u.2)])) 0 0 := by
  refine CQ_ofW (cc := cX9_repeats) (maxL := 5) (ret := none) (by decide) rfl (Nat.le_of_ble_eq_true rfl) ?_
  intro p e s m below meth c A Q hQ hx hb hr hml hown hlocks hnm hts hV hA hP hD hS ls hl
  have hl : lv_has ls 5 [(0, .ref w0), (1, .int (nI f0)), (2, .int (nI t0))] := hl
  obtain ⟨cn, hc⟩ : ∃ cn, n0 = f0 + cn := ⟨n0 - f0, by omega⟩
  subst hc
  have hc0 : 0 < cn := by omega
  obtain ⟨T, hT⟩ : ∃ T, T = cn * t0 := ⟨_, rfl⟩
  have hT1 : cn ≤ T := by rw [hT]; exact Nat.le_mul_of_pos_right cn (by omega)
  have hT2 : T ≤ cn * 99 := by rw [hT]; exact Nat.mul_le_mul_left cn ht0.2
  refine lv_aload_n hx hb dX9_repeats_0 rfl (lv_at hl 0 rfl) ?_
  refine va_get (ci := 9) (v := .int (nI (f0 + cn))) (C := RX9) (T := TX9) (N := 24) hx hb hts i9_X9_repeats hown hV.1 hP 0 rfl rfl 14 (by decide) (hts _ w1_X9_repeats) (fun _ h9 => h9) rfl dX9_repeats_1 ?_
  refine lv_iload_n hx hb dX9_repeats_4 rfl (lv_at hl 1 rfl) ?_
  refine ee_isub hx hb (by omega) dX9_repeats_5 ?_
  refine ee_to (z := nI cn) (congrArg nI (by omega)) ?_
  refine lv_istore_n (lv' := [(3, .int (nI cn)), (0, .ref w0), (1, .int (nI f0)), (2, .int (nI t0))]) hx hb dX9_repeats_6 rfl hl (by decide) rfl (fun ls hl => ?_)
  refine lv_iload_n hx hb dX9_repeats_7 rfl (lv_at hl 0 rfl) ?_
  refine lv_istore (lv' := [(4, .int (nI cn)), (3, .int (nI cn)), (0, .ref w0), (1, .int (nI f0)), (2, .int (nI t0))]) hx hb dX9_repeats_8 hl (by decide) rfl (fun ls hl => ?_)
  have B_1 : ∀ (zz : Nat) (i : Nat) (gk gl : Nat → Int32) (H : Heap) (locs : List Loc) (ls : Array Slot), (T - i) < zz → (cn ≤ i) → (i ≤ T) → (f0 + i ≤ 81) → (rpI f0 cn (f0 + i) kk gk) → (rpI f0 cn (f0 + i) ll gl) → va_P E.1 vwCl [(w0, ee_o 9 [.ref w1, .ref w2, .ref w3, .ref w4, .float pt, .float pa, .float p1, .float p2, .ref w5, .int tl, .int ta, .int fa, .ref w6, .ref w7, .int (nI (f0 + i)), .ref w8, .ref w9, .int dp, .int tv, .int tn, .int tb, .int th, .int te, .long hh]), (w6, ee_i E 81 gk), (w7, ee_i E 81 gl)] H → va_D A [(w0, ee_o 9 [.ref w1, .ref w2, .ref w3, .ref w4, .float pt, .float pa, .float p1, .float p2, .ref w5, .int tl, .int ta, .int fa, .ref w6, .ref w7, .int (nI (f0 + i)), .ref w8, .ref w9, .int dp, .int tv, .int tn, .int tb, .int th, .int te, .long hh]), (w6, ee_i E 81 gk), (w7, ee_i E 81 gl)] → va_S A s.heap H locs → lv_has ls 5 [(4, .int (nI i)), (3, .int (nI cn)), (0, .ref w0), (1, .int (nI f0)), (2, .int (nI t0))] → W p l e rmX9_repeats s m [.ref w0, .int (nI f0), .int (nI t0)].toArray below meth c H locs 0 0 Q (F0 m 10 ls []) := by
    intro zz
    induction zz with
    | zero => intro i gk gl H locs ls hzz; exact absurd hzz (Nat.not_lt_zero _)
    | succ zz ihB_1 =>
      intro i gk gl H locs ls hzz hi1 hi2 hi3 q1 q2 hP hD hS hl
      refine lv_iload hx hb dX9_repeats_10 (lv_at hl 0 rfl) ?_
      refine lv_iload_n hx hb dX9_repeats_12 rfl (lv_at hl 1 rfl) ?_
      refine lv_iload_n hx hb dX9_repeats_13 rfl (lv_at hl 4 rfl) ?_
      refine ee_imul hx hb dX9_repeats_14 ?_
      refine ee_to (z := nI T) (by rw [hT]) ?_
      refine ee_ge (tgt := 83) hx hb (by omega) (by omega) dX9_repeats_15 (by decide) (fun g15 => ?_) (fun g15 => ?_)
      · have hN : f0 + i = rpN f0 (f0 + cn - f0) t0 := by rw [show f0 + cn - f0 = cn by omega, rpN, ← hT]; split <;> omega
        rw [hN] at q1 q2 hP hD
        have hce : f0 + cn - f0 = cn := by omega
        exact ee_fv hQ hx hb hr hlocks hS (gk, gl) (by rw [hce] at q1 q2 ⊢; exact ⟨q1, q2⟩) hP hD dX9_repeats_83
      · refine lv_aload_n hx hb dX9_repeats_18 rfl (lv_at hl 2 rfl) ?_
        refine va_get (ci := 9) (v := .int (nI (f0 + i))) (C := RX9) (T := TX9) (N := 24) hx hb hts i9_X9_repeats hown hV.1 hP 0 rfl rfl 14 (by decide) (hts _ w1_X9_repeats) (fun _ h9 => h9) rfl dX9_repeats_19 ?_
        refine lv_bipush (v := nI 81) hx hb dX9_repeats_22 (by decide) ?_
        refine ee_ge (tgt := 83) hx hb (by omega) (by omega) dX9_repeats_24 (by decide) (fun g24 => ?_) (fun g24 => ?_)
        · have hN : f0 + i = rpN f0 (f0 + cn - f0) t0 := by rw [show f0 + cn - f0 = cn by omega, rpN, ← hT]; split <;> omega
          rw [hN] at q1 q2 hP hD
          have hce : f0 + cn - f0 = cn := by omega
          exact ee_fv hQ hx hb hr hlocks hS (gk, gl) (by rw [hce] at q1 q2 ⊢; exact ⟨q1, q2⟩) hP hD dX9_repeats_83
        · refine lv_aload_n hx hb dX9_repeats_27 rfl (lv_at hl 2 rfl) ?_
          refine va_get (ci := 9) (v := .ref w6) (C := RX9) (T := TX9) (N := 24) hx hb hts i9_X9_repeats hown hV.1 hP 0 rfl rfl 12 (by decide) (hts _ w2_X9_repeats) (fun _ h9 => h9) rfl dX9_repeats_28 ?_
          refine lv_aload_n hx hb dX9_repeats_31 rfl (lv_at hl 2 rfl) ?_
          refine va_get (ci := 9) (v := .int (nI (f0 + i))) (C := RX9) (T := TX9) (N := 24) hx hb hts i9_X9_repeats hown hV.1 hP 0 rfl rfl 14 (by decide) (hts _ w1_X9_repeats) (fun _ h9 => h9) rfl dX9_repeats_32 ?_
          refine lv_aload_n hx hb dX9_repeats_35 rfl (lv_at hl 2 rfl) ?_
          refine va_get (ci := 9) (v := .ref w6) (C := RX9) (T := TX9) (N := 24) hx hb hts i9_X9_repeats hown hV.1 hP 0 rfl rfl 12 (by decide) (hts _ w2_X9_repeats) (fun _ h9 => h9) rfl dX9_repeats_36 ?_
          refine lv_aload_n hx hb dX9_repeats_39 rfl (lv_at hl 2 rfl) ?_
          refine va_get (ci := 9) (v := .int (nI (f0 + i))) (C := RX9) (T := TX9) (N := 24) hx hb hts i9_X9_repeats hown hV.1 hP 0 rfl rfl 14 (by decide) (hts _ w1_X9_repeats) (fun _ h9 => h9) rfl dX9_repeats_40 ?_
          refine lv_iload_n hx hb dX9_repeats_43 rfl (lv_at hl 1 rfl) ?_
          refine ee_isub hx hb (by omega) dX9_repeats_44 ?_
          refine ee_ild hx hb hV hP 1 rfl (j := (f0 + i - cn)) (by omega) (by decide) dX9_repeats_45 ?_
          refine ee_ist hx hb hV hP hD hS 1 rfl (j := (f0 + i)) (by omega) (by decide) dX9_repeats_46 (fun H locs hP hD hS => ?_)
          have hP : va_P E.1 vwCl [(w0, ee_o 9 [.ref w1, .ref w2, .ref w3, .ref w4, .float pt, .float pa, .float p1, .float p2, .ref w5, .int tl, .int ta, .int fa, .ref w6, .ref w7, .int (nI (f0 + i)), .ref w8, .ref w9, .int dp, .int tv, .int tn, .int tb, .int th, .int te, .long hh]), (w6, ee_i E 81 (upd gk (f0 + i) (gk (f0 + i - cn)))), (w7, ee_i E 81 gl)] H := hP
          have hD : va_D A [(w0, ee_o 9 [.ref w1, .ref w2, .ref w3, .ref w4, .float pt, .float pa, .float p1, .float p2, .ref w5, .int tl, .int ta, .int fa, .ref w6, .ref w7, .int (nI (f0 + i)), .ref w8, .ref w9, .int dp, .int tv, .int tn, .int tb, .int th, .int te, .long hh]), (w6, ee_i E 81 (upd gk (f0 + i) (gk (f0 + i - cn)))), (w7, ee_i E 81 gl)] := hD
          refine lv_aload_n hx hb dX9_repeats_47 rfl (lv_at hl 2 rfl) ?_
          refine va_get (ci := 9) (v := .ref w7) (C := RX9) (T := TX9) (N := 24) hx hb hts i9_X9_repeats hown hV.1 hP 0 rfl rfl 13 (by decide) (hts _ w3_X9_repeats) (fun _ h9 => h9) rfl dX9_repeats_48 ?_
          refine lv_aload_n hx hb dX9_repeats_51 rfl (lv_at hl 2 rfl) ?_
          refine va_get (ci := 9) (v := .int (nI (f0 + i))) (C := RX9) (T := TX9) (N := 24) hx hb hts i9_X9_repeats hown hV.1 hP 0 rfl rfl 14 (by decide) (hts _ w1_X9_repeats) (fun _ h9 => h9) rfl dX9_repeats_52 ?_
          refine lv_aload_n hx hb dX9_repeats_55 rfl (lv_at hl 2 rfl) ?_
          refine va_get (ci := 9) (v := .ref w7) (C := RX9) (T := TX9) (N := 24) hx hb hts i9_X9_repeats hown hV.1 hP 0 rfl rfl 13 (by decide) (hts _ w3_X9_repeats) (fun _ h9 => h9) rfl dX9_repeats_56 ?_
          refine lv_aload_n hx hb dX9_repeats_59 rfl (lv_at hl 2 rfl) ?_
          refine va_get (ci := 9) (v := .int (nI (f0 + i))) (C := RX9) (T := TX9) (N := 24) hx hb hts i9_X9_repeats hown hV.1 hP 0 rfl rfl 14 (by decide) (hts _ w1_X9_repeats) (fun _ h9 => h9) rfl dX9_repeats_60 ?_
          refine lv_iload_n hx hb dX9_repeats_63 rfl (lv_at hl 1 rfl) ?_
          refine ee_isub hx hb (by omega) dX9_repeats_64 ?_
          refine ee_ild hx hb hV hP 2 rfl (j := (f0 + i - cn)) (by omega) (by decide) dX9_repeats_65 ?_
          refine ee_ist hx hb hV hP hD hS 2 rfl (j := (f0 + i)) (by omega) (by decide) dX9_repeats_66 (fun H locs hP hD hS => ?_)
          have hP : va_P E.1 vwCl [(w0, ee_o 9 [.ref w1, .ref w2, .ref w3, .ref w4, .float pt, .float pa, .float p1, .float p2, .ref w5, .int tl, .int ta, .int fa, .ref w6, .ref w7, .int (nI (f0 + i)), .ref w8, .ref w9, .int dp, .int tv, .int tn, .int tb, .int th, .int te, .long hh]), (w6, ee_i E 81 (upd gk (f0 + i) (gk (f0 + i - cn)))), (w7, ee_i E 81 (upd gl (f0 + i) (gl (f0 + i - cn))))] H := hP
          have hD : va_D A [(w0, ee_o 9 [.ref w1, .ref w2, .ref w3, .ref w4, .float pt, .float pa, .float p1, .float p2, .ref w5, .int tl, .int ta, .int fa, .ref w6, .ref w7, .int (nI (f0 + i)), .ref w8, .ref w9, .int dp, .int tv, .int tn, .int tb, .int th, .int te, .long hh]), (w6, ee_i E 81 (upd gk (f0 + i) (gk (f0 + i - cn)))), (w7, ee_i E 81 (upd gl (f0 + i) (gl (f0 + i - cn))))] := hD
          refine lv_aload_n hx hb dX9_repeats_67 rfl (lv_at hl 2 rfl) ?_
          refine lv_dup hx hb dX9_repeats_68 rfl ?_
          refine va_get (ci := 9) (v := .int (nI (f0 + i))) (C := RX9) (T := TX9) (N := 24) hx hb hts i9_X9_repeats hown hV.1 hP 0 rfl rfl 14 (by decide) (hts _ w1_X9_repeats) (fun _ h9 => h9) rfl dX9_repeats_69 ?_
          refine lv_iconst (v := nI 1) hx hb dX9_repeats_72 (by decide) ?_
          refine ee_iadd hx hb dX9_repeats_73 ?_
          refine va_put (ci := 9) (v := .int (nI (f0 + i + 1))) (ty := .int) (C := RX9) (T := TX9) (N := 24) hx hb hts i9_X9_repeats tyX9 tyX9_ok nmX9 hown hV.1 hP hD hS 0 rfl rfl 14 (by decide) (hts _ w1_X9_repeats) (fun _ h9 => h9) rfl (by decide +kernel) rfl rfl (Nat.le_of_ble_eq_true rfl) dX9_repeats_74 (fun H locs hP hD hS => ?_)
          have hP : va_P E.1 vwCl [(w0, ee_o 9 [.ref w1, .ref w2, .ref w3, .ref w4, .float pt, .float pa, .float p1, .float p2, .ref w5, .int tl, .int ta, .int fa, .ref w6, .ref w7, .int (nI (f0 + i + 1)), .ref w8, .ref w9, .int dp, .int tv, .int tn, .int tb, .int th, .int te, .long hh]), (w6, ee_i E 81 (upd gk (f0 + i) (gk (f0 + i - cn)))), (w7, ee_i E 81 (upd gl (f0 + i) (gl (f0 + i - cn))))] H := hP
          have hD : va_D A [(w0, ee_o 9 [.ref w1, .ref w2, .ref w3, .ref w4, .float pt, .float pa, .float p1, .float p2, .ref w5, .int tl, .int ta, .int fa, .ref w6, .ref w7, .int (nI (f0 + i + 1)), .ref w8, .ref w9, .int dp, .int tv, .int tn, .int tb, .int th, .int te, .long hh]), (w6, ee_i E 81 (upd gk (f0 + i) (gk (f0 + i - cn)))), (w7, ee_i E 81 (upd gl (f0 + i) (gl (f0 + i - cn))))] := hD
          refine lv_iinc (v := nI (i + 1)) (lv' := [(4, .int (nI (i + 1))), (3, .int (nI cn)), (0, .ref w0), (1, .int (nI f0)), (2, .int (nI t0))]) hx hb dX9_repeats_77 hl (k := 0) rfl (ee_inc _) (by decide) rfl (fun ls hl => ?_)
          refine lv_goto (tgt := 10) hx hb dX9_repeats_80 (by decide) ?_
          exact ihB_1 (i + 1) (upd gk (f0 + i) (gk (f0 + i - cn))) (upd gl (f0 + i) (gl (f0 + i - cn))) _ _ _ (by omega) (by omega) (by omega) (by omega) (rp_s (c := cn) (n := f0 + i) hc0 (Nat.add_le_add_left hi1 f0) q1) (rp_s (c := cn) (n := f0 + i) hc0 (Nat.add_le_add_left hi1 f0) q2) hP hD hS (lv_sub hl [0, 1, 2, 3, 4] rfl)
  exact B_1 ((T - cn) + 1) cn kk ll _ _ _ (Nat.lt_succ_self _) (by omega) (by omega) (by omega) (⟨fun _ _ => rfl, fun j h1 h2 => by omega⟩) (⟨fun _ _ => rfl, fun j h1 h2 => by omega⟩) hP hD hS (lv_sub hl [0, 1, 2, 3, 4] rfl)
