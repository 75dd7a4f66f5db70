/-! the model: feeding, reason -/
abbrev rmX9_feeds : Room := ({ frames := 0, cells := 0, slots := 0, locals := 0 } : Room)
theorem w1_X9_feeds : Cond.fieldLink RX9 116 "LabelApplicatorModel" "travel" "I" ∈ wsX9_feeds := List.mem_of_getElem? (i := 1) (by decide +kernel)
theorem w2_X9_feeds : Cond.fieldLink RX9 119 "LabelApplicatorModel" "taken" "I" ∈ wsX9_feeds := List.mem_of_getElem? (i := 2) (by decide +kernel)
theorem w3_X9_feeds : Cond.fieldLink RX9 122 "LabelApplicatorModel" "labels" "I" ∈ wsX9_feeds := List.mem_of_getElem? (i := 3) (by decide +kernel)
theorem w4_X9_feeds : Cond.fieldLink RX9 125 "LabelApplicatorModel" "hasSplice" "Z" ∈ wsX9_feeds := List.mem_of_getElem? (i := 4) (by decide +kernel)
theorem w5_X9_feeds : Cond.fieldLink RX9 129 "LabelApplicatorModel" "end" "I" ∈ wsX9_feeds := List.mem_of_getElem? (i := 5) (by decide +kernel)
theorem w6_X9_feeds : Cond.fieldLink RX9 7 "LabelApplicatorModel" "m" "[I" ∈ wsX9_feeds := List.mem_of_getElem? (i := 6) (by decide +kernel)
theorem w7_X9_feeds : Cond.fieldLink RX9 24 "LabelApplicatorModel" "pitch" "F" ∈ wsX9_feeds := List.mem_of_getElem? (i := 7) (by decide +kernel)
theorem i9_X9_feeds : ∀ w ∈ wsX90, w ∈ wsX9_feeds := fun w h => (goodIn_r _ [8, 9, 10, 11, 12, 13, 14, 15, 16, 17, 18, 19, 20, 21, 22, 23, 24, 25, 26, 27, 28, 29, 30, 31] (by decide +kernel) (by decide +kernel) w h).1
set_option maxHeartbeats 4000000 in
set_option maxRecDepth 100000 in
theorem kX9_feeds (l : Launch) (E : ee_T) (w0 w1 w2 w3 w4 w5 w6 w7 w8 w9 : Nat) (pt pa p1 p2 : UInt32) (tl ta fa it dp tv tn tb th te : Int32) (hh : Int64) (ar : Nat → Int32) (n tk tr lb sc ed hv9 : Nat) (h0n : ar 0 = nI n) (hn : n ≤ 80) (hln : ∀ i, i < n → lnOK (ar (81 + i))) (n0 : vf_n32 (FP.fsub pt (FP.i2f (ar 162)))) (hF : fdS (fun i => ar (1 + i)) (fun i => ar (81 + i)) (fun j => ar (161 + j)) pt n 0 0 0 0 = (tk, tr, lb, sc, ed)) (hhb : hv9 = if 0 < sc then 1 else 0) : CQ l E yX9_feeds wsX9_feeds rmX9_feeds [.ref w0] [(w0, ee_o 9 [.ref w1, .ref w2, .ref w3, .ref w4, .float pt, .float pa, .float p1, .float p2, .ref w5, .int tl, .int ta, .int fa, .ref w6, .ref w7, .int it, .ref w8, .ref w9, .int dp, .int tv, .int tn, .int tb, .int th, .int te, .long hh]), (w1, ee_i E 204 ar)] (QV E (fun (u : Nat → Int32) => u 0 = nI (n - tk) ∧ (∀ j, j < n - tk → u (1 + j) = ar (1 + j + tk) ∧ u (81 + j) = ar (81 + j + tk)) ∧ ∀ j, 161 ≤ j → u j = ar j) (fun (u : Nat → Int32) => [(w0, ee_o 9 [.ref w1, .ref w2, .ref w3, .ref w4, .float pt, .float pa, .float p1, .float p2, .ref w5, .int tl, .int ta, .int fa, .ref w6, .ref w7, .int it, .ref w8, .ref w9, .int dp, .int (nI tr), .int (nI tk), .int (nI lb), .int (nI hv9), .int (nI ed), .long hh]), (w1, ee_i E 204 u)])) 0 0 := by
  refine CQ_ofW (cc := cX9_feeds) (maxL := 4) (ret := none) (by decide) rfl (Nat.le_of_ble_eq_true rfl) ?_
  intro p e s m below meth c A Q hQ hx hb hr hml hown hlocks hnm hts hV hA hP hD hS ls hl
  have hl : lv_has ls 4 [(0, .ref w0)] := hl
  refine lv_aload_n hx hb dX9_feeds_0 rfl (lv_at hl 0 rfl) ?_
  refine lv_iconst (v := nI 0) hx hb dX9_feeds_1 (by decide) ?_
  refine va_put (ci := 9) (v := .int (nI 0)) (ty := .int) (C := RX9) (T := TX9) (N := 24) hx hb hts i9_X9_feeds tyX9 tyX9_ok nmX9 hown hV.1 hP hD hS 0 rfl rfl 18 (by decide) (hts _ w1_X9_feeds) (fun _ h9 => h9) rfl (by decide +kernel) rfl rfl (Nat.le_of_ble_eq_true rfl) dX9_feeds_2 (fun H locs hP hD hS => ?_)
  have hP : va_P E.1 vwCl [(w0, ee_o 9 [.ref w1, .ref w2, .ref w3, .ref w4, .float pt, .float pa, .float p1, .float p2, .ref w5, .int tl, .int ta, .int fa, .ref w6, .ref w7, .int it, .ref w8, .ref w9, .int dp, .int (nI 0), .int tn, .int tb, .int th, .int te, .long hh]), (w1, ee_i E 204 ar)] H := hP
  have hD : va_D A [(w0, ee_o 9 [.ref w1, .ref w2, .ref w3, .ref w4, .float pt, .float pa, .float p1, .float p2, .ref w5, .int tl, .int ta, .int fa, .ref w6, .ref w7, .int it, .ref w8, .ref w9, .int dp, .int (nI 0), .int tn, .int tb, .int th, .int te, .long hh]), (w1, ee_i E 204 ar)] := hD
  refine lv_aload_n hx hb dX9_feeds_5 rfl (lv_at hl 0 rfl) ?_
  refine lv_iconst (v := nI 0) hx hb dX9_feeds_6 (by decide) ?_
  refine va_put (ci := 9) (v := .int (nI 0)) (ty := .int) (C := RX9) (T := TX9) (N := 24) hx hb hts i9_X9_feeds tyX9 tyX9_ok nmX9 hown hV.1 hP hD hS 0 rfl rfl 19 (by decide) (hts _ w2_X9_feeds) (fun _ h9 => h9) rfl (by decide +kernel) rfl rfl (Nat.le_of_ble_eq_true rfl) dX9_feeds_7 (fun H locs hP hD hS => ?_)
  have hP : va_P E.1 vwCl [(w0, ee_o 9 [.ref w1, .ref w2, .ref w3, .ref w4, .float pt, .float pa, .float p1, .float p2, .ref w5, .int tl, .int ta, .int fa, .ref w6, .ref w7, .int it, .ref w8, .ref w9, .int dp, .int (nI 0), .int (nI 0), .int tb, .int th, .int te, .long hh]), (w1, ee_i E 204 ar)] H := hP
  have hD : va_D A [(w0, ee_o 9 [.ref w1, .ref w2, .ref w3, .ref w4, .float pt, .float pa, .float p1, .float p2, .ref w5, .int tl, .int ta, .int fa, .ref w6, .ref w7, .int it, .ref w8, .ref w9, .int dp, .int (nI 0), .int (nI 0), .int tb, .int th, .int te, .long hh]), (w1, ee_i E 204 ar)] := hD
  refine lv_aload_n hx hb dX9_feeds_10 rfl (lv_at hl 0 rfl) ?_
  refine lv_iconst (v := nI 0) hx hb dX9_feeds_11 (by decide) ?_
  refine va_put (ci := 9) (v := .int (nI 0)) (ty := .int) (C := RX9) (T := TX9) (N := 24) hx hb hts i9_X9_feeds tyX9 tyX9_ok nmX9 hown hV.1 hP hD hS 0 rfl rfl 20 (by decide) (hts _ w3_X9_feeds) (fun _ h9 => h9) rfl (by decide +kernel) rfl rfl (Nat.le_of_ble_eq_true rfl) dX9_feeds_12 (fun H locs hP hD hS => ?_)
  have hP : va_P E.1 vwCl [(w0, ee_o 9 [.ref w1, .ref w2, .ref w3, .ref w4, .float pt, .float pa, .float p1, .float p2, .ref w5, .int tl, .int ta, .int fa, .ref w6, .ref w7, .int it, .ref w8, .ref w9, .int dp, .int (nI 0), .int (nI 0), .int (nI 0), .int th, .int te, .long hh]), (w1, ee_i E 204 ar)] H := hP
  have hD : va_D A [(w0, ee_o 9 [.ref w1, .ref w2, .ref w3, .ref w4, .float pt, .float pa, .float p1, .float p2, .ref w5, .int tl, .int ta, .int fa, .ref w6, .ref w7, .int it, .ref w8, .ref w9, .int dp, .int (nI 0), .int (nI 0), .int (nI 0), .int th, .int te, .long hh]), (w1, ee_i E 204 ar)] := hD
  refine lv_aload_n hx hb dX9_feeds_15 rfl (lv_at hl 0 rfl) ?_
  refine lv_iconst (v := nI 0) hx hb dX9_feeds_16 (by decide) ?_
  refine va_put (ci := 9) (v := .int (nI 0)) (ty := .boolean) (C := RX9) (T := TX9) (N := 24) hx hb hts i9_X9_feeds tyX9 tyX9_ok nmX9 hown hV.1 hP hD hS 0 rfl rfl 21 (by decide) (hts _ w4_X9_feeds) (fun _ h9 => h9) rfl (by decide +kernel) (by decide) rfl (Nat.le_of_ble_eq_true rfl) dX9_feeds_17 (fun H locs hP hD hS => ?_)
  have hP : va_P E.1 vwCl [(w0, ee_o 9 [.ref w1, .ref w2, .ref w3, .ref w4, .float pt, .float pa, .float p1, .float p2, .ref w5, .int tl, .int ta, .int fa, .ref w6, .ref w7, .int it, .ref w8, .ref w9, .int dp, .int (nI 0), .int (nI 0), .int (nI 0), .int (nI 0), .int te, .long hh]), (w1, ee_i E 204 ar)] H := hP
  have hD : va_D A [(w0, ee_o 9 [.ref w1, .ref w2, .ref w3, .ref w4, .float pt, .float pa, .float p1, .float p2, .ref w5, .int tl, .int ta, .int fa, .ref w6, .ref w7, .int it, .ref w8, .ref w9, .int dp, .int (nI 0), .int (nI 0), .int (nI 0), .int (nI 0), .int te, .long hh]), (w1, ee_i E 204 ar)] := hD
  refine lv_aload_n hx hb dX9_feeds_20 rfl (lv_at hl 0 rfl) ?_
  refine lv_iconst (v := nI 0) hx hb dX9_feeds_21 (by decide) ?_
  refine va_put (ci := 9) (v := .int (nI 0)) (ty := .int) (C := RX9) (T := TX9) (N := 24) hx hb hts i9_X9_feeds tyX9 tyX9_ok nmX9 hown hV.1 hP hD hS 0 rfl rfl 22 (by decide) (hts _ w5_X9_feeds) (fun _ h9 => h9) rfl (by decide +kernel) rfl rfl (Nat.le_of_ble_eq_true rfl) dX9_feeds_22 (fun H locs hP hD hS => ?_)
  have hP : va_P E.1 vwCl [(w0, ee_o 9 [.ref w1, .ref w2, .ref w3, .ref w4, .float pt, .float pa, .float p1, .float p2, .ref w5, .int tl, .int ta, .int fa, .ref w6, .ref w7, .int it, .ref w8, .ref w9, .int dp, .int (nI 0), .int (nI 0), .int (nI 0), .int (nI 0), .int (nI 0), .long hh]), (w1, ee_i E 204 ar)] H := hP
  have hD : va_D A [(w0, ee_o 9 [.ref w1, .ref w2, .ref w3, .ref w4, .float pt, .float pa, .float p1, .float p2, .ref w5, .int tl, .int ta, .int fa, .ref w6, .ref w7, .int it, .ref w8, .ref w9, .int dp, .int (nI 0), .int (nI 0), .int (nI 0), .int (nI 0), .int (nI 0), .long hh]), (w1, ee_i E 204 ar)] := hD
  have B_1 : ∀ (zz : Nat) (i t1 l1 s1 ee hb1 : Nat) (H : Heap) (locs : List Loc) (ls : Array Slot), (2 * (n - i) + (1 - ee)) < zz → (i ≤ n) → (ee ≤ 3) → ((ee = 0 ∧ fdS (fun i => ar (1 + i)) (fun i => ar (81 + i)) (fun j => ar (161 + j)) pt (n - i) i t1 l1 s1 = (tk, tr, lb, sc, ed)) ∨ (ee ≠ 0 ∧ (i, t1, l1, s1, ee) = (tk, tr, lb, sc, ed))) → (hb1 = if 0 < s1 then 1 else 0) → va_P E.1 vwCl [(w0, ee_o 9 [.ref w1, .ref w2, .ref w3, .ref w4, .float pt, .float pa, .float p1, .float p2, .ref w5, .int tl, .int ta, .int fa, .ref w6, .ref w7, .int it, .ref w8, .ref w9, .int dp, .int (nI t1), .int (nI i), .int (nI l1), .int (nI hb1), .int (nI ee), .long hh]), (w1, ee_i E 204 ar)] H → va_D A [(w0, ee_o 9 [.ref w1, .ref w2, .ref w3, .ref w4, .float pt, .float pa, .float p1, .float p2, .ref w5, .int tl, .int ta, .int fa, .ref w6, .ref w7, .int it, .ref w8, .ref w9, .int dp, .int (nI t1), .int (nI i), .int (nI l1), .int (nI hb1), .int (nI ee), .long hh]), (w1, ee_i E 204 ar)] → va_S A s.heap H locs → lv_has ls 4 [(0, .ref w0)] → W p l e rmX9_feeds s m [.ref w0].toArray below meth c H locs 0 0 Q (F0 m 25 ls []) := by
    intro zz
    induction zz with
    | zero => intro i t1 l1 s1 ee hb1 H locs ls hzz; exact absurd hzz (Nat.not_lt_zero _)
    | succ zz ihB_1 =>
      intro i t1 l1 s1 ee hb1 H locs ls hzz hin he3 hE hH hP hD hS hl
      have hb12 : hb1 ≤ 1 := by rw [hH]; split <;> omega
      refine lv_aload_n hx hb dX9_feeds_25 rfl (lv_at hl 0 rfl) ?_
      refine va_get (ci := 9) (v := .int (nI ee)) (C := RX9) (T := TX9) (N := 24) hx hb hts i9_X9_feeds hown hV.1 hP 0 rfl rfl 22 (by decide) (hts _ w5_X9_feeds) (fun _ h9 => h9) rfl dX9_feeds_26 ?_
      refine ee_ne0 (tgt := 218) hx hb (by omega) dX9_feeds_29 (by decide) (fun g29 => ?_) (fun g29 => ?_)
      · have hE5 := fd_5 (hE.resolve_left (fun q => g29 q.1)).2
        obtain ⟨rfl, rfl, rfl, rfl, rfl⟩ := hE5
        obtain rfl : hb1 = hv9 := by rw [hH, hhb]
        refine lv_aload_n hx hb dX9_feeds_218 rfl (lv_at hl 0 rfl) ?_
        refine va_get (ci := 9) (v := .ref w1) (C := RX9) (T := TX9) (N := 24) hx hb hts i9_X9_feeds hown hV.1 hP 0 rfl rfl 0 (by decide) (hts _ w6_X9_feeds) (fun _ h9 => h9) rfl dX9_feeds_219 ?_
        refine lv_iconst (v := nI 0) hx hb dX9_feeds_222 (by decide) ?_
        refine lv_dup2_11 hx hb dX9_feeds_223 rfl rfl ?_
        refine ee_ild hx hb hV hP 1 rfl (j := 0) (by omega) (by decide) dX9_feeds_224 ?_
        refine ee_to (z := nI n) (h0n) ?_
        refine lv_aload_n hx hb dX9_feeds_225 rfl (lv_at hl 0 rfl) ?_
        refine va_get (ci := 9) (v := .int (nI i)) (C := RX9) (T := TX9) (N := 24) hx hb hts i9_X9_feeds hown hV.1 hP 0 rfl rfl 19 (by decide) (hts _ w2_X9_feeds) (fun _ h9 => h9) rfl dX9_feeds_226 ?_
        refine ee_isub hx hb (by omega) dX9_feeds_229 ?_
        refine ee_ist hx hb hV hP hD hS 1 rfl (j := 0) (by omega) (by decide) dX9_feeds_230 (fun H locs hP hD hS => ?_)
        have hP : va_P E.1 vwCl [(w0, ee_o 9 [.ref w1, .ref w2, .ref w3, .ref w4, .float pt, .float pa, .float p1, .float p2, .ref w5, .int tl, .int ta, .int fa, .ref w6, .ref w7, .int it, .ref w8, .ref w9, .int dp, .int (nI t1), .int (nI i), .int (nI l1), .int (nI hb1), .int (nI ee), .long hh]), (w1, ee_i E 204 (upd ar 0 (nI (n - i))))] H := hP
        have hD : va_D A [(w0, ee_o 9 [.ref w1, .ref w2, .ref w3, .ref w4, .float pt, .float pa, .float p1, .float p2, .ref w5, .int tl, .int ta, .int fa, .ref w6, .ref w7, .int it, .ref w8, .ref w9, .int dp, .int (nI t1), .int (nI i), .int (nI l1), .int (nI hb1), .int (nI ee), .long hh]), (w1, ee_i E 204 (upd ar 0 (nI (n - i))))] := hD
        refine lv_iconst (v := nI 0) hx hb dX9_feeds_231 (by decide) ?_
        refine lv_istore_n (lv' := [(1, .int (nI 0)), (0, .ref w0)]) hx hb dX9_feeds_232 rfl hl (by decide) rfl (fun ls hl => ?_)
        have B_2 : ∀ (zz : Nat) (kk : Nat) (gk : Nat → Int32) (H : Heap) (locs : List Loc) (ls : Array Slot), (n - i - kk) < zz → (kk ≤ n - i) → (gk 0 = nI (n - i)) → (∀ j, j < kk → gk (1 + j) = ar (1 + j + i) ∧ gk (81 + j) = ar (81 + j + i)) → (∀ j, kk ≤ j → j < 80 → gk (1 + j) = ar (1 + j) ∧ gk (81 + j) = ar (81 + j)) → (∀ j, 161 ≤ j → gk j = ar j) → va_P E.1 vwCl [(w0, ee_o 9 [.ref w1, .ref w2, .ref w3, .ref w4, .float pt, .float pa, .float p1, .float p2, .ref w5, .int tl, .int ta, .int fa, .ref w6, .ref w7, .int it, .ref w8, .ref w9, .int dp, .int (nI t1), .int (nI i), .int (nI l1), .int (nI hb1), .int (nI ee), .long hh]), (w1, ee_i E 204 gk)] H → va_D A [(w0, ee_o 9 [.ref w1, .ref w2, .ref w3, .ref w4, .float pt, .float pa, .float p1, .float p2, .ref w5, .int tl, .int ta, .int fa, .ref w6, .ref w7, .int it, .ref w8, .ref w9, .int dp, .int (nI t1), .int (nI i), .int (nI l1), .int (nI hb1), .int (nI ee), .long hh]), (w1, ee_i E 204 gk)] → va_S A s.heap H locs → lv_has ls 4 [(1, .int (nI kk)), (0, .ref w0)] → W p l e rmX9_feeds s m [.ref w0].toArray below meth c H locs 0 0 Q (F0 m 233 ls []) := by
          intro zz
          induction zz with
          | zero => intro kk gk H locs ls hzz; exact absurd hzz (Nat.not_lt_zero _)
          | succ zz ihB_2 =>
            intro kk gk H locs ls hzz hkk b0 b1 b2 b3 hP hD hS hl
            refine lv_iload_n hx hb dX9_feeds_233 rfl (lv_at hl 0 rfl) ?_
            refine lv_aload_n hx hb dX9_feeds_234 rfl (lv_at hl 1 rfl) ?_
            refine va_get (ci := 9) (v := .ref w1) (C := RX9) (T := TX9) (N := 24) hx hb hts i9_X9_feeds hown hV.1 hP 0 rfl rfl 0 (by decide) (hts _ w6_X9_feeds) (fun _ h9 => h9) rfl dX9_feeds_235 ?_
            refine lv_iconst (v := nI 0) hx hb dX9_feeds_238 (by decide) ?_
            refine ee_ild hx hb hV hP 1 rfl (j := 0) (by omega) (by decide) dX9_feeds_239 ?_
            refine ee_to (z := nI (n - i)) (b0) ?_
            refine ee_ge (tgt := 293) hx hb (by omega) (by omega) dX9_feeds_240 (by decide) (fun g240 => ?_) (fun g240 => ?_)
            · have hkk2 : kk = n - i := by omega
              subst hkk2
              exact ee_fv hQ hx hb hr hlocks hS gk (⟨b0, b1, b3⟩) hP hD dX9_feeds_293
            · refine lv_aload_n hx hb dX9_feeds_243 rfl (lv_at hl 1 rfl) ?_
              refine va_get (ci := 9) (v := .ref w1) (C := RX9) (T := TX9) (N := 24) hx hb hts i9_X9_feeds hown hV.1 hP 0 rfl rfl 0 (by decide) (hts _ w6_X9_feeds) (fun _ h9 => h9) rfl dX9_feeds_244 ?_
              refine lv_iconst (v := nI 1) hx hb dX9_feeds_247 (by decide) ?_
              refine lv_iload_n hx hb dX9_feeds_248 rfl (lv_at hl 0 rfl) ?_
              refine ee_iadd hx hb dX9_feeds_249 ?_
              refine lv_aload_n hx hb dX9_feeds_250 rfl (lv_at hl 1 rfl) ?_
              refine va_get (ci := 9) (v := .ref w1) (C := RX9) (T := TX9) (N := 24) hx hb hts i9_X9_feeds hown hV.1 hP 0 rfl rfl 0 (by decide) (hts _ w6_X9_feeds) (fun _ h9 => h9) rfl dX9_feeds_251 ?_
              refine lv_iconst (v := nI 1) hx hb dX9_feeds_254 (by decide) ?_
              refine lv_iload_n hx hb dX9_feeds_255 rfl (lv_at hl 0 rfl) ?_
              refine ee_iadd hx hb dX9_feeds_256 ?_
              refine lv_aload_n hx hb dX9_feeds_257 rfl (lv_at hl 1 rfl) ?_
              refine va_get (ci := 9) (v := .int (nI i)) (C := RX9) (T := TX9) (N := 24) hx hb hts i9_X9_feeds hown hV.1 hP 0 rfl rfl 19 (by decide) (hts _ w2_X9_feeds) (fun _ h9 => h9) rfl dX9_feeds_258 ?_
              refine ee_iadd hx hb dX9_feeds_261 ?_
              refine ee_ild hx hb hV hP 1 rfl (j := (1 + kk + i)) (by omega) (by decide) dX9_feeds_262 ?_
              refine ee_ist hx hb hV hP hD hS 1 rfl (j := (1 + kk)) (by omega) (by decide) dX9_feeds_263 (fun H locs hP hD hS => ?_)
              have hP : va_P E.1 vwCl [(w0, ee_o 9 [.ref w1, .ref w2, .ref w3, .ref w4, .float pt, .float pa, .float p1, .float p2, .ref w5, .int tl, .int ta, .int fa, .ref w6, .ref w7, .int it, .ref w8, .ref w9, .int dp, .int (nI t1), .int (nI i), .int (nI l1), .int (nI hb1), .int (nI ee), .long hh]), (w1, ee_i E 204 (upd gk (1 + kk) (gk (1 + kk + i))))] H := hP
              have hD : va_D A [(w0, ee_o 9 [.ref w1, .ref w2, .ref w3, .ref w4, .float pt, .float pa, .float p1, .float p2, .ref w5, .int tl, .int ta, .int fa, .ref w6, .ref w7, .int it, .ref w8, .ref w9, .int dp, .int (nI t1), .int (nI i), .int (nI l1), .int (nI hb1), .int (nI ee), .long hh]), (w1, ee_i E 204 (upd gk (1 + kk) (gk (1 + kk + i))))] := hD
              refine lv_aload_n hx hb dX9_feeds_264 rfl (lv_at hl 1 rfl) ?_
              refine va_get (ci := 9) (v := .ref w1) (C := RX9) (T := TX9) (N := 24) hx hb hts i9_X9_feeds hown hV.1 hP 0 rfl rfl 0 (by decide) (hts _ w6_X9_feeds) (fun _ h9 => h9) rfl dX9_feeds_265 ?_
              refine lv_bipush (v := nI 81) hx hb dX9_feeds_268 (by decide) ?_
              refine lv_iload_n hx hb dX9_feeds_270 rfl (lv_at hl 0 rfl) ?_
              refine ee_iadd hx hb dX9_feeds_271 ?_
              refine lv_aload_n hx hb dX9_feeds_272 rfl (lv_at hl 1 rfl) ?_
              refine va_get (ci := 9) (v := .ref w1) (C := RX9) (T := TX9) (N := 24) hx hb hts i9_X9_feeds hown hV.1 hP 0 rfl rfl 0 (by decide) (hts _ w6_X9_feeds) (fun _ h9 => h9) rfl dX9_feeds_273 ?_
              refine lv_bipush (v := nI 81) hx hb dX9_feeds_276 (by decide) ?_
              refine lv_iload_n hx hb dX9_feeds_278 rfl (lv_at hl 0 rfl) ?_
              refine ee_iadd hx hb dX9_feeds_279 ?_
              refine lv_aload_n hx hb dX9_feeds_280 rfl (lv_at hl 1 rfl) ?_
              refine va_get (ci := 9) (v := .int (nI i)) (C := RX9) (T := TX9) (N := 24) hx hb hts i9_X9_feeds hown hV.1 hP 0 rfl rfl 19 (by decide) (hts _ w2_X9_feeds) (fun _ h9 => h9) rfl dX9_feeds_281 ?_
              refine ee_iadd hx hb dX9_feeds_284 ?_
              refine ee_ild hx hb hV hP 1 rfl (j := (81 + kk + i)) (by omega) (by decide) dX9_feeds_285 ?_
              refine ee_ist hx hb hV hP hD hS 1 rfl (j := (81 + kk)) (by omega) (by decide) dX9_feeds_286 (fun H locs hP hD hS => ?_)
              have hP : va_P E.1 vwCl [(w0, ee_o 9 [.ref w1, .ref w2, .ref w3, .ref w4, .float pt, .float pa, .float p1, .float p2, .ref w5, .int tl, .int ta, .int fa, .ref w6, .ref w7, .int it, .ref w8, .ref w9, .int dp, .int (nI t1), .int (nI i), .int (nI l1), .int (nI hb1), .int (nI ee), .long hh]), (w1, ee_i E 204 (upd (upd gk (1 + kk) (gk (1 + kk + i))) (81 + kk) ((upd gk (1 + kk) (gk (1 + kk + i))) (81 + kk + i))))] H := hP
              have hD : va_D A [(w0, ee_o 9 [.ref w1, .ref w2, .ref w3, .ref w4, .float pt, .float pa, .float p1, .float p2, .ref w5, .int tl, .int ta, .int fa, .ref w6, .ref w7, .int it, .ref w8, .ref w9, .int dp, .int (nI t1), .int (nI i), .int (nI l1), .int (nI hb1), .int (nI ee), .long hh]), (w1, ee_i E 204 (upd (upd gk (1 + kk) (gk (1 + kk + i))) (81 + kk) ((upd gk (1 + kk) (gk (1 + kk + i))) (81 + kk + i))))] := hD
              refine lv_iinc (v := nI (kk + 1)) (lv' := [(1, .int (nI (kk + 1))), (0, .ref w0)]) hx hb dX9_feeds_287 hl (k := 0) rfl (ee_inc _) (by decide) rfl (fun ls hl => ?_)
              refine lv_goto (tgt := 233) hx hb dX9_feeds_290 (by decide) ?_
              exact ihB_2 (kk + 1) (upd (upd gk (1 + kk) (gk (1 + kk + i))) (81 + kk) ((upd gk (1 + kk) (gk (1 + kk + i))) (81 + kk + i))) _ _ _ (by omega) (by omega) ((fs_1 hn (by omega) b0 b1 b2 b3).1) ((fs_1 hn (by omega) b0 b1 b2 b3).2.1) ((fs_1 hn (by omega) b0 b1 b2 b3).2.2.1) ((fs_1 hn (by omega) b0 b1 b2 b3).2.2.2) hP hD hS (lv_sub hl [0, 1] rfl)
        exact B_2 ((n - i - 0) + 1) 0 (upd ar 0 (nI (n - i))) _ _ _ (Nat.lt_succ_self _) (by omega) pk_us (fun j h => absurd h (Nat.not_lt_zero _)) (fun j _ _ => ⟨pk_un (by omega), pk_un (by omega)⟩) (fun j h => pk_un (by omega)) hP hD hS (lv_sub hl [0, 1] rfl)
      · refine lv_aload_n hx hb dX9_feeds_32 rfl (lv_at hl 0 rfl) ?_
        refine va_get (ci := 9) (v := .int (nI i)) (C := RX9) (T := TX9) (N := 24) hx hb hts i9_X9_feeds hown hV.1 hP 0 rfl rfl 19 (by decide) (hts _ w2_X9_feeds) (fun _ h9 => h9) rfl dX9_feeds_33 ?_
        refine lv_aload_n hx hb dX9_feeds_36 rfl (lv_at hl 0 rfl) ?_
        refine va_get (ci := 9) (v := .ref w1) (C := RX9) (T := TX9) (N := 24) hx hb hts i9_X9_feeds hown hV.1 hP 0 rfl rfl 0 (by decide) (hts _ w6_X9_feeds) (fun _ h9 => h9) rfl dX9_feeds_37 ?_
        refine lv_iconst (v := nI 0) hx hb dX9_feeds_40 (by decide) ?_
        refine ee_ild hx hb hV hP 1 rfl (j := 0) (by omega) (by decide) dX9_feeds_41 ?_
        refine ee_to (z := nI n) (h0n) ?_
        refine ee_ne (tgt := 53) hx hb (by omega) (by omega) dX9_feeds_42 (by decide) (fun g42 => ?_) (fun g42 => ?_)
        · refine lv_aload_n hx hb dX9_feeds_53 rfl (lv_at hl 0 rfl) ?_
          refine va_get (ci := 9) (v := .ref w1) (C := RX9) (T := TX9) (N := 24) hx hb hts i9_X9_feeds hown hV.1 hP 0 rfl rfl 0 (by decide) (hts _ w6_X9_feeds) (fun _ h9 => h9) rfl dX9_feeds_54 ?_
          refine lv_iconst (v := nI 1) hx hb dX9_feeds_57 (by decide) ?_
          refine lv_aload_n hx hb dX9_feeds_58 rfl (lv_at hl 0 rfl) ?_
          refine va_get (ci := 9) (v := .int (nI i)) (C := RX9) (T := TX9) (N := 24) hx hb hts i9_X9_feeds hown hV.1 hP 0 rfl rfl 19 (by decide) (hts _ w2_X9_feeds) (fun _ h9 => h9) rfl dX9_feeds_59 ?_
          refine ee_iadd hx hb dX9_feeds_62 ?_
          refine ee_ild hx hb hV hP 1 rfl (j := (1 + i)) (by omega) (by decide) dX9_feeds_63 ?_
          refine lv_istore_n (lv' := [(1, .int (ar (1 + i))), (0, .ref w0)]) hx hb dX9_feeds_64 rfl hl (by decide) rfl (fun ls hl => ?_)
          refine lv_aload_n hx hb dX9_feeds_65 rfl (lv_at hl 1 rfl) ?_
          refine va_get (ci := 9) (v := .ref w1) (C := RX9) (T := TX9) (N := 24) hx hb hts i9_X9_feeds hown hV.1 hP 0 rfl rfl 0 (by decide) (hts _ w6_X9_feeds) (fun _ h9 => h9) rfl dX9_feeds_66 ?_
          refine lv_bipush (v := nI 81) hx hb dX9_feeds_69 (by decide) ?_
          refine lv_aload_n hx hb dX9_feeds_71 rfl (lv_at hl 1 rfl) ?_
          refine va_get (ci := 9) (v := .int (nI i)) (C := RX9) (T := TX9) (N := 24) hx hb hts i9_X9_feeds hown hV.1 hP 0 rfl rfl 19 (by decide) (hts _ w2_X9_feeds) (fun _ h9 => h9) rfl dX9_feeds_72 ?_
          refine ee_iadd hx hb dX9_feeds_75 ?_
          refine ee_ild hx hb hV hP 1 rfl (j := (81 + i)) (by omega) (by decide) dX9_feeds_76 ?_
          refine lv_istore_n (lv' := [(2, .int (ar (81 + i))), (1, .int (ar (1 + i))), (0, .ref w0)]) hx hb dX9_feeds_77 rfl hl (by decide) rfl (fun ls hl => ?_)
          refine lv_aload_n hx hb dX9_feeds_78 rfl (lv_at hl 2 rfl) ?_
          refine lv_dup hx hb dX9_feeds_79 rfl ?_
          refine va_get (ci := 9) (v := .int (nI i)) (C := RX9) (T := TX9) (N := 24) hx hb hts i9_X9_feeds hown hV.1 hP 0 rfl rfl 19 (by decide) (hts _ w2_X9_feeds) (fun _ h9 => h9) rfl dX9_feeds_80 ?_
          refine lv_iconst (v := nI 1) hx hb dX9_feeds_83 (by decide) ?_
          refine ee_iadd hx hb dX9_feeds_84 ?_
          refine va_put (ci := 9) (v := .int (nI (i + 1))) (ty := .int) (C := RX9) (T := TX9) (N := 24) hx hb hts i9_X9_feeds tyX9 tyX9_ok nmX9 hown hV.1 hP hD hS 0 rfl rfl 19 (by decide) (hts _ w2_X9_feeds) (fun _ h9 => h9) rfl (by decide +kernel) rfl rfl (Nat.le_of_ble_eq_true rfl) dX9_feeds_85 (fun H locs hP hD hS => ?_)
          have hP : va_P E.1 vwCl [(w0, ee_o 9 [.ref w1, .ref w2, .ref w3, .ref w4, .float pt, .float pa, .float p1, .float p2, .ref w5, .int tl, .int ta, .int fa, .ref w6, .ref w7, .int it, .ref w8, .ref w9, .int dp, .int (nI t1), .int (nI (i + 1)), .int (nI l1), .int (nI hb1), .int (nI ee), .long hh]), (w1, ee_i E 204 ar)] H := hP
          have hD : va_D A [(w0, ee_o 9 [.ref w1, .ref w2, .ref w3, .ref w4, .float pt, .float pa, .float p1, .float p2, .ref w5, .int tl, .int ta, .int fa, .ref w6, .ref w7, .int it, .ref w8, .ref w9, .int dp, .int (nI t1), .int (nI (i + 1)), .int (nI l1), .int (nI hb1), .int (nI ee), .long hh]), (w1, ee_i E 204 ar)] := hD
          refine lv_aload_n hx hb dX9_feeds_88 rfl (lv_at hl 2 rfl) ?_
          refine lv_dup hx hb dX9_feeds_89 rfl ?_
          refine va_get (ci := 9) (v := .int (nI t1)) (C := RX9) (T := TX9) (N := 24) hx hb hts i9_X9_feeds hown hV.1 hP 0 rfl rfl 18 (by decide) (hts _ w1_X9_feeds) (fun _ h9 => h9) rfl dX9_feeds_90 ?_
          refine lv_iload_n hx hb dX9_feeds_93 rfl (lv_at hl 0 rfl) ?_
          refine ee_to (z := nI (nv (ar (81 + i)))) ((lnOK_nv (hln i (by omega))).1) ?_
          refine ee_iadd hx hb dX9_feeds_94 ?_
          refine va_put (ci := 9) (v := .int (nI (t1 + (nv (ar (81 + i)))))) (ty := .int) (C := RX9) (T := TX9) (N := 24) hx hb hts i9_X9_feeds tyX9 tyX9_ok nmX9 hown hV.1 hP hD hS 0 rfl rfl 18 (by decide) (hts _ w1_X9_feeds) (fun _ h9 => h9) rfl (by decide +kernel) rfl rfl (Nat.le_of_ble_eq_true rfl) dX9_feeds_95 (fun H locs hP hD hS => ?_)
          have hP : va_P E.1 vwCl [(w0, ee_o 9 [.ref w1, .ref w2, .ref w3, .ref w4, .float pt, .float pa, .float p1, .float p2, .ref w5, .int tl, .int ta, .int fa, .ref w6, .ref w7, .int it, .ref w8, .ref w9, .int dp, .int (nI (t1 + (nv (ar (81 + i))))), .int (nI (i + 1)), .int (nI l1), .int (nI hb1), .int (nI ee), .long hh]), (w1, ee_i E 204 ar)] H := hP
          have hD : va_D A [(w0, ee_o 9 [.ref w1, .ref w2, .ref w3, .ref w4, .float pt, .float pa, .float p1, .float p2, .ref w5, .int tl, .int ta, .int fa, .ref w6, .ref w7, .int it, .ref w8, .ref w9, .int dp, .int (nI (t1 + (nv (ar (81 + i))))), .int (nI (i + 1)), .int (nI l1), .int (nI hb1), .int (nI ee), .long hh]), (w1, ee_i E 204 ar)] := hD
          have B_3 : ∀ (dl : Nat) (H : Heap) (locs : List Loc) (ls : Array Slot), (cyL (ar (1 + i)) l1 = l1 + dl) → va_P E.1 vwCl [(w0, ee_o 9 [.ref w1, .ref w2, .ref w3, .ref w4, .float pt, .float pa, .float p1, .float p2, .ref w5, .int tl, .int ta, .int fa, .ref w6, .ref w7, .int it, .ref w8, .ref w9, .int dp, .int (nI (t1 + (nv (ar (81 + i))))), .int (nI (i + 1)), .int (nI l1), .int (nI hb1), .int (nI ee), .long hh]), (w1, ee_i E 204 ar)] H → va_D A [(w0, ee_o 9 [.ref w1, .ref w2, .ref w3, .ref w4, .float pt, .float pa, .float p1, .float p2, .ref w5, .int tl, .int ta, .int fa, .ref w6, .ref w7, .int it, .ref w8, .ref w9, .int dp, .int (nI (t1 + (nv (ar (81 + i))))), .int (nI (i + 1)), .int (nI l1), .int (nI hb1), .int (nI ee), .long hh]), (w1, ee_i E 204 ar)] → va_S A s.heap H locs → lv_has ls 4 [(2, .int (ar (81 + i))), (1, .int (ar (1 + i))), (0, .ref w0)] → W p l e rmX9_feeds s m [.ref w0].toArray below meth c H locs 0 0 Q (F0 m 112 ls [.int (nI dl), .int (nI l1), .ref w0]) := by
            intro dl H locs ls hdl hP hD hS hl
            refine ee_iadd hx hb dX9_feeds_112 ?_
            refine va_put (ci := 9) (v := .int (nI (l1 + dl))) (ty := .int) (C := RX9) (T := TX9) (N := 24) hx hb hts i9_X9_feeds tyX9 tyX9_ok nmX9 hown hV.1 hP hD hS 0 rfl rfl 20 (by decide) (hts _ w3_X9_feeds) (fun _ h9 => h9) rfl (by decide +kernel) rfl rfl (Nat.le_of_ble_eq_true rfl) dX9_feeds_113 (fun H locs hP hD hS => ?_)
            have hP : va_P E.1 vwCl [(w0, ee_o 9 [.ref w1, .ref w2, .ref w3, .ref w4, .float pt, .float pa, .float p1, .float p2, .ref w5, .int tl, .int ta, .int fa, .ref w6, .ref w7, .int it, .ref w8, .ref w9, .int dp, .int (nI (t1 + (nv (ar (81 + i))))), .int (nI (i + 1)), .int (nI (l1 + dl)), .int (nI hb1), .int (nI ee), .long hh]), (w1, ee_i E 204 ar)] H := hP
            have hD : va_D A [(w0, ee_o 9 [.ref w1, .ref w2, .ref w3, .ref w4, .float pt, .float pa, .float p1, .float p2, .ref w5, .int tl, .int ta, .int fa, .ref w6, .ref w7, .int it, .ref w8, .ref w9, .int dp, .int (nI (t1 + (nv (ar (81 + i))))), .int (nI (i + 1)), .int (nI (l1 + dl)), .int (nI hb1), .int (nI ee), .long hh]), (w1, ee_i E 204 ar)] := hD
            have B_4 : ∀ (h2 : Nat) (H : Heap) (locs : List Loc) (ls : Array Slot), (h2 = (if 0 < cyS (ar (1 + i)) s1 then 1 else 0)) → va_P E.1 vwCl [(w0, ee_o 9 [.ref w1, .ref w2, .ref w3, .ref w4, .float pt, .float pa, .float p1, .float p2, .ref w5, .int tl, .int ta, .int fa, .ref w6, .ref w7, .int it, .ref w8, .ref w9, .int dp, .int (nI (t1 + (nv (ar (81 + i))))), .int (nI (i + 1)), .int (nI (l1 + dl)), .int (nI hb1), .int (nI ee), .long hh]), (w1, ee_i E 204 ar)] H → va_D A [(w0, ee_o 9 [.ref w1, .ref w2, .ref w3, .ref w4, .float pt, .float pa, .float p1, .float p2, .ref w5, .int tl, .int ta, .int fa, .ref w6, .ref w7, .int it, .ref w8, .ref w9, .int dp, .int (nI (t1 + (nv (ar (81 + i))))), .int (nI (i + 1)), .int (nI (l1 + dl)), .int (nI hb1), .int (nI ee), .long hh]), (w1, ee_i E 204 ar)] → va_S A s.heap H locs → lv_has ls 4 [(2, .int (ar (81 + i))), (1, .int (ar (1 + i))), (0, .ref w0)] → W p l e rmX9_feeds s m [.ref w0].toArray below meth c H locs 0 0 Q (F0 m 134 ls [.int (nI h2), .ref w0]) := by
              intro h2 H locs ls hh2 hP hD hS hl
              refine va_put (ci := 9) (v := .int (nI h2)) (ty := .boolean) (C := RX9) (T := TX9) (N := 24) hx hb hts i9_X9_feeds tyX9 tyX9_ok nmX9 hown hV.1 hP hD hS 0 rfl rfl 21 (by decide) (hts _ w4_X9_feeds) (fun _ h9 => h9) rfl (by decide +kernel) ((bz ((show h2 = 0 ∨ h2 = 1 by rw [hh2]; split <;> omega).imp (congrArg nI) (congrArg nI))).1) ((bz ((show h2 = 0 ∨ h2 = 1 by rw [hh2]; split <;> omega).imp (congrArg nI) (congrArg nI))).2) (Nat.le_of_ble_eq_true rfl) dX9_feeds_134 (fun H locs hP hD hS => ?_)
              have hP : va_P E.1 vwCl [(w0, ee_o 9 [.ref w1, .ref w2, .ref w3, .ref w4, .float pt, .float pa, .float p1, .float p2, .ref w5, .int tl, .int ta, .int fa, .ref w6, .ref w7, .int it, .ref w8, .ref w9, .int dp, .int (nI (t1 + (nv (ar (81 + i))))), .int (nI (i + 1)), .int (nI (l1 + dl)), .int (nI h2), .int (nI ee), .long hh]), (w1, ee_i E 204 ar)] H := hP
              have hD : va_D A [(w0, ee_o 9 [.ref w1, .ref w2, .ref w3, .ref w4, .float pt, .float pa, .float p1, .float p2, .ref w5, .int tl, .int ta, .int fa, .ref w6, .ref w7, .int it, .ref w8, .ref w9, .int dp, .int (nI (t1 + (nv (ar (81 + i))))), .int (nI (i + 1)), .int (nI (l1 + dl)), .int (nI h2), .int (nI ee), .long hh]), (w1, ee_i E 204 ar)] := hD
              have B_5 : ∀ (e2 : Nat) (H : Heap) (locs : List Loc) (ls : Array Slot), (e2 = fdE (fun j => ar (161 + j)) pt (ar (1 + i)) (ar (81 + i)) (t1 + nv (ar (81 + i)))) → va_P E.1 vwCl [(w0, ee_o 9 [.ref w1, .ref w2, .ref w3, .ref w4, .float pt, .float pa, .float p1, .float p2, .ref w5, .int tl, .int ta, .int fa, .ref w6, .ref w7, .int it, .ref w8, .ref w9, .int dp, .int (nI (t1 + (nv (ar (81 + i))))), .int (nI (i + 1)), .int (nI (l1 + dl)), .int (nI h2), .int (nI ee), .long hh]), (w1, ee_i E 204 ar)] H → va_D A [(w0, ee_o 9 [.ref w1, .ref w2, .ref w3, .ref w4, .float pt, .float pa, .float p1, .float p2, .ref w5, .int tl, .int ta, .int fa, .ref w6, .ref w7, .int it, .ref w8, .ref w9, .int dp, .int (nI (t1 + (nv (ar (81 + i))))), .int (nI (i + 1)), .int (nI (l1 + dl)), .int (nI h2), .int (nI ee), .long hh]), (w1, ee_i E 204 ar)] → va_S A s.heap H locs → lv_has ls 4 [(2, .int (ar (81 + i))), (1, .int (ar (1 + i))), (0, .ref w0)] → W p l e rmX9_feeds s m [.ref w0].toArray below meth c H locs 0 0 Q (F0 m 212 ls [.int (nI e2), .ref w0]) := by
                intro e2 H locs ls he hP hD hS hl
                refine va_put (ci := 9) (v := .int (nI e2)) (ty := .int) (C := RX9) (T := TX9) (N := 24) hx hb hts i9_X9_feeds tyX9 tyX9_ok nmX9 hown hV.1 hP hD hS 0 rfl rfl 22 (by decide) (hts _ w5_X9_feeds) (fun _ h9 => h9) rfl (by decide +kernel) rfl rfl (Nat.le_of_ble_eq_true rfl) dX9_feeds_212 (fun H locs hP hD hS => ?_)
                have hP : va_P E.1 vwCl [(w0, ee_o 9 [.ref w1, .ref w2, .ref w3, .ref w4, .float pt, .float pa, .float p1, .float p2, .ref w5, .int tl, .int ta, .int fa, .ref w6, .ref w7, .int it, .ref w8, .ref w9, .int dp, .int (nI (t1 + (nv (ar (81 + i))))), .int (nI (i + 1)), .int (nI (l1 + dl)), .int (nI h2), .int (nI e2), .long hh]), (w1, ee_i E 204 ar)] H := hP
                have hD : va_D A [(w0, ee_o 9 [.ref w1, .ref w2, .ref w3, .ref w4, .float pt, .float pa, .float p1, .float p2, .ref w5, .int tl, .int ta, .int fa, .ref w6, .ref w7, .int it, .ref w8, .ref w9, .int dp, .int (nI (t1 + (nv (ar (81 + i))))), .int (nI (i + 1)), .int (nI (l1 + dl)), .int (nI h2), .int (nI e2), .long hh]), (w1, ee_i E 204 ar)] := hD
                refine lv_goto (tgt := 25) hx hb dX9_feeds_215 (by decide) ?_
                exact ihB_1 (i + 1) (t1 + (nv (ar (81 + i)))) (l1 + dl) (cyS (ar (1 + i)) s1) e2 h2 _ _ _ (by omega) (by omega) (by have := fdE_le (fun j => ar (161 + j)) pt (ar (1 + i)) (ar (81 + i)) (t1 + nv (ar (81 + i))); omega) (by rw [← hdl, he]; exact fd_next (κ := fun i => ar (1 + i)) (lm := fun i => ar (81 + i)) (by omega) (hE.resolve_right (fun q => q.1 g29)).2) hh2 hP hD hS (lv_sub hl [2] rfl)
              refine lv_iload_n hx hb dX9_feeds_137 rfl (lv_at hl 1 rfl) ?_
              refine lv_iconst (v := nI 1) hx hb dX9_feeds_138 (by decide) ?_
              refine lv_icmp_ne (tgt := 181) hx hb dX9_feeds_139 (by decide) (fun g139 => ?_) (fun g139 => ?_)
              · refine lv_iconst (v := nI 0) hx hb dX9_feeds_181 (by decide) ?_
                refine lv_istore_n (lv' := [(3, .int (nI 0)), (2, .int (ar (81 + i))), (1, .int (ar (1 + i))), (0, .ref w0)]) hx hb dX9_feeds_182 rfl hl (by decide) rfl (fun ls hl => ?_)
                refine lv_aload_n hx hb dX9_feeds_183 rfl (lv_at hl 3 rfl) ?_
                refine lv_iload_n hx hb dX9_feeds_184 rfl (lv_at hl 0 rfl) ?_
                refine ee_eq0 (tgt := 192) hx hb (by omega) dX9_feeds_185 (by decide) (fun h_6 => ?_) (fun h_6 => absurd h_6 (by decide))
                refine lv_aload_n hx hb dX9_feeds_192 rfl (lv_at hl 3 rfl) ?_
                refine va_get (ci := 9) (v := .int (nI (t1 + (nv (ar (81 + i)))))) (C := RX9) (T := TX9) (N := 24) hx hb hts i9_X9_feeds hown hV.1 hP 0 rfl rfl 18 (by decide) (hts _ w1_X9_feeds) (fun _ h9 => h9) rfl dX9_feeds_193 ?_
                refine lv_aload_n hx hb dX9_feeds_196 rfl (lv_at hl 3 rfl) ?_
                refine va_get (ci := 9) (v := .ref w1) (C := RX9) (T := TX9) (N := 24) hx hb hts i9_X9_feeds hown hV.1 hP 0 rfl rfl 0 (by decide) (hts _ w6_X9_feeds) (fun _ h9 => h9) rfl dX9_feeds_197 ?_
                refine lv_sipush (v := nI 163) hx hb dX9_feeds_200 (by decide) ?_
                refine ee_ild hx hb hV hP 1 rfl (j := 163) (by omega) (by decide) dX9_feeds_203 ?_
                refine lv_icmp_le (tgt := 211) hx hb dX9_feeds_204 (by decide) (fun g204 => ?_) (fun g204 => ?_)
                · refine lv_iconst (v := nI 0) hx hb dX9_feeds_211 (by decide) ?_
                  exact B_5 0 _ _ _ (by rw [fdE, if_neg (fun q => g139 q.1.1), if_pos g204]) hP hD hS (lv_sub hl [1, 2, 3] rfl)
                · refine lv_iconst (v := nI 2) hx hb dX9_feeds_207 (by decide) ?_
                  refine lv_goto (tgt := 212) hx hb dX9_feeds_208 (by decide) ?_
                  exact B_5 2 _ _ _ (by rw [fdE, if_neg (fun q => g139 q.1.1), if_neg g204]) hP hD hS (lv_sub hl [1, 2, 3] rfl)
              · refine lv_iload_n hx hb dX9_feeds_142 rfl (lv_at hl 0 rfl) ?_
                refine lv_aload_n hx hb dX9_feeds_143 rfl (lv_at hl 2 rfl) ?_
                refine va_get (ci := 9) (v := .ref w1) (C := RX9) (T := TX9) (N := 24) hx hb hts i9_X9_feeds hown hV.1 hP 0 rfl rfl 0 (by decide) (hts _ w6_X9_feeds) (fun _ h9 => h9) rfl dX9_feeds_144 ?_
                refine lv_sipush (v := nI 161) hx hb dX9_feeds_147 (by decide) ?_
                refine ee_ild hx hb hV hP 1 rfl (j := 161) (by omega) (by decide) dX9_feeds_150 ?_
                refine lv_icmp_lt (tgt := 181) hx hb dX9_feeds_151 (by decide) (fun g151 => ?_) (fun g151 => ?_)
                · refine lv_iconst (v := nI 0) hx hb dX9_feeds_181 (by decide) ?_
                  refine lv_istore_n (lv' := [(3, .int (nI 0)), (2, .int (ar (81 + i))), (1, .int (ar (1 + i))), (0, .ref w0)]) hx hb dX9_feeds_182 rfl hl (by decide) rfl (fun ls hl => ?_)
                  refine lv_aload_n hx hb dX9_feeds_183 rfl (lv_at hl 3 rfl) ?_
                  refine lv_iload_n hx hb dX9_feeds_184 rfl (lv_at hl 0 rfl) ?_
                  refine ee_eq0 (tgt := 192) hx hb (by omega) dX9_feeds_185 (by decide) (fun h_7 => ?_) (fun h_7 => absurd h_7 (by decide))
                  refine lv_aload_n hx hb dX9_feeds_192 rfl (lv_at hl 3 rfl) ?_
                  refine va_get (ci := 9) (v := .int (nI (t1 + (nv (ar (81 + i)))))) (C := RX9) (T := TX9) (N := 24) hx hb hts i9_X9_feeds hown hV.1 hP 0 rfl rfl 18 (by decide) (hts _ w1_X9_feeds) (fun _ h9 => h9) rfl dX9_feeds_193 ?_
                  refine lv_aload_n hx hb dX9_feeds_196 rfl (lv_at hl 3 rfl) ?_
                  refine va_get (ci := 9) (v := .ref w1) (C := RX9) (T := TX9) (N := 24) hx hb hts i9_X9_feeds hown hV.1 hP 0 rfl rfl 0 (by decide) (hts _ w6_X9_feeds) (fun _ h9 => h9) rfl dX9_feeds_197 ?_
                  refine lv_sipush (v := nI 163) hx hb dX9_feeds_200 (by decide) ?_
                  refine ee_ild hx hb hV hP 1 rfl (j := 163) (by omega) (by decide) dX9_feeds_203 ?_
                  refine lv_icmp_le (tgt := 211) hx hb dX9_feeds_204 (by decide) (fun g204 => ?_) (fun g204 => ?_)
                  · refine lv_iconst (v := nI 0) hx hb dX9_feeds_211 (by decide) ?_
                    exact B_5 0 _ _ _ (by rw [fdE, if_neg (fun q => q.1.2 g151), if_pos g204]) hP hD hS (lv_sub hl [1, 2, 3] rfl)
                  · refine lv_iconst (v := nI 2) hx hb dX9_feeds_207 (by decide) ?_
                    refine lv_goto (tgt := 212) hx hb dX9_feeds_208 (by decide) ?_
                    exact B_5 2 _ _ _ (by rw [fdE, if_neg (fun q => q.1.2 g151), if_neg g204]) hP hD hS (lv_sub hl [1, 2, 3] rfl)
                · refine lv_aload_n hx hb dX9_feeds_154 rfl (lv_at hl 2 rfl) ?_
                  refine va_get (ci := 9) (v := .int (nI (t1 + (nv (ar (81 + i)))))) (C := RX9) (T := TX9) (N := 24) hx hb hts i9_X9_feeds hown hV.1 hP 0 rfl rfl 18 (by decide) (hts _ w1_X9_feeds) (fun _ h9 => h9) rfl dX9_feeds_155 ?_
                  refine lv_i2f hx hb dX9_feeds_158 ?_
                  refine lv_aload_n hx hb dX9_feeds_159 rfl (lv_at hl 2 rfl) ?_
                  refine va_get (ci := 9) (v := .float pt) (C := RX9) (T := TX9) (N := 24) hx hb hts i9_X9_feeds hown hV.1 hP 0 rfl rfl 4 (by decide) (hts _ w7_X9_feeds) (fun _ h9 => h9) rfl dX9_feeds_160 ?_
                  refine lv_aload_n hx hb dX9_feeds_163 rfl (lv_at hl 2 rfl) ?_
                  refine va_get (ci := 9) (v := .ref w1) (C := RX9) (T := TX9) (N := 24) hx hb hts i9_X9_feeds hown hV.1 hP 0 rfl rfl 0 (by decide) (hts _ w6_X9_feeds) (fun _ h9 => h9) rfl dX9_feeds_164 ?_
                  refine lv_sipush (v := nI 162) hx hb dX9_feeds_167 (by decide) ?_
                  refine ee_ild hx hb hV hP 1 rfl (j := 162) (by omega) (by decide) dX9_feeds_170 ?_
                  refine lv_i2f hx hb dX9_feeds_171 ?_
                  refine lv_fsub hx hb dX9_feeds_172 (n0) ?_
                  refine lv_fcmp hx hb dX9_feeds_173 ?_
                  refine lv_if_lt (tgt := 181) hx hb dX9_feeds_174 (by decide) (fun g174 => ?_) (fun g174 => ?_)
                  · refine lv_iconst (v := nI 0) hx hb dX9_feeds_181 (by decide) ?_
                    refine lv_istore_n (lv' := [(3, .int (nI 0)), (2, .int (ar (81 + i))), (1, .int (ar (1 + i))), (0, .ref w0)]) hx hb dX9_feeds_182 rfl hl (by decide) rfl (fun ls hl => ?_)
                    refine lv_aload_n hx hb dX9_feeds_183 rfl (lv_at hl 3 rfl) ?_
                    refine lv_iload_n hx hb dX9_feeds_184 rfl (lv_at hl 0 rfl) ?_
                    refine ee_eq0 (tgt := 192) hx hb (by omega) dX9_feeds_185 (by decide) (fun h_8 => ?_) (fun h_8 => absurd h_8 (by decide))
                    refine lv_aload_n hx hb dX9_feeds_192 rfl (lv_at hl 3 rfl) ?_
                    refine va_get (ci := 9) (v := .int (nI (t1 + (nv (ar (81 + i)))))) (C := RX9) (T := TX9) (N := 24) hx hb hts i9_X9_feeds hown hV.1 hP 0 rfl rfl 18 (by decide) (hts _ w1_X9_feeds) (fun _ h9 => h9) rfl dX9_feeds_193 ?_
                    refine lv_aload_n hx hb dX9_feeds_196 rfl (lv_at hl 3 rfl) ?_
                    refine va_get (ci := 9) (v := .ref w1) (C := RX9) (T := TX9) (N := 24) hx hb hts i9_X9_feeds hown hV.1 hP 0 rfl rfl 0 (by decide) (hts _ w6_X9_feeds) (fun _ h9 => h9) rfl dX9_feeds_197 ?_
                    refine lv_sipush (v := nI 163) hx hb dX9_feeds_200 (by decide) ?_
                    refine ee_ild hx hb hV hP 1 rfl (j := 163) (by omega) (by decide) dX9_feeds_203 ?_
                    refine lv_icmp_le (tgt := 211) hx hb dX9_feeds_204 (by decide) (fun g204 => ?_) (fun g204 => ?_)
                    · refine lv_iconst (v := nI 0) hx hb dX9_feeds_211 (by decide) ?_
                      exact B_5 0 _ _ _ (by rw [fdE, if_neg (fun q => q.2 g174), if_pos g204]) hP hD hS (lv_sub hl [1, 2, 3] rfl)
                    · refine lv_iconst (v := nI 2) hx hb dX9_feeds_207 (by decide) ?_
                      refine lv_goto (tgt := 212) hx hb dX9_feeds_208 (by decide) ?_
                      exact B_5 2 _ _ _ (by rw [fdE, if_neg (fun q => q.2 g174), if_neg g204]) hP hD hS (lv_sub hl [1, 2, 3] rfl)
                  · refine lv_iconst (v := nI 1) hx hb dX9_feeds_177 (by decide) ?_
                    refine lv_goto (tgt := 182) hx hb dX9_feeds_178 (by decide) ?_
                    refine lv_istore_n (lv' := [(3, .int (nI 1)), (2, .int (ar (81 + i))), (1, .int (ar (1 + i))), (0, .ref w0)]) hx hb dX9_feeds_182 rfl hl (by decide) rfl (fun ls hl => ?_)
                    refine lv_aload_n hx hb dX9_feeds_183 rfl (lv_at hl 3 rfl) ?_
                    refine lv_iload_n hx hb dX9_feeds_184 rfl (lv_at hl 0 rfl) ?_
                    refine ee_eq0 (tgt := 192) hx hb (by omega) dX9_feeds_185 (by decide) (fun h_9 => absurd h_9 (by decide)) (fun h_9 => ?_)
                    refine lv_iconst (v := nI 1) hx hb dX9_feeds_188 (by decide) ?_
                    refine lv_goto (tgt := 212) hx hb dX9_feeds_189 (by decide) ?_
                    exact B_5 1 _ _ _ (by rw [fdE, if_pos ⟨⟨g139, g151⟩, g174⟩]) hP hD hS (lv_sub hl [1, 2, 3] rfl)
            refine lv_aload_n hx hb dX9_feeds_116 rfl (lv_at hl 2 rfl) ?_
            refine lv_aload_n hx hb dX9_feeds_117 rfl (lv_at hl 2 rfl) ?_
            refine va_get (ci := 9) (v := .int (nI hb1)) (C := RX9) (T := TX9) (N := 24) hx hb hts i9_X9_feeds hown hV.1 hP 0 rfl rfl 21 (by decide) (hts _ w4_X9_feeds) (fun _ h9 => h9) rfl dX9_feeds_118 ?_
            refine ee_ne0 (tgt := 129) hx hb (by omega) dX9_feeds_121 (by decide) (fun g121 => ?_) (fun g121 => ?_)
            · refine lv_iconst (v := nI 1) hx hb dX9_feeds_129 (by decide) ?_
              refine lv_goto (tgt := 134) hx hb dX9_feeds_130 (by decide) ?_
              exact B_4 1 _ _ _ (sp_a hH g121) hP hD hS (lv_sub hl [0, 1, 2] rfl)
            · refine lv_iload_n hx hb dX9_feeds_124 rfl (lv_at hl 1 rfl) ?_
              refine lv_iconst (v := nI 3) hx hb dX9_feeds_125 (by decide) ?_
              refine lv_icmp_ne (tgt := 133) hx hb dX9_feeds_126 (by decide) (fun g126 => ?_) (fun g126 => ?_)
              · refine lv_iconst (v := nI 0) hx hb dX9_feeds_133 (by decide) ?_
                exact B_4 0 _ _ _ (sp_c hH g121 g126) hP hD hS (lv_sub hl [0, 1, 2] rfl)
              · refine lv_iconst (v := nI 1) hx hb dX9_feeds_129 (by decide) ?_
                refine lv_goto (tgt := 134) hx hb dX9_feeds_130 (by decide) ?_
                exact B_4 1 _ _ _ (sp_b g126) hP hD hS (lv_sub hl [0, 1, 2] rfl)
          refine lv_aload_n hx hb dX9_feeds_98 rfl (lv_at hl 2 rfl) ?_
          refine lv_dup hx hb dX9_feeds_99 rfl ?_
          refine va_get (ci := 9) (v := .int (nI l1)) (C := RX9) (T := TX9) (N := 24) hx hb hts i9_X9_feeds hown hV.1 hP 0 rfl rfl 20 (by decide) (hts _ w3_X9_feeds) (fun _ h9 => h9) rfl dX9_feeds_100 ?_
          refine lv_iload_n hx hb dX9_feeds_103 rfl (lv_at hl 1 rfl) ?_
          refine ee_z_ne (tgt := 111) hx hb dX9_feeds_104 (by decide) (fun g104 => ?_) (fun g104 => ?_)
          · refine lv_iconst (v := nI 0) hx hb dX9_feeds_111 (by decide) ?_
            exact B_3 0 _ _ _ (by rw [cyL, if_neg g104, Nat.add_zero]) hP hD hS (lv_sub hl [0, 1, 2] rfl)
          · refine lv_iconst (v := nI 1) hx hb dX9_feeds_107 (by decide) ?_
            refine lv_goto (tgt := 112) hx hb dX9_feeds_108 (by decide) ?_
            exact B_3 1 _ _ _ (by rw [cyL, if_pos g104]) hP hD hS (lv_sub hl [0, 1, 2] rfl)
        · refine lv_aload_n hx hb dX9_feeds_45 rfl (lv_at hl 0 rfl) ?_
          refine lv_iconst (v := nI 3) hx hb dX9_feeds_46 (by decide) ?_
          refine va_put (ci := 9) (v := .int (nI 3)) (ty := .int) (C := RX9) (T := TX9) (N := 24) hx hb hts i9_X9_feeds tyX9 tyX9_ok nmX9 hown hV.1 hP hD hS 0 rfl rfl 22 (by decide) (hts _ w5_X9_feeds) (fun _ h9 => h9) rfl (by decide +kernel) rfl rfl (Nat.le_of_ble_eq_true rfl) dX9_feeds_47 (fun H locs hP hD hS => ?_)
          have hP : va_P E.1 vwCl [(w0, ee_o 9 [.ref w1, .ref w2, .ref w3, .ref w4, .float pt, .float pa, .float p1, .float p2, .ref w5, .int tl, .int ta, .int fa, .ref w6, .ref w7, .int it, .ref w8, .ref w9, .int dp, .int (nI t1), .int (nI i), .int (nI l1), .int (nI hb1), .int (nI 3), .long hh]), (w1, ee_i E 204 ar)] H := hP
          have hD : va_D A [(w0, ee_o 9 [.ref w1, .ref w2, .ref w3, .ref w4, .float pt, .float pa, .float p1, .float p2, .ref w5, .int tl, .int ta, .int fa, .ref w6, .ref w7, .int it, .ref w8, .ref w9, .int dp, .int (nI t1), .int (nI i), .int (nI l1), .int (nI hb1), .int (nI 3), .long hh]), (w1, ee_i E 204 ar)] := hD
          refine lv_goto (tgt := 25) hx hb dX9_feeds_50 (by decide) ?_
          exact ihB_1 i t1 l1 s1 3 hb1 _ _ _ (by omega) (by omega) (by omega) (Or.inr ⟨by decide, fd_end (by omega) (hE.resolve_right (fun q => q.1 g29)).2⟩) hH hP hD hS (lv_sub hl [0] rfl)
  exact B_1 ((2 * (n - 0) + (1 - 0)) + 1) 0 0 0 0 0 0 _ _ _ (Nat.lt_succ_self _) (by omega) (by omega) (Or.inl ⟨rfl, hF⟩) rfl hP hD hS (lv_sub hl [0] rfl)
abbrev rmX9_reasonAt : Room := ({ frames := 0, cells := 0, slots := 0, locals := 0 } : Room)
theorem w1_X9_reasonAt : Cond.fieldLink RX9 129 "LabelApplicatorModel" "end" "I" ∈ wsX9_reasonAt := List.mem_of_getElem? (i := 1) (by decide +kernel)
theorem w2_X9_reasonAt : Cond.fieldLink RX9 125 "LabelApplicatorModel" "hasSplice" "Z" ∈ wsX9_reasonAt := List.mem_of_getElem? (i := 2) (by decide +kernel)
theorem w3_X9_reasonAt : Cond.fieldLink RX9 122 "LabelApplicatorModel" "labels" "I" ∈ wsX9_reasonAt := List.mem_of_getElem? (i := 3) (by decide +kernel)
theorem w4_X9_reasonAt : Cond.fieldLink RX9 7 "LabelApplicatorModel" "m" "[I" ∈ wsX9_reasonAt := List.mem_of_getElem? (i := 4) (by decide +kernel)
theorem i9_X9_reasonAt : ∀ w ∈ wsX90, w ∈ wsX9_reasonAt := fun w h => (goodIn_r _ [5, 6, 7, 8, 9, 10, 11, 12, 13, 14, 15, 16, 17, 18, 19, 20, 21, 22, 23, 24, 25, 26, 27, 28] (by decide +kernel) (by decide +kernel) w h).1
set_option maxHeartbeats 4000000 in
set_option maxRecDepth 100000 in
theorem kX9_reasonAt (l : Launch) (E : ee_T) (w0 w1 w2 w3 w4 w5 w6 w7 w8 w9 : Nat) (pt pa p1 p2 : UInt32) (tl ta fa it dp tv tn : Int32) (hh : Int64) (ar : Nat → Int32) (lb hv9 ed sc bl : Nat) (v : Int32) (hed : 1 ≤ ed ∧ ed ≤ 3) (hsm : sc < 1000 ∧ lb < 1000 ∧ bl < 2) (hhb : hv9 = if 0 < sc then 1 else 0) : CQ l E yX9_reasonAt wsX9_reasonAt rmX9_reasonAt [.ref w0, .int v, .int (nI bl)] [(w0, ee_o 9 [.ref w1, .ref w2, .ref w3, .ref w4, .float pt, .float pa, .float p1, .float p2, .ref w5, .int tl, .int ta, .int fa, .ref w6, .ref w7, .int it, .ref w8, .ref w9, .int dp, .int tv, .int tn, .int (nI lb), .int (nI hv9), .int (nI ed), .long hh]), (w1, ee_i E 204 ar)] (QI E (fun (r : Int32) (u : Unit) => r = nI (rsS ed sc lb (bl ≠ 0) (ar 169) v (ar 166))) (fun (u : Unit) => [(w0, ee_o 9 [.ref w1, .ref w2, .ref w3, .ref w4, .float pt, .float pa, .float p1, .float p2, .ref w5, .int tl, .int ta, .int fa, .ref w6, .ref w7, .int it, .ref w8, .ref w9, .int dp, .int tv, .int tn, .int (nI lb), .int (nI hv9), .int (nI ed), .long hh]), (w1, ee_i E 204 ar)])) 0 0 := by
  refine CQ_ofW (cc := cX9_reasonAt) (maxL := 4) (ret := (some .int)) (by decide) rfl (Nat.le_of_ble_eq_true rfl) ?_
  intro p e s m below meth c A Q hQ hx hb hr hml hown hlocks hnm hts hV hA hP hD hS ls hl
  have hl : lv_has ls 4 [(0, .ref w0), (1, .int v), (2, .int (nI bl))] := hl
  have hhc : (0 < sc ∧ hv9 = 1) ∨ (sc = 0 ∧ hv9 = 0) := by
    by_cases q : 0 < sc
    · exact Or.inl ⟨q, by rw [hhb, if_pos q]⟩
    · exact Or.inr ⟨by omega, by rw [hhb, if_neg q]⟩
  refine lv_aload_n hx hb dX9_reasonAt_0 rfl (lv_at hl 0 rfl) ?_
  refine va_get (ci := 9) (v := .int (nI ed)) (C := RX9) (T := TX9) (N := 24) hx hb hts i9_X9_reasonAt hown hV.1 hP 0 rfl rfl 22 (by decide) (hts _ w1_X9_reasonAt) (fun _ h9 => h9) rfl dX9_reasonAt_1 ?_
  refine lv_iconst (v := nI 1) hx hb dX9_reasonAt_4 (by decide) ?_
  refine ee_le (tgt := 22) hx hb (by omega) (by omega) dX9_reasonAt_5 (by decide) (fun h_1 => ?_) (fun h_1 => ?_)
  · refine lv_aload_n hx hb dX9_reasonAt_22 rfl (lv_at hl 0 rfl) ?_
    refine va_get (ci := 9) (v := .int (nI hv9)) (C := RX9) (T := TX9) (N := 24) hx hb hts i9_X9_reasonAt hown hV.1 hP 0 rfl rfl 21 (by decide) (hts _ w2_X9_reasonAt) (fun _ h9 => h9) rfl dX9_reasonAt_23 ?_
    refine ee_ne0 (tgt := 36) hx hb (by omega) dX9_reasonAt_26 (by decide) (fun g26 => ?_) (fun g26 => ?_)
    · refine lv_aload_n hx hb dX9_reasonAt_36 rfl (lv_at hl 0 rfl) ?_
      refine va_get (ci := 9) (v := .int (nI hv9)) (C := RX9) (T := TX9) (N := 24) hx hb hts i9_X9_reasonAt hown hV.1 hP 0 rfl rfl 21 (by decide) (hts _ w2_X9_reasonAt) (fun _ h9 => h9) rfl dX9_reasonAt_37 ?_
      refine ee_eq0 (tgt := 47) hx hb (by omega) dX9_reasonAt_40 (by decide) (fun h_2 => absurd h_2 g26) (fun h_2 => ?_)
      refine lv_iconst (v := nI 3) hx hb dX9_reasonAt_43 (by decide) ?_
      refine lv_goto (tgt := 48) hx hb dX9_reasonAt_44 (by decide) ?_
      exact ee_fi hQ hx hb hr (rfl) hlocks hS () (by rw [rsS, if_neg (by omega), if_neg (by omega), if_pos (by omega)]) hP hD dX9_reasonAt_48
    · refine lv_aload_n hx hb dX9_reasonAt_29 rfl (lv_at hl 0 rfl) ?_
      refine va_get (ci := 9) (v := .int (nI lb)) (C := RX9) (T := TX9) (N := 24) hx hb hts i9_X9_reasonAt hown hV.1 hP 0 rfl rfl 20 (by decide) (hts _ w3_X9_reasonAt) (fun _ h9 => h9) rfl dX9_reasonAt_30 ?_
      refine ee_ne0 (tgt := 49) hx hb (by omega) dX9_reasonAt_33 (by decide) (fun h_3 => ?_) (fun h_3 => ?_)
      · refine lv_aload_n hx hb dX9_reasonAt_49 rfl (lv_at hl 0 rfl) ?_
        refine va_get (ci := 9) (v := .int (nI lb)) (C := RX9) (T := TX9) (N := 24) hx hb hts i9_X9_reasonAt hown hV.1 hP 0 rfl rfl 20 (by decide) (hts _ w3_X9_reasonAt) (fun _ h9 => h9) rfl dX9_reasonAt_50 ?_
        refine lv_iconst (v := nI 1) hx hb dX9_reasonAt_53 (by decide) ?_
        refine ee_gt (tgt := 61) hx hb (by omega) (by omega) dX9_reasonAt_54 (by decide) (fun g54 => ?_) (fun g54 => ?_)
        · refine lv_aload_n hx hb dX9_reasonAt_61 rfl (lv_at hl 0 rfl) ?_
          refine va_get (ci := 9) (v := .int (nI lb)) (C := RX9) (T := TX9) (N := 24) hx hb hts i9_X9_reasonAt hown hV.1 hP 0 rfl rfl 20 (by decide) (hts _ w3_X9_reasonAt) (fun _ h9 => h9) rfl dX9_reasonAt_62 ?_
          refine lv_iconst (v := nI 1) hx hb dX9_reasonAt_65 (by decide) ?_
          refine ee_le (tgt := 73) hx hb (by omega) (by omega) dX9_reasonAt_66 (by decide) (fun h_4 => absurd h_4 (by omega)) (fun h_4 => ?_)
          refine lv_iconst (v := nI 5) hx hb dX9_reasonAt_69 (by decide) ?_
          refine lv_goto (tgt := 75) hx hb dX9_reasonAt_70 (by decide) ?_
          exact ee_fi hQ hx hb hr (rfl) hlocks hS () (by rw [rsS, if_neg (by omega), if_neg (by omega), if_neg (by omega), if_neg (by omega), if_pos (by omega)]) hP hD dX9_reasonAt_75
        · refine lv_iload_n hx hb dX9_reasonAt_57 rfl (lv_at hl 2 rfl) ?_
          refine ee_eq0 (tgt := 76) hx hb (by omega) dX9_reasonAt_58 (by decide) (fun g58 => ?_) (fun g58 => ?_)
          · refine lv_aload_n hx hb dX9_reasonAt_76 rfl (lv_at hl 0 rfl) ?_
            refine va_get (ci := 9) (v := .ref w1) (C := RX9) (T := TX9) (N := 24) hx hb hts i9_X9_reasonAt hown hV.1 hP 0 rfl rfl 0 (by decide) (hts _ w4_X9_reasonAt) (fun _ h9 => h9) rfl dX9_reasonAt_77 ?_
            refine lv_sipush (v := nI 169) hx hb dX9_reasonAt_80 (by decide) ?_
            refine ee_ild hx hb hV hP 1 rfl (j := 169) (by omega) (by decide) dX9_reasonAt_83 ?_
            refine lv_iload_n hx hb dX9_reasonAt_84 rfl (lv_at hl 1 rfl) ?_
            refine lv_isub hx hb dX9_reasonAt_85 ?_
            refine lv_istore_n (lv' := [(3, .int ((ar 169) - v)), (0, .ref w0), (1, .int v), (2, .int (nI bl))]) hx hb dX9_reasonAt_86 rfl hl (by decide) rfl (fun ls hl => ?_)
            refine lv_iload_n hx hb dX9_reasonAt_87 rfl (lv_at hl 0 rfl) ?_
            refine lv_aload_n hx hb dX9_reasonAt_88 rfl (lv_at hl 1 rfl) ?_
            refine va_get (ci := 9) (v := .ref w1) (C := RX9) (T := TX9) (N := 24) hx hb hts i9_X9_reasonAt hown hV.1 hP 0 rfl rfl 0 (by decide) (hts _ w4_X9_reasonAt) (fun _ h9 => h9) rfl dX9_reasonAt_89 ?_
            refine lv_sipush (v := nI 166) hx hb dX9_reasonAt_92 (by decide) ?_
            refine ee_ild hx hb hV hP 1 rfl (j := 166) (by omega) (by decide) dX9_reasonAt_95 ?_
            refine lv_icmp_gt (tgt := 112) hx hb dX9_reasonAt_96 (by decide) (fun g96 => ?_) (fun g96 => ?_)
            · refine lv_bipush (v := nI 7) hx hb dX9_reasonAt_112 (by decide) ?_
              refine lv_goto (tgt := 118) hx hb dX9_reasonAt_114 (by decide) ?_
              exact ee_fi hQ hx hb hr (rfl) hlocks hS () (by rw [rsS, if_neg (by omega), if_neg (by omega), if_neg (by omega), if_neg (by omega), if_neg (by omega), if_neg (fun q => q g58), if_pos (Or.inl g96)]) hP hD dX9_reasonAt_118
            · refine lv_iload_n hx hb dX9_reasonAt_99 rfl (lv_at hl 0 rfl) ?_
              refine lv_ineg hx hb dX9_reasonAt_100 ?_
              refine lv_aload_n hx hb dX9_reasonAt_101 rfl (lv_at hl 1 rfl) ?_
              refine va_get (ci := 9) (v := .ref w1) (C := RX9) (T := TX9) (N := 24) hx hb hts i9_X9_reasonAt hown hV.1 hP 0 rfl rfl 0 (by decide) (hts _ w4_X9_reasonAt) (fun _ h9 => h9) rfl dX9_reasonAt_102 ?_
              refine lv_sipush (v := nI 166) hx hb dX9_reasonAt_105 (by decide) ?_
              refine ee_ild hx hb hV hP 1 rfl (j := 166) (by omega) (by decide) dX9_reasonAt_108 ?_
              refine lv_icmp_le (tgt := 117) hx hb dX9_reasonAt_109 (by decide) (fun g109 => ?_) (fun g109 => ?_)
              · refine lv_iconst (v := nI 0) hx hb dX9_reasonAt_117 (by decide) ?_
                exact ee_fi hQ hx hb hr (rfl) hlocks hS () (by rw [rsS, if_neg (by omega), if_neg (by omega), if_neg (by omega), if_neg (by omega), if_neg (by omega), if_neg (fun q => q g58), if_neg (fun q => q.elim (Int32.not_lt.mpr (Int32.not_lt.mp g96)) (Int32.not_lt.mpr g109))]) hP hD dX9_reasonAt_118
              · refine lv_bipush (v := nI 7) hx hb dX9_reasonAt_112 (by decide) ?_
                refine lv_goto (tgt := 118) hx hb dX9_reasonAt_114 (by decide) ?_
                exact ee_fi hQ hx hb hr (rfl) hlocks hS () (by rw [rsS, if_neg (by omega), if_neg (by omega), if_neg (by omega), if_neg (by omega), if_neg (by omega), if_neg (fun q => q g58), if_pos (Or.inr (Int32.not_le.mp g109))]) hP hD dX9_reasonAt_118
          · refine lv_aload_n hx hb dX9_reasonAt_61 rfl (lv_at hl 0 rfl) ?_
            refine va_get (ci := 9) (v := .int (nI lb)) (C := RX9) (T := TX9) (N := 24) hx hb hts i9_X9_reasonAt hown hV.1 hP 0 rfl rfl 20 (by decide) (hts _ w3_X9_reasonAt) (fun _ h9 => h9) rfl dX9_reasonAt_62 ?_
            refine lv_iconst (v := nI 1) hx hb dX9_reasonAt_65 (by decide) ?_
            refine ee_le (tgt := 73) hx hb (by omega) (by omega) dX9_reasonAt_66 (by decide) (fun h_5 => ?_) (fun h_5 => absurd h_5 (by omega))
            refine lv_bipush (v := nI 6) hx hb dX9_reasonAt_73 (by decide) ?_
            exact ee_fi hQ hx hb hr (rfl) hlocks hS () (by rw [rsS, if_neg (by omega), if_neg (by omega), if_neg (by omega), if_neg (by omega), if_neg (by omega), if_pos g58]) hP hD dX9_reasonAt_75
      · refine lv_aload_n hx hb dX9_reasonAt_36 rfl (lv_at hl 0 rfl) ?_
        refine va_get (ci := 9) (v := .int (nI hv9)) (C := RX9) (T := TX9) (N := 24) hx hb hts i9_X9_reasonAt hown hV.1 hP 0 rfl rfl 21 (by decide) (hts _ w2_X9_reasonAt) (fun _ h9 => h9) rfl dX9_reasonAt_37 ?_
        refine ee_eq0 (tgt := 47) hx hb (by omega) dX9_reasonAt_40 (by decide) (fun h_6 => ?_) (fun h_6 => absurd g26 h_6)
        refine lv_iconst (v := nI 4) hx hb dX9_reasonAt_47 (by decide) ?_
        exact ee_fi hQ hx hb hr (rfl) hlocks hS () (by rw [rsS, if_neg (by omega), if_neg (by omega), if_neg (by omega), if_pos (by omega)]) hP hD dX9_reasonAt_48
  · refine lv_aload_n hx hb dX9_reasonAt_8 rfl (lv_at hl 0 rfl) ?_
    refine va_get (ci := 9) (v := .int (nI ed)) (C := RX9) (T := TX9) (N := 24) hx hb hts i9_X9_reasonAt hown hV.1 hP 0 rfl rfl 22 (by decide) (hts _ w1_X9_reasonAt) (fun _ h9 => h9) rfl dX9_reasonAt_9 ?_
    refine lv_iconst (v := nI 3) hx hb dX9_reasonAt_12 (by decide) ?_
    refine ee_ne (tgt := 20) hx hb (by omega) (by omega) dX9_reasonAt_13 (by decide) (fun h_7 => ?_) (fun h_7 => ?_)
    · refine lv_iconst (v := nI 2) hx hb dX9_reasonAt_20 (by decide) ?_
      exact ee_fi hQ hx hb hr (rfl) hlocks hS () (by rw [rsS, if_neg (by omega), if_pos (by omega)]) hP hD dX9_reasonAt_21
    · refine lv_iconst (v := nI 1) hx hb dX9_reasonAt_16 (by decide) ?_
      refine lv_goto (tgt := 21) hx hb dX9_reasonAt_17 (by decide) ?_
      exact ee_fi hQ hx hb hr (rfl) hlocks hS () (by rw [rsS, if_pos (by omega)]) hP hD dX9_reasonAt_21
