/-! the model reads; load -/
abbrev rmX9_reads : Room := ({ frames := 5, cells := 0, slots := 0, locals := 108 } : Room)
theorem w1_X9_reads : Cond.fieldLink RX9 51 "LabelApplicatorModel" "at" "I" ∈ wsX9_reads := List.mem_of_getElem? (i := 1) (by decide +kernel)
theorem w2_X9_reads : Cond.fieldLink RX9 61 "LabelApplicatorModel" "fault" "I" ∈ wsX9_reads := List.mem_of_getElem? (i := 2) (by decide +kernel)
theorem w3_X9_reads : Cond.fieldLink RX9 68 "LabelApplicatorModel" "items" "I" ∈ wsX9_reads := List.mem_of_getElem? (i := 3) (by decide +kernel)
theorem w4_X9_reads : Cond.fieldLink RX9 88 "LabelApplicatorModel" "depth" "I" ∈ wsX9_reads := List.mem_of_getElem? (i := 4) (by decide +kernel)
theorem w5_X9_reads : Cond.fieldLink RX9 47 "LabelApplicatorModel" "textLength" "I" ∈ wsX9_reads := List.mem_of_getElem? (i := 5) (by decide +kernel)
theorem w6_X9_reads : Cond.fieldLink RX9 40 "LabelApplicatorModel" "begin" "[I" ∈ wsX9_reads := List.mem_of_getElem? (i := 6) (by decide +kernel)
theorem w7_X9_reads : Cond.fieldLink RX9 37 "LabelApplicatorModel" "times" "[I" ∈ wsX9_reads := List.mem_of_getElem? (i := 7) (by decide +kernel)
theorem w8_X9_reads : Cond.methodLink RX9 58 yX9_skips ∈ wsX9_reads := List.mem_of_getElem? (i := 8) (by decide +kernel)
theorem w11_X9_reads : Cond.initialized RX9 ∈ wsX9_reads := List.mem_of_getElem? (i := 11) (by decide +kernel)
theorem w13_X9_reads : Cond.methodLink RX9 54 yX9_next ∈ wsX9_reads := List.mem_of_getElem? (i := 13) (by decide +kernel)
theorem w17_X9_reads : Cond.fieldLink RX9 28 "LabelApplicatorModel" "text" "[I" ∈ wsX9_reads := List.mem_of_getElem? (i := 17) (by decide +kernel)
theorem w18_X9_reads : Cond.methodLink RX9 75 yX9_passes ∈ wsX9_reads := List.mem_of_getElem? (i := 18) (by decide +kernel)
theorem w22_X9_reads : Cond.methodLink RX9 81 yX9_repeats ∈ wsX9_reads := List.mem_of_getElem? (i := 22) (by decide +kernel)
theorem w26_X9_reads : Cond.fieldLink RX9 31 "LabelApplicatorModel" "kind" "[I" ∈ wsX9_reads := List.mem_of_getElem? (i := 26) (by decide +kernel)
theorem w27_X9_reads : Cond.fieldLink RX9 34 "LabelApplicatorModel" "length" "[I" ∈ wsX9_reads := List.mem_of_getElem? (i := 27) (by decide +kernel)
theorem w28_X9_reads : Cond.methodLink RX9 91 yX9_readsPart ∈ wsX9_reads := List.mem_of_getElem? (i := 28) (by decide +kernel)
theorem w32_X9_reads : Cond.methodLink RX9 43 yX9_in ∈ wsX9_reads := List.mem_of_getElem? (i := 32) (by decide +kernel)
theorem w35_X9_reads : Cond.methodLink RX9 78 yX9_readsNumber ∈ wsX9_reads := List.mem_of_getElem? (i := 35) (by decide +kernel)
theorem w39_X9_reads : Cond.methodLink RX9 64 yX9_fails ∈ wsX9_reads := List.mem_of_getElem? (i := 39) (by decide +kernel)
theorem w43_X9_reads : Cond.methodLink RX9 71 yX9_kindOf ∈ wsX9_reads := List.mem_of_getElem? (i := 43) (by decide +kernel)
theorem w46_X9_reads : Cond.methodLink RX9 85 yX9_readsItem ∈ wsX9_reads := List.mem_of_getElem? (i := 46) (by decide +kernel)
theorem i9_X9_reads : ∀ w ∈ wsX90, w ∈ wsX9_reads := fun w h => (goodIn_r _ [50, 51, 52, 53, 54, 55, 56, 57, 58, 59, 60, 61, 62, 63, 64, 65, 66, 67, 68, 69, 70, 71, 72, 73] (by decide +kernel) (by decide +kernel) w h).1
set_option maxHeartbeats 4000000 in
set_option maxRecDepth 100000 in
theorem kX9_reads (l : Launch) (E : ee_T) (w0 w1 w2 w3 w4 w5 w6 w7 w8 w9 : Nat) (pt pa p1 p2 : UInt32) (ta fa it dp tv tn tb th te : Int32) (hh : Int64) (tq : Nat) (tx kk ll tt bb : Nat → Int32) (htq : tq ≤ 80) : CQ l E yX9_reads wsX9_reads rmX9_reads [.ref w0] [(w0, ee_o 9 [.ref w1, .ref w2, .ref w3, .ref w4, .float pt, .float pa, .float p1, .float p2, .ref w5, .int (nI tq), .int ta, .int fa, .ref w6, .ref w7, .int it, .ref w8, .ref w9, .int dp, .int tv, .int tn, .int tb, .int th, .int te, .long hh]), (w6, ee_i E 81 kk), (w7, ee_i E 81 ll), (w8, ee_i E 4 tt), (w9, ee_i E 4 bb), (w5, ee_i E 80 tx)] (QV E (fun (u : Int32 × Nat × Nat × Nat × (Nat → Int32) × (Nat → Int32) × (Nat → Int32) × (Nat → Int32)) => u.1 = (rdR tq tx).1 ∧ ((rdR tq tx).1 = (-1) → mQ (rdR tq tx).2 u.2.2.1 u.2.2.2.2.1 u.2.2.2.2.2.1 u.2.2.2.1 u.2.2.2.2.2.2.1 u.2.2.2.2.2.2.2) ∧ u.2.2.1 ≤ 81) (fun (u : Int32 × Nat × Nat × Nat × (Nat → Int32) × (Nat → Int32) × (Nat → Int32) × (Nat → Int32)) => [(w0, ee_o 9 [.ref w1, .ref w2, .ref w3, .ref w4, .float pt, .float pa, .float p1, .float p2, .ref w5, .int (nI tq), .int (nI u.2.1), .int u.1, .ref w6, .ref w7, .int (nI u.2.2.1), .ref w8, .ref w9, .int (nI u.2.2.2.1), .int tv, .int tn, .int tb, .int th, .int te, .long hh]), (w6, ee_i E 81 u.2.2.2.2.1), (w7, ee_i E 81 u.2.2.2.2.2.1), (w8, ee_i E 4 u.2.2.2.2.2.2.1), (w9, ee_i E 4 u.2.2.2.2.2.2.2), (w5, ee_i E 80 tx)])) 0 0 := by
  refine CQ_ofW (cc := cX9_reads) (maxL := 1) (ret := none) (by decide) rfl (Nat.le_of_ble_eq_true rfl) ?_
  intro p e s m below meth c A Q hQ hx hb hr hml hown hlocks hnm hts hV hA hP hD hS ls hl
  have hl : lv_has ls 1 [(0, .ref w0)] := hl
  refine lv_aload_n hx hb dX9_reads_0 rfl (lv_at hl 0 rfl) ?_
  refine lv_iconst (v := nI 0) hx hb dX9_reads_1 (by decide) ?_
  refine va_put (ci := 9) (v := .int (nI 0)) (ty := .int) (C := RX9) (T := TX9) (N := 24) hx hb hts i9_X9_reads tyX9 tyX9_ok nmX9 hown hV.1 hP hD hS 0 rfl rfl 10 (by decide) (hts _ w1_X9_reads) (fun _ h9 => h9) rfl (by decide +kernel) rfl rfl (Nat.le_of_ble_eq_true rfl) dX9_reads_2 (fun H locs hP hD hS => ?_)
  have hP : va_P E.1 vwCl [(w0, ee_o 9 [.ref w1, .ref w2, .ref w3, .ref w4, .float pt, .float pa, .float p1, .float p2, .ref w5, .int (nI tq), .int (nI 0), .int fa, .ref w6, .ref w7, .int it, .ref w8, .ref w9, .int dp, .int tv, .int tn, .int tb, .int th, .int te, .long hh]), (w6, ee_i E 81 kk), (w7, ee_i E 81 ll), (w8, ee_i E 4 tt), (w9, ee_i E 4 bb), (w5, ee_i E 80 tx)] H := hP
  have hD : va_D A [(w0, ee_o 9 [.ref w1, .ref w2, .ref w3, .ref w4, .float pt, .float pa, .float p1, .float p2, .ref w5, .int (nI tq), .int (nI 0), .int fa, .ref w6, .ref w7, .int it, .ref w8, .ref w9, .int dp, .int tv, .int tn, .int tb, .int th, .int te, .long hh]), (w6, ee_i E 81 kk), (w7, ee_i E 81 ll), (w8, ee_i E 4 tt), (w9, ee_i E 4 bb), (w5, ee_i E 80 tx)] := hD
  refine lv_aload_n hx hb dX9_reads_5 rfl (lv_at hl 0 rfl) ?_
  refine lv_iconst (v := (-1)) hx hb dX9_reads_6 (by decide) ?_
  refine va_put (ci := 9) (v := .int (-1)) (ty := .int) (C := RX9) (T := TX9) (N := 24) hx hb hts i9_X9_reads tyX9 tyX9_ok nmX9 hown hV.1 hP hD hS 0 rfl rfl 11 (by decide) (hts _ w2_X9_reads) (fun _ h9 => h9) rfl (by decide +kernel) rfl rfl (Nat.le_of_ble_eq_true rfl) dX9_reads_7 (fun H locs hP hD hS => ?_)
  have hP : va_P E.1 vwCl [(w0, ee_o 9 [.ref w1, .ref w2, .ref w3, .ref w4, .float pt, .float pa, .float p1, .float p2, .ref w5, .int (nI tq), .int (nI 0), .int (-1), .ref w6, .ref w7, .int it, .ref w8, .ref w9, .int dp, .int tv, .int tn, .int tb, .int th, .int te, .long hh]), (w6, ee_i E 81 kk), (w7, ee_i E 81 ll), (w8, ee_i E 4 tt), (w9, ee_i E 4 bb), (w5, ee_i E 80 tx)] H := hP
  have hD : va_D A [(w0, ee_o 9 [.ref w1, .ref w2, .ref w3, .ref w4, .float pt, .float pa, .float p1, .float p2, .ref w5, .int (nI tq), .int (nI 0), .int (-1), .ref w6, .ref w7, .int it, .ref w8, .ref w9, .int dp, .int tv, .int tn, .int tb, .int th, .int te, .long hh]), (w6, ee_i E 81 kk), (w7, ee_i E 81 ll), (w8, ee_i E 4 tt), (w9, ee_i E 4 bb), (w5, ee_i E 80 tx)] := hD
  refine lv_aload_n hx hb dX9_reads_10 rfl (lv_at hl 0 rfl) ?_
  refine lv_iconst (v := nI 0) hx hb dX9_reads_11 (by decide) ?_
  refine va_put (ci := 9) (v := .int (nI 0)) (ty := .int) (C := RX9) (T := TX9) (N := 24) hx hb hts i9_X9_reads tyX9 tyX9_ok nmX9 hown hV.1 hP hD hS 0 rfl rfl 14 (by decide) (hts _ w3_X9_reads) (fun _ h9 => h9) rfl (by decide +kernel) rfl rfl (Nat.le_of_ble_eq_true rfl) dX9_reads_12 (fun H locs hP hD hS => ?_)
  have hP : va_P E.1 vwCl [(w0, ee_o 9 [.ref w1, .ref w2, .ref w3, .ref w4, .float pt, .float pa, .float p1, .float p2, .ref w5, .int (nI tq), .int (nI 0), .int (-1), .ref w6, .ref w7, .int (nI 0), .ref w8, .ref w9, .int dp, .int tv, .int tn, .int tb, .int th, .int te, .long hh]), (w6, ee_i E 81 kk), (w7, ee_i E 81 ll), (w8, ee_i E 4 tt), (w9, ee_i E 4 bb), (w5, ee_i E 80 tx)] H := hP
  have hD : va_D A [(w0, ee_o 9 [.ref w1, .ref w2, .ref w3, .ref w4, .float pt, .float pa, .float p1, .float p2, .ref w5, .int (nI tq), .int (nI 0), .int (-1), .ref w6, .ref w7, .int (nI 0), .ref w8, .ref w9, .int dp, .int tv, .int tn, .int tb, .int th, .int te, .long hh]), (w6, ee_i E 81 kk), (w7, ee_i E 81 ll), (w8, ee_i E 4 tt), (w9, ee_i E 4 bb), (w5, ee_i E 80 tx)] := hD
  refine lv_aload_n hx hb dX9_reads_15 rfl (lv_at hl 0 rfl) ?_
  refine lv_iconst (v := nI 0) hx hb dX9_reads_16 (by decide) ?_
  refine va_put (ci := 9) (v := .int (nI 0)) (ty := .int) (C := RX9) (T := TX9) (N := 24) hx hb hts i9_X9_reads tyX9 tyX9_ok nmX9 hown hV.1 hP hD hS 0 rfl rfl 17 (by decide) (hts _ w4_X9_reads) (fun _ h9 => h9) rfl (by decide +kernel) rfl rfl (Nat.le_of_ble_eq_true rfl) dX9_reads_17 (fun H locs hP hD hS => ?_)
  have hP : va_P E.1 vwCl [(w0, ee_o 9 [.ref w1, .ref w2, .ref w3, .ref w4, .float pt, .float pa, .float p1, .float p2, .ref w5, .int (nI tq), .int (nI 0), .int (-1), .ref w6, .ref w7, .int (nI 0), .ref w8, .ref w9, .int (nI 0), .int tv, .int tn, .int tb, .int th, .int te, .long hh]), (w6, ee_i E 81 kk), (w7, ee_i E 81 ll), (w8, ee_i E 4 tt), (w9, ee_i E 4 bb), (w5, ee_i E 80 tx)] H := hP
  have hD : va_D A [(w0, ee_o 9 [.ref w1, .ref w2, .ref w3, .ref w4, .float pt, .float pa, .float p1, .float p2, .ref w5, .int (nI tq), .int (nI 0), .int (-1), .ref w6, .ref w7, .int (nI 0), .ref w8, .ref w9, .int (nI 0), .int tv, .int tn, .int tb, .int th, .int te, .long hh]), (w6, ee_i E 81 kk), (w7, ee_i E 81 ll), (w8, ee_i E 4 tt), (w9, ee_i E 4 bb), (w5, ee_i E 80 tx)] := hD
  refine lv_aload_n hx hb dX9_reads_20 rfl (lv_at hl 0 rfl) ?_
  refine ee_kv (wr := [(w6, ee_i E 81 kk), (w7, ee_i E 81 ll), (w8, ee_i E 4 tt), (w9, ee_i E 4 bb)]) (ee_rV (As := []) (rest := []) (kX9_skips l E w0 w1 w2 w3 w4 w5 w6 w7 w8 w9 pt pa p1 p2 (-1) (nI 0) (nI 0) tv tn tb th te hh tq 0 tx (by omega) (by omega)) hx hb hml hown hts 0 gX9_reads_X9_skips rfl rfl rfl (by decide +kernel) ⟨Nat.le_of_ble_eq_true rfl, Nat.le_of_ble_eq_true rfl⟩ hV hP hD hS hA [0, 5] rfl (by decide) hl 0 rfl rfl rfl rfl (Nat.le_of_ble_eq_true rfl) dX9_reads_21 ⟨Nat.le_of_ble_eq_true rfl, Nat.le_of_ble_eq_true rfl⟩) hP hD hS hA [0, 5] [1, 2, 3, 4] rfl rfl (by decide) (by decide) (fun u_2 H locs hp_3 hP hD hS => ?_)
  have hP : va_P E.1 vwCl [(w6, ee_i E 81 kk), (w7, ee_i E 81 ll), (w8, ee_i E 4 tt), (w9, ee_i E 4 bb), (w0, ee_o 9 [.ref w1, .ref w2, .ref w3, .ref w4, .float pt, .float pa, .float p1, .float p2, .ref w5, .int (nI tq), .int (nI (skp (chA tq tx) 0)), .int (-1), .ref w6, .ref w7, .int (nI 0), .ref w8, .ref w9, .int (nI 0), .int tv, .int tn, .int tb, .int th, .int te, .long hh]), (w5, ee_i E 80 tx)] H := hP
  have hD : va_D A [(w6, ee_i E 81 kk), (w7, ee_i E 81 ll), (w8, ee_i E 4 tt), (w9, ee_i E 4 bb), (w0, ee_o 9 [.ref w1, .ref w2, .ref w3, .ref w4, .float pt, .float pa, .float p1, .float p2, .ref w5, .int (nI tq), .int (nI (skp (chA tq tx) 0)), .int (-1), .ref w6, .ref w7, .int (nI 0), .ref w8, .ref w9, .int (nI 0), .int tv, .int tn, .int tb, .int th, .int te, .long hh]), (w5, ee_i E 80 tx)] := hD
  have hs0 := skp_b (chA tq tx) 0
  have B_4 : ∀ (zz : Nat) (m0 : Nat) (ss : Ps) (fa1 : Int32) (at1 n1 d1 : Nat) (gk gl tj bj : Nat → Int32) (H : Heap) (locs : List Loc) (ls : Array Slot), m0 < zz → (n1 ≤ 81 ∧ d1 ≤ 3 ∧ at1 ≤ 2000) → (mdI (chA tq tx) tq (rdR tq tx) m0 ss fa1 n1 gk gl d1 tj bj at1) → va_P E.1 vwCl [(w6, ee_i E 81 gk), (w7, ee_i E 81 gl), (w8, ee_i E 4 tj), (w9, ee_i E 4 bj), (w0, ee_o 9 [.ref w1, .ref w2, .ref w3, .ref w4, .float pt, .float pa, .float p1, .float p2, .ref w5, .int (nI tq), .int (nI at1), .int fa1, .ref w6, .ref w7, .int (nI n1), .ref w8, .ref w9, .int (nI d1), .int tv, .int tn, .int tb, .int th, .int te, .long hh]), (w5, ee_i E 80 tx)] H → va_D A [(w6, ee_i E 81 gk), (w7, ee_i E 81 gl), (w8, ee_i E 4 tj), (w9, ee_i E 4 bj), (w0, ee_o 9 [.ref w1, .ref w2, .ref w3, .ref w4, .float pt, .float pa, .float p1, .float p2, .ref w5, .int (nI tq), .int (nI at1), .int fa1, .ref w6, .ref w7, .int (nI n1), .ref w8, .ref w9, .int (nI d1), .int tv, .int tn, .int tb, .int th, .int te, .long hh]), (w5, ee_i E 80 tx)] → va_S A s.heap H locs → lv_has ls 1 [(0, .ref w0)] → W p l e rmX9_reads s m [.ref w0].toArray below meth c H locs 0 0 Q (F0 m 24 ls []) := by
    intro zz
    induction zz with
    | zero => intro m0 ss fa1 at1 n1 d1 gk gl tj bj H locs ls hzz; exact absurd hzz (Nat.not_lt_zero _)
    | succ zz ihB_4 =>
      intro m0 ss fa1 at1 n1 d1 gk gl tj bj H locs ls hzz hsh hL hP hD hS hl
      refine lv_aload_n hx hb dX9_reads_24 rfl (lv_at hl 0 rfl) ?_
      refine va_get (ci := 9) (v := .int (nI at1)) (C := RX9) (T := TX9) (N := 24) hx hb hts i9_X9_reads hown hV.1 hP 4 rfl rfl 10 (by decide) (hts _ w1_X9_reads) (fun _ h9 => h9) rfl dX9_reads_25 ?_
      refine lv_aload_n hx hb dX9_reads_28 rfl (lv_at hl 0 rfl) ?_
      refine va_get (ci := 9) (v := .int (nI tq)) (C := RX9) (T := TX9) (N := 24) hx hb hts i9_X9_reads hown hV.1 hP 4 rfl rfl 9 (by decide) (hts _ w5_X9_reads) (fun _ h9 => h9) rfl dX9_reads_29 ?_
      refine ee_ge (tgt := 121) hx hb (by omega) (by omega) dX9_reads_32 (by decide) (fun g32 => ?_) (fun g32 => ?_)
      · refine lv_aload_n hx hb dX9_reads_121 rfl (lv_at hl 0 rfl) ?_
        refine va_get (ci := 9) (v := .int (nI d1)) (C := RX9) (T := TX9) (N := 24) hx hb hts i9_X9_reads hown hV.1 hP 4 rfl rfl 17 (by decide) (hts _ w4_X9_reads) (fun _ h9 => h9) rfl dX9_reads_122 ?_
        refine ee_le0 (tgt := 136) hx hb (by omega) dX9_reads_125 (by decide) (fun g125 => ?_) (fun g125 => ?_)
        · have hz := mdI_z hL (Or.inr (by omega)) (by omega)
          exact ee_fv hQ hx hb hr hlocks hS (fa1, at1, n1, d1, gk, gl, tj, bj) (⟨hz.1, hz.2, hsh.1⟩) (hP.sub [4, 0, 1, 2, 3, 5] rfl) (hD.sub [4, 0, 1, 2, 3, 5] (by decide) rfl) dX9_reads_136
        · refine lv_aload_n hx hb dX9_reads_128 rfl (lv_at hl 0 rfl) ?_
          refine lv_aload_n hx hb dX9_reads_129 rfl (lv_at hl 0 rfl) ?_
          refine va_get (ci := 9) (v := .int (nI tq)) (C := RX9) (T := TX9) (N := 24) hx hb hts i9_X9_reads hown hV.1 hP 4 rfl rfl 9 (by decide) (hts _ w5_X9_reads) (fun _ h9 => h9) rfl dX9_reads_130 ?_
          refine ee_kv (wr := [(w6, ee_i E 81 gk), (w7, ee_i E 81 gl), (w8, ee_i E 4 tj), (w9, ee_i E 4 bj), (w5, ee_i E 80 tx)]) (ee_rV (As := [.int (nI tq)]) (rest := []) (kX9_fails l E w0 w1 w2 w3 w4 w5 w6 w7 w8 w9 pt pa p1 p2 fa1 (nI n1) (nI d1) tv tn tb th te hh tq at1 tq) hx hb hml hown hts 1 gX9_reads_X9_fails rfl rfl rfl (by decide +kernel) ⟨Nat.le_of_ble_eq_true rfl, Nat.le_of_ble_eq_true rfl⟩ hV hP hD hS hA [4] rfl (by decide) hl 4 rfl rfl rfl rfl (Nat.le_of_ble_eq_true rfl) dX9_reads_133 ⟨Nat.le_of_ble_eq_true rfl, Nat.le_of_ble_eq_true rfl⟩) hP hD hS hA [4] [0, 1, 2, 3, 5] rfl rfl (by decide) (by decide) (fun fa9 H locs q9 hP hD hS => ?_)
          have hP : va_P E.1 vwCl [(w6, ee_i E 81 gk), (w7, ee_i E 81 gl), (w8, ee_i E 4 tj), (w9, ee_i E 4 bj), (w5, ee_i E 80 tx), (w0, ee_o 9 [.ref w1, .ref w2, .ref w3, .ref w4, .float pt, .float pa, .float p1, .float p2, .ref w5, .int (nI tq), .int (nI at1), .int fa9, .ref w6, .ref w7, .int (nI n1), .ref w8, .ref w9, .int (nI d1), .int tv, .int tn, .int tb, .int th, .int te, .long hh])] H := hP
          have hD : va_D A [(w6, ee_i E 81 gk), (w7, ee_i E 81 gl), (w8, ee_i E 4 tj), (w9, ee_i E 4 bj), (w5, ee_i E 80 tx), (w0, ee_o 9 [.ref w1, .ref w2, .ref w3, .ref w4, .float pt, .float pa, .float p1, .float p2, .ref w5, .int (nI tq), .int (nI at1), .int fa9, .ref w6, .ref w7, .int (nI n1), .ref w8, .ref w9, .int (nI d1), .int tv, .int tn, .int tb, .int th, .int te, .long hh])] := hD
          have hz := mdI_y hL (Or.inr (by omega)) (by omega) htq q9
          exact ee_fv hQ hx hb hr hlocks hS (fa9, at1, n1, d1, gk, gl, tj, bj) (⟨hz.1, hz.2, hsh.1⟩) (hP.sub [5, 0, 1, 2, 3, 4] rfl) (hD.sub [5, 0, 1, 2, 3, 4] (by decide) rfl) dX9_reads_136
      · refine lv_aload_n hx hb dX9_reads_35 rfl (lv_at hl 0 rfl) ?_
        refine va_get (ci := 9) (v := .int fa1) (C := RX9) (T := TX9) (N := 24) hx hb hts i9_X9_reads hown hV.1 hP 4 rfl rfl 11 (by decide) (hts _ w2_X9_reads) (fun _ h9 => h9) rfl dX9_reads_36 ?_
        refine lv_iconst (v := (-1)) hx hb dX9_reads_39 (by decide) ?_
        refine lv_icmp_ne (tgt := 121) hx hb dX9_reads_40 (by decide) (fun g40 => ?_) (fun g40 => ?_)
        · refine lv_aload_n hx hb dX9_reads_121 rfl (lv_at hl 0 rfl) ?_
          refine va_get (ci := 9) (v := .int (nI d1)) (C := RX9) (T := TX9) (N := 24) hx hb hts i9_X9_reads hown hV.1 hP 4 rfl rfl 17 (by decide) (hts _ w4_X9_reads) (fun _ h9 => h9) rfl dX9_reads_122 ?_
          refine ee_le0 (tgt := 136) hx hb (by omega) dX9_reads_125 (by decide) (fun g125 => ?_) (fun g125 => ?_)
          · have hz := mdI_z hL (Or.inl g40) (by omega)
            exact ee_fv hQ hx hb hr hlocks hS (fa1, at1, n1, d1, gk, gl, tj, bj) (⟨hz.1, hz.2, hsh.1⟩) (hP.sub [4, 0, 1, 2, 3, 5] rfl) (hD.sub [4, 0, 1, 2, 3, 5] (by decide) rfl) dX9_reads_136
          · refine lv_aload_n hx hb dX9_reads_128 rfl (lv_at hl 0 rfl) ?_
            refine lv_aload_n hx hb dX9_reads_129 rfl (lv_at hl 0 rfl) ?_
            refine va_get (ci := 9) (v := .int (nI tq)) (C := RX9) (T := TX9) (N := 24) hx hb hts i9_X9_reads hown hV.1 hP 4 rfl rfl 9 (by decide) (hts _ w5_X9_reads) (fun _ h9 => h9) rfl dX9_reads_130 ?_
            refine ee_kv (wr := [(w6, ee_i E 81 gk), (w7, ee_i E 81 gl), (w8, ee_i E 4 tj), (w9, ee_i E 4 bj), (w5, ee_i E 80 tx)]) (ee_rV (As := [.int (nI tq)]) (rest := []) (kX9_fails l E w0 w1 w2 w3 w4 w5 w6 w7 w8 w9 pt pa p1 p2 fa1 (nI n1) (nI d1) tv tn tb th te hh tq at1 tq) hx hb hml hown hts 1 gX9_reads_X9_fails rfl rfl rfl (by decide +kernel) ⟨Nat.le_of_ble_eq_true rfl, Nat.le_of_ble_eq_true rfl⟩ hV hP hD hS hA [4] rfl (by decide) hl 4 rfl rfl rfl rfl (Nat.le_of_ble_eq_true rfl) dX9_reads_133 ⟨Nat.le_of_ble_eq_true rfl, Nat.le_of_ble_eq_true rfl⟩) hP hD hS hA [4] [0, 1, 2, 3, 5] rfl rfl (by decide) (by decide) (fun fa9 H locs q9 hP hD hS => ?_)
            have hP : va_P E.1 vwCl [(w6, ee_i E 81 gk), (w7, ee_i E 81 gl), (w8, ee_i E 4 tj), (w9, ee_i E 4 bj), (w5, ee_i E 80 tx), (w0, ee_o 9 [.ref w1, .ref w2, .ref w3, .ref w4, .float pt, .float pa, .float p1, .float p2, .ref w5, .int (nI tq), .int (nI at1), .int fa9, .ref w6, .ref w7, .int (nI n1), .ref w8, .ref w9, .int (nI d1), .int tv, .int tn, .int tb, .int th, .int te, .long hh])] H := hP
            have hD : va_D A [(w6, ee_i E 81 gk), (w7, ee_i E 81 gl), (w8, ee_i E 4 tj), (w9, ee_i E 4 bj), (w5, ee_i E 80 tx), (w0, ee_o 9 [.ref w1, .ref w2, .ref w3, .ref w4, .float pt, .float pa, .float p1, .float p2, .ref w5, .int (nI tq), .int (nI at1), .int fa9, .ref w6, .ref w7, .int (nI n1), .ref w8, .ref w9, .int (nI d1), .int tv, .int tn, .int tb, .int th, .int te, .long hh])] := hD
            have hz := mdI_y hL (Or.inl g40) (by omega) htq q9
            exact ee_fv hQ hx hb hr hlocks hS (fa9, at1, n1, d1, gk, gl, tj, bj) (⟨hz.1, hz.2, hsh.1⟩) (hP.sub [5, 0, 1, 2, 3, 4] rfl) (hD.sub [5, 0, 1, 2, 3, 4] (by decide) rfl) dX9_reads_136
        · subst g40
          obtain ⟨hq, hAe, hR, hm⟩ := mdI_l hL rfl
          refine lv_aload_n hx hb dX9_reads_43 rfl (lv_at hl 0 rfl) ?_
          refine ee_ki (wr := [(w6, ee_i E 81 gk), (w7, ee_i E 81 gl), (w8, ee_i E 4 tj), (w9, ee_i E 4 bj)]) (ee_rV (As := []) (rest := []) (kX9_next l E w0 w1 w2 w3 w4 w5 w6 w7 w8 w9 pt pa p1 p2 (-1) (nI n1) (nI d1) tv tn tb th te hh tq at1 tx (by omega) (by omega)) hx hb hml hown hts 0 gX9_reads_X9_next rfl rfl rfl (by decide +kernel) ⟨Nat.le_of_ble_eq_true rfl, Nat.le_of_ble_eq_true rfl⟩ hV hP hD hS hA [4, 5] rfl (by decide) hl 4 rfl rfl rfl rfl (Nat.le_of_ble_eq_true rfl) dX9_reads_44 ⟨Nat.le_of_ble_eq_true rfl, Nat.le_of_ble_eq_true rfl⟩) hP hD hS hA [4, 5] [0, 1, 2, 3] rfl rfl (by decide) (by decide) (fun r_9 u_10 H locs hp_11 hP hD hS => ?_)
          subst hp_11
          have hP : va_P E.1 vwCl [(w6, ee_i E 81 gk), (w7, ee_i E 81 gl), (w8, ee_i E 4 tj), (w9, ee_i E 4 bj), (w0, ee_o 9 [.ref w1, .ref w2, .ref w3, .ref w4, .float pt, .float pa, .float p1, .float p2, .ref w5, .int (nI tq), .int (nI at1), .int (-1), .ref w6, .ref w7, .int (nI n1), .ref w8, .ref w9, .int (nI d1), .int tv, .int tn, .int tb, .int th, .int te, .long hh]), (w5, ee_i E 80 tx)] H := hP
          have hD : va_D A [(w6, ee_i E 81 gk), (w7, ee_i E 81 gl), (w8, ee_i E 4 tj), (w9, ee_i E 4 bj), (w0, ee_o 9 [.ref w1, .ref w2, .ref w3, .ref w4, .float pt, .float pa, .float p1, .float p2, .ref w5, .int (nI tq), .int (nI at1), .int (-1), .ref w6, .ref w7, .int (nI n1), .ref w8, .ref w9, .int (nI d1), .int tv, .int tn, .int tb, .int th, .int te, .long hh]), (w5, ee_i E 80 tx)] := hD
          refine lv_bipush (v := nI 41) hx hb dX9_reads_47 (by decide) ?_
          refine lv_icmp_ne (tgt := 114) hx hb dX9_reads_49 (by decide) (fun g49 => ?_) (fun g49 => ?_)
          · refine lv_aload_n hx hb dX9_reads_114 rfl (lv_at hl 0 rfl) ?_
            have hc : ¬ (chA tq tx) (pzA ss) = nI 41 := by rw [← hAe]; exact g49
            have hDs : d1 = pzD ss := hq.2.2.1
            refine ee_kv (wr := []) (ee_rV (As := []) (rest := []) (kX9_readsPart l E w0 w1 w2 w3 w4 w5 w6 w7 w8 w9 pt pa p1 p2 tv tn tb th te hh tq at1 n1 d1 tx gk gl tj bj ss (by omega) (by omega) hAe hq) hx hb hml hown hts 0 gX9_reads_X9_readsPart rfl rfl rfl (by decide +kernel) ⟨Nat.le_of_ble_eq_true rfl, Nat.le_of_ble_eq_true rfl⟩ hV hP hD hS hA [4, 0, 1, 2, 3, 5] rfl (by decide) hl 4 rfl rfl rfl rfl (Nat.le_of_ble_eq_true rfl) dX9_reads_115 ⟨Nat.le_of_ble_eq_true rfl, Nat.le_of_ble_eq_true rfl⟩) hP hD hS hA [4, 0, 1, 2, 3, 5] [] rfl rfl (by decide) (by decide) (fun u_13 H locs hp9 hP hD hS => ?_)
            obtain ⟨fa9, at8, n9, d9, gk9, gl9, tt9, bb9⟩ := u_13
            try dsimp only at hp9
            have hP : va_P E.1 vwCl [(w0, ee_o 9 [.ref w1, .ref w2, .ref w3, .ref w4, .float pt, .float pa, .float p1, .float p2, .ref w5, .int (nI tq), .int (nI at8), .int fa9, .ref w6, .ref w7, .int (nI n9), .ref w8, .ref w9, .int (nI d9), .int tv, .int tn, .int tb, .int th, .int te, .long hh]), (w6, ee_i E 81 gk9), (w7, ee_i E 81 gl9), (w8, ee_i E 4 tt9), (w9, ee_i E 4 bb9), (w5, ee_i E 80 tx)] H := hP
            have hD : va_D A [(w0, ee_o 9 [.ref w1, .ref w2, .ref w3, .ref w4, .float pt, .float pa, .float p1, .float p2, .ref w5, .int (nI tq), .int (nI at8), .int fa9, .ref w6, .ref w7, .int (nI n9), .ref w8, .ref w9, .int (nI d9), .int tv, .int tn, .int tb, .int th, .int te, .long hh]), (w6, ee_i E 81 gk9), (w7, ee_i E 81 gl9), (w8, ee_i E 4 tt9), (w9, ee_i E 4 bb9), (w5, ee_i E 80 tx)] := hD
            obtain ⟨p1, p2, p3, p4, p5⟩ := hp9
            try simp only at p1 p2 p3 p4 p5
            refine lv_goto (tgt := 24) hx hb dX9_reads_118 (by decide) ?_
            exact ihB_4 (m0 - 1) (sgP (chA tq tx) ss) fa9 at8 n9 d9 gk9 gl9 tt9 bb9 _ _ _ (by omega) (⟨by omega, by omega, by omega⟩) (mdI_s hAe hR hm (by omega) (p1.trans (sgF_p hc).symm) (fun q => by rw [sgP_p hc]; exact p2 ((sgF_p hc).symm.trans q))) (hP.sub [1, 2, 3, 4, 0, 5] rfl) (hD.sub [1, 2, 3, 4, 0, 5] (by decide) rfl) hS (lv_sub hl [0] rfl)
          · refine lv_aload_n hx hb dX9_reads_52 rfl (lv_at hl 0 rfl) ?_
            refine va_get (ci := 9) (v := .int (nI d1)) (C := RX9) (T := TX9) (N := 24) hx hb hts i9_X9_reads hown hV.1 hP 4 rfl rfl 17 (by decide) (hts _ w4_X9_reads) (fun _ h9 => h9) rfl dX9_reads_53 ?_
            refine ee_le0 (tgt := 114) hx hb (by omega) dX9_reads_56 (by decide) (fun g56 => ?_) (fun g56 => ?_)
            · refine lv_aload_n hx hb dX9_reads_114 rfl (lv_at hl 0 rfl) ?_
              have hc : (chA tq tx) (pzA ss) = nI 41 := by rw [← hAe]; exact g49
              have hDs : d1 = pzD ss := hq.2.2.1
              refine ee_kv (wr := []) (ee_rV (As := []) (rest := []) (kX9_readsPart l E w0 w1 w2 w3 w4 w5 w6 w7 w8 w9 pt pa p1 p2 tv tn tb th te hh tq at1 n1 d1 tx gk gl tj bj ss (by omega) (by omega) hAe hq) hx hb hml hown hts 0 gX9_reads_X9_readsPart rfl rfl rfl (by decide +kernel) ⟨Nat.le_of_ble_eq_true rfl, Nat.le_of_ble_eq_true rfl⟩ hV hP hD hS hA [4, 0, 1, 2, 3, 5] rfl (by decide) hl 4 rfl rfl rfl rfl (Nat.le_of_ble_eq_true rfl) dX9_reads_115 ⟨Nat.le_of_ble_eq_true rfl, Nat.le_of_ble_eq_true rfl⟩) hP hD hS hA [4, 0, 1, 2, 3, 5] [] rfl rfl (by decide) (by decide) (fun u_15 H locs hp9 hP hD hS => ?_)
              obtain ⟨fa9, at8, n9, d9, gk9, gl9, tt9, bb9⟩ := u_15
              try dsimp only at hp9
              have hP : va_P E.1 vwCl [(w0, ee_o 9 [.ref w1, .ref w2, .ref w3, .ref w4, .float pt, .float pa, .float p1, .float p2, .ref w5, .int (nI tq), .int (nI at8), .int fa9, .ref w6, .ref w7, .int (nI n9), .ref w8, .ref w9, .int (nI d9), .int tv, .int tn, .int tb, .int th, .int te, .long hh]), (w6, ee_i E 81 gk9), (w7, ee_i E 81 gl9), (w8, ee_i E 4 tt9), (w9, ee_i E 4 bb9), (w5, ee_i E 80 tx)] H := hP
              have hD : va_D A [(w0, ee_o 9 [.ref w1, .ref w2, .ref w3, .ref w4, .float pt, .float pa, .float p1, .float p2, .ref w5, .int (nI tq), .int (nI at8), .int fa9, .ref w6, .ref w7, .int (nI n9), .ref w8, .ref w9, .int (nI d9), .int tv, .int tn, .int tb, .int th, .int te, .long hh]), (w6, ee_i E 81 gk9), (w7, ee_i E 81 gl9), (w8, ee_i E 4 tt9), (w9, ee_i E 4 bb9), (w5, ee_i E 80 tx)] := hD
              obtain ⟨p1, p2, p3, p4, p5⟩ := hp9
              try simp only at p1 p2 p3 p4 p5
              refine lv_goto (tgt := 24) hx hb dX9_reads_118 (by decide) ?_
              exact ihB_4 (m0 - 1) (sgP (chA tq tx) ss) fa9 at8 n9 d9 gk9 gl9 tt9 bb9 _ _ _ (by omega) (⟨by omega, by omega, by omega⟩) (mdI_s hAe hR hm (by omega) ((p1.trans (paF_0 hc)).trans (sgF_0 hc (by omega)).symm) (fun q => absurd ((sgF_0 hc (by omega)).symm.trans q) (nI_m1 (by omega)))) (hP.sub [1, 2, 3, 4, 0, 5] rfl) (hD.sub [1, 2, 3, 4, 0, 5] (by decide) rfl) hS (lv_sub hl [0] rfl)
            · have hc : (chA tq tx) (pzA ss) = nI 41 := by rw [← hAe]; exact g49
              have hDs : d1 = pzD ss := hq.2.2.1
              have hNs : n1 = pzN ss := hq.2.1
              obtain ⟨htk, hbt⟩ := hq.2.2.2.2 (d1 - 1) (by omega)
              obtain ⟨hbn, htt⟩ := hq.1.2.2.1 (d1 - 1) (by omega)
              refine lv_aload_n hx hb dX9_reads_59 rfl (lv_at hl 0 rfl) ?_
              refine lv_dup hx hb dX9_reads_60 rfl ?_
              refine va_get (ci := 9) (v := .int (nI d1)) (C := RX9) (T := TX9) (N := 24) hx hb hts i9_X9_reads hown hV.1 hP 4 rfl rfl 17 (by decide) (hts _ w4_X9_reads) (fun _ h9 => h9) rfl dX9_reads_61 ?_
              refine lv_iconst (v := nI 1) hx hb dX9_reads_64 (by decide) ?_
              refine ee_isub hx hb (by omega) dX9_reads_65 ?_
              refine va_put (ci := 9) (v := .int (nI (d1 - 1))) (ty := .int) (C := RX9) (T := TX9) (N := 24) hx hb hts i9_X9_reads tyX9 tyX9_ok nmX9 hown hV.1 hP hD hS 4 rfl rfl 17 (by decide) (hts _ w4_X9_reads) (fun _ h9 => h9) rfl (by decide +kernel) rfl rfl (Nat.le_of_ble_eq_true rfl) dX9_reads_66 (fun H locs hP hD hS => ?_)
              have hP : va_P E.1 vwCl [(w6, ee_i E 81 gk), (w7, ee_i E 81 gl), (w8, ee_i E 4 tj), (w9, ee_i E 4 bj), (w0, ee_o 9 [.ref w1, .ref w2, .ref w3, .ref w4, .float pt, .float pa, .float p1, .float p2, .ref w5, .int (nI tq), .int (nI at1), .int (-1), .ref w6, .ref w7, .int (nI n1), .ref w8, .ref w9, .int (nI (d1 - 1)), .int tv, .int tn, .int tb, .int th, .int te, .long hh]), (w5, ee_i E 80 tx)] H := hP
              have hD : va_D A [(w6, ee_i E 81 gk), (w7, ee_i E 81 gl), (w8, ee_i E 4 tj), (w9, ee_i E 4 bj), (w0, ee_o 9 [.ref w1, .ref w2, .ref w3, .ref w4, .float pt, .float pa, .float p1, .float p2, .ref w5, .int (nI tq), .int (nI at1), .int (-1), .ref w6, .ref w7, .int (nI n1), .ref w8, .ref w9, .int (nI (d1 - 1)), .int tv, .int tn, .int tb, .int th, .int te, .long hh]), (w5, ee_i E 80 tx)] := hD
              refine lv_aload_n hx hb dX9_reads_69 rfl (lv_at hl 0 rfl) ?_
              refine ee_kv (wr := [(w6, ee_i E 81 gk), (w7, ee_i E 81 gl), (w8, ee_i E 4 tj), (w9, ee_i E 4 bj)]) (ee_rV (As := []) (rest := []) (kX9_passes l E w0 w1 w2 w3 w4 w5 w6 w7 w8 w9 pt pa p1 p2 (-1) (nI n1) (nI (d1 - 1)) tv tn tb th te hh tq at1 tx (by omega) (by omega)) hx hb hml hown hts 0 gX9_reads_X9_passes rfl rfl rfl (by decide +kernel) ⟨Nat.le_of_ble_eq_true rfl, Nat.le_of_ble_eq_true rfl⟩ hV hP hD hS hA [4, 5] rfl (by decide) hl 4 rfl rfl rfl rfl (Nat.le_of_ble_eq_true rfl) dX9_reads_70 ⟨Nat.le_of_ble_eq_true rfl, Nat.le_of_ble_eq_true rfl⟩) hP hD hS hA [4, 5] [0, 1, 2, 3] rfl rfl (by decide) (by decide) (fun u_17 H locs hp_18 hP hD hS => ?_)
              have hP : va_P E.1 vwCl [(w6, ee_i E 81 gk), (w7, ee_i E 81 gl), (w8, ee_i E 4 tj), (w9, ee_i E 4 bj), (w0, ee_o 9 [.ref w1, .ref w2, .ref w3, .ref w4, .float pt, .float pa, .float p1, .float p2, .ref w5, .int (nI tq), .int (nI (skp (chA tq tx) (at1 + 1))), .int (-1), .ref w6, .ref w7, .int (nI n1), .ref w8, .ref w9, .int (nI (d1 - 1)), .int tv, .int tn, .int tb, .int th, .int te, .long hh]), (w5, ee_i E 80 tx)] H := hP
              have hD : va_D A [(w6, ee_i E 81 gk), (w7, ee_i E 81 gl), (w8, ee_i E 4 tj), (w9, ee_i E 4 bj), (w0, ee_o 9 [.ref w1, .ref w2, .ref w3, .ref w4, .float pt, .float pa, .float p1, .float p2, .ref w5, .int (nI tq), .int (nI (skp (chA tq tx) (at1 + 1))), .int (-1), .ref w6, .ref w7, .int (nI n1), .ref w8, .ref w9, .int (nI (d1 - 1)), .int tv, .int tn, .int tb, .int th, .int te, .long hh]), (w5, ee_i E 80 tx)] := hD
              have hs8 := skp_b (chA tq tx) (at1 + 1)
              refine lv_aload_n hx hb dX9_reads_73 rfl (lv_at hl 0 rfl) ?_
              refine va_get (ci := 9) (v := .int (nI n1)) (C := RX9) (T := TX9) (N := 24) hx hb hts i9_X9_reads hown hV.1 hP 4 rfl rfl 14 (by decide) (hts _ w3_X9_reads) (fun _ h9 => h9) rfl dX9_reads_74 ?_
              refine lv_aload_n hx hb dX9_reads_77 rfl (lv_at hl 0 rfl) ?_
              refine va_get (ci := 9) (v := .ref w9) (C := RX9) (T := TX9) (N := 24) hx hb hts i9_X9_reads hown hV.1 hP 4 rfl rfl 16 (by decide) (hts _ w6_X9_reads) (fun _ h9 => h9) rfl dX9_reads_78 ?_
              refine lv_aload_n hx hb dX9_reads_81 rfl (lv_at hl 0 rfl) ?_
              refine va_get (ci := 9) (v := .int (nI (d1 - 1))) (C := RX9) (T := TX9) (N := 24) hx hb hts i9_X9_reads hown hV.1 hP 4 rfl rfl 17 (by decide) (hts _ w4_X9_reads) (fun _ h9 => h9) rfl dX9_reads_82 ?_
              refine ee_ild hx hb hV hP 3 rfl (j := (d1 - 1)) (by omega) (by decide) dX9_reads_85 ?_
              refine ee_to (z := nI (pzB ss (d1 - 1))) (hbt) ?_
              refine ee_le (tgt := 24) hx hb (by omega) (by omega) dX9_reads_86 (by decide) (fun g86 => ?_) (fun g86 => ?_)
              · exact ihB_4 (m0 - 1) (sgP (chA tq tx) ss) (-1) (skp (chA tq tx) (at1 + 1)) n1 (d1 - 1) gk gl tj bj _ _ _ (by omega) (⟨by omega, by omega, by omega⟩) (mdI_s hAe hR hm (by omega) (sgF_c hc (by omega)).symm (fun _ => ⟨by rw [sgP_c hc]; exact mQ_cl hq (by omega) (Or.inr ⟨by omega, rfl, rfl, rfl⟩), by rw [sgP_c hc, hAe]; rfl⟩)) hP hD hS (lv_sub hl [0] rfl)
              · refine lv_aload_n hx hb dX9_reads_89 rfl (lv_at hl 0 rfl) ?_
                refine lv_aload_n hx hb dX9_reads_90 rfl (lv_at hl 0 rfl) ?_
                refine va_get (ci := 9) (v := .ref w9) (C := RX9) (T := TX9) (N := 24) hx hb hts i9_X9_reads hown hV.1 hP 4 rfl rfl 16 (by decide) (hts _ w6_X9_reads) (fun _ h9 => h9) rfl dX9_reads_91 ?_
                refine lv_aload_n hx hb dX9_reads_94 rfl (lv_at hl 0 rfl) ?_
                refine va_get (ci := 9) (v := .int (nI (d1 - 1))) (C := RX9) (T := TX9) (N := 24) hx hb hts i9_X9_reads hown hV.1 hP 4 rfl rfl 17 (by decide) (hts _ w4_X9_reads) (fun _ h9 => h9) rfl dX9_reads_95 ?_
                refine ee_ild hx hb hV hP 3 rfl (j := (d1 - 1)) (by omega) (by decide) dX9_reads_98 ?_
                refine ee_to (z := nI (pzB ss (d1 - 1))) (hbt) ?_
                refine lv_aload_n hx hb dX9_reads_99 rfl (lv_at hl 0 rfl) ?_
                refine va_get (ci := 9) (v := .ref w8) (C := RX9) (T := TX9) (N := 24) hx hb hts i9_X9_reads hown hV.1 hP 4 rfl rfl 15 (by decide) (hts _ w7_X9_reads) (fun _ h9 => h9) rfl dX9_reads_100 ?_
                refine lv_aload_n hx hb dX9_reads_103 rfl (lv_at hl 0 rfl) ?_
                refine va_get (ci := 9) (v := .int (nI (d1 - 1))) (C := RX9) (T := TX9) (N := 24) hx hb hts i9_X9_reads hown hV.1 hP 4 rfl rfl 17 (by decide) (hts _ w4_X9_reads) (fun _ h9 => h9) rfl dX9_reads_104 ?_
                refine ee_ild hx hb hV hP 2 rfl (j := (d1 - 1)) (by omega) (by decide) dX9_reads_107 ?_
                refine ee_to (z := nI (pzT ss (d1 - 1))) (htk) ?_
                refine ee_kv (wr := [(w8, ee_i E 4 tj), (w9, ee_i E 4 bj), (w5, ee_i E 80 tx)]) (ee_rV (As := [.int (nI (pzB ss (d1 - 1))), .int (nI (pzT ss (d1 - 1)))]) (rest := []) (kX9_repeats l E w0 w1 w2 w3 w4 w5 w6 w7 w8 w9 pt pa p1 p2 (nI tq) (nI (skp (chA tq tx) (at1 + 1))) (-1) (nI (d1 - 1)) tv tn tb th te hh n1 gk gl (pzB ss (d1 - 1)) (pzT ss (d1 - 1)) (by omega) (by omega) htt) hx hb hml hown hts 2 gX9_reads_X9_repeats rfl rfl rfl (by decide +kernel) ⟨Nat.le_of_ble_eq_true rfl, Nat.le_of_ble_eq_true rfl⟩ hV hP hD hS hA [4, 0, 1] rfl (by decide) hl 4 rfl rfl rfl rfl (Nat.le_of_ble_eq_true rfl) dX9_reads_108 ⟨Nat.le_of_ble_eq_true rfl, Nat.le_of_ble_eq_true rfl⟩) hP hD hS hA [4, 0, 1] [2, 3, 5] rfl rfl (by decide) (by decide) (fun u_20 H locs hp_21 hP hD hS => ?_)
                obtain ⟨gk9, gl9⟩ := u_20
                try dsimp only at hp_21
                obtain ⟨c1, c2⟩ := hp_21
                have hP : va_P E.1 vwCl [(w8, ee_i E 4 tj), (w9, ee_i E 4 bj), (w5, ee_i E 80 tx), (w0, ee_o 9 [.ref w1, .ref w2, .ref w3, .ref w4, .float pt, .float pa, .float p1, .float p2, .ref w5, .int (nI tq), .int (nI (skp (chA tq tx) (at1 + 1))), .int (-1), .ref w6, .ref w7, .int (nI (rpN (pzB ss (d1 - 1)) (n1 - (pzB ss (d1 - 1))) (pzT ss (d1 - 1)))), .ref w8, .ref w9, .int (nI (d1 - 1)), .int tv, .int tn, .int tb, .int th, .int te, .long hh]), (w6, ee_i E 81 gk9), (w7, ee_i E 81 gl9)] H := hP
                have hD : va_D A [(w8, ee_i E 4 tj), (w9, ee_i E 4 bj), (w5, ee_i E 80 tx), (w0, ee_o 9 [.ref w1, .ref w2, .ref w3, .ref w4, .float pt, .float pa, .float p1, .float p2, .ref w5, .int (nI tq), .int (nI (skp (chA tq tx) (at1 + 1))), .int (-1), .ref w6, .ref w7, .int (nI (rpN (pzB ss (d1 - 1)) (n1 - (pzB ss (d1 - 1))) (pzT ss (d1 - 1)))), .ref w8, .ref w9, .int (nI (d1 - 1)), .int tv, .int tn, .int tb, .int th, .int te, .long hh]), (w6, ee_i E 81 gk9), (w7, ee_i E 81 gl9)] := hD
                have hb81 := rpN_81 (pzB ss (d1 - 1)) (n1 - pzB ss (d1 - 1)) (pzT ss (d1 - 1))
                refine lv_goto (tgt := 24) hx hb dX9_reads_111 (by decide) ?_
                exact ihB_4 (m0 - 1) (sgP (chA tq tx) ss) (-1) (skp (chA tq tx) (at1 + 1)) (rpN (pzB ss (d1 - 1)) (n1 - (pzB ss (d1 - 1))) (pzT ss (d1 - 1))) (d1 - 1) gk9 gl9 tj bj _ _ _ (by omega) (⟨by omega, by omega, by omega⟩) (mdI_s hAe hR hm (by omega) (sgF_c hc (by omega)).symm (fun _ => ⟨by rw [sgP_c hc]; exact mQ_cl hq (by omega) (Or.inl ⟨by omega, rfl, c1, c2⟩), by rw [sgP_c hc, hAe]; rfl⟩)) (hP.sub [4, 5, 0, 1, 3, 2] rfl) (hD.sub [4, 5, 0, 1, 3, 2] (by decide) rfl) hS (lv_sub hl [0] rfl)
  exact B_4 (80 + 1) 80 (ps0 (chA tq tx)) (-1) (skp (chA tq tx) 0) 0 0 kk ll tt bb _ _ _ (Nat.lt_succ_self _) (⟨by omega, by omega, by omega⟩) (Or.inl ⟨rfl, ⟨ps0_O _, rfl, rfl, fun j hj => absurd hj (Nat.not_lt_zero _), fun j hj => absurd hj (Nat.not_lt_zero _)⟩, rfl, rfl, by omega⟩) hP hD hS (lv_sub hl [0] rfl)
abbrev rmX9_load : Room := ({ frames := 6, cells := 0, slots := 0, locals := 128 } : Room)
theorem w1_X9_load : Cond.fieldLink RX9 61 "LabelApplicatorModel" "fault" "I" ∈ wsX9_load := List.mem_of_getElem? (i := 1) (by decide +kernel)
theorem w2_X9_load : Cond.fieldLink RX9 7 "LabelApplicatorModel" "m" "[I" ∈ wsX9_load := List.mem_of_getElem? (i := 2) (by decide +kernel)
theorem w3_X9_load : Cond.fieldLink RX9 68 "LabelApplicatorModel" "items" "I" ∈ wsX9_load := List.mem_of_getElem? (i := 3) (by decide +kernel)
theorem w4_X9_load : Cond.fieldLink RX9 31 "LabelApplicatorModel" "kind" "[I" ∈ wsX9_load := List.mem_of_getElem? (i := 4) (by decide +kernel)
theorem w5_X9_load : Cond.fieldLink RX9 34 "LabelApplicatorModel" "length" "[I" ∈ wsX9_load := List.mem_of_getElem? (i := 5) (by decide +kernel)
theorem w6_X9_load : Cond.methodLink RX9 94 yX9_reads ∈ wsX9_load := List.mem_of_getElem? (i := 6) (by decide +kernel)
theorem w9_X9_load : Cond.initialized RX9 ∈ wsX9_load := List.mem_of_getElem? (i := 9) (by decide +kernel)
theorem w11_X9_load : Cond.fieldLink RX9 51 "LabelApplicatorModel" "at" "I" ∈ wsX9_load := List.mem_of_getElem? (i := 11) (by decide +kernel)
theorem w12_X9_load : Cond.fieldLink RX9 88 "LabelApplicatorModel" "depth" "I" ∈ wsX9_load := List.mem_of_getElem? (i := 12) (by decide +kernel)
theorem w13_X9_load : Cond.fieldLink RX9 47 "LabelApplicatorModel" "textLength" "I" ∈ wsX9_load := List.mem_of_getElem? (i := 13) (by decide +kernel)
theorem w14_X9_load : Cond.fieldLink RX9 40 "LabelApplicatorModel" "begin" "[I" ∈ wsX9_load := List.mem_of_getElem? (i := 14) (by decide +kernel)
theorem w15_X9_load : Cond.fieldLink RX9 37 "LabelApplicatorModel" "times" "[I" ∈ wsX9_load := List.mem_of_getElem? (i := 15) (by decide +kernel)
theorem w16_X9_load : Cond.methodLink RX9 58 yX9_skips ∈ wsX9_load := List.mem_of_getElem? (i := 16) (by decide +kernel)
theorem w20_X9_load : Cond.methodLink RX9 54 yX9_next ∈ wsX9_load := List.mem_of_getElem? (i := 20) (by decide +kernel)
theorem w24_X9_load : Cond.fieldLink RX9 28 "LabelApplicatorModel" "text" "[I" ∈ wsX9_load := List.mem_of_getElem? (i := 24) (by decide +kernel)
theorem w25_X9_load : Cond.methodLink RX9 75 yX9_passes ∈ wsX9_load := List.mem_of_getElem? (i := 25) (by decide +kernel)
theorem w29_X9_load : Cond.methodLink RX9 81 yX9_repeats ∈ wsX9_load := List.mem_of_getElem? (i := 29) (by decide +kernel)
theorem w33_X9_load : Cond.methodLink RX9 91 yX9_readsPart ∈ wsX9_load := List.mem_of_getElem? (i := 33) (by decide +kernel)
theorem w37_X9_load : Cond.methodLink RX9 43 yX9_in ∈ wsX9_load := List.mem_of_getElem? (i := 37) (by decide +kernel)
theorem w40_X9_load : Cond.methodLink RX9 78 yX9_readsNumber ∈ wsX9_load := List.mem_of_getElem? (i := 40) (by decide +kernel)
theorem w44_X9_load : Cond.methodLink RX9 64 yX9_fails ∈ wsX9_load := List.mem_of_getElem? (i := 44) (by decide +kernel)
theorem w48_X9_load : Cond.methodLink RX9 71 yX9_kindOf ∈ wsX9_load := List.mem_of_getElem? (i := 48) (by decide +kernel)
theorem w51_X9_load : Cond.methodLink RX9 85 yX9_readsItem ∈ wsX9_load := List.mem_of_getElem? (i := 51) (by decide +kernel)
theorem i9_X9_load : ∀ w ∈ wsX90, w ∈ wsX9_load := fun w h => (goodIn_r _ [55, 56, 57, 58, 59, 60, 61, 62, 63, 64, 65, 66, 67, 68, 69, 70, 71, 72, 73, 74, 75, 76, 77, 78] (by decide +kernel) (by decide +kernel) w h).1
set_option maxHeartbeats 4000000 in
set_option maxRecDepth 100000 in
theorem kX9_load (l : Launch) (E : ee_T) (w0 w1 w2 w3 w4 w5 w6 w7 w8 w9 : Nat) (pt pa p1 p2 : UInt32) (ta fa it dp tv tn tb th te : Int32) (hh : Int64) (tq : Nat) (tx kk ll tt bb : Nat → Int32) (ar : Nat → Int32) (z : Sg) (hR : rM z ar pt) (htq : tq ≤ 80) : CQ l E yX9_load wsX9_load rmX9_load [.ref w0] [(w0, ee_o 9 [.ref w1, .ref w2, .ref w3, .ref w4, .float pt, .float pa, .float p1, .float p2, .ref w5, .int (nI tq), .int ta, .int fa, .ref w6, .ref w7, .int it, .ref w8, .ref w9, .int dp, .int tv, .int tn, .int tb, .int th, .int te, .long hh]), (w1, ee_i E 204 ar), (w6, ee_i E 81 kk), (w7, ee_i E 81 ll), (w8, ee_i E 4 tt), (w9, ee_i E 4 bb), (w5, ee_i E 80 tx)] (QI E (fun (r : Int32) (u : (Nat → Int32) × Int32 × Nat × Nat × Nat × (Nat → Int32) × (Nat → Int32) × (Nat → Int32) × (Nat → Int32)) => r = (loA z tq tx).1 ∧ rM (loA z tq tx).2 u.1 pt) (fun (u : (Nat → Int32) × Int32 × Nat × Nat × Nat × (Nat → Int32) × (Nat → Int32) × (Nat → Int32) × (Nat → Int32)) => [(w0, ee_o 9 [.ref w1, .ref w2, .ref w3, .ref w4, .float pt, .float pa, .float p1, .float p2, .ref w5, .int (nI tq), .int (nI u.2.2.1), .int u.2.1, .ref w6, .ref w7, .int (nI u.2.2.2.1), .ref w8, .ref w9, .int (nI u.2.2.2.2.1), .int tv, .int tn, .int tb, .int th, .int te, .long hh]), (w1, ee_i E 204 u.1), (w6, ee_i E 81 u.2.2.2.2.2.1), (w7, ee_i E 81 u.2.2.2.2.2.2.1), (w8, ee_i E 4 u.2.2.2.2.2.2.2.1), (w9, ee_i E 4 u.2.2.2.2.2.2.2.2), (w5, ee_i E 80 tx)])) 0 0 := by
  refine CQ_ofW (cc := cX9_load) (maxL := 2) (ret := (some .int)) (by decide) rfl (Nat.le_of_ble_eq_true rfl) ?_
  intro p e s m below meth c A Q hQ hx hb hr hml hown hlocks hnm hts hV hA hP hD hS ls hl
  have hl : lv_has ls 2 [(0, .ref w0)] := hl
  have hn80 := hR.1.1
  refine lv_aload_n hx hb dX9_load_0 rfl (lv_at hl 0 rfl) ?_
  refine ee_kv (wr := [(w1, ee_i E 204 ar)]) (ee_rV (As := []) (rest := []) (kX9_reads l E w0 w1 w2 w3 w4 w5 w6 w7 w8 w9 pt pa p1 p2 ta fa it dp tv tn tb th te hh tq tx kk ll tt bb (by omega)) hx hb hml hown hts 0 gX9_load_X9_reads rfl rfl rfl (by decide +kernel) ⟨Nat.le_of_ble_eq_true rfl, Nat.le_of_ble_eq_true rfl⟩ hV hP hD hS hA [0, 2, 3, 4, 5, 6] rfl (by decide) hl 0 rfl rfl rfl rfl (Nat.le_of_ble_eq_true rfl) dX9_load_1 ⟨Nat.le_of_ble_eq_true rfl, Nat.le_of_ble_eq_true rfl⟩) hP hD hS hA [0, 2, 3, 4, 5, 6] [1] rfl rfl (by decide) (by decide) (fun u_2 H locs hp9 hP hD hS => ?_)
  obtain ⟨fa9, at8, n9, d9, gk9, gl9, tt9, bb9⟩ := u_2
  try dsimp only at hp9
  have hP : va_P E.1 vwCl [(w1, ee_i E 204 ar), (w0, ee_o 9 [.ref w1, .ref w2, .ref w3, .ref w4, .float pt, .float pa, .float p1, .float p2, .ref w5, .int (nI tq), .int (nI at8), .int fa9, .ref w6, .ref w7, .int (nI n9), .ref w8, .ref w9, .int (nI d9), .int tv, .int tn, .int tb, .int th, .int te, .long hh]), (w6, ee_i E 81 gk9), (w7, ee_i E 81 gl9), (w8, ee_i E 4 tt9), (w9, ee_i E 4 bb9), (w5, ee_i E 80 tx)] H := hP
  have hD : va_D A [(w1, ee_i E 204 ar), (w0, ee_o 9 [.ref w1, .ref w2, .ref w3, .ref w4, .float pt, .float pa, .float p1, .float p2, .ref w5, .int (nI tq), .int (nI at8), .int fa9, .ref w6, .ref w7, .int (nI n9), .ref w8, .ref w9, .int (nI d9), .int tv, .int tn, .int tb, .int th, .int te, .long hh]), (w6, ee_i E 81 gk9), (w7, ee_i E 81 gl9), (w8, ee_i E 4 tt9), (w9, ee_i E 4 bb9), (w5, ee_i E 80 tx)] := hD
  obtain ⟨pf1, pf2, pf3⟩ := hp9
  try simp only at pf1 pf2 p3
  refine lv_aload_n hx hb dX9_load_4 rfl (lv_at hl 0 rfl) ?_
  refine va_get (ci := 9) (v := .int fa9) (C := RX9) (T := TX9) (N := 24) hx hb hts i9_X9_load hown hV.1 hP 1 rfl rfl 11 (by decide) (hts _ w1_X9_load) (fun _ h9 => h9) rfl dX9_load_5 ?_
  refine lv_iconst (v := (-1)) hx hb dX9_load_8 (by decide) ?_
  refine lv_icmp_eq (tgt := 21) hx hb dX9_load_9 (by decide) (fun g9 => ?_) (fun g9 => ?_)
  · have hf9 : (rdR tq tx).1 = (-1) := pf1.symm.trans g9
    have hQ0 := pf2 hf9
    refine lv_aload_n hx hb dX9_load_21 rfl (lv_at hl 0 rfl) ?_
    refine va_get (ci := 9) (v := .ref w1) (C := RX9) (T := TX9) (N := 24) hx hb hts i9_X9_load hown hV.1 hP 1 rfl rfl 0 (by decide) (hts _ w2_X9_load) (fun _ h9 => h9) rfl dX9_load_22 ?_
    refine lv_iconst (v := nI 0) hx hb dX9_load_25 (by decide) ?_
    refine ee_ild hx hb hV hP 0 rfl (j := 0) (by omega) (by decide) dX9_load_26 ?_
    refine ee_to (z := nI (gN z)) (rM_N hR) ?_
    refine lv_aload_n hx hb dX9_load_27 rfl (lv_at hl 0 rfl) ?_
    refine va_get (ci := 9) (v := .int (nI n9)) (C := RX9) (T := TX9) (N := 24) hx hb hts i9_X9_load hown hV.1 hP 1 rfl rfl 14 (by decide) (hts _ w3_X9_load) (fun _ h9 => h9) rfl dX9_load_28 ?_
    refine ee_iadd hx hb dX9_load_31 ?_
    refine lv_bipush (v := nI 80) hx hb dX9_load_32 (by decide) ?_
    refine ee_le (tgt := 40) hx hb (by omega) (by omega) dX9_load_34 (by decide) (fun g34 => ?_) (fun g34 => ?_)
    · refine lv_iconst (v := nI 0) hx hb dX9_load_40 (by decide) ?_
      refine lv_istore_n (lv' := [(1, .int (nI 0)), (0, .ref w0)]) hx hb dX9_load_41 rfl hl (by decide) rfl (fun ls hl => ?_)
      have B_3 : ∀ (zz : Nat) (i : Nat) (bk : Nat → Int32) (H : Heap) (locs : List Loc) (ls : Array Slot), (n9 - i) < zz → (i ≤ n9) → (loM z (rdR tq tx).2 ar bk i) → va_P E.1 vwCl [(w1, ee_i E 204 bk), (w0, ee_o 9 [.ref w1, .ref w2, .ref w3, .ref w4, .float pt, .float pa, .float p1, .float p2, .ref w5, .int (nI tq), .int (nI at8), .int fa9, .ref w6, .ref w7, .int (nI n9), .ref w8, .ref w9, .int (nI d9), .int tv, .int tn, .int tb, .int th, .int te, .long hh]), (w6, ee_i E 81 gk9), (w7, ee_i E 81 gl9), (w8, ee_i E 4 tt9), (w9, ee_i E 4 bb9), (w5, ee_i E 80 tx)] H → va_D A [(w1, ee_i E 204 bk), (w0, ee_o 9 [.ref w1, .ref w2, .ref w3, .ref w4, .float pt, .float pa, .float p1, .float p2, .ref w5, .int (nI tq), .int (nI at8), .int fa9, .ref w6, .ref w7, .int (nI n9), .ref w8, .ref w9, .int (nI d9), .int tv, .int tn, .int tb, .int th, .int te, .long hh]), (w6, ee_i E 81 gk9), (w7, ee_i E 81 gl9), (w8, ee_i E 4 tt9), (w9, ee_i E 4 bb9), (w5, ee_i E 80 tx)] → va_S A s.heap H locs → lv_has ls 2 [(1, .int (nI i)), (0, .ref w0)] → W p l e rmX9_load s m [.ref w0].toArray below meth c H locs 0 0 Q (F0 m 42 ls []) := by
        intro zz
        induction zz with
        | zero => intro i bk H locs ls hzz; exact absurd hzz (Nat.not_lt_zero _)
        | succ zz ihB_3 =>
          intro i bk H locs ls hzz hin hI hP hD hS hl
          refine lv_iload_n hx hb dX9_load_42 rfl (lv_at hl 0 rfl) ?_
          refine lv_aload_n hx hb dX9_load_43 rfl (lv_at hl 1 rfl) ?_
          refine va_get (ci := 9) (v := .int (nI n9)) (C := RX9) (T := TX9) (N := 24) hx hb hts i9_X9_load hown hV.1 hP 1 rfl rfl 14 (by decide) (hts _ w3_X9_load) (fun _ h9 => h9) rfl dX9_load_44 ?_
          refine ee_ge (tgt := 105) hx hb (by omega) (by omega) dX9_load_47 (by decide) (fun g47 => ?_) (fun g47 => ?_)
          · refine lv_aload_n hx hb dX9_load_105 rfl (lv_at hl 1 rfl) ?_
            refine va_get (ci := 9) (v := .ref w1) (C := RX9) (T := TX9) (N := 24) hx hb hts i9_X9_load hown hV.1 hP 1 rfl rfl 0 (by decide) (hts _ w2_X9_load) (fun _ h9 => h9) rfl dX9_load_106 ?_
            refine lv_iconst (v := nI 0) hx hb dX9_load_109 (by decide) ?_
            refine ee_ild hx hb hV hP 0 rfl (j := 0) (by omega) (by decide) dX9_load_110 ?_
            refine ee_to (z := nI (gN z + i)) (hI.1) ?_
            have h4 : ¬ 80 < gN z + pzN (rdR tq tx).2 := by rw [← hQ0.2.1]; omega
            have hin9 : i = n9 := by omega
            rw [hin9, hQ0.2.1] at hI
            exact ee_fi hQ hx hb hr (rfl) hlocks hS (bk, fa9, at8, n9, d9, gk9, gl9, tt9, bb9) (by
              rw [loA, if_pos hf9, if_neg h4, hin9, hQ0.2.1]
              exact ⟨rfl, lo_rM hR hQ0.1 (by omega) hI⟩) (hP.sub [1, 0, 2, 3, 4, 5, 6] rfl) (hD.sub [1, 0, 2, 3, 4, 5, 6] (by decide) rfl) dX9_load_111
          · refine lv_aload_n hx hb dX9_load_50 rfl (lv_at hl 1 rfl) ?_
            refine va_get (ci := 9) (v := .ref w1) (C := RX9) (T := TX9) (N := 24) hx hb hts i9_X9_load hown hV.1 hP 1 rfl rfl 0 (by decide) (hts _ w2_X9_load) (fun _ h9 => h9) rfl dX9_load_51 ?_
            refine lv_iconst (v := nI 1) hx hb dX9_load_54 (by decide) ?_
            refine lv_aload_n hx hb dX9_load_55 rfl (lv_at hl 1 rfl) ?_
            refine va_get (ci := 9) (v := .ref w1) (C := RX9) (T := TX9) (N := 24) hx hb hts i9_X9_load hown hV.1 hP 1 rfl rfl 0 (by decide) (hts _ w2_X9_load) (fun _ h9 => h9) rfl dX9_load_56 ?_
            refine lv_iconst (v := nI 0) hx hb dX9_load_59 (by decide) ?_
            refine ee_ild hx hb hV hP 0 rfl (j := 0) (by omega) (by decide) dX9_load_60 ?_
            refine ee_to (z := nI (gN z + i)) (hI.1) ?_
            refine ee_iadd hx hb dX9_load_61 ?_
            refine lv_aload_n hx hb dX9_load_62 rfl (lv_at hl 1 rfl) ?_
            refine va_get (ci := 9) (v := .ref w6) (C := RX9) (T := TX9) (N := 24) hx hb hts i9_X9_load hown hV.1 hP 1 rfl rfl 12 (by decide) (hts _ w4_X9_load) (fun _ h9 => h9) rfl dX9_load_63 ?_
            refine lv_iload_n hx hb dX9_load_66 rfl (lv_at hl 0 rfl) ?_
            refine ee_ild hx hb hV hP 2 rfl (j := i) (by omega) (by decide) dX9_load_67 ?_
            refine ee_ist hx hb hV hP hD hS 0 rfl (j := (1 + (gN z + i))) (by omega) (by decide) dX9_load_68 (fun H locs hP hD hS => ?_)
            have hP : va_P E.1 vwCl [(w1, ee_i E 204 (upd bk (1 + (gN z + i)) (gk9 i))), (w0, ee_o 9 [.ref w1, .ref w2, .ref w3, .ref w4, .float pt, .float pa, .float p1, .float p2, .ref w5, .int (nI tq), .int (nI at8), .int fa9, .ref w6, .ref w7, .int (nI n9), .ref w8, .ref w9, .int (nI d9), .int tv, .int tn, .int tb, .int th, .int te, .long hh]), (w6, ee_i E 81 gk9), (w7, ee_i E 81 gl9), (w8, ee_i E 4 tt9), (w9, ee_i E 4 bb9), (w5, ee_i E 80 tx)] H := hP
            have hD : va_D A [(w1, ee_i E 204 (upd bk (1 + (gN z + i)) (gk9 i))), (w0, ee_o 9 [.ref w1, .ref w2, .ref w3, .ref w4, .float pt, .float pa, .float p1, .float p2, .ref w5, .int (nI tq), .int (nI at8), .int fa9, .ref w6, .ref w7, .int (nI n9), .ref w8, .ref w9, .int (nI d9), .int tv, .int tn, .int tb, .int th, .int te, .long hh]), (w6, ee_i E 81 gk9), (w7, ee_i E 81 gl9), (w8, ee_i E 4 tt9), (w9, ee_i E 4 bb9), (w5, ee_i E 80 tx)] := hD
            refine lv_aload_n hx hb dX9_load_69 rfl (lv_at hl 1 rfl) ?_
            refine va_get (ci := 9) (v := .ref w1) (C := RX9) (T := TX9) (N := 24) hx hb hts i9_X9_load hown hV.1 hP 1 rfl rfl 0 (by decide) (hts _ w2_X9_load) (fun _ h9 => h9) rfl dX9_load_70 ?_
            refine lv_bipush (v := nI 81) hx hb dX9_load_73 (by decide) ?_
            refine lv_aload_n hx hb dX9_load_75 rfl (lv_at hl 1 rfl) ?_
            refine va_get (ci := 9) (v := .ref w1) (C := RX9) (T := TX9) (N := 24) hx hb hts i9_X9_load hown hV.1 hP 1 rfl rfl 0 (by decide) (hts _ w2_X9_load) (fun _ h9 => h9) rfl dX9_load_76 ?_
            refine lv_iconst (v := nI 0) hx hb dX9_load_79 (by decide) ?_
            refine ee_ild hx hb hV hP 0 rfl (j := 0) (by omega) (by decide) dX9_load_80 ?_
            refine ee_to (z := nI (gN z + i)) ((pk_un (by omega)).trans hI.1) ?_
            refine ee_iadd hx hb dX9_load_81 ?_
            refine lv_aload_n hx hb dX9_load_82 rfl (lv_at hl 1 rfl) ?_
            refine va_get (ci := 9) (v := .ref w7) (C := RX9) (T := TX9) (N := 24) hx hb hts i9_X9_load hown hV.1 hP 1 rfl rfl 13 (by decide) (hts _ w5_X9_load) (fun _ h9 => h9) rfl dX9_load_83 ?_
            refine lv_iload_n hx hb dX9_load_86 rfl (lv_at hl 0 rfl) ?_
            refine ee_ild hx hb hV hP 3 rfl (j := i) (by omega) (by decide) dX9_load_87 ?_
            refine ee_ist hx hb hV hP hD hS 0 rfl (j := (81 + (gN z + i))) (by omega) (by decide) dX9_load_88 (fun H locs hP hD hS => ?_)
            have hP : va_P E.1 vwCl [(w1, ee_i E 204 (upd (upd bk (1 + (gN z + i)) (gk9 i)) (81 + (gN z + i)) (gl9 i))), (w0, ee_o 9 [.ref w1, .ref w2, .ref w3, .ref w4, .float pt, .float pa, .float p1, .float p2, .ref w5, .int (nI tq), .int (nI at8), .int fa9, .ref w6, .ref w7, .int (nI n9), .ref w8, .ref w9, .int (nI d9), .int tv, .int tn, .int tb, .int th, .int te, .long hh]), (w6, ee_i E 81 gk9), (w7, ee_i E 81 gl9), (w8, ee_i E 4 tt9), (w9, ee_i E 4 bb9), (w5, ee_i E 80 tx)] H := hP
            have hD : va_D A [(w1, ee_i E 204 (upd (upd bk (1 + (gN z + i)) (gk9 i)) (81 + (gN z + i)) (gl9 i))), (w0, ee_o 9 [.ref w1, .ref w2, .ref w3, .ref w4, .float pt, .float pa, .float p1, .float p2, .ref w5, .int (nI tq), .int (nI at8), .int fa9, .ref w6, .ref w7, .int (nI n9), .ref w8, .ref w9, .int (nI d9), .int tv, .int tn, .int tb, .int th, .int te, .long hh]), (w6, ee_i E 81 gk9), (w7, ee_i E 81 gl9), (w8, ee_i E 4 tt9), (w9, ee_i E 4 bb9), (w5, ee_i E 80 tx)] := hD
            refine lv_aload_n hx hb dX9_load_89 rfl (lv_at hl 1 rfl) ?_
            refine va_get (ci := 9) (v := .ref w1) (C := RX9) (T := TX9) (N := 24) hx hb hts i9_X9_load hown hV.1 hP 1 rfl rfl 0 (by decide) (hts _ w2_X9_load) (fun _ h9 => h9) rfl dX9_load_90 ?_
            refine lv_iconst (v := nI 0) hx hb dX9_load_93 (by decide) ?_
            refine lv_dup2_11 hx hb dX9_load_94 rfl rfl ?_
            refine ee_ild hx hb hV hP 0 rfl (j := 0) (by omega) (by decide) dX9_load_95 ?_
            refine ee_to (z := nI (gN z + i)) (((pk_un (by omega)).trans (pk_un (by omega))).trans hI.1) ?_
            refine lv_iconst (v := nI 1) hx hb dX9_load_96 (by decide) ?_
            refine ee_iadd hx hb dX9_load_97 ?_
            refine ee_ist hx hb hV hP hD hS 0 rfl (j := 0) (by omega) (by decide) dX9_load_98 (fun H locs hP hD hS => ?_)
            have hP : va_P E.1 vwCl [(w1, ee_i E 204 (upd (upd (upd bk (1 + (gN z + i)) (gk9 i)) (81 + (gN z + i)) (gl9 i)) 0 (nI (gN z + i + 1)))), (w0, ee_o 9 [.ref w1, .ref w2, .ref w3, .ref w4, .float pt, .float pa, .float p1, .float p2, .ref w5, .int (nI tq), .int (nI at8), .int fa9, .ref w6, .ref w7, .int (nI n9), .ref w8, .ref w9, .int (nI d9), .int tv, .int tn, .int tb, .int th, .int te, .long hh]), (w6, ee_i E 81 gk9), (w7, ee_i E 81 gl9), (w8, ee_i E 4 tt9), (w9, ee_i E 4 bb9), (w5, ee_i E 80 tx)] H := hP
            have hD : va_D A [(w1, ee_i E 204 (upd (upd (upd bk (1 + (gN z + i)) (gk9 i)) (81 + (gN z + i)) (gl9 i)) 0 (nI (gN z + i + 1)))), (w0, ee_o 9 [.ref w1, .ref w2, .ref w3, .ref w4, .float pt, .float pa, .float p1, .float p2, .ref w5, .int (nI tq), .int (nI at8), .int fa9, .ref w6, .ref w7, .int (nI n9), .ref w8, .ref w9, .int (nI d9), .int tv, .int tn, .int tb, .int th, .int te, .long hh]), (w6, ee_i E 81 gk9), (w7, ee_i E 81 gl9), (w8, ee_i E 4 tt9), (w9, ee_i E 4 bb9), (w5, ee_i E 80 tx)] := hD
            refine lv_iinc (v := nI (i + 1)) (lv' := [(1, .int (nI (i + 1))), (0, .ref w0)]) hx hb dX9_load_99 hl (k := 0) rfl (ee_inc _) (by decide) rfl (fun ls hl => ?_)
            refine lv_goto (tgt := 42) hx hb dX9_load_102 (by decide) ?_
            exact ihB_3 (i + 1) (upd (upd (upd bk (1 + (gN z + i)) (gk9 i)) (81 + (gN z + i)) (gl9 i)) 0 (nI (gN z + i + 1))) _ _ _ (by omega) (by omega) (loM_s hI (by omega) (hQ0.2.2.2.1 i (by omega)).1 (hQ0.2.2.2.1 i (by omega)).2) hP hD hS (lv_sub hl [0, 1] rfl)
      exact B_3 ((n9 - 0) + 1) 0 ar _ _ _ (Nat.lt_succ_self _) (by omega) (loM_0 hR) hP hD hS (lv_sub hl [0, 1] rfl)
    · refine lv_bipush (v := (-4)) hx hb dX9_load_37 (by decide) ?_
      have h4 : 80 < gN z + pzN (rdR tq tx).2 := by rw [← hQ0.2.1]; omega
      exact ee_fi hQ hx hb hr (rfl) hlocks hS (ar, fa9, at8, n9, d9, gk9, gl9, tt9, bb9) (by
        rw [loA, if_pos hf9, if_pos h4]
        exact ⟨rfl, hR⟩) (hP.sub [1, 0, 2, 3, 4, 5, 6] rfl) (hD.sub [1, 0, 2, 3, 4, 5, 6] (by decide) rfl) dX9_load_39
  · refine lv_sipush (v := (-2000)) hx hb dX9_load_12 (by decide) ?_
    refine lv_aload_n hx hb dX9_load_15 rfl (lv_at hl 0 rfl) ?_
    refine va_get (ci := 9) (v := .int fa9) (C := RX9) (T := TX9) (N := 24) hx hb hts i9_X9_load hown hV.1 hP 1 rfl rfl 11 (by decide) (hts _ w1_X9_load) (fun _ h9 => h9) rfl dX9_load_16 ?_
    refine lv_isub hx hb dX9_load_19 ?_
    exact ee_fi hQ hx hb hr (rfl) hlocks hS (ar, fa9, at8, n9, d9, gk9, gl9, tt9, bb9) (by
      rw [loA, if_neg (fun q => g9 (pf1.trans q)), ← pf1]
      exact ⟨rfl, hR⟩) (hP.sub [1, 0, 2, 3, 4, 5, 6] rfl) (hD.sub [1, 0, 2, 3, 4, 5, 6] (by decide) rfl) dX9_load_20
