/-! the model: a cycle -/
abbrev rmX9_cycles : Room := ({ frames := 2, cells := 0, slots := 0, locals := 43 } : Room)
theorem w1_X9_cycles : Cond.fieldLink RX9 129 "LabelApplicatorModel" "end" "I" ∈ wsX9_cycles := List.mem_of_getElem? (i := 1) (by decide +kernel)
theorem w2_X9_cycles : Cond.fieldLink RX9 116 "LabelApplicatorModel" "travel" "I" ∈ wsX9_cycles := List.mem_of_getElem? (i := 2) (by decide +kernel)
theorem w3_X9_cycles : Cond.fieldLink RX9 24 "LabelApplicatorModel" "pitch" "F" ∈ wsX9_cycles := List.mem_of_getElem? (i := 3) (by decide +kernel)
theorem w4_X9_cycles : Cond.fieldLink RX9 7 "LabelApplicatorModel" "m" "[I" ∈ wsX9_cycles := List.mem_of_getElem? (i := 4) (by decide +kernel)
theorem w5_X9_cycles : Cond.constantFloat RX9 142 (1090519040) ∈ wsX9_cycles := List.mem_of_getElem? (i := 5) (by decide +kernel)
theorem w6_X9_cycles : Cond.fieldLink RX9 122 "LabelApplicatorModel" "labels" "I" ∈ wsX9_cycles := List.mem_of_getElem? (i := 6) (by decide +kernel)
theorem w7_X9_cycles : Cond.fieldLink RX9 125 "LabelApplicatorModel" "hasSplice" "Z" ∈ wsX9_cycles := List.mem_of_getElem? (i := 7) (by decide +kernel)
theorem w8_X9_cycles : Cond.fieldLink RX9 119 "LabelApplicatorModel" "taken" "I" ∈ wsX9_cycles := List.mem_of_getElem? (i := 8) (by decide +kernel)
theorem w9_X9_cycles : Cond.methodLink RX9 132 yX9_follows ∈ wsX9_cycles := List.mem_of_getElem? (i := 9) (by decide +kernel)
theorem w12_X9_cycles : Cond.initialized RX9 ∈ wsX9_cycles := List.mem_of_getElem? (i := 12) (by decide +kernel)
theorem w14_X9_cycles : Cond.methodLink RX9 135 yX9_feeds ∈ wsX9_cycles := List.mem_of_getElem? (i := 14) (by decide +kernel)
theorem w18_X9_cycles : Cond.methodLink RX9 138 yX9_reasonAt ∈ wsX9_cycles := List.mem_of_getElem? (i := 18) (by decide +kernel)
theorem w22_X9_cycles : Cond.methodLink RX9 143 yX9_turns ∈ wsX9_cycles := List.mem_of_getElem? (i := 22) (by decide +kernel)
theorem w26_X9_cycles : Cond.methodLink RX9 113 yX9_leaves ∈ wsX9_cycles := List.mem_of_getElem? (i := 26) (by decide +kernel)
theorem i9_X9_cycles : ∀ w ∈ wsX90, w ∈ wsX9_cycles := fun w h => (goodIn_r _ [30, 31, 32, 33, 34, 35, 36, 37, 38, 39, 40, 41, 42, 43, 44, 45, 46, 47, 48, 49, 50, 51, 52, 53] (by decide +kernel) (by decide +kernel) w h).1
set_option maxHeartbeats 4000000 in
set_option maxRecDepth 100000 in
theorem kX9_cycles (l : Launch) (E : ee_T) (w0 w1 w2 w3 w4 w5 w6 w7 w8 w9 : Nat) (pt pa p1 p2 : UInt32) (tl ta fa it dp tv tn tb th te : Int32) (hh : Int64) (ar : Nat → Int32) (z : Sg) (v : Nat) (hR : rM z ar pt) (hv : v ≤ 1000) : CQ l E yX9_cycles wsX9_cycles rmX9_cycles [.ref w0, .int (nI v)] [(w0, ee_o 9 [.ref w1, .ref w2, .ref w3, .ref w4, .float pt, .float pa, .float p1, .float p2, .ref w5, .int tl, .int ta, .int fa, .ref w6, .ref w7, .int it, .ref w8, .ref w9, .int dp, .int tv, .int tn, .int tb, .int th, .int te, .long hh]), (w1, ee_i E 204 ar)] (QV E (fun (u : (Nat → Int32) × UInt32) => rM (cyc z (nI v)) u.1 u.2) (fun (u : (Nat → Int32) × UInt32) => [(w0, ee_o 9 [.ref w1, .ref w2, .ref w3, .ref w4, .float u.2, .float pa, .float p1, .float p2, .ref w5, .int tl, .int ta, .int fa, .ref w6, .ref w7, .int it, .ref w8, .ref w9, .int dp, .int (nI (cTr z)), .int (nI (cTk z)), .int (nI (cLb z)), .int (nI (cHs z)), .int (nI (cEd z)), .long hh]), (w1, ee_i E 204 u.1)])) 0 0 := by
  refine CQ_ofW (cc := cX9_cycles) (maxL := 4) (ret := none) (by decide) rfl (Nat.le_of_ble_eq_true rfl) ?_
  intro p e s m below meth c A Q hQ hx hb hr hml hown hlocks hnm hts hV hA hP hD hS ls hl
  have hl : lv_has ls 4 [(0, .ref w0), (1, .int (nI v))] := hl
  have hO := hR.1
  have hpt : pt = gP z := hR.2.2.2.2.2.2.2.2.2.2
  have n9 : vf_n32 (FP.fadd pt (FP.i2f (gS z 1))) := by rw [hpt]; exact (cy_win hO).2
  have hr7 := cRs_le z (nI v)
  have hbl := cBl_2 z
  have hhs := cHs_2 z
  obtain ⟨-, k1, k2, k3, k4, k5, k6, -⟩ := cy_inv hO
  have hT := hO.2.2.2.2.1
  have hn80 := hO.1
  have cT : cTk z ≤ 80 := by omega
  refine lv_aload_n hx hb dX9_cycles_0 rfl (lv_at hl 0 rfl) ?_
  refine lv_iload_n hx hb dX9_cycles_1 rfl (lv_at hl 1 rfl) ?_
  refine ee_kv (wr := []) (ee_rV (As := [.int (nI v)]) (rest := []) (kX9_follows l E w0 w1 w2 w3 w4 w5 w6 w7 w8 w9 pt pa p1 p2 tl ta fa it dp tv tn tb th te hh ar (nI v)) hx hb hml hown hts 1 gX9_cycles_X9_follows rfl rfl rfl (by decide +kernel) ⟨Nat.le_of_ble_eq_true rfl, Nat.le_of_ble_eq_true rfl⟩ hV hP hD hS hA [0, 1] rfl (by decide) hl 0 rfl rfl rfl rfl (Nat.le_of_ble_eq_true rfl) dX9_cycles_2 ⟨Nat.le_of_ble_eq_true rfl, Nat.le_of_ble_eq_true rfl⟩) hP hD hS hA [0, 1] [] rfl rfl (by decide) (by decide) (fun u_2 H locs hp_3 hP hD hS => ?_)
  have hP : va_P E.1 vwCl [(w0, ee_o 9 [.ref w1, .ref w2, .ref w3, .ref w4, .float pt, .float pa, .float p1, .float p2, .ref w5, .int tl, .int ta, .int fa, .ref w6, .ref w7, .int it, .ref w8, .ref w9, .int dp, .int tv, .int tn, .int tb, .int th, .int te, .long hh]), (w1, ee_i E 204 (upd ar 169 (follow (ar 169) (ar 165) (ar 164) (nI v))))] H := hP
  have hD : va_D A [(w0, ee_o 9 [.ref w1, .ref w2, .ref w3, .ref w4, .float pt, .float pa, .float p1, .float p2, .ref w5, .int tl, .int ta, .int fa, .ref w6, .ref w7, .int it, .ref w8, .ref w9, .int dp, .int tv, .int tn, .int tb, .int th, .int te, .long hh]), (w1, ee_i E 204 (upd ar 169 (follow (ar 169) (ar 165) (ar 164) (nI v))))] := hD
  obtain ⟨a1, ha1⟩ : ∃ y, y = upd ar 169 (follow (ar 169) (ar 165) (ar 164) (nI v)) := ⟨_, rfl⟩
  rw [← ha1] at hP hD
  have hM1 := cyM1 hR ha1
  refine lv_aload_n hx hb dX9_cycles_5 rfl (lv_at hl 0 rfl) ?_
  refine ee_kv (wr := []) (ee_rV (As := []) (rest := []) (kX9_feeds l E w0 w1 w2 w3 w4 w5 w6 w7 w8 w9 pt pa p1 p2 tl ta fa it dp tv tn tb th te hh a1 (gN z) (cTk z) (cTr z) (cLb z) (cSc z) (cEd z) (cHs z) hM1.1 hM1.2.1 hM1.2.2.1 hM1.2.2.2.1 hM1.2.2.2.2.1 rfl) hx hb hml hown hts 0 gX9_cycles_X9_feeds rfl rfl rfl (by decide +kernel) ⟨Nat.le_of_ble_eq_true rfl, Nat.le_of_ble_eq_true rfl⟩ hV hP hD hS hA [0, 1] rfl (by decide) hl 0 rfl rfl rfl rfl (Nat.le_of_ble_eq_true rfl) dX9_cycles_6 ⟨Nat.le_of_ble_eq_true rfl, Nat.le_of_ble_eq_true rfl⟩) hP hD hS hA [0, 1] [] rfl rfl (by decide) (by decide) (fun a2 H locs hp_5 hP hD hS => ?_)
  obtain ⟨b0, b1, b2⟩ := hp_5
  have hP : va_P E.1 vwCl [(w0, ee_o 9 [.ref w1, .ref w2, .ref w3, .ref w4, .float pt, .float pa, .float p1, .float p2, .ref w5, .int tl, .int ta, .int fa, .ref w6, .ref w7, .int it, .ref w8, .ref w9, .int dp, .int (nI (cTr z)), .int (nI (cTk z)), .int (nI (cLb z)), .int (nI (cHs z)), .int (nI (cEd z)), .long hh]), (w1, ee_i E 204 a2)] H := hP
  have hD : va_D A [(w0, ee_o 9 [.ref w1, .ref w2, .ref w3, .ref w4, .float pt, .float pa, .float p1, .float p2, .ref w5, .int tl, .int ta, .int fa, .ref w6, .ref w7, .int it, .ref w8, .ref w9, .int dp, .int (nI (cTr z)), .int (nI (cTk z)), .int (nI (cLb z)), .int (nI (cHs z)), .int (nI (cEd z)), .long hh]), (w1, ee_i E 204 a2)] := hD
  have hM2 := cyM2 (v := v) hR hM1.2.2.2.2.2.1 hM1.2.2.2.2.2.2 b1 b2
  refine lv_aload_n hx hb dX9_cycles_9 rfl (lv_at hl 0 rfl) ?_
  have B_7 : ∀ (b1 : Nat) (H : Heap) (locs : List Loc) (ls : Array Slot), (cBl z = b1) → va_P E.1 vwCl [(w0, ee_o 9 [.ref w1, .ref w2, .ref w3, .ref w4, .float pt, .float pa, .float p1, .float p2, .ref w5, .int tl, .int ta, .int fa, .ref w6, .ref w7, .int it, .ref w8, .ref w9, .int dp, .int (nI (cTr z)), .int (nI (cTk z)), .int (nI (cLb z)), .int (nI (cHs z)), .int (nI (cEd z)), .long hh]), (w1, ee_i E 204 a2)] H → va_D A [(w0, ee_o 9 [.ref w1, .ref w2, .ref w3, .ref w4, .float pt, .float pa, .float p1, .float p2, .ref w5, .int tl, .int ta, .int fa, .ref w6, .ref w7, .int it, .ref w8, .ref w9, .int dp, .int (nI (cTr z)), .int (nI (cTk z)), .int (nI (cLb z)), .int (nI (cHs z)), .int (nI (cEd z)), .long hh]), (w1, ee_i E 204 a2)] → va_S A s.heap H locs → lv_has ls 4 [(0, .ref w0), (1, .int (nI v))] → W p l e rmX9_cycles s m [.ref w0, .int (nI v)].toArray below meth c H locs 0 0 Q (F0 m 45 ls [.int (nI b1)]) := by
    intro b1 H locs ls hb1 hP hD hS hl
    subst hb1
    refine lv_istore_n (lv' := [(2, .int (nI (cBl z))), (0, .ref w0), (1, .int (nI v))]) hx hb dX9_cycles_45 rfl hl (by decide) rfl (fun ls hl => ?_)
    refine lv_aload_n hx hb dX9_cycles_46 rfl (lv_at hl 1 rfl) ?_
    refine lv_iload_n hx hb dX9_cycles_47 rfl (lv_at hl 2 rfl) ?_
    refine lv_iload_n hx hb dX9_cycles_48 rfl (lv_at hl 0 rfl) ?_
    refine ee_ki (wr := []) (ee_rV (As := [.int (nI v), .int (nI (cBl z))]) (rest := []) (kX9_reasonAt l E w0 w1 w2 w3 w4 w5 w6 w7 w8 w9 pt pa p1 p2 tl ta fa it dp (nI (cTr z)) (nI (cTk z)) hh a2 (cLb z) (cHs z) (cEd z) (cSc z) (cBl z) (nI v) (⟨k5, k6⟩) (by omega) rfl) hx hb hml hown hts 2 gX9_cycles_X9_reasonAt rfl rfl rfl (by decide +kernel) ⟨Nat.le_of_ble_eq_true rfl, Nat.le_of_ble_eq_true rfl⟩ hV hP hD hS hA [0, 1] rfl (by decide) hl 0 rfl rfl rfl rfl (Nat.le_of_ble_eq_true rfl) dX9_cycles_49 ⟨Nat.le_of_ble_eq_true rfl, Nat.le_of_ble_eq_true rfl⟩) hP hD hS hA [0, 1] [] rfl rfl (by decide) (by decide) (fun r_8 u_9 H locs hp_10 hP hD hS => ?_)
    subst hp_10
    have hP : va_P E.1 vwCl [(w0, ee_o 9 [.ref w1, .ref w2, .ref w3, .ref w4, .float pt, .float pa, .float p1, .float p2, .ref w5, .int tl, .int ta, .int fa, .ref w6, .ref w7, .int it, .ref w8, .ref w9, .int dp, .int (nI (cTr z)), .int (nI (cTk z)), .int (nI (cLb z)), .int (nI (cHs z)), .int (nI (cEd z)), .long hh]), (w1, ee_i E 204 a2)] H := hP
    have hD : va_D A [(w0, ee_o 9 [.ref w1, .ref w2, .ref w3, .ref w4, .float pt, .float pa, .float p1, .float p2, .ref w5, .int tl, .int ta, .int fa, .ref w6, .ref w7, .int it, .ref w8, .ref w9, .int dp, .int (nI (cTr z)), .int (nI (cTk z)), .int (nI (cLb z)), .int (nI (cHs z)), .int (nI (cEd z)), .long hh]), (w1, ee_i E 204 a2)] := hD
    refine ee_to (z := nI (cRs z (nI v))) (by rw [hM2.2.2.1, show a2 166 = gS z 5 from hM2.2.1 5 (by decide)]; rfl) ?_
    refine lv_istore_n (lv' := [(3, .int (nI (cRs z (nI v)))), (2, .int (nI (cBl z))), (0, .ref w0), (1, .int (nI v))]) hx hb dX9_cycles_52 rfl hl (by decide) rfl (fun ls hl => ?_)
    have B_11 : ∀ (pu : UInt32) (H : Heap) (locs : List Loc) (ls : Array Slot), (pu = cPt z (nI v)) → va_P E.1 vwCl [(w0, ee_o 9 [.ref w1, .ref w2, .ref w3, .ref w4, .float pu, .float pa, .float p1, .float p2, .ref w5, .int tl, .int ta, .int fa, .ref w6, .ref w7, .int it, .ref w8, .ref w9, .int dp, .int (nI (cTr z)), .int (nI (cTk z)), .int (nI (cLb z)), .int (nI (cHs z)), .int (nI (cEd z)), .long hh]), (w1, ee_i E 204 a2)] H → va_D A [(w0, ee_o 9 [.ref w1, .ref w2, .ref w3, .ref w4, .float pu, .float pa, .float p1, .float p2, .ref w5, .int tl, .int ta, .int fa, .ref w6, .ref w7, .int it, .ref w8, .ref w9, .int dp, .int (nI (cTr z)), .int (nI (cTk z)), .int (nI (cLb z)), .int (nI (cHs z)), .int (nI (cEd z)), .long hh]), (w1, ee_i E 204 a2)] → va_S A s.heap H locs → lv_has ls 4 [(3, .int (nI (cRs z (nI v)))), (2, .int (nI (cBl z))), (0, .ref w0), (1, .int (nI v))] → W p l e rmX9_cycles s m [.ref w0, .int (nI v)].toArray below meth c H locs 0 0 Q (F0 m 89 ls []) := by
      intro pu H locs ls hpu hP hD hS hl
      refine lv_aload_n hx hb dX9_cycles_89 rfl (lv_at hl 2 rfl) ?_
      refine va_get (ci := 9) (v := .ref w1) (C := RX9) (T := TX9) (N := 24) hx hb hts i9_X9_cycles hown hV.1 hP 0 rfl rfl 0 (by decide) (hts _ w4_X9_cycles) (fun _ h9 => h9) rfl dX9_cycles_90 ?_
      refine lv_sipush (v := nI 184) hx hb dX9_cycles_93 (by decide) ?_
      refine lv_dup2_11 hx hb dX9_cycles_96 rfl rfl ?_
      refine ee_ild hx hb hV hP 1 rfl (j := 184) (by omega) (by decide) dX9_cycles_97 ?_
      refine ee_to (z := gC z 3) (by exact hM2.2.2.2.2.2.1 3 (by decide)) ?_
      have B_12 : ∀ (y3 : Int32) (H : Heap) (locs : List Loc) (ls : Array Slot), (y3 = (if cRs z (nI v) = 0 then gC z 3 + nI 1 else gC z 3)) → va_P E.1 vwCl [(w0, ee_o 9 [.ref w1, .ref w2, .ref w3, .ref w4, .float pu, .float pa, .float p1, .float p2, .ref w5, .int tl, .int ta, .int fa, .ref w6, .ref w7, .int it, .ref w8, .ref w9, .int dp, .int (nI (cTr z)), .int (nI (cTk z)), .int (nI (cLb z)), .int (nI (cHs z)), .int (nI (cEd z)), .long hh]), (w1, ee_i E 204 a2)] H → va_D A [(w0, ee_o 9 [.ref w1, .ref w2, .ref w3, .ref w4, .float pu, .float pa, .float p1, .float p2, .ref w5, .int tl, .int ta, .int fa, .ref w6, .ref w7, .int it, .ref w8, .ref w9, .int dp, .int (nI (cTr z)), .int (nI (cTk z)), .int (nI (cLb z)), .int (nI (cHs z)), .int (nI (cEd z)), .long hh]), (w1, ee_i E 204 a2)] → va_S A s.heap H locs → lv_has ls 4 [(3, .int (nI (cRs z (nI v)))), (2, .int (nI (cBl z))), (0, .ref w0), (1, .int (nI v))] → W p l e rmX9_cycles s m [.ref w0, .int (nI v)].toArray below meth c H locs 0 0 Q (F0 m 108 ls [.int y3, .int (nI 184), .ref w1]) := by
        intro y3 H locs ls h3 hP hD hS hl
        refine ee_ist hx hb hV hP hD hS 1 rfl (j := 184) (by omega) (by decide) dX9_cycles_108 (fun H locs hP hD hS => ?_)
        have hP : va_P E.1 vwCl [(w0, ee_o 9 [.ref w1, .ref w2, .ref w3, .ref w4, .float pu, .float pa, .float p1, .float p2, .ref w5, .int tl, .int ta, .int fa, .ref w6, .ref w7, .int it, .ref w8, .ref w9, .int dp, .int (nI (cTr z)), .int (nI (cTk z)), .int (nI (cLb z)), .int (nI (cHs z)), .int (nI (cEd z)), .long hh]), (w1, ee_i E 204 (upd a2 184 y3))] H := hP
        have hD : va_D A [(w0, ee_o 9 [.ref w1, .ref w2, .ref w3, .ref w4, .float pu, .float pa, .float p1, .float p2, .ref w5, .int tl, .int ta, .int fa, .ref w6, .ref w7, .int it, .ref w8, .ref w9, .int dp, .int (nI (cTr z)), .int (nI (cTk z)), .int (nI (cLb z)), .int (nI (cHs z)), .int (nI (cEd z)), .long hh]), (w1, ee_i E 204 (upd a2 184 y3))] := hD
        refine lv_aload_n hx hb dX9_cycles_109 rfl (lv_at hl 2 rfl) ?_
        refine va_get (ci := 9) (v := .ref w1) (C := RX9) (T := TX9) (N := 24) hx hb hts i9_X9_cycles hown hV.1 hP 0 rfl rfl 0 (by decide) (hts _ w4_X9_cycles) (fun _ h9 => h9) rfl dX9_cycles_110 ?_
        refine lv_sipush (v := nI 185) hx hb dX9_cycles_113 (by decide) ?_
        refine lv_dup2_11 hx hb dX9_cycles_116 rfl rfl ?_
        refine ee_ild hx hb hV hP 1 rfl (j := 185) (by omega) (by decide) dX9_cycles_117 ?_
        refine ee_to (z := gC z 4) (by rw [pk_un (by omega)]; exact hM2.2.2.2.2.2.1 4 (by decide)) ?_
        have B_13 : ∀ (y4 : Int32) (H : Heap) (locs : List Loc) (ls : Array Slot), (y4 = (if cRs z (nI v) = 0 then gC z 4 else gC z 4 + nI (cLb z))) → va_P E.1 vwCl [(w0, ee_o 9 [.ref w1, .ref w2, .ref w3, .ref w4, .float pu, .float pa, .float p1, .float p2, .ref w5, .int tl, .int ta, .int fa, .ref w6, .ref w7, .int it, .ref w8, .ref w9, .int dp, .int (nI (cTr z)), .int (nI (cTk z)), .int (nI (cLb z)), .int (nI (cHs z)), .int (nI (cEd z)), .long hh]), (w1, ee_i E 204 (upd a2 184 y3))] H → va_D A [(w0, ee_o 9 [.ref w1, .ref w2, .ref w3, .ref w4, .float pu, .float pa, .float p1, .float p2, .ref w5, .int tl, .int ta, .int fa, .ref w6, .ref w7, .int it, .ref w8, .ref w9, .int dp, .int (nI (cTr z)), .int (nI (cTk z)), .int (nI (cLb z)), .int (nI (cHs z)), .int (nI (cEd z)), .long hh]), (w1, ee_i E 204 (upd a2 184 y3))] → va_S A s.heap H locs → lv_has ls 4 [(3, .int (nI (cRs z (nI v)))), (2, .int (nI (cBl z))), (0, .ref w0), (1, .int (nI v))] → W p l e rmX9_cycles s m [.ref w0, .int (nI v)].toArray below meth c H locs 0 0 Q (F0 m 131 ls [.int y4, .int (nI 185), .ref w1]) := by
          intro y4 H locs ls h4 hP hD hS hl
          refine ee_ist hx hb hV hP hD hS 1 rfl (j := 185) (by omega) (by decide) dX9_cycles_131 (fun H locs hP hD hS => ?_)
          have hP : va_P E.1 vwCl [(w0, ee_o 9 [.ref w1, .ref w2, .ref w3, .ref w4, .float pu, .float pa, .float p1, .float p2, .ref w5, .int tl, .int ta, .int fa, .ref w6, .ref w7, .int it, .ref w8, .ref w9, .int dp, .int (nI (cTr z)), .int (nI (cTk z)), .int (nI (cLb z)), .int (nI (cHs z)), .int (nI (cEd z)), .long hh]), (w1, ee_i E 204 (upd (upd a2 184 y3) 185 y4))] H := hP
          have hD : va_D A [(w0, ee_o 9 [.ref w1, .ref w2, .ref w3, .ref w4, .float pu, .float pa, .float p1, .float p2, .ref w5, .int tl, .int ta, .int fa, .ref w6, .ref w7, .int it, .ref w8, .ref w9, .int dp, .int (nI (cTr z)), .int (nI (cTk z)), .int (nI (cLb z)), .int (nI (cHs z)), .int (nI (cEd z)), .long hh]), (w1, ee_i E 204 (upd (upd a2 184 y3) 185 y4))] := hD
          refine lv_aload_n hx hb dX9_cycles_132 rfl (lv_at hl 2 rfl) ?_
          refine va_get (ci := 9) (v := .ref w1) (C := RX9) (T := TX9) (N := 24) hx hb hts i9_X9_cycles hown hV.1 hP 0 rfl rfl 0 (by decide) (hts _ w4_X9_cycles) (fun _ h9 => h9) rfl dX9_cycles_133 ?_
          refine lv_sipush (v := nI 186) hx hb dX9_cycles_136 (by decide) ?_
          refine lv_dup2_11 hx hb dX9_cycles_139 rfl rfl ?_
          refine ee_ild hx hb hV hP 1 rfl (j := 186) (by omega) (by decide) dX9_cycles_140 ?_
          refine ee_to (z := gC z 5) (by rw [pk_un (by omega), pk_un (by omega)]; exact hM2.2.2.2.2.2.1 5 (by decide)) ?_
          have B_14 : ∀ (y5 : Int32) (H : Heap) (locs : List Loc) (ls : Array Slot), (y5 = (if 0 < cSc z then gC z 5 + nI 1 else gC z 5)) → va_P E.1 vwCl [(w0, ee_o 9 [.ref w1, .ref w2, .ref w3, .ref w4, .float pu, .float pa, .float p1, .float p2, .ref w5, .int tl, .int ta, .int fa, .ref w6, .ref w7, .int it, .ref w8, .ref w9, .int dp, .int (nI (cTr z)), .int (nI (cTk z)), .int (nI (cLb z)), .int (nI (cHs z)), .int (nI (cEd z)), .long hh]), (w1, ee_i E 204 (upd (upd a2 184 y3) 185 y4))] H → va_D A [(w0, ee_o 9 [.ref w1, .ref w2, .ref w3, .ref w4, .float pu, .float pa, .float p1, .float p2, .ref w5, .int tl, .int ta, .int fa, .ref w6, .ref w7, .int it, .ref w8, .ref w9, .int dp, .int (nI (cTr z)), .int (nI (cTk z)), .int (nI (cLb z)), .int (nI (cHs z)), .int (nI (cEd z)), .long hh]), (w1, ee_i E 204 (upd (upd a2 184 y3) 185 y4))] → va_S A s.heap H locs → lv_has ls 4 [(3, .int (nI (cRs z (nI v)))), (2, .int (nI (cBl z))), (0, .ref w0), (1, .int (nI v))] → W p l e rmX9_cycles s m [.ref w0, .int (nI v)].toArray below meth c H locs 0 0 Q (F0 m 154 ls [.int y5, .int (nI 186), .ref w1]) := by
            intro y5 H locs ls h5 hP hD hS hl
            refine ee_ist hx hb hV hP hD hS 1 rfl (j := 186) (by omega) (by decide) dX9_cycles_154 (fun H locs hP hD hS => ?_)
            have hP : va_P E.1 vwCl [(w0, ee_o 9 [.ref w1, .ref w2, .ref w3, .ref w4, .float pu, .float pa, .float p1, .float p2, .ref w5, .int tl, .int ta, .int fa, .ref w6, .ref w7, .int it, .ref w8, .ref w9, .int dp, .int (nI (cTr z)), .int (nI (cTk z)), .int (nI (cLb z)), .int (nI (cHs z)), .int (nI (cEd z)), .long hh]), (w1, ee_i E 204 (upd (upd (upd a2 184 y3) 185 y4) 186 y5))] H := hP
            have hD : va_D A [(w0, ee_o 9 [.ref w1, .ref w2, .ref w3, .ref w4, .float pu, .float pa, .float p1, .float p2, .ref w5, .int tl, .int ta, .int fa, .ref w6, .ref w7, .int it, .ref w8, .ref w9, .int dp, .int (nI (cTr z)), .int (nI (cTk z)), .int (nI (cLb z)), .int (nI (cHs z)), .int (nI (cEd z)), .long hh]), (w1, ee_i E 204 (upd (upd (upd a2 184 y3) 185 y4) 186 y5))] := hD
            refine lv_aload_n hx hb dX9_cycles_155 rfl (lv_at hl 2 rfl) ?_
            refine va_get (ci := 9) (v := .ref w1) (C := RX9) (T := TX9) (N := 24) hx hb hts i9_X9_cycles hown hV.1 hP 0 rfl rfl 0 (by decide) (hts _ w4_X9_cycles) (fun _ h9 => h9) rfl dX9_cycles_156 ?_
            refine lv_sipush (v := nI 187) hx hb dX9_cycles_159 (by decide) ?_
            refine lv_dup2_11 hx hb dX9_cycles_162 rfl rfl ?_
            refine ee_ild hx hb hV hP 1 rfl (j := 187) (by omega) (by decide) dX9_cycles_163 ?_
            refine ee_to (z := gC z 6) (by rw [pk_un (by omega), pk_un (by omega), pk_un (by omega)]; exact hM2.2.2.2.2.2.1 6 (by decide)) ?_
            have B_15 : ∀ (y6 : Int32) (H : Heap) (locs : List Loc) (ls : Array Slot), (y6 = (if cBl z = 0 then gC z 6 else gC z 6 + nI 1)) → va_P E.1 vwCl [(w0, ee_o 9 [.ref w1, .ref w2, .ref w3, .ref w4, .float pu, .float pa, .float p1, .float p2, .ref w5, .int tl, .int ta, .int fa, .ref w6, .ref w7, .int it, .ref w8, .ref w9, .int dp, .int (nI (cTr z)), .int (nI (cTk z)), .int (nI (cLb z)), .int (nI (cHs z)), .int (nI (cEd z)), .long hh]), (w1, ee_i E 204 (upd (upd (upd a2 184 y3) 185 y4) 186 y5))] H → va_D A [(w0, ee_o 9 [.ref w1, .ref w2, .ref w3, .ref w4, .float pu, .float pa, .float p1, .float p2, .ref w5, .int tl, .int ta, .int fa, .ref w6, .ref w7, .int it, .ref w8, .ref w9, .int dp, .int (nI (cTr z)), .int (nI (cTk z)), .int (nI (cLb z)), .int (nI (cHs z)), .int (nI (cEd z)), .long hh]), (w1, ee_i E 204 (upd (upd (upd a2 184 y3) 185 y4) 186 y5))] → va_S A s.heap H locs → lv_has ls 4 [(3, .int (nI (cRs z (nI v)))), (2, .int (nI (cBl z))), (0, .ref w0), (1, .int (nI v))] → W p l e rmX9_cycles s m [.ref w0, .int (nI v)].toArray below meth c H locs 0 0 Q (F0 m 174 ls [.int y6, .int (nI 187), .ref w1]) := by
              intro y6 H locs ls h6 hP hD hS hl
              refine ee_ist hx hb hV hP hD hS 1 rfl (j := 187) (by omega) (by decide) dX9_cycles_174 (fun H locs hP hD hS => ?_)
              have hP : va_P E.1 vwCl [(w0, ee_o 9 [.ref w1, .ref w2, .ref w3, .ref w4, .float pu, .float pa, .float p1, .float p2, .ref w5, .int tl, .int ta, .int fa, .ref w6, .ref w7, .int it, .ref w8, .ref w9, .int dp, .int (nI (cTr z)), .int (nI (cTk z)), .int (nI (cLb z)), .int (nI (cHs z)), .int (nI (cEd z)), .long hh]), (w1, ee_i E 204 (upd (upd (upd (upd a2 184 y3) 185 y4) 186 y5) 187 y6))] H := hP
              have hD : va_D A [(w0, ee_o 9 [.ref w1, .ref w2, .ref w3, .ref w4, .float pu, .float pa, .float p1, .float p2, .ref w5, .int tl, .int ta, .int fa, .ref w6, .ref w7, .int it, .ref w8, .ref w9, .int dp, .int (nI (cTr z)), .int (nI (cTk z)), .int (nI (cLb z)), .int (nI (cHs z)), .int (nI (cEd z)), .long hh]), (w1, ee_i E 204 (upd (upd (upd (upd a2 184 y3) 185 y4) 186 y5) 187 y6))] := hD
              refine lv_aload_n hx hb dX9_cycles_175 rfl (lv_at hl 2 rfl) ?_
              refine va_get (ci := 9) (v := .ref w1) (C := RX9) (T := TX9) (N := 24) hx hb hts i9_X9_cycles hown hV.1 hP 0 rfl rfl 0 (by decide) (hts _ w4_X9_cycles) (fun _ h9 => h9) rfl dX9_cycles_176 ?_
              refine lv_sipush (v := nI 190) hx hb dX9_cycles_179 (by decide) ?_
              refine lv_iload_n hx hb dX9_cycles_182 rfl (lv_at hl 0 rfl) ?_
              refine ee_iadd hx hb dX9_cycles_183 ?_
              refine lv_dup2_11 hx hb dX9_cycles_184 rfl rfl ?_
              refine ee_ild hx hb hV hP 1 rfl (j := (190 + (cRs z (nI v)))) (by omega) (by decide) dX9_cycles_185 ?_
              refine ee_to (z := gB z (cRs z (nI v))) (by rw [pk_un (by omega), pk_un (by omega), pk_un (by omega), pk_un (by omega)]; exact hM2.2.2.2.2.2.2 _ (by omega)) ?_
              refine lv_iconst (v := nI 1) hx hb dX9_cycles_186 (by decide) ?_
              refine lv_iadd hx hb dX9_cycles_187 ?_
              refine ee_ist hx hb hV hP hD hS 1 rfl (j := (190 + (cRs z (nI v)))) (by omega) (by decide) dX9_cycles_188 (fun H locs hP hD hS => ?_)
              have hP : va_P E.1 vwCl [(w0, ee_o 9 [.ref w1, .ref w2, .ref w3, .ref w4, .float pu, .float pa, .float p1, .float p2, .ref w5, .int tl, .int ta, .int fa, .ref w6, .ref w7, .int it, .ref w8, .ref w9, .int dp, .int (nI (cTr z)), .int (nI (cTk z)), .int (nI (cLb z)), .int (nI (cHs z)), .int (nI (cEd z)), .long hh]), (w1, ee_i E 204 (upd (upd (upd (upd (upd a2 184 y3) 185 y4) 186 y5) 187 y6) (190 + (cRs z (nI v))) ((gB z (cRs z (nI v))) + (nI 1))))] H := hP
              have hD : va_D A [(w0, ee_o 9 [.ref w1, .ref w2, .ref w3, .ref w4, .float pu, .float pa, .float p1, .float p2, .ref w5, .int tl, .int ta, .int fa, .ref w6, .ref w7, .int it, .ref w8, .ref w9, .int dp, .int (nI (cTr z)), .int (nI (cTk z)), .int (nI (cLb z)), .int (nI (cHs z)), .int (nI (cEd z)), .long hh]), (w1, ee_i E 204 (upd (upd (upd (upd (upd a2 184 y3) 185 y4) 186 y5) 187 y6) (190 + (cRs z (nI v))) ((gB z (cRs z (nI v))) + (nI 1))))] := hD
              refine lv_aload_n hx hb dX9_cycles_189 rfl (lv_at hl 2 rfl) ?_
              refine va_get (ci := 9) (v := .ref w1) (C := RX9) (T := TX9) (N := 24) hx hb hts i9_X9_cycles hown hV.1 hP 0 rfl rfl 0 (by decide) (hts _ w4_X9_cycles) (fun _ h9 => h9) rfl dX9_cycles_190 ?_
              refine lv_sipush (v := nI 181) hx hb dX9_cycles_193 (by decide) ?_
              refine lv_dup2_11 hx hb dX9_cycles_196 rfl rfl ?_
              refine ee_ild hx hb hV hP 1 rfl (j := 181) (by omega) (by decide) dX9_cycles_197 ?_
              refine ee_to (z := gC z 0) (by rw [pk_un (by omega), pk_un (by omega), pk_un (by omega), pk_un (by omega), pk_un (by omega)]; exact hM2.2.2.2.2.2.1 0 (by decide)) ?_
              refine lv_iconst (v := nI 1) hx hb dX9_cycles_198 (by decide) ?_
              refine lv_iadd hx hb dX9_cycles_199 ?_
              refine ee_ist hx hb hV hP hD hS 1 rfl (j := 181) (by omega) (by decide) dX9_cycles_200 (fun H locs hP hD hS => ?_)
              have hP : va_P E.1 vwCl [(w0, ee_o 9 [.ref w1, .ref w2, .ref w3, .ref w4, .float pu, .float pa, .float p1, .float p2, .ref w5, .int tl, .int ta, .int fa, .ref w6, .ref w7, .int it, .ref w8, .ref w9, .int dp, .int (nI (cTr z)), .int (nI (cTk z)), .int (nI (cLb z)), .int (nI (cHs z)), .int (nI (cEd z)), .long hh]), (w1, ee_i E 204 (upd (upd (upd (upd (upd (upd a2 184 y3) 185 y4) 186 y5) 187 y6) (190 + (cRs z (nI v))) ((gB z (cRs z (nI v))) + (nI 1))) 181 ((gC z 0) + (nI 1))))] H := hP
              have hD : va_D A [(w0, ee_o 9 [.ref w1, .ref w2, .ref w3, .ref w4, .float pu, .float pa, .float p1, .float p2, .ref w5, .int tl, .int ta, .int fa, .ref w6, .ref w7, .int it, .ref w8, .ref w9, .int dp, .int (nI (cTr z)), .int (nI (cTk z)), .int (nI (cLb z)), .int (nI (cHs z)), .int (nI (cEd z)), .long hh]), (w1, ee_i E 204 (upd (upd (upd (upd (upd (upd a2 184 y3) 185 y4) 186 y5) 187 y6) (190 + (cRs z (nI v))) ((gB z (cRs z (nI v))) + (nI 1))) 181 ((gC z 0) + (nI 1))))] := hD
              refine lv_aload_n hx hb dX9_cycles_201 rfl (lv_at hl 2 rfl) ?_
              refine va_get (ci := 9) (v := .ref w1) (C := RX9) (T := TX9) (N := 24) hx hb hts i9_X9_cycles hown hV.1 hP 0 rfl rfl 0 (by decide) (hts _ w4_X9_cycles) (fun _ h9 => h9) rfl dX9_cycles_202 ?_
              refine lv_sipush (v := nI 188) hx hb dX9_cycles_205 (by decide) ?_
              have B_16 : ∀ (y7 : Int32) (H : Heap) (locs : List Loc) (ls : Array Slot), (y7 = cRw z (nI v)) → va_P E.1 vwCl [(w0, ee_o 9 [.ref w1, .ref w2, .ref w3, .ref w4, .float pu, .float pa, .float p1, .float p2, .ref w5, .int tl, .int ta, .int fa, .ref w6, .ref w7, .int it, .ref w8, .ref w9, .int dp, .int (nI (cTr z)), .int (nI (cTk z)), .int (nI (cLb z)), .int (nI (cHs z)), .int (nI (cEd z)), .long hh]), (w1, ee_i E 204 (upd (upd (upd (upd (upd (upd a2 184 y3) 185 y4) 186 y5) 187 y6) (190 + (cRs z (nI v))) ((gB z (cRs z (nI v))) + (nI 1))) 181 ((gC z 0) + (nI 1))))] H → va_D A [(w0, ee_o 9 [.ref w1, .ref w2, .ref w3, .ref w4, .float pu, .float pa, .float p1, .float p2, .ref w5, .int tl, .int ta, .int fa, .ref w6, .ref w7, .int it, .ref w8, .ref w9, .int dp, .int (nI (cTr z)), .int (nI (cTk z)), .int (nI (cLb z)), .int (nI (cHs z)), .int (nI (cEd z)), .long hh]), (w1, ee_i E 204 (upd (upd (upd (upd (upd (upd a2 184 y3) 185 y4) 186 y5) 187 y6) (190 + (cRs z (nI v))) ((gB z (cRs z (nI v))) + (nI 1))) 181 ((gC z 0) + (nI 1))))] → va_S A s.heap H locs → lv_has ls 4 [(3, .int (nI (cRs z (nI v)))), (2, .int (nI (cBl z))), (0, .ref w0), (1, .int (nI v))] → W p l e rmX9_cycles s m [.ref w0, .int (nI v)].toArray below meth c H locs 0 0 Q (F0 m 243 ls [.int y7, .int (nI 188), .ref w1]) := by
                intro y7 H locs ls h7 hP hD hS hl
                refine ee_ist hx hb hV hP hD hS 1 rfl (j := 188) (by omega) (by decide) dX9_cycles_243 (fun H locs hP hD hS => ?_)
                have hP : va_P E.1 vwCl [(w0, ee_o 9 [.ref w1, .ref w2, .ref w3, .ref w4, .float pu, .float pa, .float p1, .float p2, .ref w5, .int tl, .int ta, .int fa, .ref w6, .ref w7, .int it, .ref w8, .ref w9, .int dp, .int (nI (cTr z)), .int (nI (cTk z)), .int (nI (cLb z)), .int (nI (cHs z)), .int (nI (cEd z)), .long hh]), (w1, ee_i E 204 (upd (upd (upd (upd (upd (upd (upd a2 184 y3) 185 y4) 186 y5) 187 y6) (190 + (cRs z (nI v))) ((gB z (cRs z (nI v))) + (nI 1))) 181 ((gC z 0) + (nI 1))) 188 y7))] H := hP
                have hD : va_D A [(w0, ee_o 9 [.ref w1, .ref w2, .ref w3, .ref w4, .float pu, .float pa, .float p1, .float p2, .ref w5, .int tl, .int ta, .int fa, .ref w6, .ref w7, .int it, .ref w8, .ref w9, .int dp, .int (nI (cTr z)), .int (nI (cTk z)), .int (nI (cLb z)), .int (nI (cHs z)), .int (nI (cEd z)), .long hh]), (w1, ee_i E 204 (upd (upd (upd (upd (upd (upd (upd a2 184 y3) 185 y4) 186 y5) 187 y6) (190 + (cRs z (nI v))) ((gB z (cRs z (nI v))) + (nI 1))) 181 ((gC z 0) + (nI 1))) 188 y7))] := hD
                obtain ⟨a3, ha3⟩ : ∃ y, y = upd (upd (upd (upd (upd (upd (upd a2 184 y3) 185 y4) 186 y5) 187 y6) (190 + (cRs z (nI v))) ((gB z (cRs z (nI v))) + (nI 1))) 181 ((gC z 0) + (nI 1))) 188 y7 := ⟨_, rfl⟩
                rw [← ha3] at hP hD
                have hM3 := cyM3 hr7 ha3
                rw [h3, h4, h5, h6, h7] at hM3
                refine lv_aload_n hx hb dX9_cycles_244 rfl (lv_at hl 2 rfl) ?_
                refine lv_iload_n hx hb dX9_cycles_245 rfl (lv_at hl 0 rfl) ?_
                refine ee_kv (wr := []) (ee_rV (As := [.int (nI (cRs z (nI v)))]) (rest := []) (kX9_turns l E w0 w1 w2 w3 w4 w5 w6 w7 w8 w9 pu pa p1 p2 tl ta fa it dp (nI (cTr z)) (nI (cTk z)) (nI (cLb z)) (nI (cHs z)) (nI (cEd z)) hh a3 (gT z) (cRs z (nI v)) ((hM3.2.2.2.2.2.2.2 170 (by decide) (by decide) (by decide) (by decide) (by omega) (by decide) (by decide)).trans hM2.2.2.2.1) hT (fun j hj => by rw [hM3.2.2.2.2.2.2.2 _ (by omega) (by omega) (by omega) (by omega) (by omega) (by omega) (by omega), hM2.2.2.2.2.1 j hj]; exact hO.2.2.2.2.2.1 j hj)) hx hb hml hown hts 1 gX9_cycles_X9_turns rfl rfl rfl (by decide +kernel) ⟨Nat.le_of_ble_eq_true rfl, Nat.le_of_ble_eq_true rfl⟩ hV hP hD hS hA [0, 1] rfl (by decide) hl 0 rfl rfl rfl rfl (Nat.le_of_ble_eq_true rfl) dX9_cycles_246 ⟨Nat.le_of_ble_eq_true rfl, Nat.le_of_ble_eq_true rfl⟩) hP hD hS hA [0, 1] [] rfl rfl (by decide) (by decide) (fun a4 H locs hp_18 hP hD hS => ?_)
                obtain ⟨c1, c2, c3, c4⟩ := hp_18
                have hP : va_P E.1 vwCl [(w0, ee_o 9 [.ref w1, .ref w2, .ref w3, .ref w4, .float pu, .float pa, .float p1, .float p2, .ref w5, .int tl, .int ta, .int fa, .ref w6, .ref w7, .int it, .ref w8, .ref w9, .int dp, .int (nI (cTr z)), .int (nI (cTk z)), .int (nI (cLb z)), .int (nI (cHs z)), .int (nI (cEd z)), .long hh]), (w1, ee_i E 204 a4)] H := hP
                have hD : va_D A [(w0, ee_o 9 [.ref w1, .ref w2, .ref w3, .ref w4, .float pu, .float pa, .float p1, .float p2, .ref w5, .int tl, .int ta, .int fa, .ref w6, .ref w7, .int it, .ref w8, .ref w9, .int dp, .int (nI (cTr z)), .int (nI (cTk z)), .int (nI (cLb z)), .int (nI (cHs z)), .int (nI (cEd z)), .long hh]), (w1, ee_i E 204 a4)] := hD
                refine lv_aload_n hx hb dX9_cycles_249 rfl (lv_at hl 2 rfl) ?_
                refine va_get (ci := 9) (v := .ref w1) (C := RX9) (T := TX9) (N := 24) hx hb hts i9_X9_cycles hown hV.1 hP 0 rfl rfl 0 (by decide) (hts _ w4_X9_cycles) (fun _ h9 => h9) rfl dX9_cycles_250 ?_
                refine lv_sipush (v := nI 198) hx hb dX9_cycles_253 (by decide) ?_
                refine lv_aload_n hx hb dX9_cycles_256 rfl (lv_at hl 2 rfl) ?_
                refine va_get (ci := 9) (v := .int (nI (cTr z))) (C := RX9) (T := TX9) (N := 24) hx hb hts i9_X9_cycles hown hV.1 hP 0 rfl rfl 18 (by decide) (hts _ w2_X9_cycles) (fun _ h9 => h9) rfl dX9_cycles_257 ?_
                refine ee_ist hx hb hV hP hD hS 1 rfl (j := 198) (by omega) (by decide) dX9_cycles_260 (fun H locs hP hD hS => ?_)
                have hP : va_P E.1 vwCl [(w0, ee_o 9 [.ref w1, .ref w2, .ref w3, .ref w4, .float pu, .float pa, .float p1, .float p2, .ref w5, .int tl, .int ta, .int fa, .ref w6, .ref w7, .int it, .ref w8, .ref w9, .int dp, .int (nI (cTr z)), .int (nI (cTk z)), .int (nI (cLb z)), .int (nI (cHs z)), .int (nI (cEd z)), .long hh]), (w1, ee_i E 204 (upd a4 198 (nI (cTr z))))] H := hP
                have hD : va_D A [(w0, ee_o 9 [.ref w1, .ref w2, .ref w3, .ref w4, .float pu, .float pa, .float p1, .float p2, .ref w5, .int tl, .int ta, .int fa, .ref w6, .ref w7, .int it, .ref w8, .ref w9, .int dp, .int (nI (cTr z)), .int (nI (cTk z)), .int (nI (cLb z)), .int (nI (cHs z)), .int (nI (cEd z)), .long hh]), (w1, ee_i E 204 (upd a4 198 (nI (cTr z))))] := hD
                refine lv_aload_n hx hb dX9_cycles_261 rfl (lv_at hl 2 rfl) ?_
                refine va_get (ci := 9) (v := .ref w1) (C := RX9) (T := TX9) (N := 24) hx hb hts i9_X9_cycles hown hV.1 hP 0 rfl rfl 0 (by decide) (hts _ w4_X9_cycles) (fun _ h9 => h9) rfl dX9_cycles_262 ?_
                refine lv_sipush (v := nI 199) hx hb dX9_cycles_265 (by decide) ?_
                refine lv_aload_n hx hb dX9_cycles_268 rfl (lv_at hl 2 rfl) ?_
                refine va_get (ci := 9) (v := .int (nI (cLb z))) (C := RX9) (T := TX9) (N := 24) hx hb hts i9_X9_cycles hown hV.1 hP 0 rfl rfl 20 (by decide) (hts _ w6_X9_cycles) (fun _ h9 => h9) rfl dX9_cycles_269 ?_
                refine ee_ist hx hb hV hP hD hS 1 rfl (j := 199) (by omega) (by decide) dX9_cycles_272 (fun H locs hP hD hS => ?_)
                have hP : va_P E.1 vwCl [(w0, ee_o 9 [.ref w1, .ref w2, .ref w3, .ref w4, .float pu, .float pa, .float p1, .float p2, .ref w5, .int tl, .int ta, .int fa, .ref w6, .ref w7, .int it, .ref w8, .ref w9, .int dp, .int (nI (cTr z)), .int (nI (cTk z)), .int (nI (cLb z)), .int (nI (cHs z)), .int (nI (cEd z)), .long hh]), (w1, ee_i E 204 (upd (upd a4 198 (nI (cTr z))) 199 (nI (cLb z))))] H := hP
                have hD : va_D A [(w0, ee_o 9 [.ref w1, .ref w2, .ref w3, .ref w4, .float pu, .float pa, .float p1, .float p2, .ref w5, .int tl, .int ta, .int fa, .ref w6, .ref w7, .int it, .ref w8, .ref w9, .int dp, .int (nI (cTr z)), .int (nI (cTk z)), .int (nI (cLb z)), .int (nI (cHs z)), .int (nI (cEd z)), .long hh]), (w1, ee_i E 204 (upd (upd a4 198 (nI (cTr z))) 199 (nI (cLb z))))] := hD
                refine lv_aload_n hx hb dX9_cycles_273 rfl (lv_at hl 2 rfl) ?_
                refine va_get (ci := 9) (v := .ref w1) (C := RX9) (T := TX9) (N := 24) hx hb hts i9_X9_cycles hown hV.1 hP 0 rfl rfl 0 (by decide) (hts _ w4_X9_cycles) (fun _ h9 => h9) rfl dX9_cycles_274 ?_
                refine lv_sipush (v := nI 200) hx hb dX9_cycles_277 (by decide) ?_
                refine lv_iload_n hx hb dX9_cycles_280 rfl (lv_at hl 0 rfl) ?_
                refine ee_ist hx hb hV hP hD hS 1 rfl (j := 200) (by omega) (by decide) dX9_cycles_281 (fun H locs hP hD hS => ?_)
                have hP : va_P E.1 vwCl [(w0, ee_o 9 [.ref w1, .ref w2, .ref w3, .ref w4, .float pu, .float pa, .float p1, .float p2, .ref w5, .int tl, .int ta, .int fa, .ref w6, .ref w7, .int it, .ref w8, .ref w9, .int dp, .int (nI (cTr z)), .int (nI (cTk z)), .int (nI (cLb z)), .int (nI (cHs z)), .int (nI (cEd z)), .long hh]), (w1, ee_i E 204 (upd (upd (upd a4 198 (nI (cTr z))) 199 (nI (cLb z))) 200 (nI (cRs z (nI v)))))] H := hP
                have hD : va_D A [(w0, ee_o 9 [.ref w1, .ref w2, .ref w3, .ref w4, .float pu, .float pa, .float p1, .float p2, .ref w5, .int tl, .int ta, .int fa, .ref w6, .ref w7, .int it, .ref w8, .ref w9, .int dp, .int (nI (cTr z)), .int (nI (cTk z)), .int (nI (cLb z)), .int (nI (cHs z)), .int (nI (cEd z)), .long hh]), (w1, ee_i E 204 (upd (upd (upd a4 198 (nI (cTr z))) 199 (nI (cLb z))) 200 (nI (cRs z (nI v)))))] := hD
                refine lv_aload_n hx hb dX9_cycles_282 rfl (lv_at hl 2 rfl) ?_
                refine va_get (ci := 9) (v := .ref w1) (C := RX9) (T := TX9) (N := 24) hx hb hts i9_X9_cycles hown hV.1 hP 0 rfl rfl 0 (by decide) (hts _ w4_X9_cycles) (fun _ h9 => h9) rfl dX9_cycles_283 ?_
                refine lv_sipush (v := nI 201) hx hb dX9_cycles_286 (by decide) ?_
                refine lv_aload_n hx hb dX9_cycles_289 rfl (lv_at hl 2 rfl) ?_
                refine va_get (ci := 9) (v := .ref w1) (C := RX9) (T := TX9) (N := 24) hx hb hts i9_X9_cycles hown hV.1 hP 0 rfl rfl 0 (by decide) (hts _ w4_X9_cycles) (fun _ h9 => h9) rfl dX9_cycles_290 ?_
                refine lv_sipush (v := nI 169) hx hb dX9_cycles_293 (by decide) ?_
                refine ee_ild hx hb hV hP 1 rfl (j := 169) (by omega) (by decide) dX9_cycles_296 ?_
                refine ee_to (z := cSp z (nI v)) (by rw [pk_un (by omega), pk_un (by omega), pk_un (by omega)]; rw [c4 169 (by decide) (by decide) (by decide), hM3.2.2.2.2.2.2.2 169 (by decide) (by decide) (by decide) (by decide) (by omega) (by decide) (by decide)]; exact hM2.2.2.1) ?_
                refine ee_ist hx hb hV hP hD hS 1 rfl (j := 201) (by omega) (by decide) dX9_cycles_297 (fun H locs hP hD hS => ?_)
                have hP : va_P E.1 vwCl [(w0, ee_o 9 [.ref w1, .ref w2, .ref w3, .ref w4, .float pu, .float pa, .float p1, .float p2, .ref w5, .int tl, .int ta, .int fa, .ref w6, .ref w7, .int it, .ref w8, .ref w9, .int dp, .int (nI (cTr z)), .int (nI (cTk z)), .int (nI (cLb z)), .int (nI (cHs z)), .int (nI (cEd z)), .long hh]), (w1, ee_i E 204 (upd (upd (upd (upd a4 198 (nI (cTr z))) 199 (nI (cLb z))) 200 (nI (cRs z (nI v)))) 201 (cSp z (nI v))))] H := hP
                have hD : va_D A [(w0, ee_o 9 [.ref w1, .ref w2, .ref w3, .ref w4, .float pu, .float pa, .float p1, .float p2, .ref w5, .int tl, .int ta, .int fa, .ref w6, .ref w7, .int it, .ref w8, .ref w9, .int dp, .int (nI (cTr z)), .int (nI (cTk z)), .int (nI (cLb z)), .int (nI (cHs z)), .int (nI (cEd z)), .long hh]), (w1, ee_i E 204 (upd (upd (upd (upd a4 198 (nI (cTr z))) 199 (nI (cLb z))) 200 (nI (cRs z (nI v)))) 201 (cSp z (nI v))))] := hD
                refine lv_aload_n hx hb dX9_cycles_298 rfl (lv_at hl 2 rfl) ?_
                refine va_get (ci := 9) (v := .ref w1) (C := RX9) (T := TX9) (N := 24) hx hb hts i9_X9_cycles hown hV.1 hP 0 rfl rfl 0 (by decide) (hts _ w4_X9_cycles) (fun _ h9 => h9) rfl dX9_cycles_299 ?_
                refine lv_sipush (v := nI 202) hx hb dX9_cycles_302 (by decide) ?_
                refine lv_aload_n hx hb dX9_cycles_305 rfl (lv_at hl 2 rfl) ?_
                refine va_get (ci := 9) (v := .int (nI (cTk z))) (C := RX9) (T := TX9) (N := 24) hx hb hts i9_X9_cycles hown hV.1 hP 0 rfl rfl 19 (by decide) (hts _ w8_X9_cycles) (fun _ h9 => h9) rfl dX9_cycles_306 ?_
                refine ee_ist hx hb hV hP hD hS 1 rfl (j := 202) (by omega) (by decide) dX9_cycles_309 (fun H locs hP hD hS => ?_)
                have hP : va_P E.1 vwCl [(w0, ee_o 9 [.ref w1, .ref w2, .ref w3, .ref w4, .float pu, .float pa, .float p1, .float p2, .ref w5, .int tl, .int ta, .int fa, .ref w6, .ref w7, .int it, .ref w8, .ref w9, .int dp, .int (nI (cTr z)), .int (nI (cTk z)), .int (nI (cLb z)), .int (nI (cHs z)), .int (nI (cEd z)), .long hh]), (w1, ee_i E 204 (upd (upd (upd (upd (upd a4 198 (nI (cTr z))) 199 (nI (cLb z))) 200 (nI (cRs z (nI v)))) 201 (cSp z (nI v))) 202 (nI (cTk z))))] H := hP
                have hD : va_D A [(w0, ee_o 9 [.ref w1, .ref w2, .ref w3, .ref w4, .float pu, .float pa, .float p1, .float p2, .ref w5, .int tl, .int ta, .int fa, .ref w6, .ref w7, .int it, .ref w8, .ref w9, .int dp, .int (nI (cTr z)), .int (nI (cTk z)), .int (nI (cLb z)), .int (nI (cHs z)), .int (nI (cEd z)), .long hh]), (w1, ee_i E 204 (upd (upd (upd (upd (upd a4 198 (nI (cTr z))) 199 (nI (cLb z))) 200 (nI (cRs z (nI v)))) 201 (cSp z (nI v))) 202 (nI (cTk z))))] := hD
                refine lv_aload_n hx hb dX9_cycles_310 rfl (lv_at hl 2 rfl) ?_
                refine va_get (ci := 9) (v := .ref w1) (C := RX9) (T := TX9) (N := 24) hx hb hts i9_X9_cycles hown hV.1 hP 0 rfl rfl 0 (by decide) (hts _ w4_X9_cycles) (fun _ h9 => h9) rfl dX9_cycles_311 ?_
                refine lv_sipush (v := nI 203) hx hb dX9_cycles_314 (by decide) ?_
                refine lv_aload_n hx hb dX9_cycles_317 rfl (lv_at hl 2 rfl) ?_
                refine va_get (ci := 9) (v := .int (nI (cEd z))) (C := RX9) (T := TX9) (N := 24) hx hb hts i9_X9_cycles hown hV.1 hP 0 rfl rfl 22 (by decide) (hts _ w1_X9_cycles) (fun _ h9 => h9) rfl dX9_cycles_318 ?_
                refine ee_ist hx hb hV hP hD hS 1 rfl (j := 203) (by omega) (by decide) dX9_cycles_321 (fun H locs hP hD hS => ?_)
                have hP : va_P E.1 vwCl [(w0, ee_o 9 [.ref w1, .ref w2, .ref w3, .ref w4, .float pu, .float pa, .float p1, .float p2, .ref w5, .int tl, .int ta, .int fa, .ref w6, .ref w7, .int it, .ref w8, .ref w9, .int dp, .int (nI (cTr z)), .int (nI (cTk z)), .int (nI (cLb z)), .int (nI (cHs z)), .int (nI (cEd z)), .long hh]), (w1, ee_i E 204 (upd (upd (upd (upd (upd (upd a4 198 (nI (cTr z))) 199 (nI (cLb z))) 200 (nI (cRs z (nI v)))) 201 (cSp z (nI v))) 202 (nI (cTk z))) 203 (nI (cEd z))))] H := hP
                have hD : va_D A [(w0, ee_o 9 [.ref w1, .ref w2, .ref w3, .ref w4, .float pu, .float pa, .float p1, .float p2, .ref w5, .int tl, .int ta, .int fa, .ref w6, .ref w7, .int it, .ref w8, .ref w9, .int dp, .int (nI (cTr z)), .int (nI (cTk z)), .int (nI (cLb z)), .int (nI (cHs z)), .int (nI (cEd z)), .long hh]), (w1, ee_i E 204 (upd (upd (upd (upd (upd (upd a4 198 (nI (cTr z))) 199 (nI (cLb z))) 200 (nI (cRs z (nI v)))) 201 (cSp z (nI v))) 202 (nI (cTk z))) 203 (nI (cEd z))))] := hD
                refine lv_aload_n hx hb dX9_cycles_322 rfl (lv_at hl 2 rfl) ?_
                refine va_get (ci := 9) (v := .ref w1) (C := RX9) (T := TX9) (N := 24) hx hb hts i9_X9_cycles hown hV.1 hP 0 rfl rfl 0 (by decide) (hts _ w4_X9_cycles) (fun _ h9 => h9) rfl dX9_cycles_323 ?_
                refine lv_sipush (v := nI 189) hx hb dX9_cycles_326 (by decide) ?_
                have B_20 : ∀ (y8 : Int32) (H : Heap) (locs : List Loc) (ls : Array Slot), (y8 = (if cRw z (nI v) < gS z 7 then gC z 8 else nI 1)) → va_P E.1 vwCl [(w0, ee_o 9 [.ref w1, .ref w2, .ref w3, .ref w4, .float pu, .float pa, .float p1, .float p2, .ref w5, .int tl, .int ta, .int fa, .ref w6, .ref w7, .int it, .ref w8, .ref w9, .int dp, .int (nI (cTr z)), .int (nI (cTk z)), .int (nI (cLb z)), .int (nI (cHs z)), .int (nI (cEd z)), .long hh]), (w1, ee_i E 204 (upd (upd (upd (upd (upd (upd a4 198 (nI (cTr z))) 199 (nI (cLb z))) 200 (nI (cRs z (nI v)))) 201 (cSp z (nI v))) 202 (nI (cTk z))) 203 (nI (cEd z))))] H → va_D A [(w0, ee_o 9 [.ref w1, .ref w2, .ref w3, .ref w4, .float pu, .float pa, .float p1, .float p2, .ref w5, .int tl, .int ta, .int fa, .ref w6, .ref w7, .int it, .ref w8, .ref w9, .int dp, .int (nI (cTr z)), .int (nI (cTk z)), .int (nI (cLb z)), .int (nI (cHs z)), .int (nI (cEd z)), .long hh]), (w1, ee_i E 204 (upd (upd (upd (upd (upd (upd a4 198 (nI (cTr z))) 199 (nI (cLb z))) 200 (nI (cRs z (nI v)))) 201 (cSp z (nI v))) 202 (nI (cTk z))) 203 (nI (cEd z))))] → va_S A s.heap H locs → lv_has ls 4 [(3, .int (nI (cRs z (nI v)))), (2, .int (nI (cBl z))), (0, .ref w0), (1, .int (nI v))] → W p l e rmX9_cycles s m [.ref w0, .int (nI v)].toArray below meth c H locs 0 0 Q (F0 m 360 ls [.int y8, .int (nI 189), .ref w1]) := by
                  intro y8 H locs ls h8 hP hD hS hl
                  refine ee_ist hx hb hV hP hD hS 1 rfl (j := 189) (by omega) (by decide) dX9_cycles_360 (fun H locs hP hD hS => ?_)
                  have hP : va_P E.1 vwCl [(w0, ee_o 9 [.ref w1, .ref w2, .ref w3, .ref w4, .float pu, .float pa, .float p1, .float p2, .ref w5, .int tl, .int ta, .int fa, .ref w6, .ref w7, .int it, .ref w8, .ref w9, .int dp, .int (nI (cTr z)), .int (nI (cTk z)), .int (nI (cLb z)), .int (nI (cHs z)), .int (nI (cEd z)), .long hh]), (w1, ee_i E 204 (upd (upd (upd (upd (upd (upd (upd a4 198 (nI (cTr z))) 199 (nI (cLb z))) 200 (nI (cRs z (nI v)))) 201 (cSp z (nI v))) 202 (nI (cTk z))) 203 (nI (cEd z))) 189 y8))] H := hP
                  have hD : va_D A [(w0, ee_o 9 [.ref w1, .ref w2, .ref w3, .ref w4, .float pu, .float pa, .float p1, .float p2, .ref w5, .int tl, .int ta, .int fa, .ref w6, .ref w7, .int it, .ref w8, .ref w9, .int dp, .int (nI (cTr z)), .int (nI (cTk z)), .int (nI (cLb z)), .int (nI (cHs z)), .int (nI (cEd z)), .long hh]), (w1, ee_i E 204 (upd (upd (upd (upd (upd (upd (upd a4 198 (nI (cTr z))) 199 (nI (cLb z))) 200 (nI (cRs z (nI v)))) 201 (cSp z (nI v))) 202 (nI (cTk z))) 203 (nI (cEd z))) 189 y8))] := hD
                  have hM4 := cyM4 (a4 := a4) (x0 := nI (cTr z)) (x1 := nI (cLb z)) (x2 := nI (cRs z (nI v))) (x3 := cSp z (nI v)) (x4 := nI (cTk z)) (x5 := nI (cEd z)) (y8 := y8) rfl
                  rw [h8] at hM4
                  exact ee_fv hQ hx hb hr hlocks hS (upd (upd (upd (upd (upd (upd (upd a4 198 (nI (cTr z))) 199 (nI (cLb z))) 200 (nI (cRs z (nI v)))) 201 (cSp z (nI v))) 202 (nI (cTk z))) 203 (nI (cEd z))) 189 y8, pu) (by
          have hM5 := cyM5 hO hv b0 hM2 hM3 c1 c2 c3 c4 hM4 hpu
          rw [← h8] at hM5
          exact hM5) hP hD dX9_cycles_361
                refine lv_aload_n hx hb dX9_cycles_329 rfl (lv_at hl 2 rfl) ?_
                refine va_get (ci := 9) (v := .ref w1) (C := RX9) (T := TX9) (N := 24) hx hb hts i9_X9_cycles hown hV.1 hP 0 rfl rfl 0 (by decide) (hts _ w4_X9_cycles) (fun _ h9 => h9) rfl dX9_cycles_330 ?_
                refine lv_sipush (v := nI 188) hx hb dX9_cycles_333 (by decide) ?_
                refine ee_ild hx hb hV hP 1 rfl (j := 188) (by omega) (by decide) dX9_cycles_336 ?_
                refine ee_to (z := cRw z (nI v)) (by rw [pk_un (by omega), pk_un (by omega), pk_un (by omega), pk_un (by omega), pk_un (by omega), pk_un (by omega)]; rw [c4 188 (by decide) (by decide) (by decide)]; exact hM3.2.2.2.2.2.2.1) ?_
                refine lv_aload_n hx hb dX9_cycles_337 rfl (lv_at hl 2 rfl) ?_
                refine va_get (ci := 9) (v := .ref w1) (C := RX9) (T := TX9) (N := 24) hx hb hts i9_X9_cycles hown hV.1 hP 0 rfl rfl 0 (by decide) (hts _ w4_X9_cycles) (fun _ h9 => h9) rfl dX9_cycles_338 ?_
                refine lv_sipush (v := nI 168) hx hb dX9_cycles_341 (by decide) ?_
                refine ee_ild hx hb hV hP 1 rfl (j := 168) (by omega) (by decide) dX9_cycles_344 ?_
                refine ee_to (z := gS z 7) (by rw [pk_un (by omega), pk_un (by omega), pk_un (by omega), pk_un (by omega), pk_un (by omega), pk_un (by omega)]; rw [c4 168 (by decide) (by decide) (by decide), hM3.2.2.2.2.2.2.2 168 (by decide) (by decide) (by decide) (by decide) (by omega) (by decide) (by decide)]; exact hM2.2.1 7 (by decide)) ?_
                refine lv_icmp_lt (tgt := 352) hx hb dX9_cycles_345 (by decide) (fun g345 => ?_) (fun g345 => ?_)
                · refine lv_aload_n hx hb dX9_cycles_352 rfl (lv_at hl 2 rfl) ?_
                  refine va_get (ci := 9) (v := .ref w1) (C := RX9) (T := TX9) (N := 24) hx hb hts i9_X9_cycles hown hV.1 hP 0 rfl rfl 0 (by decide) (hts _ w4_X9_cycles) (fun _ h9 => h9) rfl dX9_cycles_353 ?_
                  refine lv_sipush (v := nI 189) hx hb dX9_cycles_356 (by decide) ?_
                  refine ee_ild hx hb hV hP 1 rfl (j := 189) (by omega) (by decide) dX9_cycles_359 ?_
                  refine ee_to (z := gC z 8) (by rw [pk_un (by omega), pk_un (by omega), pk_un (by omega), pk_un (by omega), pk_un (by omega), pk_un (by omega)]; rw [c4 189 (by decide) (by decide) (by decide), hM3.2.2.2.2.2.2.2 189 (by decide) (by decide) (by decide) (by decide) (by omega) (by decide) (by decide)]; exact hM2.2.2.2.2.2.1 8 (by decide)) ?_
                  exact B_20 (gC z 8) _ _ _ (by rw [if_pos g345]) hP hD hS (lv_sub hl [0, 1, 2, 3] rfl)
                · refine lv_iconst (v := nI 1) hx hb dX9_cycles_348 (by decide) ?_
                  refine lv_goto (tgt := 360) hx hb dX9_cycles_349 (by decide) ?_
                  exact B_20 (nI 1) _ _ _ (by rw [if_neg g345]) hP hD hS (lv_sub hl [0, 1, 2, 3] rfl)
              refine lv_iload_n hx hb dX9_cycles_208 rfl (lv_at hl 0 rfl) ?_
              refine lv_iconst (v := nI 1) hx hb dX9_cycles_209 (by decide) ?_
              refine ee_eq (tgt := 229) hx hb (by omega) (by omega) dX9_cycles_210 (by decide) (fun g210 => ?_) (fun g210 => ?_)
              · refine lv_aload_n hx hb dX9_cycles_229 rfl (lv_at hl 2 rfl) ?_
                refine va_get (ci := 9) (v := .ref w1) (C := RX9) (T := TX9) (N := 24) hx hb hts i9_X9_cycles hown hV.1 hP 0 rfl rfl 0 (by decide) (hts _ w4_X9_cycles) (fun _ h9 => h9) rfl dX9_cycles_230 ?_
                refine lv_sipush (v := nI 188) hx hb dX9_cycles_233 (by decide) ?_
                refine ee_ild hx hb hV hP 1 rfl (j := 188) (by omega) (by decide) dX9_cycles_236 ?_
                refine ee_to (z := gC z 7) (by rw [pk_un (by omega), pk_un (by omega), pk_un (by omega), pk_un (by omega), pk_un (by omega), pk_un (by omega)]; exact hM2.2.2.2.2.2.1 7 (by decide)) ?_
                refine lv_iconst (v := nI 1) hx hb dX9_cycles_237 (by decide) ?_
                refine lv_iadd hx hb dX9_cycles_238 ?_
                refine lv_goto (tgt := 243) hx hb dX9_cycles_239 (by decide) ?_
                exact B_16 ((gC z 7) + (nI 1)) _ _ _ (by rw [cRw, g210]; rfl) hP hD hS (lv_sub hl [0, 1, 2, 3] rfl)
              · refine lv_iload_n hx hb dX9_cycles_213 rfl (lv_at hl 0 rfl) ?_
                refine lv_iconst (v := nI 2) hx hb dX9_cycles_214 (by decide) ?_
                refine ee_eq (tgt := 229) hx hb (by omega) (by omega) dX9_cycles_215 (by decide) (fun g215 => ?_) (fun g215 => ?_)
                · refine lv_aload_n hx hb dX9_cycles_229 rfl (lv_at hl 2 rfl) ?_
                  refine va_get (ci := 9) (v := .ref w1) (C := RX9) (T := TX9) (N := 24) hx hb hts i9_X9_cycles hown hV.1 hP 0 rfl rfl 0 (by decide) (hts _ w4_X9_cycles) (fun _ h9 => h9) rfl dX9_cycles_230 ?_
                  refine lv_sipush (v := nI 188) hx hb dX9_cycles_233 (by decide) ?_
                  refine ee_ild hx hb hV hP 1 rfl (j := 188) (by omega) (by decide) dX9_cycles_236 ?_
                  refine ee_to (z := gC z 7) (by rw [pk_un (by omega), pk_un (by omega), pk_un (by omega), pk_un (by omega), pk_un (by omega), pk_un (by omega)]; exact hM2.2.2.2.2.2.1 7 (by decide)) ?_
                  refine lv_iconst (v := nI 1) hx hb dX9_cycles_237 (by decide) ?_
                  refine lv_iadd hx hb dX9_cycles_238 ?_
                  refine lv_goto (tgt := 243) hx hb dX9_cycles_239 (by decide) ?_
                  exact B_16 ((gC z 7) + (nI 1)) _ _ _ (by rw [cRw, g215]; rfl) hP hD hS (lv_sub hl [0, 1, 2, 3] rfl)
                · refine lv_iload_n hx hb dX9_cycles_218 rfl (lv_at hl 0 rfl) ?_
                  refine lv_iconst (v := nI 4) hx hb dX9_cycles_219 (by decide) ?_
                  refine ee_eq (tgt := 229) hx hb (by omega) (by omega) dX9_cycles_220 (by decide) (fun g220 => ?_) (fun g220 => ?_)
                  · refine lv_aload_n hx hb dX9_cycles_229 rfl (lv_at hl 2 rfl) ?_
                    refine va_get (ci := 9) (v := .ref w1) (C := RX9) (T := TX9) (N := 24) hx hb hts i9_X9_cycles hown hV.1 hP 0 rfl rfl 0 (by decide) (hts _ w4_X9_cycles) (fun _ h9 => h9) rfl dX9_cycles_230 ?_
                    refine lv_sipush (v := nI 188) hx hb dX9_cycles_233 (by decide) ?_
                    refine ee_ild hx hb hV hP 1 rfl (j := 188) (by omega) (by decide) dX9_cycles_236 ?_
                    refine ee_to (z := gC z 7) (by rw [pk_un (by omega), pk_un (by omega), pk_un (by omega), pk_un (by omega), pk_un (by omega), pk_un (by omega)]; exact hM2.2.2.2.2.2.1 7 (by decide)) ?_
                    refine lv_iconst (v := nI 1) hx hb dX9_cycles_237 (by decide) ?_
                    refine lv_iadd hx hb dX9_cycles_238 ?_
                    refine lv_goto (tgt := 243) hx hb dX9_cycles_239 (by decide) ?_
                    exact B_16 ((gC z 7) + (nI 1)) _ _ _ (by rw [cRw, g220]; rfl) hP hD hS (lv_sub hl [0, 1, 2, 3] rfl)
                  · refine lv_iload_n hx hb dX9_cycles_223 rfl (lv_at hl 0 rfl) ?_
                    refine lv_bipush (v := nI 6) hx hb dX9_cycles_224 (by decide) ?_
                    refine ee_ne (tgt := 242) hx hb (by omega) (by omega) dX9_cycles_226 (by decide) (fun g226 => ?_) (fun g226 => ?_)
                    · refine lv_iconst (v := nI 0) hx hb dX9_cycles_242 (by decide) ?_
                      exact B_16 (nI 0) _ _ _ (by rw [cRw, if_neg (by simp [isFl, g210, g215, g220, g226])]) hP hD hS (lv_sub hl [0, 1, 2, 3] rfl)
                    · refine lv_aload_n hx hb dX9_cycles_229 rfl (lv_at hl 2 rfl) ?_
                      refine va_get (ci := 9) (v := .ref w1) (C := RX9) (T := TX9) (N := 24) hx hb hts i9_X9_cycles hown hV.1 hP 0 rfl rfl 0 (by decide) (hts _ w4_X9_cycles) (fun _ h9 => h9) rfl dX9_cycles_230 ?_
                      refine lv_sipush (v := nI 188) hx hb dX9_cycles_233 (by decide) ?_
                      refine ee_ild hx hb hV hP 1 rfl (j := 188) (by omega) (by decide) dX9_cycles_236 ?_
                      refine ee_to (z := gC z 7) (by rw [pk_un (by omega), pk_un (by omega), pk_un (by omega), pk_un (by omega), pk_un (by omega), pk_un (by omega)]; exact hM2.2.2.2.2.2.1 7 (by decide)) ?_
                      refine lv_iconst (v := nI 1) hx hb dX9_cycles_237 (by decide) ?_
                      refine lv_iadd hx hb dX9_cycles_238 ?_
                      refine lv_goto (tgt := 243) hx hb dX9_cycles_239 (by decide) ?_
                      exact B_16 ((gC z 7) + (nI 1)) _ _ _ (by rw [cRw, g226]; rfl) hP hD hS (lv_sub hl [0, 1, 2, 3] rfl)
            refine lv_iload_n hx hb dX9_cycles_164 rfl (lv_at hl 1 rfl) ?_
            refine ee_eq0 (tgt := 172) hx hb (by omega) dX9_cycles_165 (by decide) (fun g165 => ?_) (fun g165 => ?_)
            · refine lv_iconst (v := nI 0) hx hb dX9_cycles_172 (by decide) ?_
              refine lv_iadd hx hb dX9_cycles_173 ?_
              exact B_15 ((gC z 6) + (nI 0)) _ _ _ (by rw [if_pos g165, add0]) hP hD hS (lv_sub hl [0, 1, 2, 3] rfl)
            · refine lv_iconst (v := nI 1) hx hb dX9_cycles_168 (by decide) ?_
              refine lv_goto (tgt := 173) hx hb dX9_cycles_169 (by decide) ?_
              refine lv_iadd hx hb dX9_cycles_173 ?_
              exact B_15 ((gC z 6) + (nI 1)) _ _ _ (by rw [if_neg g165]) hP hD hS (lv_sub hl [0, 1, 2, 3] rfl)
          refine lv_aload_n hx hb dX9_cycles_141 rfl (lv_at hl 2 rfl) ?_
          refine va_get (ci := 9) (v := .int (nI (cHs z))) (C := RX9) (T := TX9) (N := 24) hx hb hts i9_X9_cycles hown hV.1 hP 0 rfl rfl 21 (by decide) (hts _ w7_X9_cycles) (fun _ h9 => h9) rfl dX9_cycles_142 ?_
          refine ee_eq0 (tgt := 152) hx hb (by omega) dX9_cycles_145 (by decide) (fun g145 => ?_) (fun g145 => ?_)
          · refine lv_iconst (v := nI 0) hx hb dX9_cycles_152 (by decide) ?_
            refine lv_iadd hx hb dX9_cycles_153 ?_
            exact B_14 ((gC z 5) + (nI 0)) _ _ _ (by rw [if_neg (cHs_0 g145), add0]) hP hD hS (lv_sub hl [0, 1, 2, 3] rfl)
          · refine lv_iconst (v := nI 1) hx hb dX9_cycles_148 (by decide) ?_
            refine lv_goto (tgt := 153) hx hb dX9_cycles_149 (by decide) ?_
            refine lv_iadd hx hb dX9_cycles_153 ?_
            exact B_14 ((gC z 5) + (nI 1)) _ _ _ (by rw [if_pos (cHs_1 g145)]) hP hD hS (lv_sub hl [0, 1, 2, 3] rfl)
        refine lv_iload_n hx hb dX9_cycles_118 rfl (lv_at hl 0 rfl) ?_
        refine ee_ne0 (tgt := 126) hx hb (by omega) dX9_cycles_119 (by decide) (fun g119 => ?_) (fun g119 => ?_)
        · refine lv_aload_n hx hb dX9_cycles_126 rfl (lv_at hl 2 rfl) ?_
          refine va_get (ci := 9) (v := .int (nI (cLb z))) (C := RX9) (T := TX9) (N := 24) hx hb hts i9_X9_cycles hown hV.1 hP 0 rfl rfl 20 (by decide) (hts _ w6_X9_cycles) (fun _ h9 => h9) rfl dX9_cycles_127 ?_
          refine lv_iadd hx hb dX9_cycles_130 ?_
          exact B_13 ((gC z 4) + (nI (cLb z))) _ _ _ (by rw [if_neg g119]) hP hD hS (lv_sub hl [0, 1, 2, 3] rfl)
        · refine lv_iconst (v := nI 0) hx hb dX9_cycles_122 (by decide) ?_
          refine lv_goto (tgt := 130) hx hb dX9_cycles_123 (by decide) ?_
          refine lv_iadd hx hb dX9_cycles_130 ?_
          exact B_13 ((gC z 4) + (nI 0)) _ _ _ (by rw [if_pos g119, add0]) hP hD hS (lv_sub hl [0, 1, 2, 3] rfl)
      refine lv_iload_n hx hb dX9_cycles_98 rfl (lv_at hl 0 rfl) ?_
      refine ee_ne0 (tgt := 106) hx hb (by omega) dX9_cycles_99 (by decide) (fun g99 => ?_) (fun g99 => ?_)
      · refine lv_iconst (v := nI 0) hx hb dX9_cycles_106 (by decide) ?_
        refine lv_iadd hx hb dX9_cycles_107 ?_
        exact B_12 ((gC z 3) + (nI 0)) _ _ _ (by rw [if_neg g99, add0]) hP hD hS (lv_sub hl [0, 1, 2, 3] rfl)
      · refine lv_iconst (v := nI 1) hx hb dX9_cycles_102 (by decide) ?_
        refine lv_goto (tgt := 107) hx hb dX9_cycles_103 (by decide) ?_
        refine lv_iadd hx hb dX9_cycles_107 ?_
        exact B_12 ((gC z 3) + (nI 1)) _ _ _ (by rw [if_pos g99]) hP hD hS (lv_sub hl [0, 1, 2, 3] rfl)
    refine lv_iload_n hx hb dX9_cycles_53 rfl (lv_at hl 0 rfl) ?_
    refine ee_ne0 (tgt := 89) hx hb (by omega) dX9_cycles_54 (by decide) (fun g53 => ?_) (fun g53 => ?_)
    · exact B_11 pt _ _ _ (by rw [cPt, if_neg g53]; exact hpt) hP hD hS (lv_sub hl [0, 1, 2, 3] rfl)
    · refine lv_aload_n hx hb dX9_cycles_57 rfl (lv_at hl 2 rfl) ?_
      refine lv_aload_n hx hb dX9_cycles_58 rfl (lv_at hl 2 rfl) ?_
      refine va_get (ci := 9) (v := .float pt) (C := RX9) (T := TX9) (N := 24) hx hb hts i9_X9_cycles hown hV.1 hP 0 rfl rfl 4 (by decide) (hts _ w3_X9_cycles) (fun _ h9 => h9) rfl dX9_cycles_59 ?_
      refine lv_aload_n hx hb dX9_cycles_62 rfl (lv_at hl 2 rfl) ?_
      refine va_get (ci := 9) (v := .int (nI (cTr z))) (C := RX9) (T := TX9) (N := 24) hx hb hts i9_X9_cycles hown hV.1 hP 0 rfl rfl 18 (by decide) (hts _ w2_X9_cycles) (fun _ h9 => h9) rfl dX9_cycles_63 ?_
      refine lv_i2f hx hb dX9_cycles_66 ?_
      refine lv_aload_n hx hb dX9_cycles_67 rfl (lv_at hl 2 rfl) ?_
      refine va_get (ci := 9) (v := .float pt) (C := RX9) (T := TX9) (N := 24) hx hb hts i9_X9_cycles hown hV.1 hP 0 rfl rfl 4 (by decide) (hts _ w3_X9_cycles) (fun _ h9 => h9) rfl dX9_cycles_68 ?_
      refine lv_fsub hx hb dX9_cycles_71 (by rw [hpt]; exact (cy_fl hO g53).2.1) ?_
      refine lv_aload_n hx hb dX9_cycles_72 rfl (lv_at hl 2 rfl) ?_
      refine va_get (ci := 9) (v := .ref w1) (C := RX9) (T := TX9) (N := 24) hx hb hts i9_X9_cycles hown hV.1 hP 0 rfl rfl 0 (by decide) (hts _ w4_X9_cycles) (fun _ h9 => h9) rfl dX9_cycles_73 ?_
      refine lv_sipush (v := nI 167) hx hb dX9_cycles_76 (by decide) ?_
      refine ee_ild hx hb hV hP 1 rfl (j := 167) (by omega) (by decide) dX9_cycles_79 ?_
      refine ee_to (z := gS z 6) (hM2.2.1 6 (by decide)) ?_
      refine lv_i2f hx hb dX9_cycles_80 ?_
      refine lv_ldcf hx hb hown (hts _ w5_X9_cycles) dX9_cycles_81 ?_
      refine lv_fdiv hx hb dX9_cycles_83 ((cy_fl hO g53).1) ?_
      refine lv_fmul hx hb dX9_cycles_84 (by rw [hpt]; exact (cy_fl hO g53).2.2.1) ?_
      refine lv_fadd hx hb dX9_cycles_85 (by rw [hpt]; exact (cy_fl hO g53).2.2.2.1) ?_
      refine va_put (ci := 9) (v := .float (FP.fadd pt (FP.fmul (FP.fsub (FP.i2f (nI (cTr z))) pt) (FP.fdiv (FP.i2f (gS z 6)) (1090519040 : UInt32))))) (ty := .float) (C := RX9) (T := TX9) (N := 24) hx hb hts i9_X9_cycles tyX9 tyX9_ok nmX9 hown hV.1 hP hD hS 0 rfl rfl 4 (by decide) (hts _ w3_X9_cycles) (fun _ h9 => h9) rfl (by decide +kernel) rfl rfl (Nat.le_of_ble_eq_true rfl) dX9_cycles_86 (fun H locs hP hD hS => ?_)
      have hP : va_P E.1 vwCl [(w0, ee_o 9 [.ref w1, .ref w2, .ref w3, .ref w4, .float (FP.fadd pt (FP.fmul (FP.fsub (FP.i2f (nI (cTr z))) pt) (FP.fdiv (FP.i2f (gS z 6)) (1090519040 : UInt32)))), .float pa, .float p1, .float p2, .ref w5, .int tl, .int ta, .int fa, .ref w6, .ref w7, .int it, .ref w8, .ref w9, .int dp, .int (nI (cTr z)), .int (nI (cTk z)), .int (nI (cLb z)), .int (nI (cHs z)), .int (nI (cEd z)), .long hh]), (w1, ee_i E 204 a2)] H := hP
      have hD : va_D A [(w0, ee_o 9 [.ref w1, .ref w2, .ref w3, .ref w4, .float (FP.fadd pt (FP.fmul (FP.fsub (FP.i2f (nI (cTr z))) pt) (FP.fdiv (FP.i2f (gS z 6)) (1090519040 : UInt32)))), .float pa, .float p1, .float p2, .ref w5, .int tl, .int ta, .int fa, .ref w6, .ref w7, .int it, .ref w8, .ref w9, .int dp, .int (nI (cTr z)), .int (nI (cTk z)), .int (nI (cLb z)), .int (nI (cHs z)), .int (nI (cEd z)), .long hh]), (w1, ee_i E 204 a2)] := hD
      exact B_11 (FP.fadd pt (FP.fmul (FP.fsub (FP.i2f (nI (cTr z))) pt) (FP.fdiv (FP.i2f (gS z 6)) (1090519040 : UInt32)))) _ _ _ (by rw [cPt, if_pos g53, ← hpt]; rfl) hP hD hS (lv_sub hl [0, 1, 2, 3] rfl)
  refine va_get (ci := 9) (v := .int (nI (cEd z))) (C := RX9) (T := TX9) (N := 24) hx hb hts i9_X9_cycles hown hV.1 hP 0 rfl rfl 22 (by decide) (hts _ w1_X9_cycles) (fun _ h9 => h9) rfl dX9_cycles_10 ?_
  refine lv_iconst (v := nI 1) hx hb dX9_cycles_13 (by decide) ?_
  refine ee_ne (tgt := 44) hx hb (by omega) (by omega) dX9_cycles_14 (by decide) (fun g14 => ?_) (fun g14 => ?_)
  · refine lv_iconst (v := nI 0) hx hb dX9_cycles_44 (by decide) ?_
    exact B_7 0 _ _ _ (by rw [cBl, if_neg (fun q => g14 q.1)]) hP hD hS (lv_sub hl [0, 1] rfl)
  · refine lv_aload_n hx hb dX9_cycles_17 rfl (lv_at hl 0 rfl) ?_
    refine va_get (ci := 9) (v := .int (nI (cTr z))) (C := RX9) (T := TX9) (N := 24) hx hb hts i9_X9_cycles hown hV.1 hP 0 rfl rfl 18 (by decide) (hts _ w2_X9_cycles) (fun _ h9 => h9) rfl dX9_cycles_18 ?_
    refine lv_i2f hx hb dX9_cycles_21 ?_
    refine lv_aload_n hx hb dX9_cycles_22 rfl (lv_at hl 0 rfl) ?_
    refine va_get (ci := 9) (v := .float pt) (C := RX9) (T := TX9) (N := 24) hx hb hts i9_X9_cycles hown hV.1 hP 0 rfl rfl 4 (by decide) (hts _ w3_X9_cycles) (fun _ h9 => h9) rfl dX9_cycles_23 ?_
    refine lv_aload_n hx hb dX9_cycles_26 rfl (lv_at hl 0 rfl) ?_
    refine va_get (ci := 9) (v := .ref w1) (C := RX9) (T := TX9) (N := 24) hx hb hts i9_X9_cycles hown hV.1 hP 0 rfl rfl 0 (by decide) (hts _ w4_X9_cycles) (fun _ h9 => h9) rfl dX9_cycles_27 ?_
    refine lv_sipush (v := nI 162) hx hb dX9_cycles_30 (by decide) ?_
    refine ee_ild hx hb hV hP 1 rfl (j := 162) (by omega) (by decide) dX9_cycles_33 ?_
    refine ee_to (z := gS z 1) (hM2.2.1 1 (by decide)) ?_
    refine lv_i2f hx hb dX9_cycles_34 ?_
    refine lv_fadd hx hb dX9_cycles_35 (n9) ?_
    refine lv_fcmp hx hb dX9_cycles_36 ?_
    refine lv_if_le (tgt := 44) hx hb dX9_cycles_37 (by decide) (fun g37 => ?_) (fun g37 => ?_)
    · refine lv_iconst (v := nI 0) hx hb dX9_cycles_44 (by decide) ?_
      exact B_7 0 _ _ _ (by rw [cBl, ← hpt, if_neg (fun q => q.2 g37)]) hP hD hS (lv_sub hl [0, 1] rfl)
    · refine lv_iconst (v := nI 1) hx hb dX9_cycles_40 (by decide) ?_
      refine lv_goto (tgt := 45) hx hb dX9_cycles_41 (by decide) ?_
      exact B_7 1 _ _ _ (by rw [cBl, ← hpt, if_pos ⟨g14, g37⟩]) hP hD hS (lv_sub hl [0, 1] rfl)
