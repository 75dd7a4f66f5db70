/-! the law's cycle -/
abbrev rmL_cycles : Room := ({ frames := 1, cells := 0, slots := 0, locals := 26 } : Room)
theorem w1_L_cycles : Cond.constant RL 41 (32768) ∈ wsL_cycles := List.mem_of_getElem? (i := 1) (by decide +kernel)
theorem w2_L_cycles : Cond.methodLink RL 37 yL_follows ∈ wsL_cycles := List.mem_of_getElem? (i := 2) (by decide +kernel)
theorem w4_L_cycles : Cond.initialized RL ∈ wsL_cycles := List.mem_of_getElem? (i := 4) (by decide +kernel)
theorem w6_L_cycles : Cond.methodLink RL 42 yL_leaves ∈ wsL_cycles := List.mem_of_getElem? (i := 6) (by decide +kernel)
set_option maxHeartbeats 4000000 in
set_option maxRecDepth 100000 in
theorem kL_cycles (l : Launch) (E : ee_T) (z : Sg) (a0 w0 : Nat) (aa ww : Nat → Int32) (K v : Nat) (hO : OKs z) (hRa : rA z aa K) (hRw : rW z ww) (hG : gnOK z) (hK : K ≤ 14) (hv : v ≤ 1000) : CQ l E yL_cycles wsL_cycles rmL_cycles [.ref a0, .ref w0, .int (nI v)] [(a0, ee_i E 48 aa), (w0, ee_i E 64 ww)] (QV E (fun (u : (Nat → Int32) × (Nat → Int32) × Nat) => rA (cyc z (nI v)) u.1 u.2.2 ∧ rW (cyc z (nI v)) u.2.1 ∧ u.2.2 ≤ K + 1) (fun (u : (Nat → Int32) × (Nat → Int32) × Nat) => [(a0, ee_i E 48 u.1), (w0, ee_i E 64 u.2.1)])) 0 0 := by
  refine CQ_ofW (cc := cL_cycles) (maxL := 13) (ret := none) (by decide) rfl (Nat.le_of_ble_eq_true rfl) ?_
  intro p e s m below meth c A Q hQ hx hb hr hml hown hlocks hnm hts hV hA hP hD hS ls hl
  have hl : lv_has ls 13 [(0, .ref a0), (1, .ref w0), (2, .int (nI v))] := hl
  obtain ⟨x1, x2, x3, x4, x5, x6, x7, x8, P, x9, x10⟩ := id hRa
  obtain ⟨wn, w63, wi⟩ := id hRw
  obtain ⟨g0, -, hg0, eg0⟩ := set_nat hO 0 (by decide)
  have hg0 : g0 ≤ 30 := hg0
  obtain ⟨w, -, hw50, ew⟩ := set_nat hO 1 (by decide)
  have hw50 : w ≤ 50 := hw50
  obtain ⟨G, -, hG4, eG⟩ := set_nat hO 2 (by decide)
  have hG4 : G ≤ 400 := hG4
  obtain ⟨g3, -, hg3, eg3⟩ := set_nat hO 3 (by decide)
  have hg3 : g3 ≤ 1000 := hg3
  obtain ⟨c4, -, hc4, ec4⟩ := set_nat hO 4 (by decide)
  have hc4 : c4 ≤ 1000 := hc4
  obtain ⟨t5, -, ht5, et5⟩ := set_nat hO 5 (by decide)
  have ht5 : t5 ≤ 100 := ht5
  obtain ⟨s8, hs8, es8⟩ := hO.2.2.2.1
  obtain ⟨g6, hg6, eg6⟩ := hG
  obtain ⟨k0, k1, k2, k3, k4, k5, k6, -⟩ := cy_inv hO
  have hr7 := cRs_le z (nI v)
  have hbl := cBl_2 z
  have hT := hO.2.2.2.2.1
  have hpa := x10.2.1
  have hpb := x10.2.2.1
  refine lv_aload_n hx hb dL_cycles_0 rfl (lv_at hl 0 rfl) ?_
  refine lv_iload_n hx hb dL_cycles_1 rfl (lv_at hl 2 rfl) ?_
  refine ee_kv (wr := [(w0, ee_i E 64 ww)]) (ee_rS (As := [.ref a0, .int (nI v)]) (rest := []) (kL_follows l E a0 aa s8 c4 g3 v (x2.trans es8) ((x1 4 (by decide)).trans ec4) ((x1 3 (by decide)).trans eg3) (by omega) (by omega) (by omega) (by omega)) hx hb hml hown hts 2 gL_cycles_L_follows rfl rfl rfl (by decide +kernel) ⟨Nat.le_of_ble_eq_true rfl, Nat.le_of_ble_eq_true rfl⟩ hV hP hD hS hA [0] rfl (by decide) hl rfl rfl (Nat.le_of_ble_eq_true rfl) dL_cycles_2 ⟨Nat.le_of_ble_eq_true rfl, Nat.le_of_ble_eq_true rfl⟩) hP hD hS hA [0] [1] rfl rfl (by decide) (by decide) (fun u_2 H locs hp_3 hP hD hS => ?_)
  have hP : va_P E.1 vwCl [(w0, ee_i E 64 ww), (a0, ee_i E 48 (upd aa 8 (nI (foN s8 c4 g3 v))))] H := hP
  have hD : va_D A [(w0, ee_i E 64 ww), (a0, ee_i E 48 (upd aa 8 (nI (foN s8 c4 g3 v))))] := hD
  obtain ⟨a1, ha1⟩ : ∃ w_9, w_9 = upd aa 8 (nI (foN s8 c4 g3 v)) := ⟨_, rfl⟩
  rw [← ha1] at hP hD
  obtain ⟨sp, hsp1, hsp2, hsp3, hM1⟩ := cyL1 es8 ec4 eg3 hs8 hc4 hg3 hv ha1
  refine lv_aload_n hx hb dL_cycles_5 rfl (lv_at hl 0 rfl) ?_
  refine lv_bipush (v := nI 46) hx hb dL_cycles_6 (by decide) ?_
  refine ee_ild hx hb hV hP 1 rfl (j := 46) (by omega) (by decide) dL_cycles_8 ?_
  refine ee_to (z := nI P) ((hM1 46 (by decide)).trans x9) ?_
  refine lv_istore_n (lv' := [(3, .int (nI P)), (0, .ref a0), (1, .ref w0), (2, .int (nI v))]) hx hb dL_cycles_9 rfl hl (by decide) rfl (fun ls hl => ?_)
  refine lv_iconst (v := nI 0) hx hb dL_cycles_10 (by decide) ?_
  refine lv_istore (lv' := [(4, .int (nI 0)), (3, .int (nI P)), (0, .ref a0), (1, .ref w0), (2, .int (nI v))]) hx hb dL_cycles_11 hl (by decide) rfl (fun ls hl => ?_)
  refine lv_iconst (v := nI 0) hx hb dL_cycles_13 (by decide) ?_
  refine lv_istore (lv' := [(5, .int (nI 0)), (4, .int (nI 0)), (3, .int (nI P)), (0, .ref a0), (1, .ref w0), (2, .int (nI v))]) hx hb dL_cycles_14 hl (by decide) rfl (fun ls hl => ?_)
  refine lv_iconst (v := nI 0) hx hb dL_cycles_16 (by decide) ?_
  refine lv_istore (lv' := [(6, .int (nI 0)), (5, .int (nI 0)), (4, .int (nI 0)), (3, .int (nI P)), (0, .ref a0), (1, .ref w0), (2, .int (nI v))]) hx hb dL_cycles_17 hl (by decide) rfl (fun ls hl => ?_)
  refine lv_iconst (v := nI 0) hx hb dL_cycles_19 (by decide) ?_
  refine lv_istore (lv' := [(7, .int (nI 0)), (6, .int (nI 0)), (5, .int (nI 0)), (4, .int (nI 0)), (3, .int (nI P)), (0, .ref a0), (1, .ref w0), (2, .int (nI v))]) hx hb dL_cycles_20 hl (by decide) rfl (fun ls hl => ?_)
  refine lv_iconst (v := nI 0) hx hb dL_cycles_22 (by decide) ?_
  refine lv_istore (lv' := [(8, .int (nI 0)), (7, .int (nI 0)), (6, .int (nI 0)), (5, .int (nI 0)), (4, .int (nI 0)), (3, .int (nI P)), (0, .ref a0), (1, .ref w0), (2, .int (nI v))]) hx hb dL_cycles_23 hl (by decide) rfl (fun ls hl => ?_)
  have B_4 : ∀ (zz : Nat) (i t1 l1 s1 ee : Nat) (H : Heap) (locs : List Loc) (ls : Array Slot), (gN z - i) < zz → (i ≤ gN z) → (ee ≤ 2) → ((ee = 0 ∧ fdS (gK z) (gL z) (gS z) (gP z) (gN z - i) i t1 l1 s1 = (cTk z, cTr z, cLb z, cSc z, cEd z)) ∨ (ee ≠ 0 ∧ (i, t1, l1, s1, ee) = (cTk z, cTr z, cLb z, cSc z, cEd z))) → (t1 ≤ 400 ∨ ¬ ee = 0) → (t1 ≤ 499) → (l1 ≤ i ∧ s1 ≤ i) → va_P E.1 vwCl [(w0, ee_i E 64 ww), (a0, ee_i E 48 a1)] H → va_D A [(w0, ee_i E 64 ww), (a0, ee_i E 48 a1)] → va_S A s.heap H locs → lv_has ls 13 [(8, .int (nI ee)), (7, .int (nI s1)), (6, .int (nI i)), (5, .int (nI l1)), (4, .int (nI t1)), (3, .int (nI P)), (0, .ref a0), (1, .ref w0), (2, .int (nI v))] → W p l e rmL_cycles s m [.ref a0, .ref w0, .int (nI v)].toArray below meth c H locs 0 0 Q (F0 m 25 ls []) := by
    intro zz
    induction zz with
    | zero => intro i t1 l1 s1 ee H locs ls hzz; exact absurd hzz (Nat.not_lt_zero _)
    | succ zz ihB_4 =>
      intro i t1 l1 s1 ee H locs ls hzz hin he3 hE ht1 ht9 hll hP hD hS hl
      refine lv_iload hx hb dL_cycles_25 (lv_at hl 0 rfl) ?_
      have B_5 : ∀ (e9 : Nat) (H : Heap) (locs : List Loc) (ls : Array Slot), ((i, t1, l1, s1, e9) = (cTk z, cTr z, cLb z, cSc z, cEd z)) → va_P E.1 vwCl [(w0, ee_i E 64 ww), (a0, ee_i E 48 a1)] H → va_D A [(w0, ee_i E 64 ww), (a0, ee_i E 48 a1)] → va_S A s.heap H locs → lv_has ls 13 [(8, .int (nI ee)), (7, .int (nI s1)), (6, .int (nI i)), (5, .int (nI l1)), (4, .int (nI t1)), (3, .int (nI P)), (0, .ref a0), (1, .ref w0), (2, .int (nI v))] → W p l e rmL_cycles s m [.ref a0, .ref w0, .int (nI v)].toArray below meth c H locs 0 0 Q (F0 m 170 ls [.int (nI e9)]) := by
        intro e9 H locs ls hF hP hD hS hl
        obtain ⟨rfl, rfl, rfl, rfl, rfl⟩ := fd_5 hF
        refine lv_istore (lv' := [(8, .int (nI (cEd z))), (7, .int (nI (cSc z))), (6, .int (nI (cTk z))), (5, .int (nI (cLb z))), (4, .int (nI (cTr z))), (3, .int (nI P)), (0, .ref a0), (1, .ref w0), (2, .int (nI v))]) hx hb dL_cycles_170 hl (by decide) rfl (fun ls hl => ?_)
        refine lv_aload_n hx hb dL_cycles_172 rfl (lv_at hl 7 rfl) ?_
        refine lv_bipush (v := nI 63) hx hb dL_cycles_173 (by decide) ?_
        refine lv_dup2_11 hx hb dL_cycles_175 rfl rfl ?_
        refine ee_ild hx hb hV hP 0 rfl (j := 63) (by omega) (by decide) dL_cycles_176 ?_
        refine ee_to (z := nI (gN z)) (w63) ?_
        refine lv_iload hx hb dL_cycles_177 (lv_at hl 2 rfl) ?_
        refine ee_isub hx hb (by omega) dL_cycles_179 ?_
        refine ee_ist hx hb hV hP hD hS 0 rfl (j := 63) (by omega) (by decide) dL_cycles_180 (fun H locs hP hD hS => ?_)
        have hP : va_P E.1 vwCl [(w0, ee_i E 64 (upd ww 63 (nI (gN z - (cTk z))))), (a0, ee_i E 48 a1)] H := hP
        have hD : va_D A [(w0, ee_i E 64 (upd ww 63 (nI (gN z - (cTk z))))), (a0, ee_i E 48 a1)] := hD
        obtain ⟨wb, hwb⟩ : ∃ w_9, w_9 = upd ww 63 (nI (gN z - (cTk z))) := ⟨_, rfl⟩
        rw [← hwb] at hP hD
        refine lv_iconst (v := nI 0) hx hb dL_cycles_181 (by decide) ?_
        refine lv_istore (lv' := [(9, .int (nI 0)), (8, .int (nI (cEd z))), (7, .int (nI (cSc z))), (6, .int (nI (cTk z))), (5, .int (nI (cLb z))), (4, .int (nI (cTr z))), (3, .int (nI P)), (0, .ref a0), (1, .ref w0), (2, .int (nI v))]) hx hb dL_cycles_182 hl (by decide) rfl (fun ls hl => ?_)
        have B_6 : ∀ (zz : Nat) (kk : Nat) (gk : Nat → Int32) (H : Heap) (locs : List Loc) (ls : Array Slot), (gN z - cTk z - kk) < zz → (kk ≤ gN z - cTk z) → (gk 63 = nI (gN z - cTk z)) → (∀ j, j < kk → gk j = ww (j + cTk z)) → (∀ j, kk ≤ j → j < 63 → gk j = ww j) → va_P E.1 vwCl [(w0, ee_i E 64 gk), (a0, ee_i E 48 a1)] H → va_D A [(w0, ee_i E 64 gk), (a0, ee_i E 48 a1)] → va_S A s.heap H locs → lv_has ls 13 [(9, .int (nI kk)), (8, .int (nI (cEd z))), (7, .int (nI (cSc z))), (6, .int (nI (cTk z))), (5, .int (nI (cLb z))), (4, .int (nI (cTr z))), (3, .int (nI P)), (0, .ref a0), (1, .ref w0), (2, .int (nI v))] → W p l e rmL_cycles s m [.ref a0, .ref w0, .int (nI v)].toArray below meth c H locs 0 0 Q (F0 m 184 ls []) := by
          intro zz
          induction zz with
          | zero => intro kk gk H locs ls hzz; exact absurd hzz (Nat.not_lt_zero _)
          | succ zz ihB_6 =>
            intro kk gk H locs ls hzz hkk b0 b1 b2 hP hD hS hl
            refine lv_iload hx hb dL_cycles_184 (lv_at hl 0 rfl) ?_
            refine lv_aload_n hx hb dL_cycles_186 rfl (lv_at hl 8 rfl) ?_
            refine lv_bipush (v := nI 63) hx hb dL_cycles_187 (by decide) ?_
            refine ee_ild hx hb hV hP 0 rfl (j := 63) (by omega) (by decide) dL_cycles_189 ?_
            refine ee_to (z := nI (gN z - cTk z)) (b0) ?_
            refine ee_ge (tgt := 210) hx hb (by omega) (by omega) dL_cycles_190 (by decide) (fun h_7 => ?_) (fun h_7 => ?_)
            · have B_8 : ∀ (b1x : Nat) (H : Heap) (locs : List Loc) (ls : Array Slot), (cBl z = b1x) → va_P E.1 vwCl [(w0, ee_i E 64 gk), (a0, ee_i E 48 a1)] H → va_D A [(w0, ee_i E 64 gk), (a0, ee_i E 48 a1)] → va_S A s.heap H locs → lv_has ls 13 [(9, .int (nI kk)), (8, .int (nI (cEd z))), (7, .int (nI (cSc z))), (6, .int (nI (cTk z))), (5, .int (nI (cLb z))), (4, .int (nI (cTr z))), (3, .int (nI P)), (0, .ref a0), (1, .ref w0), (2, .int (nI v))] → W p l e rmL_cycles s m [.ref a0, .ref w0, .int (nI v)].toArray below meth c H locs 0 0 Q (F0 m 234 ls [.int (nI b1x)]) := by
                intro b1x H locs ls hb1x hP hD hS hl
                subst hb1x
                refine lv_istore (lv' := [(9, .int (nI (cBl z))), (8, .int (nI (cEd z))), (7, .int (nI (cSc z))), (6, .int (nI (cTk z))), (5, .int (nI (cLb z))), (4, .int (nI (cTr z))), (3, .int (nI P)), (0, .ref a0), (1, .ref w0), (2, .int (nI v))]) hx hb dL_cycles_234 hl (by decide) rfl (fun ls hl => ?_)
                have B_9 : ∀ (by9 : Nat) (H : Heap) (locs : List Loc) (ls : Array Slot), ((sp ≤ v ∧ by9 = v - sp) ∨ (v < sp ∧ by9 = sp - v)) → va_P E.1 vwCl [(w0, ee_i E 64 gk), (a0, ee_i E 48 a1)] H → va_D A [(w0, ee_i E 64 gk), (a0, ee_i E 48 a1)] → va_S A s.heap H locs → lv_has ls 13 [(9, .int (nI (cBl z))), (8, .int (nI (cEd z))), (7, .int (nI (cSc z))), (6, .int (nI (cTk z))), (5, .int (nI (cLb z))), (4, .int (nI (cTr z))), (3, .int (nI P)), (0, .ref a0), (1, .ref w0), (2, .int (nI v))] → W p l e rmL_cycles s m [.ref a0, .ref w0, .int (nI v)].toArray below meth c H locs 0 0 Q (F0 m 259 ls [.int (nI by9)]) := by
                  intro by9 H locs ls hby hP hD hS hl
                  refine lv_istore (lv' := [(10, .int (nI by9)), (9, .int (nI (cBl z))), (8, .int (nI (cEd z))), (7, .int (nI (cSc z))), (6, .int (nI (cTk z))), (5, .int (nI (cLb z))), (4, .int (nI (cTr z))), (3, .int (nI P)), (0, .ref a0), (1, .ref w0), (2, .int (nI v))]) hx hb dL_cycles_259 hl (by decide) rfl (fun ls hl => ?_)
                  have B_10 : ∀ (rs : Nat) (H : Heap) (locs : List Loc) (ls : Array Slot), (cRs z (nI v) = rs) → va_P E.1 vwCl [(w0, ee_i E 64 gk), (a0, ee_i E 48 a1)] H → va_D A [(w0, ee_i E 64 gk), (a0, ee_i E 48 a1)] → va_S A s.heap H locs → lv_has ls 13 [(10, .int (nI by9)), (9, .int (nI (cBl z))), (8, .int (nI (cEd z))), (7, .int (nI (cSc z))), (6, .int (nI (cTk z))), (5, .int (nI (cLb z))), (4, .int (nI (cTr z))), (3, .int (nI P)), (0, .ref a0), (1, .ref w0), (2, .int (nI v))] → W p l e rmL_cycles s m [.ref a0, .ref w0, .int (nI v)].toArray below meth c H locs 0 0 Q (F0 m 333 ls [.int (nI rs)]) := by
                    intro rs H locs ls hrs hP hD hS hl
                    subst hrs
                    refine lv_istore (lv' := [(11, .int (nI (cRs z (nI v)))), (10, .int (nI by9)), (9, .int (nI (cBl z))), (8, .int (nI (cEd z))), (7, .int (nI (cSc z))), (6, .int (nI (cTk z))), (5, .int (nI (cLb z))), (4, .int (nI (cTr z))), (3, .int (nI P)), (0, .ref a0), (1, .ref w0), (2, .int (nI v))]) hx hb dL_cycles_333 hl (by decide) rfl (fun ls hl => ?_)
                    have B_11 : ∀ (a3 : Nat → Int32) (P2 K2 : Nat) (H : Heap) (locs : List Loc) (ls : Array Slot), (pch (cPt z (nI v)) P2 K2) → (K2 ≤ K + 1) → (a3 46 = nI P2) → (a3 47 = nI K2) → (∀ j, j ≠ 46 → j ≠ 47 → a3 j = a1 j) → va_P E.1 vwCl [(w0, ee_i E 64 gk), (a0, ee_i E 48 a3)] H → va_D A [(w0, ee_i E 64 gk), (a0, ee_i E 48 a3)] → va_S A s.heap H locs → lv_has ls 13 [(11, .int (nI (cRs z (nI v)))), (10, .int (nI by9)), (9, .int (nI (cBl z))), (8, .int (nI (cEd z))), (7, .int (nI (cSc z))), (6, .int (nI (cTk z))), (5, .int (nI (cLb z))), (4, .int (nI (cTr z))), (3, .int (nI P)), (0, .ref a0), (1, .ref w0), (2, .int (nI v))] → W p l e rmL_cycles s m [.ref a0, .ref w0, .int (nI v)].toArray below meth c H locs 0 0 Q (F0 m 422 ls []) := by
                      intro a3 P2 K2 H locs ls hp2 hk2 h46 h47 h3 hP hD hS hl
                      have hM3 := cyL3 hRa hM1 hsp2 hsp3 h3
                      refine lv_aload_n hx hb dL_cycles_422 rfl (lv_at hl 9 rfl) ?_
                      refine lv_bipush (v := nI 20) hx hb dL_cycles_423 (by decide) ?_
                      refine lv_dup2_11 hx hb dL_cycles_425 rfl rfl ?_
                      refine ee_ild hx hb hV hP 1 rfl (j := 20) (by omega) (by decide) dL_cycles_426 ?_
                      refine ee_to (z := gC z 0) (hM3.2.2.2.2.1 0 (by decide)) ?_
                      refine lv_iconst (v := nI 1) hx hb dL_cycles_427 (by decide) ?_
                      refine lv_iadd hx hb dL_cycles_428 ?_
                      refine ee_ist hx hb hV hP hD hS 1 rfl (j := 20) (by omega) (by decide) dL_cycles_429 (fun H locs hP hD hS => ?_)
                      have hP : va_P E.1 vwCl [(w0, ee_i E 64 gk), (a0, ee_i E 48 (upd a3 20 ((gC z 0) + (nI 1))))] H := hP
                      have hD : va_D A [(w0, ee_i E 64 gk), (a0, ee_i E 48 (upd a3 20 ((gC z 0) + (nI 1))))] := hD
                      refine lv_aload_n hx hb dL_cycles_430 rfl (lv_at hl 9 rfl) ?_
                      refine lv_bipush (v := nI 23) hx hb dL_cycles_431 (by decide) ?_
                      refine lv_dup2_11 hx hb dL_cycles_433 rfl rfl ?_
                      refine ee_ild hx hb hV hP 1 rfl (j := 23) (by omega) (by decide) dL_cycles_434 ?_
                      refine ee_to (z := gC z 3) (by rw [pk_un (by omega)]; exact hM3.2.2.2.2.1 3 (by decide)) ?_
                      have B_12 : ∀ (y3 : Int32) (H : Heap) (locs : List Loc) (ls : Array Slot), (y3 = (if cRs z (nI v) = 0 then gC z 3 + nI 1 else gC z 3)) → va_P E.1 vwCl [(w0, ee_i E 64 gk), (a0, ee_i E 48 (upd a3 20 ((gC z 0) + (nI 1))))] H → va_D A [(w0, ee_i E 64 gk), (a0, ee_i E 48 (upd a3 20 ((gC z 0) + (nI 1))))] → va_S A s.heap H locs → lv_has ls 13 [(11, .int (nI (cRs z (nI v)))), (10, .int (nI by9)), (9, .int (nI (cBl z))), (8, .int (nI (cEd z))), (7, .int (nI (cSc z))), (6, .int (nI (cTk z))), (5, .int (nI (cLb z))), (4, .int (nI (cTr z))), (3, .int (nI P)), (0, .ref a0), (1, .ref w0), (2, .int (nI v))] → W p l e rmL_cycles s m [.ref a0, .ref w0, .int (nI v)].toArray below meth c H locs 0 0 Q (F0 m 446 ls [.int y3, .int (nI 23), .ref a0]) := by
                        intro y3 H locs ls h3y hP hD hS hl
                        refine ee_ist hx hb hV hP hD hS 1 rfl (j := 23) (by omega) (by decide) dL_cycles_446 (fun H locs hP hD hS => ?_)
                        have hP : va_P E.1 vwCl [(w0, ee_i E 64 gk), (a0, ee_i E 48 (upd (upd a3 20 ((gC z 0) + (nI 1))) 23 y3))] H := hP
                        have hD : va_D A [(w0, ee_i E 64 gk), (a0, ee_i E 48 (upd (upd a3 20 ((gC z 0) + (nI 1))) 23 y3))] := hD
                        refine lv_aload_n hx hb dL_cycles_447 rfl (lv_at hl 9 rfl) ?_
                        refine lv_bipush (v := nI 24) hx hb dL_cycles_448 (by decide) ?_
                        refine lv_dup2_11 hx hb dL_cycles_450 rfl rfl ?_
                        refine ee_ild hx hb hV hP 1 rfl (j := 24) (by omega) (by decide) dL_cycles_451 ?_
                        refine ee_to (z := gC z 4) (by rw [pk_un (by omega), pk_un (by omega)]; exact hM3.2.2.2.2.1 4 (by decide)) ?_
                        have B_13 : ∀ (y4 : Int32) (H : Heap) (locs : List Loc) (ls : Array Slot), (y4 = (if cRs z (nI v) = 0 then gC z 4 else gC z 4 + nI (cLb z))) → va_P E.1 vwCl [(w0, ee_i E 64 gk), (a0, ee_i E 48 (upd (upd a3 20 ((gC z 0) + (nI 1))) 23 y3))] H → va_D A [(w0, ee_i E 64 gk), (a0, ee_i E 48 (upd (upd a3 20 ((gC z 0) + (nI 1))) 23 y3))] → va_S A s.heap H locs → lv_has ls 13 [(11, .int (nI (cRs z (nI v)))), (10, .int (nI by9)), (9, .int (nI (cBl z))), (8, .int (nI (cEd z))), (7, .int (nI (cSc z))), (6, .int (nI (cTk z))), (5, .int (nI (cLb z))), (4, .int (nI (cTr z))), (3, .int (nI P)), (0, .ref a0), (1, .ref w0), (2, .int (nI v))] → W p l e rmL_cycles s m [.ref a0, .ref w0, .int (nI v)].toArray below meth c H locs 0 0 Q (F0 m 464 ls [.int y4, .int (nI 24), .ref a0]) := by
                          intro y4 H locs ls h4 hP hD hS hl
                          refine ee_ist hx hb hV hP hD hS 1 rfl (j := 24) (by omega) (by decide) dL_cycles_464 (fun H locs hP hD hS => ?_)
                          have hP : va_P E.1 vwCl [(w0, ee_i E 64 gk), (a0, ee_i E 48 (upd (upd (upd a3 20 ((gC z 0) + (nI 1))) 23 y3) 24 y4))] H := hP
                          have hD : va_D A [(w0, ee_i E 64 gk), (a0, ee_i E 48 (upd (upd (upd a3 20 ((gC z 0) + (nI 1))) 23 y3) 24 y4))] := hD
                          refine lv_aload_n hx hb dL_cycles_465 rfl (lv_at hl 9 rfl) ?_
                          refine lv_bipush (v := nI 25) hx hb dL_cycles_466 (by decide) ?_
                          refine lv_dup2_11 hx hb dL_cycles_468 rfl rfl ?_
                          refine ee_ild hx hb hV hP 1 rfl (j := 25) (by omega) (by decide) dL_cycles_469 ?_
                          refine ee_to (z := gC z 5) (by rw [pk_un (by omega), pk_un (by omega), pk_un (by omega)]; exact hM3.2.2.2.2.1 5 (by decide)) ?_
                          have B_14 : ∀ (y5 : Int32) (H : Heap) (locs : List Loc) (ls : Array Slot), (y5 = (if 0 < cSc z then gC z 5 + nI 1 else gC z 5)) → va_P E.1 vwCl [(w0, ee_i E 64 gk), (a0, ee_i E 48 (upd (upd (upd a3 20 ((gC z 0) + (nI 1))) 23 y3) 24 y4))] H → va_D A [(w0, ee_i E 64 gk), (a0, ee_i E 48 (upd (upd (upd a3 20 ((gC z 0) + (nI 1))) 23 y3) 24 y4))] → va_S A s.heap H locs → lv_has ls 13 [(11, .int (nI (cRs z (nI v)))), (10, .int (nI by9)), (9, .int (nI (cBl z))), (8, .int (nI (cEd z))), (7, .int (nI (cSc z))), (6, .int (nI (cTk z))), (5, .int (nI (cLb z))), (4, .int (nI (cTr z))), (3, .int (nI P)), (0, .ref a0), (1, .ref w0), (2, .int (nI v))] → W p l e rmL_cycles s m [.ref a0, .ref w0, .int (nI v)].toArray below meth c H locs 0 0 Q (F0 m 481 ls [.int y5, .int (nI 25), .ref a0]) := by
                            intro y5 H locs ls h5 hP hD hS hl
                            refine ee_ist hx hb hV hP hD hS 1 rfl (j := 25) (by omega) (by decide) dL_cycles_481 (fun H locs hP hD hS => ?_)
                            have hP : va_P E.1 vwCl [(w0, ee_i E 64 gk), (a0, ee_i E 48 (upd (upd (upd (upd a3 20 ((gC z 0) + (nI 1))) 23 y3) 24 y4) 25 y5))] H := hP
                            have hD : va_D A [(w0, ee_i E 64 gk), (a0, ee_i E 48 (upd (upd (upd (upd a3 20 ((gC z 0) + (nI 1))) 23 y3) 24 y4) 25 y5))] := hD
                            refine lv_aload_n hx hb dL_cycles_482 rfl (lv_at hl 9 rfl) ?_
                            refine lv_bipush (v := nI 26) hx hb dL_cycles_483 (by decide) ?_
                            refine lv_dup2_11 hx hb dL_cycles_485 rfl rfl ?_
                            refine ee_ild hx hb hV hP 1 rfl (j := 26) (by omega) (by decide) dL_cycles_486 ?_
                            refine ee_to (z := gC z 6) (by rw [pk_un (by omega), pk_un (by omega), pk_un (by omega), pk_un (by omega)]; exact hM3.2.2.2.2.1 6 (by decide)) ?_
                            have B_15 : ∀ (y6 : Int32) (H : Heap) (locs : List Loc) (ls : Array Slot), (y6 = (if cBl z = 0 then gC z 6 else gC z 6 + nI 1)) → va_P E.1 vwCl [(w0, ee_i E 64 gk), (a0, ee_i E 48 (upd (upd (upd (upd a3 20 ((gC z 0) + (nI 1))) 23 y3) 24 y4) 25 y5))] H → va_D A [(w0, ee_i E 64 gk), (a0, ee_i E 48 (upd (upd (upd (upd a3 20 ((gC z 0) + (nI 1))) 23 y3) 24 y4) 25 y5))] → va_S A s.heap H locs → lv_has ls 13 [(11, .int (nI (cRs z (nI v)))), (10, .int (nI by9)), (9, .int (nI (cBl z))), (8, .int (nI (cEd z))), (7, .int (nI (cSc z))), (6, .int (nI (cTk z))), (5, .int (nI (cLb z))), (4, .int (nI (cTr z))), (3, .int (nI P)), (0, .ref a0), (1, .ref w0), (2, .int (nI v))] → W p l e rmL_cycles s m [.ref a0, .ref w0, .int (nI v)].toArray below meth c H locs 0 0 Q (F0 m 498 ls [.int y6, .int (nI 26), .ref a0]) := by
                              intro y6 H locs ls h6 hP hD hS hl
                              refine ee_ist hx hb hV hP hD hS 1 rfl (j := 26) (by omega) (by decide) dL_cycles_498 (fun H locs hP hD hS => ?_)
                              have hP : va_P E.1 vwCl [(w0, ee_i E 64 gk), (a0, ee_i E 48 (upd (upd (upd (upd (upd a3 20 ((gC z 0) + (nI 1))) 23 y3) 24 y4) 25 y5) 26 y6))] H := hP
                              have hD : va_D A [(w0, ee_i E 64 gk), (a0, ee_i E 48 (upd (upd (upd (upd (upd a3 20 ((gC z 0) + (nI 1))) 23 y3) 24 y4) 25 y5) 26 y6))] := hD
                              refine lv_aload_n hx hb dL_cycles_499 rfl (lv_at hl 9 rfl) ?_
                              refine lv_bipush (v := nI 27) hx hb dL_cycles_500 (by decide) ?_
                              have B_16 : ∀ (y7 : Int32) (H : Heap) (locs : List Loc) (ls : Array Slot), (y7 = cRw z (nI v)) → va_P E.1 vwCl [(w0, ee_i E 64 gk), (a0, ee_i E 48 (upd (upd (upd (upd (upd a3 20 ((gC z 0) + (nI 1))) 23 y3) 24 y4) 25 y5) 26 y6))] H → va_D A [(w0, ee_i E 64 gk), (a0, ee_i E 48 (upd (upd (upd (upd (upd a3 20 ((gC z 0) + (nI 1))) 23 y3) 24 y4) 25 y5) 26 y6))] → va_S A s.heap H locs → lv_has ls 13 [(11, .int (nI (cRs z (nI v)))), (10, .int (nI by9)), (9, .int (nI (cBl z))), (8, .int (nI (cEd z))), (7, .int (nI (cSc z))), (6, .int (nI (cTk z))), (5, .int (nI (cLb z))), (4, .int (nI (cTr z))), (3, .int (nI P)), (0, .ref a0), (1, .ref w0), (2, .int (nI v))] → W p l e rmL_cycles s m [.ref a0, .ref w0, .int (nI v)].toArray below meth c H locs 0 0 Q (F0 m 537 ls [.int y7, .int (nI 27), .ref a0]) := by
                                intro y7 H locs ls h7 hP hD hS hl
                                refine ee_ist hx hb hV hP hD hS 1 rfl (j := 27) (by omega) (by decide) dL_cycles_537 (fun H locs hP hD hS => ?_)
                                have hP : va_P E.1 vwCl [(w0, ee_i E 64 gk), (a0, ee_i E 48 (upd (upd (upd (upd (upd (upd a3 20 ((gC z 0) + (nI 1))) 23 y3) 24 y4) 25 y5) 26 y6) 27 y7))] H := hP
                                have hD : va_D A [(w0, ee_i E 64 gk), (a0, ee_i E 48 (upd (upd (upd (upd (upd (upd a3 20 ((gC z 0) + (nI 1))) 23 y3) 24 y4) 25 y5) 26 y6) 27 y7))] := hD
                                refine lv_aload_n hx hb dL_cycles_538 rfl (lv_at hl 9 rfl) ?_
                                refine lv_bipush (v := nI 28) hx hb dL_cycles_539 (by decide) ?_
                                have B_17 : ∀ (y8 : Int32) (H : Heap) (locs : List Loc) (ls : Array Slot), (y8 = (if cRw z (nI v) < gS z 7 then gC z 8 else nI 1)) → va_P E.1 vwCl [(w0, ee_i E 64 gk), (a0, ee_i E 48 (upd (upd (upd (upd (upd (upd a3 20 ((gC z 0) + (nI 1))) 23 y3) 24 y4) 25 y5) 26 y6) 27 y7))] H → va_D A [(w0, ee_i E 64 gk), (a0, ee_i E 48 (upd (upd (upd (upd (upd (upd a3 20 ((gC z 0) + (nI 1))) 23 y3) 24 y4) 25 y5) 26 y6) 27 y7))] → va_S A s.heap H locs → lv_has ls 13 [(11, .int (nI (cRs z (nI v)))), (10, .int (nI by9)), (9, .int (nI (cBl z))), (8, .int (nI (cEd z))), (7, .int (nI (cSc z))), (6, .int (nI (cTk z))), (5, .int (nI (cLb z))), (4, .int (nI (cTr z))), (3, .int (nI P)), (0, .ref a0), (1, .ref w0), (2, .int (nI v))] → W p l e rmL_cycles s m [.ref a0, .ref w0, .int (nI v)].toArray below meth c H locs 0 0 Q (F0 m 560 ls [.int y8, .int (nI 28), .ref a0]) := by
                                  intro y8 H locs ls h8 hP hD hS hl
                                  refine ee_ist hx hb hV hP hD hS 1 rfl (j := 28) (by omega) (by decide) dL_cycles_560 (fun H locs hP hD hS => ?_)
                                  have hP : va_P E.1 vwCl [(w0, ee_i E 64 gk), (a0, ee_i E 48 (upd (upd (upd (upd (upd (upd (upd a3 20 ((gC z 0) + (nI 1))) 23 y3) 24 y4) 25 y5) 26 y6) 27 y7) 28 y8))] H := hP
                                  have hD : va_D A [(w0, ee_i E 64 gk), (a0, ee_i E 48 (upd (upd (upd (upd (upd (upd (upd a3 20 ((gC z 0) + (nI 1))) 23 y3) 24 y4) 25 y5) 26 y6) 27 y7) 28 y8))] := hD
                                  refine lv_aload_n hx hb dL_cycles_561 rfl (lv_at hl 9 rfl) ?_
                                  refine lv_bipush (v := nI 30) hx hb dL_cycles_562 (by decide) ?_
                                  refine lv_iload hx hb dL_cycles_564 (lv_at hl 0 rfl) ?_
                                  refine ee_iadd hx hb dL_cycles_566 ?_
                                  refine lv_dup2_11 hx hb dL_cycles_567 rfl rfl ?_
                                  refine ee_ild hx hb hV hP 1 rfl (j := (30 + (cRs z (nI v)))) (by omega) (by decide) dL_cycles_568 ?_
                                  refine ee_to (z := gB z (cRs z (nI v))) (by rw [pk_un (by omega), pk_un (by omega), pk_un (by omega), pk_un (by omega), pk_un (by omega), pk_un (by omega), pk_un (by omega)]; exact hM3.2.2.2.2.2 _ (by omega)) ?_
                                  refine lv_iconst (v := nI 1) hx hb dL_cycles_569 (by decide) ?_
                                  refine lv_iadd hx hb dL_cycles_570 ?_
                                  refine ee_ist hx hb hV hP hD hS 1 rfl (j := (30 + (cRs z (nI v)))) (by omega) (by decide) dL_cycles_571 (fun H locs hP hD hS => ?_)
                                  have hP : va_P E.1 vwCl [(w0, ee_i E 64 gk), (a0, ee_i E 48 (upd (upd (upd (upd (upd (upd (upd (upd a3 20 ((gC z 0) + (nI 1))) 23 y3) 24 y4) 25 y5) 26 y6) 27 y7) 28 y8) (30 + (cRs z (nI v))) ((gB z (cRs z (nI v))) + (nI 1))))] H := hP
                                  have hD : va_D A [(w0, ee_i E 64 gk), (a0, ee_i E 48 (upd (upd (upd (upd (upd (upd (upd (upd a3 20 ((gC z 0) + (nI 1))) 23 y3) 24 y4) 25 y5) 26 y6) 27 y7) 28 y8) (30 + (cRs z (nI v))) ((gB z (cRs z (nI v))) + (nI 1))))] := hD
                                  obtain ⟨a4, ha4⟩ : ∃ w_9, w_9 = upd (upd (upd (upd (upd (upd (upd (upd a3 20 ((gC z 0) + (nI 1))) 23 y3) 24 y4) 25 y5) 26 y6) 27 y7) 28 y8) (30 + (cRs z (nI v))) ((gB z (cRs z (nI v))) + (nI 1)) := ⟨_, rfl⟩
                                  rw [← ha4] at hP hD
                                  obtain ⟨c20, c23, c24, c25, c26, c27, c28, c30, cLo⟩ := cyL4 hr7 ha4
                                  rw [h3y] at c23
                                  rw [h4] at c24
                                  rw [h5] at c25
                                  rw [h6] at c26
                                  rw [h7] at c27
                                  rw [h8] at c28
                                  refine lv_aload_n hx hb dL_cycles_572 rfl (lv_at hl 9 rfl) ?_
                                  refine lv_aload_n hx hb dL_cycles_573 rfl (lv_at hl 9 rfl) ?_
                                  refine lv_bipush (v := nI 9) hx hb dL_cycles_574 (by decide) ?_
                                  refine lv_aload_n hx hb dL_cycles_576 rfl (lv_at hl 9 rfl) ?_
                                  refine lv_bipush (v := nI 9) hx hb dL_cycles_577 (by decide) ?_
                                  refine ee_ild hx hb hV hP 1 rfl (j := 9) (by omega) (by decide) dL_cycles_579 ?_
                                  refine ee_to (z := nI (gT z)) ((cLo 9 (by decide) (by omega)).trans hM3.2.2.1) ?_
                                  refine ee_iadd hx hb dL_cycles_580 ?_
                                  refine ee_ild hx hb hV hP 1 rfl (j := (9 + (gT z))) (by omega) (by decide) dL_cycles_581 ?_
                                  refine ee_to (z := gR z (gT z - 1)) (by rw [cLo _ (by omega) (by omega), show 9 + gT z = 10 + (gT z - 1) by omega]; exact hM3.2.2.2.1 _ (by omega)) ?_
                                  refine ee_kv (wr := [(w0, ee_i E 64 gk)]) (ee_rS (As := [.ref a0, .int (gR z (gT z - 1))]) (rest := []) (kL_leaves l E a0 a4 (gR z (gT z - 1)) (hO.2.2.2.2.2.1 _ (by omega))) hx hb hml hown hts 2 gL_cycles_L_leaves rfl rfl rfl (by decide +kernel) ⟨Nat.le_of_ble_eq_true rfl, Nat.le_of_ble_eq_true rfl⟩ hV hP hD hS hA [1] rfl (by decide) hl rfl rfl (Nat.le_of_ble_eq_true rfl) dL_cycles_582 ⟨Nat.le_of_ble_eq_true rfl, Nat.le_of_ble_eq_true rfl⟩) hP hD hS hA [1] [0] rfl rfl (by decide) (by decide) (fun a5 H locs ha5 hP hD hS => ?_)
                                  have hP : va_P E.1 vwCl [(w0, ee_i E 64 gk), (a0, ee_i E 48 a5)] H := hP
                                  have hD : va_D A [(w0, ee_i E 64 gk), (a0, ee_i E 48 a5)] := hD
                                  have d21 : a5 21 = gtA (gR z (gT z - 1)) (a4 21) := by rw [ha5]; exact (upd2 (by decide)).1
                                  have d22 : a5 22 = gtB (gR z (gT z - 1)) (a4 22) := by rw [ha5]; exact pk_us
                                  have dLo : ∀ j, j ≠ 21 → j ≠ 22 → a5 j = a4 j := fun j q1 q2 => by rw [ha5, pk_un q2, pk_un q1]
                                  refine lv_aload_n hx hb dL_cycles_585 rfl (lv_at hl 9 rfl) ?_
                                  refine lv_bipush (v := nI 9) hx hb dL_cycles_586 (by decide) ?_
                                  refine ee_ild hx hb hV hP 1 rfl (j := 9) (by omega) (by decide) dL_cycles_588 ?_
                                  refine ee_to (z := nI (gT z)) ((dLo 9 (by decide) (by decide)).trans ((cLo 9 (by decide) (by omega)).trans hM3.2.2.1)) ?_
                                  refine lv_iconst (v := nI 1) hx hb dL_cycles_589 (by decide) ?_
                                  refine ee_isub hx hb (by omega) dL_cycles_590 ?_
                                  refine lv_istore (lv' := [(12, .int (nI (gT z - 1))), (11, .int (nI (cRs z (nI v)))), (10, .int (nI by9)), (9, .int (nI (cBl z))), (8, .int (nI (cEd z))), (7, .int (nI (cSc z))), (6, .int (nI (cTk z))), (5, .int (nI (cLb z))), (4, .int (nI (cTr z))), (3, .int (nI P)), (0, .ref a0), (1, .ref w0), (2, .int (nI v))]) hx hb dL_cycles_591 hl (by decide) rfl (fun ls hl => ?_)
                                  have B_20 : ∀ (zz : Nat) (kk2 : Nat) (bk : Nat → Int32) (H : Heap) (locs : List Loc) (ls : Array Slot), kk2 < zz → (kk2 ≤ gT z - 1) → (∀ j, kk2 < j → j < gT z → bk (10 + j) = a5 (10 + (j - 1))) → (∀ j, j ≤ kk2 ∨ gT z ≤ j → bk (10 + j) = a5 (10 + j)) → (∀ j, j < 10 → bk j = a5 j) → va_P E.1 vwCl [(w0, ee_i E 64 gk), (a0, ee_i E 48 bk)] H → va_D A [(w0, ee_i E 64 gk), (a0, ee_i E 48 bk)] → va_S A s.heap H locs → lv_has ls 13 [(12, .int (nI kk2)), (11, .int (nI (cRs z (nI v)))), (10, .int (nI by9)), (9, .int (nI (cBl z))), (8, .int (nI (cEd z))), (7, .int (nI (cSc z))), (6, .int (nI (cTk z))), (5, .int (nI (cLb z))), (4, .int (nI (cTr z))), (3, .int (nI P)), (0, .ref a0), (1, .ref w0), (2, .int (nI v))] → W p l e rmL_cycles s m [.ref a0, .ref w0, .int (nI v)].toArray below meth c H locs 0 0 Q (F0 m 593 ls []) := by
                                    intro zz
                                    induction zz with
                                    | zero => intro kk2 bk H locs ls hzz; exact absurd hzz (Nat.not_lt_zero _)
                                    | succ zz ihB_20 =>
                                      intro kk2 bk H locs ls hzz hkk2 q1 q2 q3 hP hD hS hl
                                      refine lv_iload hx hb dL_cycles_593 (lv_at hl 0 rfl) ?_
                                      refine ee_le0 (tgt := 618) hx hb (by omega) dL_cycles_595 (by decide) (fun g595 => ?_) (fun g595 => ?_)
                                      · refine lv_aload_n hx hb dL_cycles_618 rfl (lv_at hl 10 rfl) ?_
                                        refine lv_bipush (v := nI 10) hx hb dL_cycles_619 (by decide) ?_
                                        refine lv_iload hx hb dL_cycles_621 (lv_at hl 1 rfl) ?_
                                        refine ee_ist hx hb hV hP hD hS 1 rfl (j := 10) (by omega) (by decide) dL_cycles_623 (fun H locs hP hD hS => ?_)
                                        have hP : va_P E.1 vwCl [(w0, ee_i E 64 gk), (a0, ee_i E 48 (upd bk 10 (nI (cRs z (nI v)))))] H := hP
                                        have hD : va_D A [(w0, ee_i E 64 gk), (a0, ee_i E 48 (upd bk 10 (nI (cRs z (nI v)))))] := hD
                                        refine lv_aload_n hx hb dL_cycles_624 rfl (lv_at hl 10 rfl) ?_
                                        refine lv_bipush (v := nI 40) hx hb dL_cycles_625 (by decide) ?_
                                        refine lv_iload hx hb dL_cycles_627 (lv_at hl 8 rfl) ?_
                                        refine ee_ist hx hb hV hP hD hS 1 rfl (j := 40) (by omega) (by decide) dL_cycles_629 (fun H locs hP hD hS => ?_)
                                        have hP : va_P E.1 vwCl [(w0, ee_i E 64 gk), (a0, ee_i E 48 (upd (upd bk 10 (nI (cRs z (nI v)))) 40 (nI (cTr z))))] H := hP
                                        have hD : va_D A [(w0, ee_i E 64 gk), (a0, ee_i E 48 (upd (upd bk 10 (nI (cRs z (nI v)))) 40 (nI (cTr z))))] := hD
                                        refine lv_aload_n hx hb dL_cycles_630 rfl (lv_at hl 10 rfl) ?_
                                        refine lv_bipush (v := nI 41) hx hb dL_cycles_631 (by decide) ?_
                                        refine lv_iload hx hb dL_cycles_633 (lv_at hl 7 rfl) ?_
                                        refine ee_ist hx hb hV hP hD hS 1 rfl (j := 41) (by omega) (by decide) dL_cycles_635 (fun H locs hP hD hS => ?_)
                                        have hP : va_P E.1 vwCl [(w0, ee_i E 64 gk), (a0, ee_i E 48 (upd (upd (upd bk 10 (nI (cRs z (nI v)))) 40 (nI (cTr z))) 41 (nI (cLb z))))] H := hP
                                        have hD : va_D A [(w0, ee_i E 64 gk), (a0, ee_i E 48 (upd (upd (upd bk 10 (nI (cRs z (nI v)))) 40 (nI (cTr z))) 41 (nI (cLb z))))] := hD
                                        refine lv_aload_n hx hb dL_cycles_636 rfl (lv_at hl 10 rfl) ?_
                                        refine lv_bipush (v := nI 42) hx hb dL_cycles_637 (by decide) ?_
                                        refine lv_iload hx hb dL_cycles_639 (lv_at hl 1 rfl) ?_
                                        refine ee_ist hx hb hV hP hD hS 1 rfl (j := 42) (by omega) (by decide) dL_cycles_641 (fun H locs hP hD hS => ?_)
                                        have hP : va_P E.1 vwCl [(w0, ee_i E 64 gk), (a0, ee_i E 48 (upd (upd (upd (upd bk 10 (nI (cRs z (nI v)))) 40 (nI (cTr z))) 41 (nI (cLb z))) 42 (nI (cRs z (nI v)))))] H := hP
                                        have hD : va_D A [(w0, ee_i E 64 gk), (a0, ee_i E 48 (upd (upd (upd (upd bk 10 (nI (cRs z (nI v)))) 40 (nI (cTr z))) 41 (nI (cLb z))) 42 (nI (cRs z (nI v)))))] := hD
                                        refine lv_aload_n hx hb dL_cycles_642 rfl (lv_at hl 10 rfl) ?_
                                        refine lv_bipush (v := nI 43) hx hb dL_cycles_643 (by decide) ?_
                                        refine lv_aload_n hx hb dL_cycles_645 rfl (lv_at hl 10 rfl) ?_
                                        refine lv_bipush (v := nI 8) hx hb dL_cycles_646 (by decide) ?_
                                        refine ee_ild hx hb hV hP 1 rfl (j := 8) (by omega) (by decide) dL_cycles_648 ?_
                                        refine ee_to (z := cSp z (nI v)) (by rw [pk_un (by omega), pk_un (by omega), pk_un (by omega), pk_un (by omega)]; rw [q3 8 (by decide), dLo 8 (by decide) (by decide), cLo 8 (by decide) (by omega)]; exact hM3.2.1) ?_
                                        refine ee_ist hx hb hV hP hD hS 1 rfl (j := 43) (by omega) (by decide) dL_cycles_649 (fun H locs hP hD hS => ?_)
                                        have hP : va_P E.1 vwCl [(w0, ee_i E 64 gk), (a0, ee_i E 48 (upd (upd (upd (upd (upd bk 10 (nI (cRs z (nI v)))) 40 (nI (cTr z))) 41 (nI (cLb z))) 42 (nI (cRs z (nI v)))) 43 (cSp z (nI v))))] H := hP
                                        have hD : va_D A [(w0, ee_i E 64 gk), (a0, ee_i E 48 (upd (upd (upd (upd (upd bk 10 (nI (cRs z (nI v)))) 40 (nI (cTr z))) 41 (nI (cLb z))) 42 (nI (cRs z (nI v)))) 43 (cSp z (nI v))))] := hD
                                        refine lv_aload_n hx hb dL_cycles_650 rfl (lv_at hl 10 rfl) ?_
                                        refine lv_bipush (v := nI 44) hx hb dL_cycles_651 (by decide) ?_
                                        refine lv_iload hx hb dL_cycles_653 (lv_at hl 6 rfl) ?_
                                        refine ee_ist hx hb hV hP hD hS 1 rfl (j := 44) (by omega) (by decide) dL_cycles_655 (fun H locs hP hD hS => ?_)
                                        have hP : va_P E.1 vwCl [(w0, ee_i E 64 gk), (a0, ee_i E 48 (upd (upd (upd (upd (upd (upd bk 10 (nI (cRs z (nI v)))) 40 (nI (cTr z))) 41 (nI (cLb z))) 42 (nI (cRs z (nI v)))) 43 (cSp z (nI v))) 44 (nI (cTk z))))] H := hP
                                        have hD : va_D A [(w0, ee_i E 64 gk), (a0, ee_i E 48 (upd (upd (upd (upd (upd (upd bk 10 (nI (cRs z (nI v)))) 40 (nI (cTr z))) 41 (nI (cLb z))) 42 (nI (cRs z (nI v)))) 43 (cSp z (nI v))) 44 (nI (cTk z))))] := hD
                                        refine lv_aload_n hx hb dL_cycles_656 rfl (lv_at hl 10 rfl) ?_
                                        refine lv_bipush (v := nI 45) hx hb dL_cycles_657 (by decide) ?_
                                        refine lv_iload hx hb dL_cycles_659 (lv_at hl 4 rfl) ?_
                                        refine ee_ist hx hb hV hP hD hS 1 rfl (j := 45) (by omega) (by decide) dL_cycles_661 (fun H locs hP hD hS => ?_)
                                        have hP : va_P E.1 vwCl [(w0, ee_i E 64 gk), (a0, ee_i E 48 (upd (upd (upd (upd (upd (upd (upd bk 10 (nI (cRs z (nI v)))) 40 (nI (cTr z))) 41 (nI (cLb z))) 42 (nI (cRs z (nI v)))) 43 (cSp z (nI v))) 44 (nI (cTk z))) 45 (nI (cEd z))))] H := hP
                                        have hD : va_D A [(w0, ee_i E 64 gk), (a0, ee_i E 48 (upd (upd (upd (upd (upd (upd (upd bk 10 (nI (cRs z (nI v)))) 40 (nI (cTr z))) 41 (nI (cLb z))) 42 (nI (cRs z (nI v)))) 43 (cSp z (nI v))) 44 (nI (cTk z))) 45 (nI (cEd z))))] := hD
                                        have h9 := cyL6 (bk := bk) (x0 := nI (cRs z (nI v))) (x1 := nI (cTr z)) (x2 := nI (cLb z)) (x3 := nI (cRs z (nI v))) (x4 := cSp z (nI v)) (x5 := nI (cTk z)) (x6 := nI (cEd z)) rfl
                                        exact ee_fv hQ hx hb hr hlocks hS (upd (upd (upd (upd (upd (upd (upd bk 10 (nI (cRs z (nI v)))) 40 (nI (cTr z))) 41 (nI (cLb z))) 42 (nI (cRs z (nI v)))) 43 (cSp z (nI v))) 44 (nI (cTk z))) 45 (nI (cEd z)), gk, K2) (⟨cyL9 hO hM3 c20 c23 c24 c25 c26 c27 c28 c30 cLo d21 d22 dLo g595 q1 q2 q3 h9 h46 h47 hp2, rW_cyc hRw k1 b0 (fun j hj => b1 j (by omega)), hk2⟩) (hP.sub [1, 0] rfl) (hD.sub [1, 0] (by decide) rfl) dL_cycles_662
                                      · refine lv_aload_n hx hb dL_cycles_598 rfl (lv_at hl 10 rfl) ?_
                                        refine lv_bipush (v := nI 10) hx hb dL_cycles_599 (by decide) ?_
                                        refine lv_iload hx hb dL_cycles_601 (lv_at hl 0 rfl) ?_
                                        refine ee_iadd hx hb dL_cycles_603 ?_
                                        refine lv_aload_n hx hb dL_cycles_604 rfl (lv_at hl 10 rfl) ?_
                                        refine lv_bipush (v := nI 9) hx hb dL_cycles_605 (by decide) ?_
                                        refine lv_iload hx hb dL_cycles_607 (lv_at hl 0 rfl) ?_
                                        refine ee_iadd hx hb dL_cycles_609 ?_
                                        refine ee_ild hx hb hV hP 1 rfl (j := (9 + kk2)) (by omega) (by decide) dL_cycles_610 ?_
                                        refine ee_ist hx hb hV hP hD hS 1 rfl (j := (10 + kk2)) (by omega) (by decide) dL_cycles_611 (fun H locs hP hD hS => ?_)
                                        have hP : va_P E.1 vwCl [(w0, ee_i E 64 gk), (a0, ee_i E 48 (upd bk (10 + kk2) (bk (9 + kk2))))] H := hP
                                        have hD : va_D A [(w0, ee_i E 64 gk), (a0, ee_i E 48 (upd bk (10 + kk2) (bk (9 + kk2))))] := hD
                                        refine lv_iinc (v := nI (kk2 - 1)) (lv' := [(12, .int (nI (kk2 - 1))), (11, .int (nI (cRs z (nI v)))), (10, .int (nI by9)), (9, .int (nI (cBl z))), (8, .int (nI (cEd z))), (7, .int (nI (cSc z))), (6, .int (nI (cTk z))), (5, .int (nI (cLb z))), (4, .int (nI (cTr z))), (3, .int (nI P)), (0, .ref a0), (1, .ref w0), (2, .int (nI v))]) hx hb dL_cycles_612 hl (k := 0) rfl (ee_dec (by omega)) (by decide) rfl (fun ls hl => ?_)
                                        refine lv_goto (tgt := 593) hx hb dL_cycles_615 (by decide) ?_
                                        exact ihB_20 (kk2 - 1) (upd bk (10 + kk2) (bk (9 + kk2))) _ _ _ (by omega) (by omega) (tnG_1 (by omega) q1 q2) (tnG_2 q2 (by omega) (by omega)) (fun j h => by rw [pk_un (by omega)]; exact q3 j h) hP hD hS (lv_sub hl [0, 1, 2, 3, 4, 5, 6, 7, 8, 9, 10, 11, 12] rfl)
                                  exact B_20 ((gT z - 1) + 1) (gT z - 1) a5 _ _ _ (Nat.lt_succ_self _) (by omega) (fun j h1 h2 => by omega) (fun _ _ => rfl) (fun _ _ => rfl) hP hD hS (lv_sub hl [0, 1, 2, 3, 4, 5, 6, 7, 8, 9, 10, 11, 12] rfl)
                                refine lv_aload_n hx hb dL_cycles_541 rfl (lv_at hl 9 rfl) ?_
                                refine lv_bipush (v := nI 27) hx hb dL_cycles_542 (by decide) ?_
                                refine ee_ild hx hb hV hP 1 rfl (j := 27) (by omega) (by decide) dL_cycles_544 ?_
                                refine ee_to (z := y7) (pk_us) ?_
                                refine lv_aload_n hx hb dL_cycles_545 rfl (lv_at hl 9 rfl) ?_
                                refine lv_bipush (v := nI 7) hx hb dL_cycles_546 (by decide) ?_
                                refine ee_ild hx hb hV hP 1 rfl (j := 7) (by omega) (by decide) dL_cycles_548 ?_
                                refine ee_to (z := gS z 7) (by rw [pk_un (by omega), pk_un (by omega), pk_un (by omega), pk_un (by omega), pk_un (by omega), pk_un (by omega)]; exact hM3.1 7 (by decide)) ?_
                                refine lv_icmp_lt (tgt := 556) hx hb dL_cycles_549 (by decide) (fun g549 => ?_) (fun g549 => ?_)
                                · refine lv_aload_n hx hb dL_cycles_556 rfl (lv_at hl 9 rfl) ?_
                                  refine lv_bipush (v := nI 28) hx hb dL_cycles_557 (by decide) ?_
                                  refine ee_ild hx hb hV hP 1 rfl (j := 28) (by omega) (by decide) dL_cycles_559 ?_
                                  refine ee_to (z := gC z 8) (by rw [pk_un (by omega), pk_un (by omega), pk_un (by omega), pk_un (by omega), pk_un (by omega), pk_un (by omega)]; exact hM3.2.2.2.2.1 8 (by decide)) ?_
                                  exact B_17 (gC z 8) _ _ _ (by rw [if_pos (h7 ▸ g549)]) hP hD hS (lv_sub hl [0, 1, 2, 3, 4, 5, 6, 7, 8, 9, 10, 11] rfl)
                                · refine lv_iconst (v := nI 1) hx hb dL_cycles_552 (by decide) ?_
                                  refine lv_goto (tgt := 560) hx hb dL_cycles_553 (by decide) ?_
                                  exact B_17 (nI 1) _ _ _ (by rw [if_neg (h7 ▸ g549)]) hP hD hS (lv_sub hl [0, 1, 2, 3, 4, 5, 6, 7, 8, 9, 10, 11] rfl)
                              refine lv_iload hx hb dL_cycles_502 (lv_at hl 0 rfl) ?_
                              refine lv_iconst (v := nI 1) hx hb dL_cycles_504 (by decide) ?_
                              refine ee_eq (tgt := 527) hx hb (by omega) (by omega) dL_cycles_505 (by decide) (fun g505 => ?_) (fun g505 => ?_)
                              · refine lv_aload_n hx hb dL_cycles_527 rfl (lv_at hl 9 rfl) ?_
                                refine lv_bipush (v := nI 27) hx hb dL_cycles_528 (by decide) ?_
                                refine ee_ild hx hb hV hP 1 rfl (j := 27) (by omega) (by decide) dL_cycles_530 ?_
                                refine ee_to (z := gC z 7) (by rw [pk_un (by omega), pk_un (by omega), pk_un (by omega), pk_un (by omega), pk_un (by omega)]; exact hM3.2.2.2.2.1 7 (by decide)) ?_
                                refine lv_iconst (v := nI 1) hx hb dL_cycles_531 (by decide) ?_
                                refine lv_iadd hx hb dL_cycles_532 ?_
                                refine lv_goto (tgt := 537) hx hb dL_cycles_533 (by decide) ?_
                                exact B_16 ((gC z 7) + (nI 1)) _ _ _ (by rw [cRw, g505]; rfl) hP hD hS (lv_sub hl [0, 1, 2, 3, 4, 5, 6, 7, 8, 9, 10, 11] rfl)
                              · refine lv_iload hx hb dL_cycles_508 (lv_at hl 0 rfl) ?_
                                refine lv_iconst (v := nI 2) hx hb dL_cycles_510 (by decide) ?_
                                refine ee_eq (tgt := 527) hx hb (by omega) (by omega) dL_cycles_511 (by decide) (fun g511 => ?_) (fun g511 => ?_)
                                · refine lv_aload_n hx hb dL_cycles_527 rfl (lv_at hl 9 rfl) ?_
                                  refine lv_bipush (v := nI 27) hx hb dL_cycles_528 (by decide) ?_
                                  refine ee_ild hx hb hV hP 1 rfl (j := 27) (by omega) (by decide) dL_cycles_530 ?_
                                  refine ee_to (z := gC z 7) (by rw [pk_un (by omega), pk_un (by omega), pk_un (by omega), pk_un (by omega), pk_un (by omega)]; exact hM3.2.2.2.2.1 7 (by decide)) ?_
                                  refine lv_iconst (v := nI 1) hx hb dL_cycles_531 (by decide) ?_
                                  refine lv_iadd hx hb dL_cycles_532 ?_
                                  refine lv_goto (tgt := 537) hx hb dL_cycles_533 (by decide) ?_
                                  exact B_16 ((gC z 7) + (nI 1)) _ _ _ (by rw [cRw, g511]; rfl) hP hD hS (lv_sub hl [0, 1, 2, 3, 4, 5, 6, 7, 8, 9, 10, 11] rfl)
                                · refine lv_iload hx hb dL_cycles_514 (lv_at hl 0 rfl) ?_
                                  refine lv_iconst (v := nI 4) hx hb dL_cycles_516 (by decide) ?_
                                  refine ee_eq (tgt := 527) hx hb (by omega) (by omega) dL_cycles_517 (by decide) (fun g517 => ?_) (fun g517 => ?_)
                                  · refine lv_aload_n hx hb dL_cycles_527 rfl (lv_at hl 9 rfl) ?_
                                    refine lv_bipush (v := nI 27) hx hb dL_cycles_528 (by decide) ?_
                                    refine ee_ild hx hb hV hP 1 rfl (j := 27) (by omega) (by decide) dL_cycles_530 ?_
                                    refine ee_to (z := gC z 7) (by rw [pk_un (by omega), pk_un (by omega), pk_un (by omega), pk_un (by omega), pk_un (by omega)]; exact hM3.2.2.2.2.1 7 (by decide)) ?_
                                    refine lv_iconst (v := nI 1) hx hb dL_cycles_531 (by decide) ?_
                                    refine lv_iadd hx hb dL_cycles_532 ?_
                                    refine lv_goto (tgt := 537) hx hb dL_cycles_533 (by decide) ?_
                                    exact B_16 ((gC z 7) + (nI 1)) _ _ _ (by rw [cRw, g517]; rfl) hP hD hS (lv_sub hl [0, 1, 2, 3, 4, 5, 6, 7, 8, 9, 10, 11] rfl)
                                  · refine lv_iload hx hb dL_cycles_520 (lv_at hl 0 rfl) ?_
                                    refine lv_bipush (v := nI 6) hx hb dL_cycles_522 (by decide) ?_
                                    refine ee_ne (tgt := 536) hx hb (by omega) (by omega) dL_cycles_524 (by decide) (fun g524 => ?_) (fun g524 => ?_)
                                    · refine lv_iconst (v := nI 0) hx hb dL_cycles_536 (by decide) ?_
                                      exact B_16 (nI 0) _ _ _ (by rw [cRw, if_neg (by simp [isFl, g505, g511, g517, g524])]) hP hD hS (lv_sub hl [0, 1, 2, 3, 4, 5, 6, 7, 8, 9, 10, 11] rfl)
                                    · refine lv_aload_n hx hb dL_cycles_527 rfl (lv_at hl 9 rfl) ?_
                                      refine lv_bipush (v := nI 27) hx hb dL_cycles_528 (by decide) ?_
                                      refine ee_ild hx hb hV hP 1 rfl (j := 27) (by omega) (by decide) dL_cycles_530 ?_
                                      refine ee_to (z := gC z 7) (by rw [pk_un (by omega), pk_un (by omega), pk_un (by omega), pk_un (by omega), pk_un (by omega)]; exact hM3.2.2.2.2.1 7 (by decide)) ?_
                                      refine lv_iconst (v := nI 1) hx hb dL_cycles_531 (by decide) ?_
                                      refine lv_iadd hx hb dL_cycles_532 ?_
                                      refine lv_goto (tgt := 537) hx hb dL_cycles_533 (by decide) ?_
                                      exact B_16 ((gC z 7) + (nI 1)) _ _ _ (by rw [cRw, g524]; rfl) hP hD hS (lv_sub hl [0, 1, 2, 3, 4, 5, 6, 7, 8, 9, 10, 11] rfl)
                            refine lv_iload hx hb dL_cycles_487 (lv_at hl 2 rfl) ?_
                            refine ee_eq0 (tgt := 496) hx hb (by omega) dL_cycles_489 (by decide) (fun g489 => ?_) (fun g489 => ?_)
                            · refine lv_iconst (v := nI 0) hx hb dL_cycles_496 (by decide) ?_
                              refine lv_iadd hx hb dL_cycles_497 ?_
                              exact B_15 ((gC z 6) + (nI 0)) _ _ _ (by rw [if_pos g489, add0]) hP hD hS (lv_sub hl [0, 1, 2, 3, 4, 5, 6, 7, 8, 9, 10, 11] rfl)
                            · refine lv_iconst (v := nI 1) hx hb dL_cycles_492 (by decide) ?_
                              refine lv_goto (tgt := 497) hx hb dL_cycles_493 (by decide) ?_
                              refine lv_iadd hx hb dL_cycles_497 ?_
                              exact B_15 ((gC z 6) + (nI 1)) _ _ _ (by rw [if_neg g489]) hP hD hS (lv_sub hl [0, 1, 2, 3, 4, 5, 6, 7, 8, 9, 10, 11] rfl)
                          refine lv_iload hx hb dL_cycles_470 (lv_at hl 4 rfl) ?_
                          refine ee_le0 (tgt := 479) hx hb (by omega) dL_cycles_472 (by decide) (fun g472 => ?_) (fun g472 => ?_)
                          · refine lv_iconst (v := nI 0) hx hb dL_cycles_479 (by decide) ?_
                            refine lv_iadd hx hb dL_cycles_480 ?_
                            exact B_14 ((gC z 5) + (nI 0)) _ _ _ (by rw [if_neg (by omega), add0]) hP hD hS (lv_sub hl [0, 1, 2, 3, 4, 5, 6, 7, 8, 9, 10, 11] rfl)
                          · refine lv_iconst (v := nI 1) hx hb dL_cycles_475 (by decide) ?_
                            refine lv_goto (tgt := 480) hx hb dL_cycles_476 (by decide) ?_
                            refine lv_iadd hx hb dL_cycles_480 ?_
                            exact B_14 ((gC z 5) + (nI 1)) _ _ _ (by rw [if_pos (by omega)]) hP hD hS (lv_sub hl [0, 1, 2, 3, 4, 5, 6, 7, 8, 9, 10, 11] rfl)
                        refine lv_iload hx hb dL_cycles_452 (lv_at hl 0 rfl) ?_
                        refine ee_le0 (tgt := 462) hx hb (by omega) dL_cycles_454 (by decide) (fun g454 => ?_) (fun g454 => ?_)
                        · refine lv_iconst (v := nI 0) hx hb dL_cycles_462 (by decide) ?_
                          refine lv_iadd hx hb dL_cycles_463 ?_
                          exact B_13 ((gC z 4) + (nI 0)) _ _ _ (by rw [if_pos g454, add0]) hP hD hS (lv_sub hl [0, 1, 2, 3, 4, 5, 6, 7, 8, 9, 10, 11] rfl)
                        · refine lv_iload hx hb dL_cycles_457 (lv_at hl 6 rfl) ?_
                          refine lv_goto (tgt := 463) hx hb dL_cycles_459 (by decide) ?_
                          refine lv_iadd hx hb dL_cycles_463 ?_
                          exact B_13 ((gC z 4) + (nI (cLb z))) _ _ _ (by rw [if_neg g454]) hP hD hS (lv_sub hl [0, 1, 2, 3, 4, 5, 6, 7, 8, 9, 10, 11] rfl)
                      refine lv_iload hx hb dL_cycles_435 (lv_at hl 0 rfl) ?_
                      refine ee_ne0 (tgt := 444) hx hb (by omega) dL_cycles_437 (by decide) (fun g437 => ?_) (fun g437 => ?_)
                      · refine lv_iconst (v := nI 0) hx hb dL_cycles_444 (by decide) ?_
                        refine lv_iadd hx hb dL_cycles_445 ?_
                        exact B_12 ((gC z 3) + (nI 0)) _ _ _ (by rw [if_neg g437, add0]) hP hD hS (lv_sub hl [0, 1, 2, 3, 4, 5, 6, 7, 8, 9, 10, 11] rfl)
                      · refine lv_iconst (v := nI 1) hx hb dL_cycles_440 (by decide) ?_
                        refine lv_goto (tgt := 445) hx hb dL_cycles_441 (by decide) ?_
                        refine lv_iadd hx hb dL_cycles_445 ?_
                        exact B_12 ((gC z 3) + (nI 1)) _ _ _ (by rw [if_pos g437]) hP hD hS (lv_sub hl [0, 1, 2, 3, 4, 5, 6, 7, 8, 9, 10, 11] rfl)
                    refine lv_iload hx hb dL_cycles_335 (lv_at hl 0 rfl) ?_
                    refine ee_ne0 (tgt := 422) hx hb (by omega) dL_cycles_337 (by decide) (fun g337 => ?_) (fun g337 => ?_)
                    · exact B_11 a1 P K _ _ _ (by rw [cPt, if_neg g337]; exact x10) (by omega) ((hM1 46 (by decide)).trans x9) ((hM1 47 (by decide)).trans x8) (fun _ _ _ => rfl) hP hD hS (lv_sub hl [0, 1, 2, 3, 4, 5, 6, 7, 8, 9, 10, 11] rfl)
                    · have ht430 := cTr_430 hO hRw (cRs_0 hO g337).1
                      refine lv_aload_n hx hb dL_cycles_340 rfl (lv_at hl 9 rfl) ?_
                      refine lv_bipush (v := nI 46) hx hb dL_cycles_341 (by decide) ?_
                      have B_21 : ∀ (P2a : Nat) (H : Heap) (locs : List Loc) (ls : Array Slot), ((g6 = 4 ∧ P2a = (P + 32768 * cTr z) / 2) ∨ (g6 = 8 ∧ P2a = 32768 * cTr z) ∨ (g6 = 0 ∧ P2a = P)) → va_P E.1 vwCl [(w0, ee_i E 64 gk), (a0, ee_i E 48 a1)] H → va_D A [(w0, ee_i E 64 gk), (a0, ee_i E 48 a1)] → va_S A s.heap H locs → lv_has ls 13 [(11, .int (nI (cRs z (nI v)))), (10, .int (nI by9)), (9, .int (nI (cBl z))), (8, .int (nI (cEd z))), (7, .int (nI (cSc z))), (6, .int (nI (cTk z))), (5, .int (nI (cLb z))), (4, .int (nI (cTr z))), (3, .int (nI P)), (0, .ref a0), (1, .ref w0), (2, .int (nI v))] → W p l e rmL_cycles s m [.ref a0, .ref w0, .int (nI v)].toArray below meth c H locs 0 0 Q (F0 m 383 ls [.int (nI P2a), .int (nI 46), .ref a0]) := by
                        intro P2a H locs ls hP2 hP hD hS hl
                        refine ee_ist hx hb hV hP hD hS 1 rfl (j := 46) (by omega) (by decide) dL_cycles_383 (fun H locs hP hD hS => ?_)
                        have hP : va_P E.1 vwCl [(w0, ee_i E 64 gk), (a0, ee_i E 48 (upd a1 46 (nI P2a)))] H := hP
                        have hD : va_D A [(w0, ee_i E 64 gk), (a0, ee_i E 48 (upd a1 46 (nI P2a)))] := hD
                        refine lv_aload_n hx hb dL_cycles_384 rfl (lv_at hl 9 rfl) ?_
                        refine lv_bipush (v := nI 47) hx hb dL_cycles_385 (by decide) ?_
                        have B_22 : ∀ (K2a : Nat) (H : Heap) (locs : List Loc) (ls : Array Slot), ((g6 = 4 ∧ K2a = K + 1) ∨ (g6 = 8 ∧ K2a = 0) ∨ (g6 = 0 ∧ K2a = K)) → va_P E.1 vwCl [(w0, ee_i E 64 gk), (a0, ee_i E 48 (upd a1 46 (nI P2a)))] H → va_D A [(w0, ee_i E 64 gk), (a0, ee_i E 48 (upd a1 46 (nI P2a)))] → va_S A s.heap H locs → lv_has ls 13 [(11, .int (nI (cRs z (nI v)))), (10, .int (nI by9)), (9, .int (nI (cBl z))), (8, .int (nI (cEd z))), (7, .int (nI (cSc z))), (6, .int (nI (cTk z))), (5, .int (nI (cLb z))), (4, .int (nI (cTr z))), (3, .int (nI P)), (0, .ref a0), (1, .ref w0), (2, .int (nI v))] → W p l e rmL_cycles s m [.ref a0, .ref w0, .int (nI v)].toArray below meth c H locs 0 0 Q (F0 m 421 ls [.int (nI K2a), .int (nI 47), .ref a0]) := by
                          intro K2a H locs ls hK2 hP hD hS hl
                          refine ee_ist hx hb hV hP hD hS 1 rfl (j := 47) (by omega) (by decide) dL_cycles_421 (fun H locs hP hD hS => ?_)
                          have hP : va_P E.1 vwCl [(w0, ee_i E 64 gk), (a0, ee_i E 48 (upd (upd a1 46 (nI P2a)) 47 (nI K2a)))] H := hP
                          have hD : va_D A [(w0, ee_i E 64 gk), (a0, ee_i E 48 (upd (upd a1 46 (nI P2a)) 47 (nI K2a)))] := hD
                          exact B_11 (upd (upd a1 46 (nI P2a)) 47 (nI K2a)) P2a K2a _ _ _ (pch_cyc hO hRw x10 hK g337 eg6 (by omega)) (by omega) (by rw [pk_un (by decide)]; exact pk_us) pk_us (fun j q1 q2 => by rw [pk_un q2, pk_un q1]) hP hD hS (lv_sub hl [0, 1, 2, 3, 4, 5, 6, 7, 8, 9, 10, 11] rfl)
                        refine lv_aload_n hx hb dL_cycles_387 rfl (lv_at hl 9 rfl) ?_
                        refine lv_bipush (v := nI 6) hx hb dL_cycles_388 (by decide) ?_
                        refine ee_ild hx hb hV hP 1 rfl (j := 6) (by omega) (by decide) dL_cycles_390 ?_
                        refine ee_to (z := nI g6) (by rw [pk_un (by decide)]; exact (hM1 6 (by decide)).trans ((x1 6 (by decide)).trans eg6)) ?_
                        refine lv_iconst (v := nI 4) hx hb dL_cycles_391 (by decide) ?_
                        refine ee_ne (tgt := 404) hx hb (by omega) (by omega) dL_cycles_392 (by decide) (fun g392 => ?_) (fun g392 => ?_)
                        · refine lv_aload_n hx hb dL_cycles_404 rfl (lv_at hl 9 rfl) ?_
                          refine lv_bipush (v := nI 6) hx hb dL_cycles_405 (by decide) ?_
                          refine ee_ild hx hb hV hP 1 rfl (j := 6) (by omega) (by decide) dL_cycles_407 ?_
                          refine ee_to (z := nI g6) (by rw [pk_un (by decide)]; exact (hM1 6 (by decide)).trans ((x1 6 (by decide)).trans eg6)) ?_
                          refine lv_bipush (v := nI 8) hx hb dL_cycles_408 (by decide) ?_
                          refine ee_ne (tgt := 417) hx hb (by omega) (by omega) dL_cycles_410 (by decide) (fun g410 => ?_) (fun g410 => ?_)
                          · refine lv_aload_n hx hb dL_cycles_417 rfl (lv_at hl 9 rfl) ?_
                            refine lv_bipush (v := nI 47) hx hb dL_cycles_418 (by decide) ?_
                            refine ee_ild hx hb hV hP 1 rfl (j := 47) (by omega) (by decide) dL_cycles_420 ?_
                            refine ee_to (z := nI K) (by rw [pk_un (by decide)]; exact (hM1 47 (by decide)).trans x8) ?_
                            exact B_22 K _ _ _ (by omega) hP hD hS (lv_sub hl [0, 1, 2, 3, 4, 5, 6, 7, 8, 9, 10, 11] rfl)
                          · refine lv_iconst (v := nI 0) hx hb dL_cycles_413 (by decide) ?_
                            refine lv_goto (tgt := 421) hx hb dL_cycles_414 (by decide) ?_
                            exact B_22 0 _ _ _ (by omega) hP hD hS (lv_sub hl [0, 1, 2, 3, 4, 5, 6, 7, 8, 9, 10, 11] rfl)
                        · refine lv_aload_n hx hb dL_cycles_395 rfl (lv_at hl 9 rfl) ?_
                          refine lv_bipush (v := nI 47) hx hb dL_cycles_396 (by decide) ?_
                          refine ee_ild hx hb hV hP 1 rfl (j := 47) (by omega) (by decide) dL_cycles_398 ?_
                          refine ee_to (z := nI K) (by rw [pk_un (by decide)]; exact (hM1 47 (by decide)).trans x8) ?_
                          refine lv_iconst (v := nI 1) hx hb dL_cycles_399 (by decide) ?_
                          refine ee_iadd hx hb dL_cycles_400 ?_
                          refine lv_goto (tgt := 421) hx hb dL_cycles_401 (by decide) ?_
                          exact B_22 (K + 1) _ _ _ (by omega) hP hD hS (lv_sub hl [0, 1, 2, 3, 4, 5, 6, 7, 8, 9, 10, 11] rfl)
                      refine lv_aload_n hx hb dL_cycles_343 rfl (lv_at hl 9 rfl) ?_
                      refine lv_bipush (v := nI 6) hx hb dL_cycles_344 (by decide) ?_
                      refine ee_ild hx hb hV hP 1 rfl (j := 6) (by omega) (by decide) dL_cycles_346 ?_
                      refine ee_to (z := nI g6) ((hM1 6 (by decide)).trans ((x1 6 (by decide)).trans eg6)) ?_
                      refine lv_iconst (v := nI 4) hx hb dL_cycles_347 (by decide) ?_
                      refine ee_ne (tgt := 365) hx hb (by omega) (by omega) dL_cycles_348 (by decide) (fun g348 => ?_) (fun g348 => ?_)
                      · refine lv_aload_n hx hb dL_cycles_365 rfl (lv_at hl 9 rfl) ?_
                        refine lv_bipush (v := nI 6) hx hb dL_cycles_366 (by decide) ?_
                        refine ee_ild hx hb hV hP 1 rfl (j := 6) (by omega) (by decide) dL_cycles_368 ?_
                        refine ee_to (z := nI g6) ((hM1 6 (by decide)).trans ((x1 6 (by decide)).trans eg6)) ?_
                        refine lv_bipush (v := nI 8) hx hb dL_cycles_369 (by decide) ?_
                        refine ee_ne (tgt := 382) hx hb (by omega) (by omega) dL_cycles_371 (by decide) (fun g371 => ?_) (fun g371 => ?_)
                        · refine lv_iload_n hx hb dL_cycles_382 rfl (lv_at hl 8 rfl) ?_
                          exact B_21 P _ _ _ (by omega) hP hD hS (lv_sub hl [0, 1, 2, 3, 4, 5, 6, 7, 8, 9, 10, 11] rfl)
                        · refine lv_ldc hx hb hown (hts _ w1_L_cycles) dL_cycles_374 ?_
                          refine ee_to (z := nI 32768) rfl ?_
                          refine lv_iload hx hb dL_cycles_376 (lv_at hl 7 rfl) ?_
                          refine ee_imul hx hb dL_cycles_378 ?_
                          refine lv_goto (tgt := 383) hx hb dL_cycles_379 (by decide) ?_
                          exact B_21 (32768 * (cTr z)) _ _ _ (by omega) hP hD hS (lv_sub hl [0, 1, 2, 3, 4, 5, 6, 7, 8, 9, 10, 11] rfl)
                      · refine lv_iload_n hx hb dL_cycles_351 rfl (lv_at hl 8 rfl) ?_
                        refine lv_ldc hx hb hown (hts _ w1_L_cycles) dL_cycles_352 ?_
                        refine ee_to (z := nI 32768) rfl ?_
                        refine lv_iload hx hb dL_cycles_354 (lv_at hl 7 rfl) ?_
                        refine ee_imul hx hb dL_cycles_356 ?_
                        refine lv_iload_n hx hb dL_cycles_357 rfl (lv_at hl 8 rfl) ?_
                        refine lv_isub hx hb dL_cycles_358 ?_
                        refine lv_iconst (v := nI 2) hx hb dL_cycles_359 (by decide) ?_
                        refine lv_idiv hx hb dL_cycles_360 (by decide) ?_
                        refine lv_iadd hx hb dL_cycles_361 ?_
                        refine ee_to (z := nI ((P + 32768 * cTr z) / 2)) (halfI hpb ht430 (pch_ev x10.2.2.2.2 hK)) ?_
                        refine lv_goto (tgt := 383) hx hb dL_cycles_362 (by decide) ?_
                        exact B_21 ((P + 32768 * cTr z) / 2) _ _ _ (by omega) hP hD hS (lv_sub hl [0, 1, 2, 3, 4, 5, 6, 7, 8, 9, 10, 11] rfl)
                  refine lv_iload hx hb dL_cycles_261 (lv_at hl 2 rfl) ?_
                  refine lv_iconst (v := nI 3) hx hb dL_cycles_263 (by decide) ?_
                  refine ee_ne (tgt := 271) hx hb (by omega) (by omega) dL_cycles_264 (by decide) (fun g264 => ?_) (fun g264 => ?_)
                  · refine lv_iload hx hb dL_cycles_271 (lv_at hl 2 rfl) ?_
                    refine lv_iconst (v := nI 2) hx hb dL_cycles_273 (by decide) ?_
                    refine ee_ne (tgt := 281) hx hb (by omega) (by omega) dL_cycles_274 (by decide) (fun g274 => ?_) (fun g274 => ?_)
                    · refine lv_iload hx hb dL_cycles_281 (lv_at hl 3 rfl) ?_
                      refine ee_le0 (tgt := 290) hx hb (by omega) dL_cycles_283 (by decide) (fun g283 => ?_) (fun g283 => ?_)
                      · refine lv_iload hx hb dL_cycles_290 (lv_at hl 5 rfl) ?_
                        refine ee_ne0 (tgt := 299) hx hb (by omega) dL_cycles_292 (by decide) (fun g292 => ?_) (fun g292 => ?_)
                        · refine lv_iload hx hb dL_cycles_299 (lv_at hl 5 rfl) ?_
                          refine lv_iconst (v := nI 1) hx hb dL_cycles_301 (by decide) ?_
                          refine ee_le (tgt := 309) hx hb (by omega) (by omega) dL_cycles_302 (by decide) (fun g302 => ?_) (fun g302 => ?_)
                          · refine lv_iload hx hb dL_cycles_309 (lv_at hl 1 rfl) ?_
                            refine ee_eq0 (tgt := 319) hx hb (by omega) dL_cycles_311 (by decide) (fun g311 => ?_) (fun g311 => ?_)
                            · refine lv_iload hx hb dL_cycles_319 (lv_at hl 0 rfl) ?_
                              refine lv_aload_n hx hb dL_cycles_321 rfl (lv_at hl 8 rfl) ?_
                              refine lv_iconst (v := nI 5) hx hb dL_cycles_322 (by decide) ?_
                              refine ee_ild hx hb hV hP 1 rfl (j := 5) (by omega) (by decide) dL_cycles_323 ?_
                              refine ee_to (z := nI t5) ((hM1 5 (by decide)).trans ((x1 5 (by decide)).trans et5)) ?_
                              refine ee_le (tgt := 332) hx hb (by omega) (by omega) dL_cycles_324 (by decide) (fun g324 => ?_) (fun g324 => ?_)
                              · refine lv_iconst (v := nI 0) hx hb dL_cycles_332 (by decide) ?_
                                exact B_10 0 _ _ _ (by rw [cRs, hsp2, et5, rsS, if_neg g264, if_neg g274, if_neg (by omega), if_neg g292, if_neg (by omega), if_neg (fun q => q g311), if_neg (fun q => by have := (abs9 hsp1 hv (by omega) hby).mp q; omega)]) hP hD hS (lv_sub hl [0, 1, 2, 3, 4, 5, 6, 7, 8, 9, 10] rfl)
                              · refine lv_bipush (v := nI 7) hx hb dL_cycles_327 (by decide) ?_
                                refine lv_goto (tgt := 333) hx hb dL_cycles_329 (by decide) ?_
                                exact B_10 7 _ _ _ (by rw [cRs, hsp2, et5, rsS, if_neg g264, if_neg g274, if_neg (by omega), if_neg g292, if_neg (by omega), if_neg (fun q => q g311), if_pos ((abs9 hsp1 hv (by omega) hby).mpr (by omega))]) hP hD hS (lv_sub hl [0, 1, 2, 3, 4, 5, 6, 7, 8, 9, 10] rfl)
                            · refine lv_bipush (v := nI 6) hx hb dL_cycles_314 (by decide) ?_
                              refine lv_goto (tgt := 333) hx hb dL_cycles_316 (by decide) ?_
                              exact B_10 6 _ _ _ (by rw [cRs, hsp2, et5, rsS, if_neg g264, if_neg g274, if_neg (by omega), if_neg g292, if_neg (by omega), if_pos g311]) hP hD hS (lv_sub hl [0, 1, 2, 3, 4, 5, 6, 7, 8, 9, 10] rfl)
                          · refine lv_iconst (v := nI 5) hx hb dL_cycles_305 (by decide) ?_
                            refine lv_goto (tgt := 333) hx hb dL_cycles_306 (by decide) ?_
                            exact B_10 5 _ _ _ (by rw [cRs, hsp2, et5, rsS, if_neg g264, if_neg g274, if_neg (by omega), if_neg g292, if_pos (by omega)]) hP hD hS (lv_sub hl [0, 1, 2, 3, 4, 5, 6, 7, 8, 9, 10] rfl)
                        · refine lv_iconst (v := nI 4) hx hb dL_cycles_295 (by decide) ?_
                          refine lv_goto (tgt := 333) hx hb dL_cycles_296 (by decide) ?_
                          exact B_10 4 _ _ _ (by rw [cRs, hsp2, et5, rsS, if_neg g264, if_neg g274, if_neg (by omega), if_pos g292]) hP hD hS (lv_sub hl [0, 1, 2, 3, 4, 5, 6, 7, 8, 9, 10] rfl)
                      · refine lv_iconst (v := nI 3) hx hb dL_cycles_286 (by decide) ?_
                        refine lv_goto (tgt := 333) hx hb dL_cycles_287 (by decide) ?_
                        exact B_10 3 _ _ _ (by rw [cRs, hsp2, et5, rsS, if_neg g264, if_neg g274, if_pos (Nat.pos_of_ne_zero g283)]) hP hD hS (lv_sub hl [0, 1, 2, 3, 4, 5, 6, 7, 8, 9, 10] rfl)
                    · refine lv_iconst (v := nI 2) hx hb dL_cycles_277 (by decide) ?_
                      refine lv_goto (tgt := 333) hx hb dL_cycles_278 (by decide) ?_
                      exact B_10 2 _ _ _ (by rw [cRs, hsp2, et5, rsS, if_neg g264, if_pos g274]) hP hD hS (lv_sub hl [0, 1, 2, 3, 4, 5, 6, 7, 8, 9, 10] rfl)
                  · refine lv_iconst (v := nI 1) hx hb dL_cycles_267 (by decide) ?_
                    refine lv_goto (tgt := 333) hx hb dL_cycles_268 (by decide) ?_
                    exact B_10 1 _ _ _ (by rw [cRs, hsp2, et5, rsS, if_pos g264]) hP hD hS (lv_sub hl [0, 1, 2, 3, 4, 5, 6, 7, 8, 9, 10] rfl)
                refine lv_aload_n hx hb dL_cycles_236 rfl (lv_at hl 7 rfl) ?_
                refine lv_bipush (v := nI 8) hx hb dL_cycles_237 (by decide) ?_
                refine ee_ild hx hb hV hP 1 rfl (j := 8) (by omega) (by decide) dL_cycles_239 ?_
                refine ee_to (z := nI sp) (hsp3) ?_
                refine lv_iload_n hx hb dL_cycles_240 rfl (lv_at hl 9 rfl) ?_
                refine ee_le (tgt := 253) hx hb (by omega) (by omega) dL_cycles_241 (by decide) (fun g241 => ?_) (fun g241 => ?_)
                · refine lv_iload_n hx hb dL_cycles_253 rfl (lv_at hl 9 rfl) ?_
                  refine lv_aload_n hx hb dL_cycles_254 rfl (lv_at hl 7 rfl) ?_
                  refine lv_bipush (v := nI 8) hx hb dL_cycles_255 (by decide) ?_
                  refine ee_ild hx hb hV hP 1 rfl (j := 8) (by omega) (by decide) dL_cycles_257 ?_
                  refine ee_to (z := nI sp) (hsp3) ?_
                  refine ee_isub hx hb (by omega) dL_cycles_258 ?_
                  exact B_9 (v - sp) _ _ _ (by omega) hP hD hS (lv_sub hl [0, 1, 2, 3, 4, 5, 6, 7, 8, 9] rfl)
                · refine lv_aload_n hx hb dL_cycles_244 rfl (lv_at hl 7 rfl) ?_
                  refine lv_bipush (v := nI 8) hx hb dL_cycles_245 (by decide) ?_
                  refine ee_ild hx hb hV hP 1 rfl (j := 8) (by omega) (by decide) dL_cycles_247 ?_
                  refine ee_to (z := nI sp) (hsp3) ?_
                  refine lv_iload_n hx hb dL_cycles_248 rfl (lv_at hl 9 rfl) ?_
                  refine ee_isub hx hb (by omega) dL_cycles_249 ?_
                  refine lv_goto (tgt := 259) hx hb dL_cycles_250 (by decide) ?_
                  exact B_9 (sp - v) _ _ _ (by omega) hP hD hS (lv_sub hl [0, 1, 2, 3, 4, 5, 6, 7, 8, 9] rfl)
              refine lv_iload hx hb dL_cycles_210 (lv_at hl 1 rfl) ?_
              refine lv_iconst (v := nI 1) hx hb dL_cycles_212 (by decide) ?_
              refine ee_ne (tgt := 233) hx hb (by omega) (by omega) dL_cycles_213 (by decide) (fun g213 => ?_) (fun g213 => ?_)
              · refine lv_iconst (v := nI 0) hx hb dL_cycles_233 (by decide) ?_
                exact B_8 0 _ _ _ (by rw [cBl, if_neg (fun q => g213 q.1)]) hP hD hS (lv_sub hl [0, 1, 2, 3, 4, 5, 6, 7, 8, 9] rfl)
              · refine lv_ldc hx hb hown (hts _ w1_L_cycles) dL_cycles_216 ?_
                refine ee_to (z := nI 32768) rfl ?_
                refine lv_iload hx hb dL_cycles_218 (lv_at hl 5 rfl) ?_
                refine lv_aload_n hx hb dL_cycles_220 rfl (lv_at hl 7 rfl) ?_
                refine lv_iconst (v := nI 1) hx hb dL_cycles_221 (by decide) ?_
                refine ee_ild hx hb hV hP 1 rfl (j := 1) (by omega) (by decide) dL_cycles_222 ?_
                refine ee_to (z := nI w) ((hM1 1 (by decide)).trans ((x1 1 (by decide)).trans ew)) ?_
                refine lv_isub hx hb dL_cycles_223 ?_
                refine lv_imul hx hb dL_cycles_224 ?_
                refine lv_iload_n hx hb dL_cycles_225 rfl (lv_at hl 6 rfl) ?_
                refine lv_icmp_le (tgt := 233) hx hb dL_cycles_226 (by decide) (fun g226 => ?_) (fun g226 => ?_)
                · refine lv_iconst (v := nI 0) hx hb dL_cycles_233 (by decide) ?_
                  exact B_8 0 _ _ _ (late_0 x10 ew hw50 k2 g226) hP hD hS (lv_sub hl [0, 1, 2, 3, 4, 5, 6, 7, 8, 9] rfl)
                · refine lv_iconst (v := nI 1) hx hb dL_cycles_229 (by decide) ?_
                  refine lv_goto (tgt := 234) hx hb dL_cycles_230 (by decide) ?_
                  exact B_8 1 _ _ _ (late_1 x10 ew hw50 k2 g213 g226) hP hD hS (lv_sub hl [0, 1, 2, 3, 4, 5, 6, 7, 8, 9] rfl)
            · refine lv_aload_n hx hb dL_cycles_193 rfl (lv_at hl 8 rfl) ?_
              refine lv_iload hx hb dL_cycles_194 (lv_at hl 0 rfl) ?_
              refine lv_aload_n hx hb dL_cycles_196 rfl (lv_at hl 8 rfl) ?_
              refine lv_iload hx hb dL_cycles_197 (lv_at hl 0 rfl) ?_
              refine lv_iload hx hb dL_cycles_199 (lv_at hl 3 rfl) ?_
              refine ee_iadd hx hb dL_cycles_201 ?_
              refine ee_ild hx hb hV hP 0 rfl (j := (kk + (cTk z))) (by omega) (by decide) dL_cycles_202 ?_
              refine ee_ist hx hb hV hP hD hS 0 rfl (j := kk) (by omega) (by decide) dL_cycles_203 (fun H locs hP hD hS => ?_)
              have hP : va_P E.1 vwCl [(w0, ee_i E 64 (upd gk kk (gk (kk + (cTk z))))), (a0, ee_i E 48 a1)] H := hP
              have hD : va_D A [(w0, ee_i E 64 (upd gk kk (gk (kk + (cTk z))))), (a0, ee_i E 48 a1)] := hD
              refine lv_iinc (v := nI (kk + 1)) (lv' := [(9, .int (nI (kk + 1))), (8, .int (nI (cEd z))), (7, .int (nI (cSc z))), (6, .int (nI (cTk z))), (5, .int (nI (cLb z))), (4, .int (nI (cTr z))), (3, .int (nI P)), (0, .ref a0), (1, .ref w0), (2, .int (nI v))]) hx hb dL_cycles_204 hl (k := 0) rfl (ee_inc _) (by decide) rfl (fun ls hl => ?_)
              refine lv_goto (tgt := 184) hx hb dL_cycles_207 (by decide) ?_
              exact ihB_6 (kk + 1) (upd gk kk (gk (kk + (cTk z)))) _ _ _ (by omega) (by omega) (by rw [pk_un (by omega)]; exact b0) (up_s (F := fun j => ww (j + cTk z)) b1 (b2 _ (by omega) (by omega))) (fun j h1 h2 => by rw [pk_un (by omega)]; exact b2 j (by omega) h2) hP hD hS (lv_sub hl [0, 1, 2, 3, 4, 5, 6, 7, 8, 9] rfl)
        exact B_6 ((gN z - cTk z - 0) + 1) 0 wb _ _ _ (Nat.lt_succ_self _) (by omega) (by rw [hwb]; exact pk_us) (fun j h => absurd h (Nat.not_lt_zero _)) (fun j _ h => by rw [hwb]; exact pk_un (by omega)) hP hD hS (lv_sub hl [0, 1, 2, 3, 4, 5, 6, 7, 8, 9] rfl)
      refine ee_ne0 (tgt := 159) hx hb (by omega) dL_cycles_27 (by decide) (fun g27 => ?_) (fun g27 => ?_)
      · refine lv_iload hx hb dL_cycles_159 (lv_at hl 0 rfl) ?_
        refine ee_ne0 (tgt := 168) hx hb (by omega) dL_cycles_161 (by decide) (fun g161 => ?_) (fun g161 => absurd g161 g27)
        refine lv_iload hx hb dL_cycles_168 (lv_at hl 0 rfl) ?_
        exact B_5 ee _ _ _ ((hE.resolve_left (fun q => g27 q.1)).2) hP hD hS (lv_sub hl [0, 1, 2, 3, 4, 5, 6, 7, 8] rfl)
      · refine lv_iload hx hb dL_cycles_30 (lv_at hl 2 rfl) ?_
        refine lv_aload_n hx hb dL_cycles_32 rfl (lv_at hl 7 rfl) ?_
        refine lv_bipush (v := nI 63) hx hb dL_cycles_33 (by decide) ?_
        refine ee_ild hx hb hV hP 0 rfl (j := 63) (by omega) (by decide) dL_cycles_35 ?_
        refine ee_to (z := nI (gN z)) (w63) ?_
        refine ee_ge (tgt := 159) hx hb (by omega) (by omega) dL_cycles_36 (by decide) (fun g36 => ?_) (fun g36 => ?_)
        · refine lv_iload hx hb dL_cycles_159 (lv_at hl 0 rfl) ?_
          refine ee_ne0 (tgt := 168) hx hb (by omega) dL_cycles_161 (by decide) (fun g161 => absurd g27 g161) (fun g161 => ?_)
          refine lv_iconst (v := nI 3) hx hb dL_cycles_164 (by decide) ?_
          refine lv_goto (tgt := 170) hx hb dL_cycles_165 (by decide) ?_
          exact B_5 3 _ _ _ (fd_end (by omega) (hE.resolve_right (fun q => q.1 g27)).2) hP hD hS (lv_sub hl [0, 1, 2, 3, 4, 5, 6, 7, 8] rfl)
        · obtain ⟨k, sz, hk3, hz1, hz69, hz9, hki, hli, hwi⟩ := wi i (by omega)
          have hE0 := (hE.resolve_right (fun q => q.1 g27)).2
          have ht4 : t1 ≤ 400 := ht1.resolve_right (fun q => q g27)
          refine lv_aload_n hx hb dL_cycles_39 rfl (lv_at hl 7 rfl) ?_
          refine lv_iload hx hb dL_cycles_40 (lv_at hl 2 rfl) ?_
          refine ee_ild hx hb hV hP 0 rfl (j := i) (by omega) (by decide) dL_cycles_42 ?_
          refine ee_to (z := nI (100 * k + sz)) (hwi) ?_
          refine lv_bipush (v := nI 100) hx hb dL_cycles_43 (by decide) ?_
          refine lv_idiv hx hb dL_cycles_45 (by decide) ?_
          refine ee_to (z := nI ((100 * k + sz) / 100)) (pk_div (by omega) (by decide) (by decide)) ?_
          refine ee_to (z := nI k) (congrArg nI (by omega)) ?_
          refine lv_istore (lv' := [(9, .int (nI k)), (8, .int (nI ee)), (7, .int (nI s1)), (6, .int (nI i)), (5, .int (nI l1)), (4, .int (nI t1)), (3, .int (nI P)), (0, .ref a0), (1, .ref w0), (2, .int (nI v))]) hx hb dL_cycles_46 hl (by decide) rfl (fun ls hl => ?_)
          refine lv_aload_n hx hb dL_cycles_48 rfl (lv_at hl 8 rfl) ?_
          refine lv_iload hx hb dL_cycles_49 (lv_at hl 3 rfl) ?_
          refine ee_ild hx hb hV hP 0 rfl (j := i) (by omega) (by decide) dL_cycles_51 ?_
          refine ee_to (z := nI (100 * k + sz)) (hwi) ?_
          refine lv_bipush (v := nI 100) hx hb dL_cycles_52 (by decide) ?_
          refine lv_irem hx hb dL_cycles_54 (by decide) ?_
          refine ee_to (z := nI ((100 * k + sz) % 100)) (pk_rem (by omega) (by decide) (by decide)) ?_
          refine ee_to (z := nI sz) (congrArg nI (by omega)) ?_
          refine lv_istore (lv' := [(10, .int (nI sz)), (9, .int (nI k)), (8, .int (nI ee)), (7, .int (nI s1)), (6, .int (nI i)), (5, .int (nI l1)), (4, .int (nI t1)), (3, .int (nI P)), (0, .ref a0), (1, .ref w0), (2, .int (nI v))]) hx hb dL_cycles_55 hl (by decide) rfl (fun ls hl => ?_)
          refine lv_iinc (v := nI (i + 1)) (lv' := [(6, .int (nI (i + 1))), (10, .int (nI sz)), (9, .int (nI k)), (8, .int (nI ee)), (7, .int (nI s1)), (5, .int (nI l1)), (4, .int (nI t1)), (3, .int (nI P)), (0, .ref a0), (1, .ref w0), (2, .int (nI v))]) hx hb dL_cycles_57 hl (k := 4) rfl (ee_inc _) (by decide) rfl (fun ls hl => ?_)
          refine lv_iload hx hb dL_cycles_60 (lv_at hl 6 rfl) ?_
          refine lv_iload hx hb dL_cycles_62 (lv_at hl 1 rfl) ?_
          refine ee_iadd hx hb dL_cycles_64 ?_
          refine lv_istore (lv' := [(4, .int (nI (t1 + sz))), (6, .int (nI (i + 1))), (10, .int (nI sz)), (9, .int (nI k)), (8, .int (nI ee)), (7, .int (nI s1)), (5, .int (nI l1)), (3, .int (nI P)), (0, .ref a0), (1, .ref w0), (2, .int (nI v))]) hx hb dL_cycles_65 hl (by decide) rfl (fun ls hl => ?_)
          have B_23 : ∀ (dl : Nat) (H : Heap) (locs : List Loc) (ls : Array Slot), (cyL (nI k) l1 = l1 + dl) → va_P E.1 vwCl [(w0, ee_i E 64 ww), (a0, ee_i E 48 a1)] H → va_D A [(w0, ee_i E 64 ww), (a0, ee_i E 48 a1)] → va_S A s.heap H locs → lv_has ls 13 [(4, .int (nI (t1 + sz))), (6, .int (nI (i + 1))), (10, .int (nI sz)), (9, .int (nI k)), (8, .int (nI ee)), (7, .int (nI s1)), (5, .int (nI l1)), (3, .int (nI P)), (0, .ref a0), (1, .ref w0), (2, .int (nI v))] → W p l e rmL_cycles s m [.ref a0, .ref w0, .int (nI v)].toArray below meth c H locs 0 0 Q (F0 m 79 ls [.int (nI dl), .int (nI l1)]) := by
            intro dl H locs ls hdl hP hD hS hl
            have hdl2 := cyL_le (nI k) l1
            refine ee_iadd hx hb dL_cycles_79 ?_
            refine lv_istore (lv' := [(5, .int (nI (l1 + dl))), (4, .int (nI (t1 + sz))), (6, .int (nI (i + 1))), (10, .int (nI sz)), (9, .int (nI k)), (8, .int (nI ee)), (7, .int (nI s1)), (3, .int (nI P)), (0, .ref a0), (1, .ref w0), (2, .int (nI v))]) hx hb dL_cycles_80 hl (by decide) rfl (fun ls hl => ?_)
            have B_24 : ∀ (ds : Nat) (H : Heap) (locs : List Loc) (ls : Array Slot), (cyS (nI k) s1 = s1 + ds) → va_P E.1 vwCl [(w0, ee_i E 64 ww), (a0, ee_i E 48 a1)] H → va_D A [(w0, ee_i E 64 ww), (a0, ee_i E 48 a1)] → va_S A s.heap H locs → lv_has ls 13 [(5, .int (nI (l1 + dl))), (4, .int (nI (t1 + sz))), (6, .int (nI (i + 1))), (10, .int (nI sz)), (9, .int (nI k)), (8, .int (nI ee)), (7, .int (nI s1)), (3, .int (nI P)), (0, .ref a0), (1, .ref w0), (2, .int (nI v))] → W p l e rmL_cycles s m [.ref a0, .ref w0, .int (nI v)].toArray below meth c H locs 0 0 Q (F0 m 95 ls [.int (nI ds), .int (nI s1)]) := by
              intro ds H locs ls hds hP hD hS hl
              have hds2 := cyS_le (nI k) s1
              refine ee_iadd hx hb dL_cycles_95 ?_
              refine lv_istore (lv' := [(7, .int (nI (s1 + ds))), (5, .int (nI (l1 + dl))), (4, .int (nI (t1 + sz))), (6, .int (nI (i + 1))), (10, .int (nI sz)), (9, .int (nI k)), (8, .int (nI ee)), (3, .int (nI P)), (0, .ref a0), (1, .ref w0), (2, .int (nI v))]) hx hb dL_cycles_96 hl (by decide) rfl (fun ls hl => ?_)
              have B_25 : ∀ (mk : Nat) (H : Heap) (locs : List Loc) (ls : Array Slot), ((mk = 1 ∧ k = 1 ∧ g0 ≤ sz) ∨ (mk = 0 ∧ ¬ (k = 1 ∧ g0 ≤ sz))) → va_P E.1 vwCl [(w0, ee_i E 64 ww), (a0, ee_i E 48 a1)] H → va_D A [(w0, ee_i E 64 ww), (a0, ee_i E 48 a1)] → va_S A s.heap H locs → lv_has ls 13 [(7, .int (nI (s1 + ds))), (5, .int (nI (l1 + dl))), (4, .int (nI (t1 + sz))), (6, .int (nI (i + 1))), (10, .int (nI sz)), (9, .int (nI k)), (8, .int (nI ee)), (3, .int (nI P)), (0, .ref a0), (1, .ref w0), (2, .int (nI v))] → W p l e rmL_cycles s m [.ref a0, .ref w0, .int (nI v)].toArray below meth c H locs 0 0 Q (F0 m 117 ls [.int (nI mk)]) := by
                intro mk H locs ls hmk hP hD hS hl
                refine lv_istore (lv' := [(11, .int (nI mk)), (7, .int (nI (s1 + ds))), (5, .int (nI (l1 + dl))), (4, .int (nI (t1 + sz))), (6, .int (nI (i + 1))), (10, .int (nI sz)), (9, .int (nI k)), (8, .int (nI ee)), (3, .int (nI P)), (0, .ref a0), (1, .ref w0), (2, .int (nI v))]) hx hb dL_cycles_117 hl (by decide) rfl (fun ls hl => ?_)
                have B_26 : ∀ (e2 : Nat) (H : Heap) (locs : List Loc) (ls : Array Slot), (e2 = fdN g0 w G P k sz (t1 + sz)) → va_P E.1 vwCl [(w0, ee_i E 64 ww), (a0, ee_i E 48 a1)] H → va_D A [(w0, ee_i E 64 ww), (a0, ee_i E 48 a1)] → va_S A s.heap H locs → lv_has ls 13 [(11, .int (nI mk)), (7, .int (nI (s1 + ds))), (5, .int (nI (l1 + dl))), (4, .int (nI (t1 + sz))), (6, .int (nI (i + 1))), (10, .int (nI sz)), (9, .int (nI k)), (8, .int (nI ee)), (3, .int (nI P)), (0, .ref a0), (1, .ref w0), (2, .int (nI v))] → W p l e rmL_cycles s m [.ref a0, .ref w0, .int (nI v)].toArray below meth c H locs 0 0 Q (F0 m 154 ls [.int (nI e2)]) := by
                  intro e2 H locs ls he hP hD hS hl
                  refine lv_istore (lv' := [(8, .int (nI e2)), (11, .int (nI mk)), (7, .int (nI (s1 + ds))), (5, .int (nI (l1 + dl))), (4, .int (nI (t1 + sz))), (6, .int (nI (i + 1))), (10, .int (nI sz)), (9, .int (nI k)), (3, .int (nI P)), (0, .ref a0), (1, .ref w0), (2, .int (nI v))]) hx hb dL_cycles_154 hl (by decide) rfl (fun ls hl => ?_)
                  refine lv_goto (tgt := 25) hx hb dL_cycles_156 (by decide) ?_
                  exact ihB_4 (i + 1) (t1 + sz) (l1 + dl) (s1 + ds) e2 _ _ _ (by omega) (by omega) (by rw [he]; exact fdN_le _ _ _ _ _ _ _) (cyL2 hki hli (by omega) (by omega) hE0 hdl hds (he.trans (fdN_e eg0 ew eG x10 hg0 hw50 hG4 hk3 (by omega) (by omega)).symm)) (by rw [he]; exact fdN_or hG4) (by omega) (by omega) hP hD hS (lv_sub hl [0, 2, 5, 3, 4, 8, 9, 10, 11] rfl)
                refine lv_iload hx hb dL_cycles_119 (lv_at hl 0 rfl) ?_
                refine ee_eq0 (tgt := 141) hx hb (by omega) dL_cycles_121 (by decide) (fun g121 => ?_) (fun g121 => ?_)
                · refine lv_iload hx hb dL_cycles_141 (lv_at hl 3 rfl) ?_
                  refine lv_aload_n hx hb dL_cycles_143 rfl (lv_at hl 9 rfl) ?_
                  refine lv_iconst (v := nI 2) hx hb dL_cycles_144 (by decide) ?_
                  refine ee_ild hx hb hV hP 1 rfl (j := 2) (by omega) (by decide) dL_cycles_145 ?_
                  refine ee_to (z := nI G) ((hM1 2 (by decide)).trans ((x1 2 (by decide)).trans eG)) ?_
                  refine ee_le (tgt := 153) hx hb (by omega) (by omega) dL_cycles_146 (by decide) (fun g146 => ?_) (fun g146 => ?_)
                  · refine lv_iconst (v := nI 0) hx hb dL_cycles_153 (by decide) ?_
                    exact B_26 0 _ _ _ (by rw [fdN, if_neg (fun q => by omega), if_pos g146]) hP hD hS (lv_sub hl [0, 1, 2, 3, 4, 5, 6, 7, 8, 9, 10, 11] rfl)
                  · refine lv_iconst (v := nI 2) hx hb dL_cycles_149 (by decide) ?_
                    refine lv_goto (tgt := 154) hx hb dL_cycles_150 (by decide) ?_
                    exact B_26 2 _ _ _ (by rw [fdN, if_neg (fun q => by omega), if_neg g146]) hP hD hS (lv_sub hl [0, 1, 2, 3, 4, 5, 6, 7, 8, 9, 10, 11] rfl)
                · refine lv_ldc hx hb hown (hts _ w1_L_cycles) dL_cycles_124 ?_
                  refine ee_to (z := nI 32768) rfl ?_
                  refine lv_iload hx hb dL_cycles_126 (lv_at hl 3 rfl) ?_
                  refine lv_aload_n hx hb dL_cycles_128 rfl (lv_at hl 9 rfl) ?_
                  refine lv_iconst (v := nI 1) hx hb dL_cycles_129 (by decide) ?_
                  refine ee_ild hx hb hV hP 1 rfl (j := 1) (by omega) (by decide) dL_cycles_130 ?_
                  refine ee_to (z := nI w) ((hM1 1 (by decide)).trans ((x1 1 (by decide)).trans ew)) ?_
                  refine ee_iadd hx hb dL_cycles_131 ?_
                  refine ee_imul hx hb dL_cycles_132 ?_
                  refine lv_iload_n hx hb dL_cycles_133 rfl (lv_at hl 8 rfl) ?_
                  refine ee_lt (tgt := 141) hx hb (by omega) (by omega) dL_cycles_134 (by decide) (fun g134 => ?_) (fun g134 => ?_)
                  · refine lv_iload hx hb dL_cycles_141 (lv_at hl 3 rfl) ?_
                    refine lv_aload_n hx hb dL_cycles_143 rfl (lv_at hl 9 rfl) ?_
                    refine lv_iconst (v := nI 2) hx hb dL_cycles_144 (by decide) ?_
                    refine ee_ild hx hb hV hP 1 rfl (j := 2) (by omega) (by decide) dL_cycles_145 ?_
                    refine ee_to (z := nI G) ((hM1 2 (by decide)).trans ((x1 2 (by decide)).trans eG)) ?_
                    refine ee_le (tgt := 153) hx hb (by omega) (by omega) dL_cycles_146 (by decide) (fun g146 => ?_) (fun g146 => ?_)
                    · refine lv_iconst (v := nI 0) hx hb dL_cycles_153 (by decide) ?_
                      exact B_26 0 _ _ _ (by rw [fdN, if_neg (fun q => q.2 g134), if_pos g146]) hP hD hS (lv_sub hl [0, 1, 2, 3, 4, 5, 6, 7, 8, 9, 10, 11] rfl)
                    · refine lv_iconst (v := nI 2) hx hb dL_cycles_149 (by decide) ?_
                      refine lv_goto (tgt := 154) hx hb dL_cycles_150 (by decide) ?_
                      exact B_26 2 _ _ _ (by rw [fdN, if_neg (fun q => q.2 g134), if_neg g146]) hP hD hS (lv_sub hl [0, 1, 2, 3, 4, 5, 6, 7, 8, 9, 10, 11] rfl)
                  · refine lv_iconst (v := nI 1) hx hb dL_cycles_137 (by decide) ?_
                    refine lv_goto (tgt := 154) hx hb dL_cycles_138 (by decide) ?_
                    exact B_26 1 _ _ _ (by rw [fdN, if_pos ⟨by omega, g134⟩]) hP hD hS (lv_sub hl [0, 1, 2, 3, 4, 5, 6, 7, 8, 9, 10, 11] rfl)
              refine lv_iload hx hb dL_cycles_98 (lv_at hl 5 rfl) ?_
              refine lv_iconst (v := nI 1) hx hb dL_cycles_100 (by decide) ?_
              refine ee_ne (tgt := 116) hx hb (by omega) (by omega) dL_cycles_101 (by decide) (fun g101 => ?_) (fun g101 => ?_)
              · refine lv_iconst (v := nI 0) hx hb dL_cycles_116 (by decide) ?_
                exact B_25 0 _ _ _ (by omega) hP hD hS (lv_sub hl [0, 1, 2, 3, 4, 5, 6, 7, 8, 9, 10] rfl)
              · refine lv_iload hx hb dL_cycles_104 (lv_at hl 4 rfl) ?_
                refine lv_aload_n hx hb dL_cycles_106 rfl (lv_at hl 8 rfl) ?_
                refine lv_iconst (v := nI 0) hx hb dL_cycles_107 (by decide) ?_
                refine ee_ild hx hb hV hP 1 rfl (j := 0) (by omega) (by decide) dL_cycles_108 ?_
                refine ee_to (z := nI g0) ((hM1 0 (by decide)).trans ((x1 0 (by decide)).trans eg0)) ?_
                refine ee_lt (tgt := 116) hx hb (by omega) (by omega) dL_cycles_109 (by decide) (fun g109 => ?_) (fun g109 => ?_)
                · refine lv_iconst (v := nI 0) hx hb dL_cycles_116 (by decide) ?_
                  exact B_25 0 _ _ _ (by omega) hP hD hS (lv_sub hl [0, 1, 2, 3, 4, 5, 6, 7, 8, 9, 10] rfl)
                · refine lv_iconst (v := nI 1) hx hb dL_cycles_112 (by decide) ?_
                  refine lv_goto (tgt := 117) hx hb dL_cycles_113 (by decide) ?_
                  exact B_25 1 _ _ _ (by omega) hP hD hS (lv_sub hl [0, 1, 2, 3, 4, 5, 6, 7, 8, 9, 10] rfl)
            refine lv_iload hx hb dL_cycles_82 (lv_at hl 6 rfl) ?_
            refine lv_iload hx hb dL_cycles_84 (lv_at hl 4 rfl) ?_
            refine lv_iconst (v := nI 3) hx hb dL_cycles_86 (by decide) ?_
            refine ee_ne (tgt := 94) hx hb (by omega) (by omega) dL_cycles_87 (by decide) (fun g87 => ?_) (fun g87 => ?_)
            · refine lv_iconst (v := nI 0) hx hb dL_cycles_94 (by decide) ?_
              exact B_24 0 _ _ _ (by rw [cyS, if_neg (fun q => g87 ((nI_eq (by omega) (by decide)).mp q)), Nat.add_zero]) hP hD hS (lv_sub hl [0, 1, 2, 3, 4, 5, 6, 7, 8, 9, 10] rfl)
            · refine lv_iconst (v := nI 1) hx hb dL_cycles_90 (by decide) ?_
              refine lv_goto (tgt := 95) hx hb dL_cycles_91 (by decide) ?_
              exact B_24 1 _ _ _ (by rw [cyS, g87, if_pos rfl]) hP hD hS (lv_sub hl [0, 1, 2, 3, 4, 5, 6, 7, 8, 9, 10] rfl)
          refine lv_iload hx hb dL_cycles_67 (lv_at hl 6 rfl) ?_
          refine lv_iload hx hb dL_cycles_69 (lv_at hl 3 rfl) ?_
          refine ee_ne0 (tgt := 78) hx hb (by omega) dL_cycles_71 (by decide) (fun g71 => ?_) (fun g71 => ?_)
          · refine lv_iconst (v := nI 0) hx hb dL_cycles_78 (by decide) ?_
            exact B_23 0 _ _ _ (by rw [cyL, if_neg (fun q => g71 ((nI_eq (by omega) (by decide)).mp q)), Nat.add_zero]) hP hD hS (lv_sub hl [0, 1, 2, 3, 4, 5, 6, 7, 8, 9, 10] rfl)
          · refine lv_iconst (v := nI 1) hx hb dL_cycles_74 (by decide) ?_
            refine lv_goto (tgt := 79) hx hb dL_cycles_75 (by decide) ?_
            exact B_23 1 _ _ _ (by rw [cyL, g71, if_pos rfl]) hP hD hS (lv_sub hl [0, 1, 2, 3, 4, 5, 6, 7, 8, 9, 10] rfl)
  exact B_4 ((gN z - 0) + 1) 0 0 0 0 0 _ _ _ (Nat.lt_succ_self _) (by omega) (by omega) (Or.inl ⟨rfl, k0⟩) (Or.inl (by decide)) (by omega) (by omega) hP hD hS (lv_sub hl [0, 1, 2, 3, 4, 5, 6, 7, 8] rfl)
