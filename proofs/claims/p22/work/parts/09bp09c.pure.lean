/-! pure facts for 09c.model.lean.txt -/
def cHs (z : Sg) : Nat := if 0 < cSc z then 1 else 0
theorem cHs_0 {z : Sg} (h : cHs z = 0) : ¬ 0 < cSc z := fun q => by rw [cHs, if_pos q] at h; omega
theorem cHs_1 {z : Sg} (h : ¬ cHs z = 0) : 0 < cSc z := by
  refine Decidable.byContradiction fun q => h ?_
  rw [cHs, if_neg q]
theorem cHs_2 (z : Sg) : cHs z < 2 := by unfold cHs; split <;> omega
theorem cBl_2 (z : Sg) : cBl z < 2 := by unfold cBl; split <;> omega
theorem cyM1 {z : Sg} {ar a1 : Nat → Int32} {pt : UInt32} {v : Nat} (h : rM z ar pt) (ha : a1 = upd ar 169 (follow (ar 169) (ar 165) (ar 164) (nI v))) : a1 0 = nI (gN z) ∧ gN z ≤ 80 ∧ (∀ i, i < gN z → lnOK (a1 (81 + i))) ∧ vf_n32 (FP.fsub pt (FP.i2f (a1 162))) ∧ fdS (fun i => a1 (1 + i)) (fun i => a1 (81 + i)) (fun j => a1 (161 + j)) pt (gN z) 0 0 0 0 = (cTk z, cTr z, cLb z, cSc z, cEd z) ∧ a1 169 = cSp z (nI v) ∧ ∀ j, j ≠ 169 → a1 j = ar j := by
  obtain ⟨hO, h0, hw, hs, hv, hT, hr, hc, hb, hl, hp⟩ := h
  have hn := hO.1
  have f : ∀ j, j ≠ 169 → a1 j = ar j := fun j hj => by rw [ha, pk_un hj]
  subst hp
  refine ⟨(f 0 (by decide)).trans h0, hn, fun i hi => ?_, ?_, ?_, ?_, f⟩
  · rw [f _ (by omega), (hw i hi).2]
    exact hO.2.1 i hi
  · rw [f 162 (by decide), show ar 162 = gS z 1 from hs 1 (by decide)]
    exact (cy_win hO).1
  · rw [← (cy_inv hO).1]
    refine fdS_congr (fun j hj => ?_) (gN z) 0 0 0 0 (fun j _ hj => ?_)
    · show a1 (161 + j) = gS z j
      rw [f _ (by omega)]
      exact hs j hj
    · show a1 (1 + j) = gK z j ∧ a1 (81 + j) = gL z j
      rw [f _ (by omega), f _ (by omega)]
      exact hw j (by omega)
  · rw [ha, pk_us, hv, show ar 165 = gS z 4 from hs 4 (by decide), show ar 164 = gS z 3 from hs 3 (by decide)]
    rfl
theorem cyM2 {z : Sg} {ar a1 a2 : Nat → Int32} {pt : UInt32} {v : Nat} (h : rM z ar pt) (c1 : a1 169 = cSp z (nI v)) (c2 : ∀ j, j ≠ 169 → a1 j = ar j) (b1 : ∀ j, j < gN z - cTk z → a2 (1 + j) = a1 (1 + j + cTk z) ∧ a2 (81 + j) = a1 (81 + j + cTk z)) (b2 : ∀ j, 161 ≤ j → a2 j = a1 j) :
    (∀ j, j < gN z - cTk z → a2 (1 + j) = gK z (j + cTk z) ∧ a2 (81 + j) = gL z (j + cTk z)) ∧ (∀ j, j < 8 → a2 (161 + j) = gS z j) ∧ a2 169 = cSp z (nI v) ∧ a2 170 = nI (gT z) ∧ (∀ j, j < 10 → a2 (171 + j) = gR z j) ∧ (∀ j, j < 9 → a2 (181 + j) = gC z j) ∧ (∀ j, j < 8 → a2 (190 + j) = gB z j) := by
  obtain ⟨hO, h0, hw, hs, hv, hT, hr, hc, hb, hl, hp⟩ := h
  have hn := hO.1
  have f : ∀ j, 161 ≤ j → j ≠ 169 → a2 j = ar j := fun j h1 h2 => (b2 j h1).trans (c2 j h2)
  refine ⟨fun j hj => ?_, fun j hj => ?_, (b2 169 (by decide)).trans c1, (f 170 (by decide) (by decide)).trans hT, fun j hj => ?_, fun j hj => ?_, fun j hj => ?_⟩
  · obtain ⟨x1, x2⟩ := b1 j hj
    have := hw (j + cTk z) (by omega)
    rw [x1, x2, c2 _ (by omega), c2 _ (by omega), show 1 + j + cTk z = 1 + (j + cTk z) by omega, show 81 + j + cTk z = 81 + (j + cTk z) by omega]
    exact this
  · rw [f _ (by omega) (by omega)]; exact hs j hj
  · rw [f _ (by omega) (by omega)]; exact hr j hj
  · rw [f _ (by omega) (by omega)]; exact hc j hj
  · rw [f _ (by omega) (by omega)]; exact hb j hj
theorem cyM3 {a2 a3 : Nat → Int32} {r : Nat} {y3 y4 y5 y6 y7 x8 x9 : Int32} (hr : r ≤ 7) (ha : a3 = upd (upd (upd (upd (upd (upd (upd a2 184 y3) 185 y4) 186 y5) 187 y6) (190 + r) x8) 181 x9) 188 y7) :
    a3 184 = y3 ∧ a3 185 = y4 ∧ a3 186 = y5 ∧ a3 187 = y6 ∧ a3 (190 + r) = x8 ∧ a3 181 = x9 ∧ a3 188 = y7 ∧ ∀ j, j ≠ 184 → j ≠ 185 → j ≠ 186 → j ≠ 187 → j ≠ 190 + r → j ≠ 181 → j ≠ 188 → a3 j = a2 j := by
  subst ha
  refine ⟨?_, ?_, ?_, ?_, ?_, ?_, ?_, fun j h1 h2 h3 h4 h5 h6 h7 => ?_⟩
  · rw [pk_un (by omega), pk_un (by omega), pk_un (by omega), pk_un (by omega), pk_un (by omega), pk_un (by omega), pk_us]
  · rw [pk_un (by omega), pk_un (by omega), pk_un (by omega), pk_un (by omega), pk_un (by omega), pk_us]
  · rw [pk_un (by omega), pk_un (by omega), pk_un (by omega), pk_un (by omega), pk_us]
  · rw [pk_un (by omega), pk_un (by omega), pk_un (by omega), pk_us]
  · rw [pk_un (by omega), pk_un (by omega), pk_us]
  · rw [pk_un (by omega), pk_us]
  · rw [pk_us]
  · rw [pk_un h7, pk_un h6, pk_un h5, pk_un h4, pk_un h3, pk_un h2, pk_un h1]
theorem cyM4 {a4 a5 : Nat → Int32} {x0 x1 x2 x3 x4 x5 y8 : Int32} (ha : a5 = upd (upd (upd (upd (upd (upd (upd a4 198 x0) 199 x1) 200 x2) 201 x3) 202 x4) 203 x5) 189 y8) :
    a5 198 = x0 ∧ a5 199 = x1 ∧ a5 200 = x2 ∧ a5 201 = x3 ∧ a5 202 = x4 ∧ a5 203 = x5 ∧ a5 189 = y8 ∧ ∀ j, (j < 189 ∨ (189 < j ∧ j < 198) ∨ 203 < j) → a5 j = a4 j := by
  subst ha
  refine ⟨?_, ?_, ?_, ?_, ?_, ?_, ?_, fun j h => ?_⟩
  · rw [pk_un (by omega), pk_un (by omega), pk_un (by omega), pk_un (by omega), pk_un (by omega), pk_un (by omega), pk_us]
  · rw [pk_un (by omega), pk_un (by omega), pk_un (by omega), pk_un (by omega), pk_un (by omega), pk_us]
  · rw [pk_un (by omega), pk_un (by omega), pk_un (by omega), pk_un (by omega), pk_us]
  · rw [pk_un (by omega), pk_un (by omega), pk_un (by omega), pk_us]
  · rw [pk_un (by omega), pk_un (by omega), pk_us]
  · rw [pk_un (by omega), pk_us]
  · rw [pk_us]
  · rw [pk_un (by omega), pk_un (by omega), pk_un (by omega), pk_un (by omega), pk_un (by omega), pk_un (by omega), pk_un (by omega)]
theorem cyM5 {z : Sg} {a2 a3 a4 a5 : Nat → Int32} {pu : UInt32} {v : Nat} (hO : OKs z) (hv : v ≤ 1000) (b0 : a2 0 = nI (gN z - cTk z))
    (hM2 : (∀ j, j < gN z - cTk z → a2 (1 + j) = gK z (j + cTk z) ∧ a2 (81 + j) = gL z (j + cTk z)) ∧ (∀ j, j < 8 → a2 (161 + j) = gS z j) ∧ a2 169 = cSp z (nI v) ∧ a2 170 = nI (gT z) ∧ (∀ j, j < 10 → a2 (171 + j) = gR z j) ∧ (∀ j, j < 9 → a2 (181 + j) = gC z j) ∧ (∀ j, j < 8 → a2 (190 + j) = gB z j))
    (hM3 : a3 184 = (if cRs z (nI v) = 0 then gC z 3 + nI 1 else gC z 3) ∧ a3 185 = (if cRs z (nI v) = 0 then gC z 4 else gC z 4 + nI (cLb z)) ∧ a3 186 = (if 0 < cSc z then gC z 5 + nI 1 else gC z 5) ∧ a3 187 = (if cBl z = 0 then gC z 6 else gC z 6 + nI 1) ∧ a3 (190 + cRs z (nI v)) = gB z (cRs z (nI v)) + nI 1 ∧ a3 181 = gC z 0 + nI 1 ∧ a3 188 = cRw z (nI v) ∧ ∀ j, j ≠ 184 → j ≠ 185 → j ≠ 186 → j ≠ 187 → j ≠ 190 + cRs z (nI v) → j ≠ 181 → j ≠ 188 → a3 j = a2 j)
    (c1 : ∀ j, j < 10 → a4 (171 + j) = rgS (fun j => a3 (171 + j)) (gT z) (nI (cRs z (nI v))) j) (c2 : a4 182 = gtA (a3 (171 + (gT z - 1))) (a3 182)) (c3 : a4 183 = gtB (a3 (171 + (gT z - 1))) (a3 183)) (c4 : ∀ j, (j < 171 ∨ 181 ≤ j) → j ≠ 182 → j ≠ 183 → a4 j = a3 j)
    (hM4 : a5 198 = nI (cTr z) ∧ a5 199 = nI (cLb z) ∧ a5 200 = nI (cRs z (nI v)) ∧ a5 201 = cSp z (nI v) ∧ a5 202 = nI (cTk z) ∧ a5 203 = nI (cEd z) ∧ a5 189 = (if cRw z (nI v) < gS z 7 then gC z 8 else nI 1) ∧ ∀ j, (j < 189 ∨ (189 < j ∧ j < 198) ∨ 203 < j) → a5 j = a4 j)
    (hpu : pu = cPt z (nI v)) : rM (cyc z (nI v)) a5 pu := by
  obtain ⟨w1, w2, w3, w4, w5, w6, w7⟩ := hM2
  obtain ⟨t1, t2, t3, t4, t5, t6, t7, t8⟩ := hM3
  obtain ⟨l1, l2, l3, l4, l5, l6, l7, l8⟩ := hM4
  have hr := cRs_le z (nI v)
  have hn := hO.1
  have hT := hO.2.2.2.2.1
  have lo : ∀ j, j < 171 → a5 j = a2 j := fun j hj => by
    rw [l8 j (by omega), c4 j (by omega) (by omega) (by omega), t8 j (by omega) (by omega) (by omega) (by omega) (by omega) (by omega) (by omega)]
  have r3 : ∀ j, j < 10 → a3 (171 + j) = gR z j := fun j hj => by
    rw [t8 _ (by omega) (by omega) (by omega) (by omega) (by omega) (by omega) (by omega)]
    exact w5 j hj
  have g3 := r3 (gT z - 1) (by omega)
  refine ⟨cyc_OK hO hv, (lo 0 (by decide)).trans b0, fun i hi => ?_, fun j hj => ?_, (lo 169 (by decide)).trans w3, (lo 170 (by decide)).trans w4, fun j hj => ?_, fun j hj => ?_, fun j hj => ?_, fun j hj => ?_, hpu⟩
  · have hi : i < gN z - cTk z := hi
    rw [lo _ (by omega), lo _ (by omega)]
    exact w1 i hi
  · rw [lo _ (by omega)]
    exact w2 j hj
  · rw [l8 _ (by omega), c1 j hj]
    show rgS _ (gT z) (nI (cRs z (nI v))) j = rgS (gR z) (gT z) (nI (cRs z (nI v))) j
    unfold rgS
    split
    · split
      · rfl
      · exact r3 (j - 1) (by omega)
    · exact r3 j hj
  · rcases (show j = 0 ∨ j = 1 ∨ j = 2 ∨ j = 3 ∨ j = 4 ∨ j = 5 ∨ j = 6 ∨ j = 7 ∨ j = 8 by omega) with rfl | rfl | rfl | rfl | rfl | rfl | rfl | rfl | rfl
    · exact ((l8 181 (by decide)).trans (c4 181 (by decide) (by decide) (by decide))).trans t6
    · have e : a3 182 = gC z 1 := (t8 182 (by decide) (by decide) (by decide) (by decide) (by omega) (by decide) (by decide)).trans (w6 1 (by decide))
      rw [g3, e] at c2
      exact (l8 182 (by decide)).trans c2
    · have e : a3 183 = gC z 2 := (t8 183 (by decide) (by decide) (by decide) (by decide) (by omega) (by decide) (by decide)).trans (w6 2 (by decide))
      rw [g3, e] at c3
      exact (l8 183 (by decide)).trans c3
    · exact ((l8 184 (by decide)).trans (c4 184 (by decide) (by decide) (by decide))).trans t1
    · exact ((l8 185 (by decide)).trans (c4 185 (by decide) (by decide) (by decide))).trans t2
    · exact ((l8 186 (by decide)).trans (c4 186 (by decide) (by decide) (by decide))).trans t3
    · exact ((l8 187 (by decide)).trans (c4 187 (by decide) (by decide) (by decide))).trans t4
    · exact ((l8 188 (by decide)).trans (c4 188 (by decide) (by decide) (by decide))).trans t7
    · exact l7
  · show a5 (190 + j) = upd (gB z) (cRs z (nI v)) (gB z (cRs z (nI v)) + nI 1) j
    rw [l8 _ (by omega), c4 _ (by omega) (by omega) (by omega)]
    by_cases e : j = cRs z (nI v)
    · rw [e, pk_us]; exact t5
    · rw [pk_un e, t8 _ (by omega) (by omega) (by omega) (by omega) (by omega) (by omega) (by omega)]
      exact w7 j hj
  · rcases (show j = 0 ∨ j = 1 ∨ j = 2 ∨ j = 3 ∨ j = 4 ∨ j = 5 by omega) with rfl | rfl | rfl | rfl | rfl | rfl
    · exact l1
    · exact l2
    · exact l3
    · exact l4
    · exact l5
    · exact l6
