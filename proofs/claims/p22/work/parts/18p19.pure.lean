/-! pure facts for 19.law.lean.txt -/
theorem cyL_le (k : Int32) (n : Nat) : n ≤ cyL k n ∧ cyL k n ≤ n + 1 := by unfold cyL; split <;> omega
theorem cyS_le (k : Int32) (n : Nat) : n ≤ cyS k n ∧ cyS k n ≤ n + 1 := by unfold cyS; split <;> omega
theorem fdN_le (g0 w G P k sz tr : Nat) : fdN g0 w G P k sz tr ≤ 2 := by
  unfold fdN
  split
  · decide
  · split <;> decide
theorem fdN_or {g0 w G P k sz tr : Nat} (h : G ≤ 400) : tr ≤ 400 ∨ ¬ fdN g0 w G P k sz tr = 0 := by
  unfold fdN
  split
  · exact Or.inr (by decide)
  · split
    · exact Or.inl (by omega)
    · exact Or.inr (by decide)
theorem cyL1 {z : Sg} {aa a1 : Nat → Int32} {s8 c4 g3 v : Nat} (e8 : gV z = nI s8) (e4 : gS z 4 = nI c4) (e3 : gS z 3 = nI g3) (hs : s8 ≤ 1000) (hc : c4 ≤ 1000) (hg : g3 ≤ 1000) (hv : v ≤ 1000) (ha : a1 = upd aa 8 (nI (foN s8 c4 g3 v))) : ∃ sp, sp ≤ 1000 ∧ cSp z (nI v) = nI sp ∧ a1 8 = nI sp ∧ ∀ j, j ≠ 8 → a1 j = aa j := by
  refine ⟨foN s8 c4 g3 v, ?_, ?_, by rw [ha, pk_us], fun j hj => by rw [ha, pk_un hj]⟩
  · unfold foN
    by_cases h1 : g3 < s8 + c4
    · rw [if_pos h1]
      split
      · omega
      · split
        · omega
        · split <;> omega
    · rw [if_neg h1]
      split
      · omega
      · split
        · omega
        · split <;> omega
  · rw [cSp, e8, e4, e3]
    exact foN_f hs hc hg hv
theorem cyL2 {z : Sg} {i t1 l1 s1 k sz dl ds e2 : Nat} {R : Nat × Nat × Nat × Nat × Nat} (hk : gK z i = nI k) (hl : gL z i = nI sz) (hi : i < gN z) (hz : sz < 2 ^ 31) (h : fdS (gK z) (gL z) (gS z) (gP z) (gN z - i) i t1 l1 s1 = R) (hdl : cyL (nI k) l1 = l1 + dl) (hds : cyS (nI k) s1 = s1 + ds) (he : e2 = fdE (gS z) (gP z) (nI k) (nI sz) (t1 + sz)) :
    (e2 = 0 ∧ fdS (gK z) (gL z) (gS z) (gP z) (gN z - (i + 1)) (i + 1) (t1 + sz) (l1 + dl) (s1 + ds) = R) ∨ (e2 ≠ 0 ∧ (i + 1, t1 + sz, l1 + dl, s1 + ds, e2) = R) := by
  have h2 := fd_next (κ := gK z) (lm := gL z) hi h
  rw [hk, hl, nv_nI hz, hdl, hds, ← he] at h2
  exact h2
theorem cyL3 {z : Sg} {aa a1 a3 : Nat → Int32} {K sp : Nat} {v : Int32} (h : rA z aa K) (h1 : ∀ j, j ≠ 8 → a1 j = aa j) (hs : cSp z v = nI sp) (h8 : a1 8 = nI sp) (h3 : ∀ j, j ≠ 46 → j ≠ 47 → a3 j = a1 j) :
    (∀ j, j < 8 → a3 j = gS z j) ∧ a3 8 = cSp z v ∧ a3 9 = nI (gT z) ∧ (∀ j, j < 10 → a3 (10 + j) = gR z j) ∧ (∀ j, j < 9 → a3 (20 + j) = gC z j) ∧ ∀ j, j < 8 → a3 (30 + j) = gB z j := by
  obtain ⟨x1, x2, x3, x4, x5, x6, -⟩ := h
  have f : ∀ j, j ≠ 8 → j ≠ 46 → j ≠ 47 → a3 j = aa j := fun j q1 q2 q3 => (h3 j q2 q3).trans (h1 j q1)
  refine ⟨fun j hj => ?_, ?_, (f 9 (by decide) (by decide) (by decide)).trans x3, fun j hj => ?_, fun j hj => ?_, fun j hj => ?_⟩
  · rw [f j (by omega) (by omega) (by omega)]; exact x1 j hj
  · rw [h3 8 (by decide) (by decide), h8, hs]
  · rw [f _ (by omega) (by omega) (by omega)]; exact x4 j hj
  · rw [f _ (by omega) (by omega) (by omega)]; exact x5 j hj
  · rw [f _ (by omega) (by omega) (by omega)]; exact x6 j hj
theorem cyL4 {a3 a4 : Nat → Int32} {r : Nat} {x0 y3 y4 y5 y6 y7 y8 x8 : Int32} (hr : r ≤ 7) (ha : a4 = upd (upd (upd (upd (upd (upd (upd (upd a3 20 x0) 23 y3) 24 y4) 25 y5) 26 y6) 27 y7) 28 y8) (30 + r) x8) :
    a4 20 = x0 ∧ a4 23 = y3 ∧ a4 24 = y4 ∧ a4 25 = y5 ∧ a4 26 = y6 ∧ a4 27 = y7 ∧ a4 28 = y8 ∧ a4 (30 + r) = x8 ∧ ∀ j, (j < 20 ∨ j = 21 ∨ j = 22 ∨ 29 ≤ j) → j ≠ 30 + r → a4 j = a3 j := by
  subst ha
  refine ⟨?_, ?_, ?_, ?_, ?_, ?_, ?_, pk_us, fun j h1 h2 => ?_⟩
  · rw [pk_un (by omega), pk_un (by decide), pk_un (by decide), pk_un (by decide), pk_un (by decide), pk_un (by decide), pk_un (by decide), pk_us]
  · rw [pk_un (by omega), pk_un (by decide), pk_un (by decide), pk_un (by decide), pk_un (by decide), pk_un (by decide), pk_us]
  · rw [pk_un (by omega), pk_un (by decide), pk_un (by decide), pk_un (by decide), pk_un (by decide), pk_us]
  · rw [pk_un (by omega), pk_un (by decide), pk_un (by decide), pk_un (by decide), pk_us]
  · rw [pk_un (by omega), pk_un (by decide), pk_un (by decide), pk_us]
  · rw [pk_un (by omega), pk_un (by decide), pk_us]
  · rw [pk_un (by omega), pk_us]
  · rw [pk_un h2, pk_un (by omega), pk_un (by omega), pk_un (by omega), pk_un (by omega), pk_un (by omega), pk_un (by omega), pk_un (by omega)]
theorem tnG_1 {bk gk : Nat → Int32} {kk st : Nat} (hk : 0 < kk) (q1 : ∀ j, kk < j → j < st → bk (10 + j) = gk (10 + (j - 1))) (q2 : ∀ j, j ≤ kk ∨ st ≤ j → bk (10 + j) = gk (10 + j)) : ∀ j, kk - 1 < j → j < st → upd bk (10 + kk) (bk (9 + kk)) (10 + j) = gk (10 + (j - 1)) := by
  intro j h1 h2
  by_cases e : j = kk
  · subst e
    rw [pk_us, show 9 + j = 10 + (j - 1) by omega]
    exact q2 (j - 1) (Or.inl (by omega))
  · rw [pk_un (by omega)]
    exact q1 j (by omega) h2
theorem tnG_2 {bk gk : Nat → Int32} {kk st : Nat} {x : Int32} (q2 : ∀ j, j ≤ kk ∨ st ≤ j → bk (10 + j) = gk (10 + j)) (hk : 0 < kk) (hs : kk < st) : ∀ j, j ≤ kk - 1 ∨ st ≤ j → upd bk (10 + kk) x (10 + j) = gk (10 + j) := by
  intro j h
  rw [pk_un (by omega)]
  exact q2 j (by omega)
theorem cyL6 {bk a9 : Nat → Int32} {x0 x1 x2 x3 x4 x5 x6 : Int32} (ha : a9 = upd (upd (upd (upd (upd (upd (upd bk 10 x0) 40 x1) 41 x2) 42 x3) 43 x4) 44 x5) 45 x6) :
    a9 10 = x0 ∧ a9 40 = x1 ∧ a9 41 = x2 ∧ a9 42 = x3 ∧ a9 43 = x4 ∧ a9 44 = x5 ∧ a9 45 = x6 ∧ ∀ j, j ≠ 10 → (j < 40 ∨ 45 < j) → a9 j = bk j := by
  subst ha
  refine ⟨?_, ?_, ?_, ?_, ?_, ?_, pk_us, fun j h1 h2 => ?_⟩
  · rw [pk_un (by decide), pk_un (by decide), pk_un (by decide), pk_un (by decide), pk_un (by decide), pk_un (by decide), pk_us]
  · rw [pk_un (by decide), pk_un (by decide), pk_un (by decide), pk_un (by decide), pk_un (by decide), pk_us]
  · rw [pk_un (by decide), pk_un (by decide), pk_un (by decide), pk_un (by decide), pk_us]
  · rw [pk_un (by decide), pk_un (by decide), pk_un (by decide), pk_us]
  · rw [pk_un (by decide), pk_un (by decide), pk_us]
  · rw [pk_un (by decide), pk_us]
  · rw [pk_un (by omega), pk_un (by omega), pk_un (by omega), pk_un (by omega), pk_un (by omega), pk_un (by omega), pk_un h1]
theorem cyL9 {z : Sg} {v K2 P2 kk : Nat} {a3 a4 a5 bk a9 : Nat → Int32} (hO : OKs z)
    (hM3 : (∀ j, j < 8 → a3 j = gS z j) ∧ a3 8 = cSp z (nI v) ∧ a3 9 = nI (gT z) ∧ (∀ j, j < 10 → a3 (10 + j) = gR z j) ∧ (∀ j, j < 9 → a3 (20 + j) = gC z j) ∧ ∀ j, j < 8 → a3 (30 + j) = gB z j)
    (c20 : a4 20 = gC z 0 + nI 1) (c23 : a4 23 = (if cRs z (nI v) = 0 then gC z 3 + nI 1 else gC z 3)) (c24 : a4 24 = (if cRs z (nI v) = 0 then gC z 4 else gC z 4 + nI (cLb z))) (c25 : a4 25 = (if 0 < cSc z then gC z 5 + nI 1 else gC z 5)) (c26 : a4 26 = (if cBl z = 0 then gC z 6 else gC z 6 + nI 1)) (c27 : a4 27 = cRw z (nI v)) (c28 : a4 28 = (if cRw z (nI v) < gS z 7 then gC z 8 else nI 1)) (c30 : a4 (30 + cRs z (nI v)) = gB z (cRs z (nI v)) + nI 1) (cLo : ∀ j, (j < 20 ∨ j = 21 ∨ j = 22 ∨ 29 ≤ j) → j ≠ 30 + cRs z (nI v) → a4 j = a3 j)
    (d21 : a5 21 = gtA (gR z (gT z - 1)) (a4 21)) (d22 : a5 22 = gtB (gR z (gT z - 1)) (a4 22)) (dLo : ∀ j, j ≠ 21 → j ≠ 22 → a5 j = a4 j)
    (hk : kk = 0) (q1 : ∀ j, kk < j → j < gT z → bk (10 + j) = a5 (10 + (j - 1))) (q2 : ∀ j, j ≤ kk ∨ gT z ≤ j → bk (10 + j) = a5 (10 + j)) (q3 : ∀ j, j < 10 → bk j = a5 j)
    (h9 : a9 10 = nI (cRs z (nI v)) ∧ a9 40 = nI (cTr z) ∧ a9 41 = nI (cLb z) ∧ a9 42 = nI (cRs z (nI v)) ∧ a9 43 = cSp z (nI v) ∧ a9 44 = nI (cTk z) ∧ a9 45 = nI (cEd z) ∧ ∀ j, j ≠ 10 → (j < 40 ∨ 45 < j) → a9 j = bk j)
    (h46 : a3 46 = nI P2) (h47 : a3 47 = nI K2) (hp : pch (cPt z (nI v)) P2 K2) : rA (cyc z (nI v)) a9 K2 := by
  subst hk
  obtain ⟨m1, m2, m3, m4, m5, m6⟩ := hM3
  obtain ⟨l1, l2, l3, l4, l5, l6, l7, l8⟩ := h9
  have hr := cRs_le z (nI v)
  have hT := hO.2.2.2.2.1
  have up : ∀ j, 20 ≤ j → (j < 40 ∨ 45 < j) → a9 j = a5 j := fun j h1 h2 => by
    have := q2 (j - 10) (Or.inr (by omega))
    rw [show 10 + (j - 10) = j by omega] at this
    rw [l8 j (by omega) h2, this]
  have lo : ∀ j, j < 10 → a9 j = a3 j := fun j hj => by rw [l8 j (by omega) (by omega), q3 j hj, dLo j (by omega) (by omega), cLo j (by omega) (by omega)]
  have rg : ∀ j, j < 10 → a5 (10 + j) = gR z j := fun j hj => by
    rw [dLo _ (by omega) (by omega), cLo _ (by omega) (by omega)]
    exact m4 j hj
  refine ⟨fun j hj => (lo j (by omega)).trans (m1 j hj), (lo 8 (by decide)).trans m2, (lo 9 (by decide)).trans m3, fun j hj => ?_, fun j hj => ?_, fun j hj => ?_, fun j hj => ?_, ?_, P2, ?_, hp⟩
  · show a9 (10 + j) = rgS (gR z) (gT z) (nI (cRs z (nI v))) j
    unfold rgS
    by_cases e : j = 0
    · subst e
      rw [if_pos (by omega), if_pos rfl]
      exact l1
    · rw [l8 _ (by omega) (by omega)]
      by_cases l : j < gT z
      · rw [if_pos l, if_neg e, q1 j (by omega) l]
        exact rg (j - 1) (by omega)
      · rw [if_neg l, q2 j (Or.inr (by omega))]
        exact rg j hj
  · rw [up _ (by omega) (by omega)]
    rcases (show j = 0 ∨ j = 1 ∨ j = 2 ∨ j = 3 ∨ j = 4 ∨ j = 5 ∨ j = 6 ∨ j = 7 ∨ j = 8 by omega) with rfl | rfl | rfl | rfl | rfl | rfl | rfl | rfl | rfl
    · exact (dLo 20 (by decide) (by decide)).trans c20
    · have e : a4 21 = gC z 1 := (cLo 21 (by decide) (by omega)).trans (m5 1 (by decide))
      rw [e] at d21
      exact d21
    · have e : a4 22 = gC z 2 := (cLo 22 (by decide) (by omega)).trans (m5 2 (by decide))
      rw [e] at d22
      exact d22
    · exact (dLo 23 (by decide) (by decide)).trans c23
    · exact (dLo 24 (by decide) (by decide)).trans c24
    · exact (dLo 25 (by decide) (by decide)).trans c25
    · exact (dLo 26 (by decide) (by decide)).trans c26
    · exact (dLo 27 (by decide) (by decide)).trans c27
    · exact (dLo 28 (by decide) (by decide)).trans c28
  · show a9 (30 + j) = upd (gB z) (cRs z (nI v)) (gB z (cRs z (nI v)) + nI 1) j
    rw [up _ (by omega) (by omega), dLo _ (by omega) (by omega)]
    by_cases e : j = cRs z (nI v)
    · rw [e, pk_us]
      exact c30
    · rw [pk_un e, cLo _ (by omega) (by omega)]
      exact m6 j hj
  · rcases (show j = 0 ∨ j = 1 ∨ j = 2 ∨ j = 3 ∨ j = 4 ∨ j = 5 by omega) with rfl | rfl | rfl | rfl | rfl | rfl
    · exact l2
    · exact l3
    · exact l4
    · exact l5
    · exact l6
    · exact l7
  · rw [up 47 (by decide) (by decide), dLo 47 (by decide) (by decide), cLo 47 (by decide) (by omega)]
    exact h47
  · rw [up 46 (by decide) (by decide), dLo 46 (by decide) (by decide), cLo 46 (by decide) (by omega)]
    exact h46
theorem rW_cyc {z : Sg} {ww gk : Nat → Int32} {v : Int32} (h : rW z ww) (hk : cTk z ≤ gN z) (b0 : gk 63 = nI (gN z - cTk z)) (b1 : ∀ j, j < gN z - cTk z → gk j = ww (j + cTk z)) : rW (cyc z v) gk := by
  obtain ⟨h1, h2, h3⟩ := h
  refine ⟨?_, b0, fun i hi => ?_⟩
  · show gN z - cTk z ≤ 60
    omega
  · have hi : i < gN z - cTk z := hi
    obtain ⟨k, sz, a1, a2, a3, a4, a5, a6, a7⟩ := h3 (i + cTk z) (by omega)
    exact ⟨k, sz, a1, a2, a3, a4, a5, a6, (b1 i hi).trans a7⟩
