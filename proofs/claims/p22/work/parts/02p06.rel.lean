/-! THE STATE of an applicator as one value, a cycle over it, and how the class's cells and the model's row hold it -/
/-- items on the web, their kinds, their lengths, the settings, the speed, the stations, the ring, the counters (came, delivered, diverted, applied, rejected, splices, late, faults in a row, stopped), by reasons, the latest cycle, the pitch -/
abbrev Sg : Type := Nat × (Nat → Int32) × (Nat → Int32) × (Nat → Int32) × Int32 × Nat × (Nat → Int32) × (Nat → Int32) × (Nat → Int32) × (Nat → Int32) × UInt32
def gN (z : Sg) : Nat := z.1
def gK (z : Sg) : Nat → Int32 := z.2.1
def gL (z : Sg) : Nat → Int32 := z.2.2.1
def gS (z : Sg) : Nat → Int32 := z.2.2.2.1
def gV (z : Sg) : Int32 := z.2.2.2.2.1
def gT (z : Sg) : Nat := z.2.2.2.2.2.1
def gR (z : Sg) : Nat → Int32 := z.2.2.2.2.2.2.1
def gC (z : Sg) : Nat → Int32 := z.2.2.2.2.2.2.2.1
def gB (z : Sg) : Nat → Int32 := z.2.2.2.2.2.2.2.2.1
def gA (z : Sg) : Nat → Int32 := z.2.2.2.2.2.2.2.2.2.1
def gP (z : Sg) : UInt32 := z.2.2.2.2.2.2.2.2.2.2
def lf (l : List Int32) (j : Nat) : Int32 := l.getD j 0
def OKs (z : Sg) : Prop := gN z ≤ 80 ∧ (∀ i, i < gN z → lnOK (gL z i)) ∧ (∀ j, j < 8 → ∃ k, st_lo j ≤ k ∧ k ≤ st_hi j ∧ gS z j = nI k) ∧ (∃ k, k ≤ 1000 ∧ gV z = nI k) ∧ (1 ≤ gT z ∧ gT z ≤ 10) ∧ (∀ j, j < 10 → gR z j = (-1) ∨ ∃ k, k ≤ 7 ∧ gR z j = nI k) ∧ (∀ j, gT z ≤ j → j < 10 → gR z j = (-1)) ∧ (gC z 8 = nI 0 ∨ gC z 8 = nI 1) ∧ pOK (gP z)
def rC (z : Sg) (fr en : Nat) (fk fl sv : Nat → Int32) (st : Nat) (rg rs : Nat → Int32) (pt : UInt32) (sc cy : Nat → Int32) : Prop :=
  OKs z ∧ (fr ≤ en ∧ en ≤ 80 ∧ gN z = en - fr) ∧ (∀ i, i < gN z → fk (fr + i) = gK z i ∧ fl (fr + i) = gL z i) ∧ (∀ j, j < 8 → sv j = gS z j) ∧ st = gT z ∧ (∀ j, j < 10 → rg j = gR z j) ∧ (∀ j, j < 8 → rs j = gB z j) ∧ pt = gP z ∧ (sc 0 = gV z ∧ sc 1 = gC z 7 ∧ sc 2 = gC z 8 ∧ ∀ j, j < 7 → sc (3 + j) = gC z j) ∧ (∀ j, j < 6 → gA z j = if cy 4 = nI 0 then (-1) else cyN (cy 0) (cy 1) (cy 6) (cy 5) (cy 3) (cy 4) j) ∧ (cy 7 = nI 0 ∨ cy 7 = nI 1)
def rM (z : Sg) (ar : Nat → Int32) (pt : UInt32) : Prop :=
  OKs z ∧ ar 0 = nI (gN z) ∧ (∀ i, i < gN z → ar (1 + i) = gK z i ∧ ar (81 + i) = gL z i) ∧ (∀ j, j < 8 → ar (161 + j) = gS z j) ∧ ar 169 = gV z ∧ ar 170 = nI (gT z) ∧ (∀ j, j < 10 → ar (171 + j) = gR z j) ∧ (∀ j, j < 9 → ar (181 + j) = gC z j) ∧ (∀ j, j < 8 → ar (190 + j) = gB z j) ∧ (∀ j, j < 6 → ar (198 + j) = gA z j) ∧ pt = gP z
/-! a cycle -/
def cyF (z : Sg) : Nat × Nat × Nat × Nat × Nat := fdS (gK z) (gL z) (gS z) (gP z) (gN z) 0 0 0 0
def cTk (z : Sg) : Nat := (cyF z).1
def cTr (z : Sg) : Nat := (cyF z).2.1
def cLb (z : Sg) : Nat := (cyF z).2.2.1
def cSc (z : Sg) : Nat := (cyF z).2.2.2.1
def cEd (z : Sg) : Nat := (cyF z).2.2.2.2
def cSp (z : Sg) (v : Int32) : Int32 := follow (gV z) (gS z 4) (gS z 3) v
def cBl (z : Sg) : Nat := if (cEd z = 1 ∧ ¬ fqL (gP z) (gS z 1) (cTr z) ≤ 0) then 1 else 0
def cRs (z : Sg) (v : Int32) : Nat := rsS (cEd z) (cSc z) (cLb z) (cBl z ≠ 0) (cSp z v) v (gS z 5)
def cRw (z : Sg) (v : Int32) : Int32 := if isFl (cRs z v) = true then gC z 7 + nI 1 else nI 0
def cPt (z : Sg) (v : Int32) : UInt32 := if cRs z v = 0 then lrP (gP z) (cTr z) (gS z 6) else gP z
def cyc (z : Sg) (v : Int32) : Sg :=
  (gN z - cTk z, fun i => gK z (i + cTk z), fun i => gL z (i + cTk z), gS z, cSp z v, gT z, rgS (gR z) (gT z) (nI (cRs z v)),
   lf [gC z 0 + nI 1, gtA (gR z (gT z - 1)) (gC z 1), gtB (gR z (gT z - 1)) (gC z 2), if cRs z v = 0 then gC z 3 + nI 1 else gC z 3, if cRs z v = 0 then gC z 4 else gC z 4 + nI (cLb z), if 0 < cSc z then gC z 5 + nI 1 else gC z 5, if cBl z = 0 then gC z 6 else gC z 6 + nI 1, cRw z v, if cRw z v < gS z 7 then gC z 8 else nI 1],
   upd (gB z) (cRs z v) (gB z (cRs z v) + nI 1), lf [nI (cTr z), nI (cLb z), nI (cRs z v), cSp z v, nI (cTk z), nI (cEd z)], cPt z v)
theorem set_nat {z : Sg} (h : OKs z) (j : Nat) (hj : j < 8) : ∃ k, st_lo j ≤ k ∧ k ≤ st_hi j ∧ gS z j = nI k := h.2.2.1 j hj
/-- the feed's numbers -/
theorem cy_inv {z : Sg} (h : OKs z) : cyF z = (cTk z, cTr z, cLb z, cSc z, cEd z) ∧ cTk z ≤ gN z ∧ cTr z ≤ 499 ∧ cLb z ≤ 80 ∧ cSc z ≤ 80 ∧ 1 ≤ cEd z ∧ cEd z ≤ 3 ∧ (cEd z = 1 → 1 ≤ cLb z → 2 ≤ cTr z) := by
  obtain ⟨G, -, hG, hg⟩ := set_nat h 2 (by decide)
  obtain ⟨tk, tr, lb, sc, ed, e0, e1, e2, e3, e4, e5, e6, e7, e8, e9⟩ := fdS_inv (κ := gK z) (lm := gL z) (pt := gP z) hg (by simpa [st_hi] using hG) (gN z) 0 0 0 0 (fun j _ hj => h.2.1 j (by omega)) (by omega) (by omega) (by omega) (by omega)
  have e : cyF z = (tk, tr, lb, sc, ed) := e0
  unfold cTk cTr cLb cSc cEd
  rw [e]
  have := h.1
  exact ⟨rfl, by simp only; omega, e4, by simp only; omega, by simp only; omega, e7, e8, e9⟩
theorem follow_ok {a b g v : Nat} (ha : a ≤ 1000) (hb : b ≤ 1000) (hg : g ≤ 1000) (hv : v ≤ 1000) : ∃ k, k ≤ 1000 ∧ follow (nI a) (nI b) (nI g) (nI v) = nI k := by
  have low : ∃ lo, lo ≤ 1000 ∧ (if nI a - nI b < 0 then (0 : Int32) else nI a - nI b) = nI lo := by
    by_cases h : b ≤ a
    · rw [pk_sub h, if_neg (nI_pos (by omega))]
      exact ⟨_, by omega, rfl⟩
    · rw [if_pos (pk_sneg (by omega) (by omega))]
      exact ⟨0, by omega, nI_0.symm⟩
  have high : ∃ hi, hi ≤ 1000 ∧ (if nI g < nI a + nI b then nI g else nI a + nI b) = nI hi := by
    rw [nI_add]
    by_cases h : g < a + b
    · rw [if_pos ((nI_ltI (by omega) (by omega)).mpr h)]
      exact ⟨g, hg, rfl⟩
    · rw [if_neg (fun q => h ((nI_ltI (by omega) (by omega)).mp q))]
      exact ⟨a + b, by omega, rfl⟩
  obtain ⟨lo, l1, l2⟩ := low
  obtain ⟨hi, h1, h2⟩ := high
  unfold follow
  simp only
  rw [l2, h2]
  split
  · exact ⟨g, hg, rfl⟩
  · split
    · exact ⟨lo, l1, rfl⟩
    · split
      · exact ⟨hi, h1, rfl⟩
      · exact ⟨v, hv, rfl⟩
theorem cSp_ok {z : Sg} (h : OKs z) {v : Nat} (hv : v ≤ 1000) : ∃ k, k ≤ 1000 ∧ cSp z (nI v) = nI k := by
  obtain ⟨a, ha, ea⟩ := h.2.2.2.1
  obtain ⟨b, -, hb, eb⟩ := set_nat h 4 (by decide)
  obtain ⟨g, -, hg, eg⟩ := set_nat h 3 (by decide)
  unfold cSp
  rw [ea, eb, eg]
  exact follow_ok ha (by simpa [st_hi] using hb) (by simpa [st_hi] using hg) hv
theorem cRs_le (z : Sg) (v : Int32) : cRs z v ≤ 7 := rsS_le _ _ _ _ _ _ _
/-- a good product: marked, one label -/
theorem cRs_0 {z : Sg} {v : Int32} (h : OKs z) (h0 : cRs z v = 0) : cEd z = 1 ∧ cLb z = 1 := by
  obtain ⟨-, -, -, -, -, e1, e2, -⟩ := cy_inv h
  unfold cRs rsS at h0
  by_cases a1 : cEd z = 3
  · rw [if_pos a1] at h0; omega
  · rw [if_neg a1] at h0
    by_cases a2 : cEd z = 2
    · rw [if_pos a2] at h0; omega
    · rw [if_neg a2] at h0
      by_cases a3 : 0 < cSc z
      · rw [if_pos a3] at h0; omega
      · rw [if_neg a3] at h0
        by_cases a4 : cLb z = 0
        · rw [if_pos a4] at h0; omega
        · rw [if_neg a4] at h0
          by_cases a5 : 1 < cLb z
          · rw [if_pos a5] at h0; omega
          · exact ⟨by omega, by omega⟩
/-- the arithmetic of a good product makes no NaN, and a pitch again -/
theorem cy_fl {z : Sg} {v : Int32} (h : OKs z) (h0 : cRs z v = 0) : vf_n32 (FP.fdiv (FP.i2f (gS z 6)) 1090519040) ∧ vf_n32 (FP.fsub (FP.i2f (nI (cTr z))) (gP z)) ∧ vf_n32 (FP.fmul (FP.fsub (FP.i2f (nI (cTr z))) (gP z)) (FP.fdiv (FP.i2f (gS z 6)) 1090519040)) ∧ vf_n32 (lrP (gP z) (cTr z) (gS z 6)) ∧ pOK (lrP (gP z) (cTr z) (gS z 6)) := by
  obtain ⟨-, -, e3, -, -, -, -, e8⟩ := cy_inv h
  obtain ⟨a1, a2⟩ := cRs_0 h h0
  obtain ⟨g, -, hg, eg⟩ := set_nat h 6 (by decide)
  rw [eg]
  exact fl_learn h.2.2.2.2.2.2.2.2 (e8 a1 (by omega)) e3 (by simpa [st_hi] using hg)
theorem cy_win {z : Sg} (h : OKs z) : vf_n32 (FP.fsub (gP z) (FP.i2f (gS z 1))) ∧ vf_n32 (FP.fadd (gP z) (FP.i2f (gS z 1))) := by
  obtain ⟨g, -, hg, eg⟩ := set_nat h 1 (by decide)
  rw [eg]
  exact fl_win h.2.2.2.2.2.2.2.2 (by simpa [st_hi] using hg)
theorem cPt_ok {z : Sg} {v : Int32} (h : OKs z) : pOK (cPt z v) := by
  unfold cPt
  by_cases h0 : cRs z v = 0
  · rw [if_pos h0]
    exact (cy_fl h h0).2.2.2.2
  · rw [if_neg h0]
    exact h.2.2.2.2.2.2.2.2
theorem cyc_OK {z : Sg} (h : OKs z) {v : Nat} (hv : v ≤ 1000) : OKs (cyc z (nI v)) := by
  obtain ⟨-, e2, -⟩ := cy_inv h
  obtain ⟨h1, h2, h3, h4, h5, h6, h7, h8, h9⟩ := id h
  refine ⟨?_, ?_, h3, cSp_ok h hv, h5, ?_, ?_, ?_, cPt_ok h⟩
  · show gN z - cTk z ≤ 80
    omega
  · intro i hi
    have hi : i < gN z - cTk z := hi
    exact h2 (i + cTk z) (by omega)
  · intro j hj
    show rgS (gR z) (gT z) (nI (cRs z (nI v))) j = (-1) ∨ ∃ k, k ≤ 7 ∧ rgS (gR z) (gT z) (nI (cRs z (nI v))) j = nI k
    unfold rgS
    split
    · split
      · exact Or.inr ⟨_, cRs_le _ _, rfl⟩
      · exact h6 (j - 1) (by omega)
    · exact h6 j hj
  · intro j hj1 hj2
    have hj1 : gT z ≤ j := hj1
    show rgS (gR z) (gT z) (nI (cRs z (nI v))) j = (-1)
    unfold rgS
    rw [if_neg (by omega)]
    exact h7 j hj1 hj2
  · show (if cRw z (nI v) < gS z 7 then gC z 8 else nI 1) = nI 0 ∨ (if cRw z (nI v) < gS z 7 then gC z 8 else nI 1) = nI 1
    split
    · exact h8
    · exact Or.inr rfl
/-- the absolute value, asked as the class asks it -/
theorem abs_ok {s v t : Nat} (hs : s ≤ 1000) (hv : v ≤ 1000) (ht : t ≤ 1000) : nI t < (if 0 ≤ nI s - nI v then nI s - nI v else 0 - (nI s - nI v)) ↔ nI t < nI s - nI v ∨ nI t < -(nI s - nI v) := by
  have e1 : (nI s - nI v).toInt = (s : Int) - v := pk_sub_toInt (by omega) (by omega)
  have e2 : (0 - (nI s - nI v)).toInt = (v : Int) - s := by
    rw [Int32.toInt_sub, e1, Int32.toInt_zero, Int.bmod_eq_of_le (by omega) (by omega)]
    omega
  have e3 : -(nI s - nI v) = 0 - (nI s - nI v) := (Int32.zero_sub _).symm
  have e4 : (nI t).toInt = t := nI_toInt (by omega)
  rw [e3]
  simp only [Int32.lt_iff_toInt_lt, Int32.le_iff_toInt_le]
  by_cases h : (0 : Int32).toInt ≤ (nI s - nI v).toInt
  · rw [if_pos h, e1, e2, e4]
    rw [e1, Int32.toInt_zero] at h
    omega
  · rw [if_neg h, e1, e2, e4]
    rw [e1, Int32.toInt_zero] at h
    omega
