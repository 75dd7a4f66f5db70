/-! THE STATE, part 2: what serve asks, and what it leaves, over the class's cells -/
theorem srvH {z : Sg} {fr en : Nat} {fk fl sv : Nat → Int32} {st : Nat} {rg rs : Nat → Int32} {pt : UInt32} {sc cy : Nat → Int32} (h : rC z fr en fk fl sv st rg rs pt sc cy) {v : Nat} (hv : v ≤ 1000) :
    fr ≤ en ∧ en ≤ 80 ∧ (∀ i, i < en - fr → lnOK (fl (fr + i))) ∧ (1 ≤ st ∧ st ≤ 10) ∧ vf_n32 (FP.fsub pt (FP.i2f (sv 1))) ∧ vf_n32 (FP.fadd pt (FP.i2f (sv 1))) ∧ fdS (fun i => fk (fr + i)) (fun i => fl (fr + i)) sv pt (en - fr) 0 0 0 0 = (cTk z, cTr z, cLb z, cSc z, cEd z) ∧ (cEd z ≤ 3 ∧ cSc z < 1000 ∧ cLb z < 1000) ∧ cSp z (nI v) = follow (sc 0) (sv 4) (sv 3) (nI v) ∧ cBl z = (if (cEd z = 1 ∧ ¬ fqL pt (sv 1) (cTr z) ≤ 0) then 1 else 0) ∧
    (sv 5 < (if 0 ≤ cSp z (nI v) - nI v then cSp z (nI v) - nI v else 0 - (cSp z (nI v) - nI v)) ↔ sv 5 < cSp z (nI v) - nI v ∨ sv 5 < -(cSp z (nI v) - nI v)) ∧ cRs z (nI v) = rsS (cEd z) (cSc z) (cLb z) (cBl z ≠ 0) (cSp z (nI v)) (nI v) (sv 5) ∧
    (cRs z (nI v) = 0 → vf_n32 (FP.fdiv (FP.i2f (sv 6)) 1090519040) ∧ vf_n32 (FP.fsub (FP.i2f (nI (cTr z))) pt) ∧ vf_n32 (FP.fmul (FP.fsub (FP.i2f (nI (cTr z))) pt) (FP.fdiv (FP.i2f (sv 6)) 1090519040)) ∧ vf_n32 (lrP pt (cTr z) (sv 6))) := by
  obtain ⟨hO, ⟨a1, a2, a3⟩, hw, hs, hst, hrg, hrs, hpt, ⟨b0, -⟩, -, -⟩ := h
  obtain ⟨e1, e2, e3, e4, e5, e6, e7, -⟩ := cy_inv hO
  have s1 := hs 1 (by decide)
  have s3 := hs 3 (by decide)
  have s4 := hs 4 (by decide)
  have s5 := hs 5 (by decide)
  have s6 := hs 6 (by decide)
  subst hpt hst
  rw [s1, s3, s4, s5, s6, b0]
  refine ⟨a1, a2, fun i hi => ?_, hO.2.2.2.2.1, (cy_win hO).1, (cy_win hO).2, ?_, ⟨e7, by omega, by omega⟩, rfl, rfl, ?_, rfl, fun h0 => ?_⟩
  · rw [(hw i (by omega)).2]
    exact hO.2.1 i (by omega)
  · rw [← e1, ← a3]
    exact fdS_congr hs (gN z) 0 0 0 0 (fun j _ hj => hw j (by omega))
  · obtain ⟨k, hk, ek⟩ := cSp_ok hO hv
    obtain ⟨t, -, ht, et⟩ := set_nat hO 5 (by decide)
    rw [ek, et]
    exact abs_ok hk hv (Nat.le_trans ht (by decide))
  · obtain ⟨c1, c2, c3, c4, -⟩ := cy_fl hO h0
    exact ⟨c1, c2, c3, c4⟩
theorem srvR {z : Sg} {fr en : Nat} {fk fl sv : Nat → Int32} {st : Nat} {rg rs : Nat → Int32} {pt : UInt32} {sc cy : Nat → Int32} (h : rC z fr en fk fl sv st rg rs pt sc cy) {v : Nat} (hv : v ≤ 1000)
    {pu : UInt32} {fu qu d1 d2 d3 d4 d5 d6 : Int32} (e0 : pu = if cRs z (nI v) = 0 then lrP pt (cTr z) (sv 6) else pt) (e7 : fu = if isFl (cRs z (nI v)) = true then sc 1 + nI 1 else nI 0) (e8 : qu = if (if isFl (cRs z (nI v)) = true then sc 1 + nI 1 else nI 0) < sv 7 then sc 2 else nI 1)
    (e1 : d1 = gtA (rg (st - 1)) (sc 4)) (e2 : d2 = gtB (rg (st - 1)) (sc 5)) (e3 : d3 = if cRs z (nI v) = 0 then sc 6 + nI (cLb z) else sc 6) (e4 : d4 = if cRs z (nI v) = 0 then sc 7 else sc 7 + nI (cLb z)) (e5 : d5 = if 0 < cSc z then sc 8 + nI 1 else sc 8) (e6 : d6 = if cBl z = 0 then sc 9 else sc 9 + nI 1) :
    rC (cyc z (nI v)) (fr + cTk z) en fk fl sv st (rgS rg st (nI (cRs z (nI v)))) (upd rs (cRs z (nI v)) (rs (cRs z (nI v)) + nI 1)) pu (lf [cSp z (nI v), fu, qu, sc 3 + nI 1, d1, d2, d3, d4, d5, d6]) (lf [nI (cTr z), nI (cLb z), nI (cSc z), nI (cTk z), nI (cEd z), cSp z (nI v), nI (cRs z (nI v)), nI (cBl z)]) := by
  obtain ⟨hO, ⟨a1, a2, a3⟩, hw, hs, hst, hrg, hrs, hpt, ⟨b0, b1, b2, b3⟩, -, -⟩ := h
  obtain ⟨-, f2, -, -, -, f6, f7, -⟩ := cy_inv hO
  have hT := hO.2.2.2.2.1
  have s6 := hs 6 (by decide)
  have s7 := hs 7 (by decide)
  have c0 := b3 0 (by decide)
  have c1 := b3 1 (by decide)
  have c2 := b3 2 (by decide)
  have c3 := b3 3 (by decide)
  have c4 := b3 4 (by decide)
  have c5 := b3 5 (by decide)
  have c6 := b3 6 (by decide)
  simp only [Nat.reduceAdd] at c0 c1 c2 c3 c4 c5 c6
  subst hpt hst
  have g1 := hrg (gT z - 1) (by omega)
  rw [g1, c1] at e1
  rw [g1, c2] at e2
  rw [c3] at e3
  rw [c4] at e4
  rw [c5] at e5
  rw [c6] at e6
  rw [s6] at e0
  rw [b1] at e7
  rw [b1, b2, s7] at e8
  rw [c0]
  refine ⟨cyc_OK hO hv, ⟨by omega, a2, ?_⟩, fun i hi => ?_, hs, rfl, fun j hj => ?_, fun j hj => ?_, e0, ⟨rfl, e7, e8, fun j hj => ?_⟩, fun j hj => ?_, ?_⟩
  · show gN z - cTk z = en - (fr + cTk z)
    omega
  · have hi : i < gN z - cTk z := hi
    have := hw (i + cTk z) (by omega)
    rw [show fr + cTk z + i = fr + (i + cTk z) by omega]
    exact this
  · show rgS rg (gT z) (nI (cRs z (nI v))) j = rgS (gR z) (gT z) (nI (cRs z (nI v))) j
    unfold rgS
    split
    · split
      · rfl
      · exact hrg (j - 1) (by omega)
    · exact hrg j hj
  · show upd rs (cRs z (nI v)) (rs (cRs z (nI v)) + nI 1) j = upd (gB z) (cRs z (nI v)) (gB z (cRs z (nI v)) + nI 1) j
    have hk := cRs_le z (nI v)
    by_cases e : j = cRs z (nI v)
    · rw [e, pk_us, pk_us, hrs _ (by omega)]
    · rw [pk_un e, pk_un e, hrs _ hj]
  · rcases (show j = 0 ∨ j = 1 ∨ j = 2 ∨ j = 3 ∨ j = 4 ∨ j = 5 ∨ j = 6 by omega) with rfl | rfl | rfl | rfl | rfl | rfl | rfl
    · rfl
    · exact e1
    · exact e2
    · show d3 = if cRs z (nI v) = 0 then gC z 3 + nI 1 else gC z 3
      rw [e3]
      by_cases h0 : cRs z (nI v) = 0
      · rw [if_pos h0, if_pos h0, (cRs_0 hO h0).2]
      · rw [if_neg h0, if_neg h0]
    · exact e4
    · exact e5
    · exact e6
  · have hne : ¬ (lf [nI (cTr z), nI (cLb z), nI (cSc z), nI (cTk z), nI (cEd z), cSp z (nI v), nI (cRs z (nI v)), nI (cBl z)]) 4 = nI 0 := fun q => by
      have := (nI_eq (a := cEd z) (b := 0) (by omega) (by omega)).mp q
      omega
    rw [if_neg hne]
    rcases (show j = 0 ∨ j = 1 ∨ j = 2 ∨ j = 3 ∨ j = 4 ∨ j = 5 by omega) with rfl | rfl | rfl | rfl | rfl | rfl <;> rfl
  · show nI (cBl z) = nI 0 ∨ nI (cBl z) = nI 1
    unfold cBl
    split
    · exact Or.inr rfl
    · exact Or.inl rfl
/-! many cycles -/
def itr (z : Sg) (v : Int32) : Nat → Sg
  | 0 => z
  | n + 1 => cyc (itr z v n) v
theorem itr_OK {z : Sg} (h : OKs z) {v : Nat} (hv : v ≤ 1000) : ∀ n, OKs (itr z (nI v) n)
  | 0 => h
  | n + 1 => cyc_OK (itr_OK h hv n) hv
/-- behind which of n products the faults in a row are first too many, or -1 -/
def stS (z : Sg) (v : Int32) : Nat → Int32
  | 0 => (-1)
  | n + 1 => if stS z v n = (-1) ∧ ¬ gC (itr z v (n + 1)) 7 < gS (itr z v (n + 1)) 7 then nI (n + 1) else stS z v n
/-- products that come until it stops: how many, and the state then -/
def rnS (v : Int32) : Nat → Sg → Nat × Sg
  | 0, z => (0, z)
  | n + 1, z => if gC z 8 = nI 0 then ((rnS v n (cyc z v)).1 + 1, (rnS v n (cyc z v)).2) else (0, z)
/-- what foretell answers -/
def foS (z : Sg) (n : Nat) (v : Int32) (w : Nat) : Int32 := match w with
  | 0 => gB (itr z v n) 0 - gB z 0
  | 1 => gC (itr z v n) 4 - gC z 4
  | 2 => nI (gN (itr z v n))
  | _ => stS z v n
/-- the state with another setting -/
def setS (z : Sg) (w : Nat) (x : Int32) : Sg := (gN z, gK z, gL z, upd (gS z) w x, gV z, gT z, gR z, gC z, gB z, gA z, gP z)
theorem setS_OK {z : Sg} (h : OKs z) {w x : Nat} (hw : w < 8) (h1 : st_lo w ≤ x) (h2 : x ≤ st_hi w) : OKs (setS z w (nI x)) := by
  obtain ⟨a1, a2, a3, a4⟩ := h
  refine ⟨a1, a2, fun j hj => ?_, a4⟩
  show ∃ k, st_lo j ≤ k ∧ k ≤ st_hi j ∧ upd (gS z) w (nI x) j = nI k
  by_cases e : j = w
  · subst e
    rw [pk_us]
    exact ⟨x, h1, h2, rfl⟩
  · rw [pk_un e]
    exact a3 j hj
/-- how many would be good with a setting's value; the best of the values from a on, m of them tried -/
def gdS (z : Sg) (w x n : Nat) (v : Int32) : Int32 := gB (itr (setS z w (nI x)) v n) 0 - gB z 0
def beS (z : Sg) (w n : Nat) (v : Int32) (a : Nat) : Nat → Nat × Int32
  | 0 => (a, (-1))
  | m + 1 => if (beS z w n v a m).2 < gdS z w (a + m) n v then (a + m, gdS z w (a + m) n v) else beS z w n v a m
/-- a hash over n numbers -/
def hsh (f : Nat → Int32) (h : Int64) : Nat → Int64
  | 0 => h
  | n + 1 => 31 * hsh f h n + (f n).toInt64
theorem rC_7 {z : Sg} {fr en : Nat} {fk fl sv : Nat → Int32} {st : Nat} {rg rs : Nat → Int32} {pt : UInt32} {sc cy : Nat → Int32} (h : rC z fr en fk fl sv st rg rs pt sc cy) : sc 1 = gC z 7 ∧ sv 7 = gS z 7 ∧ sc 2 = gC z 8 := ⟨h.2.2.2.2.2.2.2.2.1.2.1, h.2.2.2.1 7 (by decide), h.2.2.2.2.2.2.2.2.1.2.2.1⟩
theorem stS_y {z : Sg} {v f s7 q : Int32} {i : Nat} (hq : q = stS z v i) (g : q = (-1)) (h : f = gC (itr z v (i + 1)) 7 ∧ s7 = gS (itr z v (i + 1)) 7) (gt : ¬ f < s7) : nI (i + 1) = stS z v (i + 1) := by
  rw [stS, if_pos ⟨by rw [← hq]; exact g, by rw [← h.1, ← h.2]; exact gt⟩]
theorem stS_n1 {z : Sg} {v q : Int32} {i : Nat} (hq : q = stS z v i) (g : ¬ q = (-1)) : q = stS z v (i + 1) := by
  rw [stS, if_neg (fun h => g (by rw [hq]; exact h.1))]
  exact hq
theorem stS_n2 {z : Sg} {v f s7 q : Int32} {i : Nat} (hq : q = stS z v i) (h : f = gC (itr z v (i + 1)) 7 ∧ s7 = gS (itr z v (i + 1)) 7) (gt : f < s7) : q = stS z v (i + 1) := by
  rw [stS, if_neg (fun hh => hh.2 (by rw [← h.1, ← h.2]; exact gt))]
  exact hq
