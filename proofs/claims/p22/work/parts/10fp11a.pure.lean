/-! pure facts for 11a.reader.lean.txt -/
def chA (tq : Nat) (tx : Nat → Int32) (a : Nat) : Int32 := if a < tq then tx a else (-1)
def skp (ch : Nat → Int32) (a : Nat) : Nat := if a < 80 ∧ ch a = nI 32 then skp ch (a + 1) else a
termination_by 80 - a
theorem skp_y {ch : Nat → Int32} {a : Nat} (h1 : a < 80) (h2 : ch a = nI 32) : skp ch a = skp ch (a + 1) := by
  rw [skp, if_pos ⟨h1, h2⟩]
theorem skp_n {ch : Nat → Int32} {a : Nat} (h : ¬ (a < 80 ∧ ch a = nI 32)) : skp ch a = a := by
  rw [skp, if_neg h]
theorem skp_ge (ch : Nat → Int32) (a : Nat) : a ≤ skp ch a := by
  by_cases h : a < 80 ∧ ch a = nI 32
  · rw [skp_y h.1 h.2]
    exact Nat.le_trans (Nat.le_succ a) (skp_ge ch (a + 1))
  · rw [skp_n h]
    exact Nat.le_refl a
termination_by 80 - a
theorem chA_lt {tq a : Nat} {tx : Nat → Int32} {c : Nat} (hc : c < 2 ^ 31) (h : chA tq tx a = nI c) : a < tq := by
  refine Decidable.byContradiction fun q => ?_
  rw [chA, if_neg q] at h
  exact nI_m1 hc h.symm
theorem skp_le {tq : Nat} {tx : Nat → Int32} (a : Nat) (ha : a ≤ tq) : skp (chA tq tx) a ≤ tq := by
  by_cases h : a < 80 ∧ chA tq tx a = nI 32
  · have := chA_lt (by decide) h.2
    rw [skp_y h.1 h.2]
    exact skp_le (a + 1) (by omega)
  · rw [skp_n h]
    exact ha
termination_by 80 - a
def dgB (c : Int32) : Bool := inB c (nI 48) (nI 57)
def dgV (c : Int32) : Nat := nv c - 48
theorem dg_nat {c : Int32} (h : inR c (nI 48) (nI 57)) : c = nI (dgV c + 48) ∧ dgV c ≤ 9 := by
  obtain ⟨k, h1, h2, rfl⟩ := inR_nat (by decide) (by decide) h
  unfold dgV
  rw [nv_nI (by omega)]
  exact ⟨congrArg nI (by omega), by omega⟩
/-- a number at place a: the fault or -1, its value, the place behind it -/
def nmE (ch : Nat → Int32) (a : Nat) : Nat := if dgB (ch a) then (if dgB (ch (a + 1)) then a + 2 else a + 1) else a
def nmV (ch : Nat → Int32) (a : Nat) : Nat := if dgB (ch a) then (if dgB (ch (a + 1)) then 10 * dgV (ch a) + dgV (ch (a + 1)) else dgV (ch a)) else 0
def nmF (ch : Nat → Int32) (mx a : Nat) : Int32 := if 1 ≤ nmV ch a ∧ nmV ch a ≤ mx then (if dgB (ch (nmE ch a)) then nI (nmE ch a) else (-1)) else nI a
def kdS (c : Int32) : Int32 := if c = nI 108 then nI 0 else if c = nI 103 then nI 1 else if c = nI 98 then nI 2 else if c = nI 115 then nI 3 else (-1)
theorem nm_a {ch : Nat → Int32} {a : Nat} (h : dgB (ch a) = false) : nmV ch a = 0 ∧ nmE ch a = a := by
  unfold nmV nmE
  rw [h]
  exact ⟨rfl, rfl⟩
theorem nm_b {ch : Nat → Int32} {a : Nat} (h : dgB (ch a) = true) (h2 : dgB (ch (a + 1)) = true) : nmV ch a = 10 * dgV (ch a) + dgV (ch (a + 1)) ∧ nmE ch a = a + 2 := by
  unfold nmV nmE
  rw [h, h2]
  exact ⟨rfl, rfl⟩
theorem nm_c {ch : Nat → Int32} {a : Nat} (h : dgB (ch a) = true) (h2 : dgB (ch (a + 1)) = false) : nmV ch a = dgV (ch a) ∧ nmE ch a = a + 1 := by
  unfold nmV nmE
  rw [h, h2]
  exact ⟨rfl, rfl⟩
theorem nf_1 {ch : Nat → Int32} {mx a : Nat} (h : ¬ (1 ≤ nmV ch a ∧ nmV ch a ≤ mx)) : nmF ch mx a = nI a := by
  unfold nmF
  rw [if_neg h]
theorem nf_2 {ch : Nat → Int32} {mx a q : Nat} (h : 1 ≤ nmV ch a ∧ nmV ch a ≤ mx) (e : nmE ch a = q) (d : dgB (ch q) = true) : nmF ch mx a = nI q := by
  unfold nmF
  rw [if_pos h, e, d]
  rfl
theorem nf_3 {ch : Nat → Int32} {mx a q : Nat} (h : 1 ≤ nmV ch a ∧ nmV ch a ≤ mx) (e : nmE ch a = q) (d : dgB (ch q) = false) : nmF ch mx a = (-1) := by
  unfold nmF
  rw [if_pos h, e, d]
  rfl
theorem skp_b (ch : Nat → Int32) (a : Nat) : skp ch a ≤ a ∨ skp ch a ≤ 80 := by
  by_cases h : a < 80 ∧ ch a = nI 32
  · rw [skp_y h.1 h.2]
    rcases skp_b ch (a + 1) with q | q
    · exact Or.inr (by omega)
    · exact Or.inr q
  · rw [skp_n h]
    exact Or.inl (Nat.le_refl a)
termination_by 80 - a
theorem nmE_b (ch : Nat → Int32) (a : Nat) : nmE ch a ≤ a + 2 ∧ a ≤ nmE ch a := by
  unfold nmE
  split
  · split <;> omega
  · omega
theorem nmV_b (tq : Nat) (tx : Nat → Int32) (a : Nat) : nmV (chA tq tx) a ≤ 99 := by
  unfold nmV
  have k : ∀ c, dgB c = true → dgV c ≤ 9 := fun c h => (dg_nat (show nI 48 ≤ c ∧ c ≤ nI 57 from of_decide_eq_true h)).2
  split
  · rename_i h
    have := k _ h
    split
    · rename_i h2
      have := k _ h2
      omega
    · omega
  · omega
/-- a count before a star -/
def tmF (ch : Nat → Int32) (a : Nat) : Int32 := if nmF ch 99 a = (-1) then (if ch (skp ch (nmE ch a)) = nI 42 then (-1) else nI (skp ch (nmE ch a))) else nmF ch 99 a
def tmE (ch : Nat → Int32) (a : Nat) : Nat := skp ch (skp ch (nmE ch a) + 1)
