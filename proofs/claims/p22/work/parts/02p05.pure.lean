/-! pure facts for 05.machine.lean.txt -/
def gtA (x c1 : Int32) : Int32 := if x = nI 0 then c1 + nI 1 else c1
def gtB (x c2 : Int32) : Int32 := if x = nI 0 then c2 else if x = (-1) then c2 else c2 + nI 1
theorem follow_hi {s c g v : Int32} (h : ¬ (if s - c < nI 0 then nI 0 else s - c) ≤ (if g < s + c then g else s + c)) : g = follow s c g v := by
  rw [nI_0] at h
  unfold follow
  simp only
  rw [if_pos (Int32.not_le.mp h)]
theorem follow_lo {s c g v : Int32} (h : (if s - c < nI 0 then nI 0 else s - c) ≤ (if g < s + c then g else s + c)) :
    (if (if s - c < nI 0 then nI 0 else s - c) < (if v < (if g < s + c then g else s + c) then v else (if g < s + c then g else s + c)) then (if v < (if g < s + c then g else s + c) then v else (if g < s + c then g else s + c)) else (if s - c < nI 0 then nI 0 else s - c)) = follow s c g v := by
  rw [nI_0] at h ⊢
  unfold follow
  simp only
  rw [if_neg (Int32.not_lt.mpr h)]
  generalize (if s - c < 0 then 0 else s - c) = lo at *
  generalize (if g < s + c then g else s + c) = hi at *
  repeat' split
  all_goals first
    | rfl
    | (apply Int32.toInt_inj.mp
       simp only [Int32.lt_iff_toInt_lt, Int32.le_iff_toInt_le] at *
       omega)
theorem fd_next {κ lm sv : Nat → Int32} {pt : UInt32} {n i tr lb sc : Nat} {R : Nat × Nat × Nat × Nat × Nat} (hi : i < n) (h : fdS κ lm sv pt (n - i) i tr lb sc = R) :
    (fdE sv pt (κ i) (lm i) (tr + nv (lm i)) = 0 ∧ fdS κ lm sv pt (n - (i + 1)) (i + 1) (tr + nv (lm i)) (cyL (κ i) lb) (cyS (κ i) sc) = R) ∨ (fdE sv pt (κ i) (lm i) (tr + nv (lm i)) ≠ 0 ∧ (i + 1, tr + nv (lm i), cyL (κ i) lb, cyS (κ i) sc, fdE sv pt (κ i) (lm i) (tr + nv (lm i))) = R) := by
  obtain ⟨m, hm⟩ : ∃ m, n - i = m + 1 := ⟨n - i - 1, by omega⟩
  rw [hm] at h
  rw [show n - (i + 1) = m by omega]
  unfold fdS at h
  by_cases q : fdE sv pt (κ i) (lm i) (tr + nv (lm i)) = 0
  · rw [if_pos q] at h
    exact Or.inl ⟨q, h⟩
  · rw [if_neg q] at h
    exact Or.inr ⟨q, h⟩
theorem fd_end {κ lm sv : Nat → Int32} {pt : UInt32} {n i tr lb sc : Nat} {R : Nat × Nat × Nat × Nat × Nat} (hi : n ≤ i) (h : fdS κ lm sv pt (n - i) i tr lb sc = R) : (i, tr, lb, sc, 3) = R := by
  rw [show n - i = 0 by omega] at h
  exact h
theorem fd_5 {a b c d e a' b' c' d' e' : Nat} (h : (a, b, c, d, e) = (a', b', c', d', e')) : a = a' ∧ b = b' ∧ c = c' ∧ d = d' ∧ e = e' := by
  cases h
  exact ⟨rfl, rfl, rfl, rfl, rfl⟩
