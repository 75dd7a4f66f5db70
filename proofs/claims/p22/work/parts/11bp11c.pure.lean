/-! pure facts for 11c.reads.lean.txt -/
/-- items repeated: from f0 on, c of them, till n (at most 81) -/
def rpI (f0 c n : Nat) (K0 K : Nat → Int32) : Prop := (∀ j, j < f0 + c → K j = K0 j) ∧ ∀ j, f0 + c ≤ j → j < n → K j = K (j - c)
theorem rp_s {f0 c n : Nat} {K0 K : Nat → Int32} (hc : 0 < c) (hn : f0 + c ≤ n) (h : rpI f0 c n K0 K) : rpI f0 c (n + 1) K0 (upd K n (K (n - c))) := by
  obtain ⟨h1, h2⟩ := h
  refine ⟨fun j hj => ?_, fun j h3 h4 => ?_⟩
  · rw [pk_un (by omega)]; exact h1 j hj
  · by_cases e : j = n
    · subst e; rw [pk_us, pk_un (by omega)]
    · rw [pk_un (by omega), pk_un (by omega)]; exact h2 j h3 (by omega)
def rpN (f0 c t : Nat) : Nat := if f0 + c * t < 81 then f0 + c * t else 81
