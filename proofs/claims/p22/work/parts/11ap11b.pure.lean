/-! pure facts for 11b.reads.lean.txt -/
def pvS (ch : Nat → Int32) (a : Nat) : Nat → Nat
  | 0 => 0
  | i + 1 => 10 * pvS ch a i + dgV (ch (a + i))
theorem pv_e {ch : Nat → Int32} {a i : Nat} (hi : i ≤ 2) (h : ∀ j, j < i → dgB (ch (a + j)) = true) (he : i = 2 ∨ dgB (ch (a + i)) = false) : nmV ch a = pvS ch a i ∧ nmE ch a = a + i := by
  rcases (show i = 0 ∨ i = 1 ∨ i = 2 by omega) with rfl | rfl | rfl
  · have h0 : dgB (ch a) = false := he.resolve_left (by decide)
    exact nm_a h0
  · have h0 : dgB (ch a) = true := h 0 (by decide)
    have h1 : dgB (ch (a + 1)) = false := he.resolve_left (by decide)
    obtain ⟨e1, e2⟩ := nm_c h0 h1
    exact ⟨by rw [e1]; show _ = 10 * 0 + dgV (ch (a + 0)); rw [show a + 0 = a from rfl]; omega, e2⟩
  · have h0 : dgB (ch a) = true := h 0 (by decide)
    have h1 : dgB (ch (a + 1)) = true := h 1 (by decide)
    obtain ⟨e1, e2⟩ := nm_b h0 h1
    exact ⟨by rw [e1]; show _ = 10 * (10 * 0 + dgV (ch (a + 0))) + dgV (ch (a + 1)); rw [show a + 0 = a from rfl]; omega, e2⟩
theorem pv_s {ch : Nat → Int32} {a i : Nat} (h : ∀ j, j < i → dgB (ch (a + j)) = true) (h2 : dgB (ch (a + i)) = true) : ∀ j, j < i + 1 → dgB (ch (a + j)) = true := fun j hj => by
  by_cases e : j = i
  · rw [e]; exact h2
  · exact h j (by omega)
