/-! pure facts for 10f.class.lean.txt -/
def z00 : Sg := (0, fun _ => nI 0, fun _ => nI 0, sv0, nI 0, 4, fun _ => (-1), fun _ => nI 0, fun _ => nI 0, fun _ => (-1), 1112014848)
theorem sv0_ok : ∀ j, j < 8 → ∃ k, st_lo j ≤ k ∧ k ≤ st_hi j ∧ sv0 j = nI k := by
  intro j hj
  rcases (show j = 0 ∨ j = 1 ∨ j = 2 ∨ j = 3 ∨ j = 4 ∨ j = 5 ∨ j = 6 ∨ j = 7 by omega) with rfl | rfl | rfl | rfl | rfl | rfl | rfl | rfl
  · exact ⟨3, by decide, by decide, rfl⟩
  · exact ⟨5, by decide, by decide, rfl⟩
  · exact ⟨150, by decide, by decide, rfl⟩
  · exact ⟨400, by decide, by decide, rfl⟩
  · exact ⟨100, by decide, by decide, rfl⟩
  · exact ⟨10, by decide, by decide, rfl⟩
  · exact ⟨2, by decide, by decide, rfl⟩
  · exact ⟨3, by decide, by decide, rfl⟩
theorem z00_OK : OKs z00 := ⟨Nat.zero_le _, fun i hi => absurd hi (Nat.not_lt_zero _), sv0_ok, ⟨0, by decide, rfl⟩, ⟨by decide, by decide⟩, fun _ _ => Or.inl rfl, fun _ _ _ => rfl, Or.inl rfl, pOK_50⟩
theorem rC_0 {rg : Nat → Int32} (h : ∀ j, j < 10 → rg j = (-1)) : rC z00 0 0 (fun _ => nI 0) (fun _ => nI 0) sv0 4 rg (fun _ => nI 0) 1112014848 (fun _ => nI 0) (fun _ => nI 0) := ⟨z00_OK, ⟨Nat.le_refl 0, by decide, rfl⟩, fun i hi => absurd hi (Nat.not_lt_zero _), fun _ _ => rfl, rfl, fun j hj => h j hj, fun _ _ => rfl, rfl, ⟨rfl, rfl, rfl, fun _ _ => rfl⟩, fun _ _ => rfl, Or.inl rfl⟩
