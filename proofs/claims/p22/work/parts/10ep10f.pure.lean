/-! pure facts for 10f.class.lean.txt -/
def z00 : Sg := (0, fun _ => nI 0, fun _ => nI 0, sv0, nI 0, 4, fun _ => (-1), fun _ => nI 0, fun _ => nI 0, fun _ => (-1), 1112014848)
theorem sv0_ok : ∀ j, j < 8 → ∃ k, st_lo j ≤ k ∧ k ≤ st_hi j ∧ sv0 j = nI k := by
  intro j hj
  rcases (show j = 0 ∨ j = 1 ∨ j = 2 ∨ j = 3 ∨ j = 4 ∨ j = 5 ∨ j = 6 ∨ j = 7 by omega) with rfl | rfl | rfl | rfl | rfl | rfl | rfl | rfl
  · exact ⟨3, by decide, by decide, rfl⟩
  · exact ⟨5, by decide, by decide, rfl⟩
  · exact ⟨150, by decide, by decide, rfl⟩
  · exact ⟨400, by decide, by decide, rfl⟩
  · exact ⟨100, by decide, by decide, rfl⟩
  · exact ⟨10, by decide, by decide, rfl⟩
  · exact ⟨2, by decide, by decide, rfl⟩
  · exact ⟨3, by decide, by decide, rfl⟩
theorem z00_OK : OKs z00 := ⟨Nat.zero_le _, fun i hi => absurd hi (Nat.not_lt_zero _), sv0_ok, ⟨0, by decide, rfl⟩, ⟨by decide, by decide⟩, fun _ _ => Or.inl rfl, fun _ _ _ => rfl, Or.inl rfl, pOK_50⟩
theorem rC_0 {rg : Nat → Int32} (h : ∀ j, j < 10 → rg j = (-1)) : rC z00 0 0 (fun _ => nI 0) (fun _ => nI 0) sv0 4 rg (fun _ => nI 0) 1112014848 (fun _ => nI 0) (fun _ => nI 0) := ⟨z00_OK, ⟨Nat.le_refl 0, by decide, rfl⟩, fun i hi => absurd hi (Nat.not_lt_zero _), fun _ _ => rfl, rfl, fun j hj => h j hj, fun _ _ => rfl, rfl, ⟨rfl, rfl, rfl, fun _ _ => rfl⟩, fun _ _ => rfl, Or.inl rfl⟩
theorem x9_0 {a0 : Nat → Int32} (h : a0 = upd (upd (upd (upd (upd (upd (upd (upd (upd (fun _ => nI 0) 161 (nI 3)) 162 (nI 5)) 163 (nI 150)) 164 (nI 400)) 165 (nI 100)) 166 (nI 10)) 167 (nI 2)) 168 (nI 3)) 170 (nI 4)) : (∀ j, j < 8 → a0 (161 + j) = sv0 j) ∧ a0 169 = nI 0 ∧ a0 170 = nI 4 ∧ ∀ j, (j < 161 ∨ 171 ≤ j) → a0 j = nI 0 := by
  subst h
  refine ⟨fun j hj => ?_, ?_, pk_us, fun j hj => ?_⟩
  · rcases (show j = 0 ∨ j = 1 ∨ j = 2 ∨ j = 3 ∨ j = 4 ∨ j = 5 ∨ j = 6 ∨ j = 7 by omega) with rfl | rfl | rfl | rfl | rfl | rfl | rfl | rfl <;> rfl
  · rfl
  · rw [pk_un (by omega), pk_un (by omega), pk_un (by omega), pk_un (by omega), pk_un (by omega), pk_un (by omega), pk_un (by omega), pk_un (by omega), pk_un (by omega)]
theorem x9_1 {a0 bk ck : Nat → Int32} (h : (∀ j, j < 8 → a0 (161 + j) = sv0 j) ∧ a0 169 = nI 0 ∧ a0 170 = nI 4 ∧ ∀ j, (j < 161 ∨ 171 ≤ j) → a0 j = nI 0) (b1 : ∀ j, j < 10 → bk (171 + j) = (-1)) (b2 : ∀ j, (j < 171 ∨ 181 ≤ j) → bk j = a0 j) (c1 : ∀ j, j < 6 → ck (198 + j) = (-1)) (c2 : ∀ j, (j < 198 ∨ 204 ≤ j) → ck j = bk j) : rM z00 ck 1112014848 := by
  obtain ⟨h1, h2, h3, h4⟩ := h
  have lo : ∀ j, j < 171 → ck j = a0 j := fun j hj => (c2 j (Or.inl (by omega))).trans (b2 j (Or.inl hj))
  have hi : ∀ j, 181 ≤ j → j < 198 → ck j = nI 0 := fun j h5 h6 => ((c2 j (Or.inl h6)).trans (b2 j (Or.inr h5))).trans (h4 j (Or.inr (by omega)))
  exact ⟨z00_OK, (lo 0 (by decide)).trans (h4 0 (Or.inl (by decide))), fun i hi => absurd hi (Nat.not_lt_zero _), fun j hj => (lo _ (by omega)).trans (h1 j hj), (lo 169 (by decide)).trans h2, (lo 170 (by decide)).trans h3, fun j hj => (c2 _ (Or.inl (by omega))).trans (b1 j hj), fun j hj => hi _ (by omega) (by omega), fun j hj => hi _ (by omega) (by omega), c1, rfl⟩
theorem x9_s {bk a0 : Nat → Int32} {a i : Nat} {n : Nat} (hi : i < n) (b1 : ∀ j, j < i → bk (a + j) = (-1)) (b2 : ∀ j, (j < a ∨ a + n ≤ j) → bk j = a0 j) : (∀ j, j < i + 1 → upd bk (a + i) (-1) (a + j) = (-1)) ∧ (∀ j, (j < a ∨ a + n ≤ j) → upd bk (a + i) (-1) j = a0 j) := by
  refine ⟨fun j hj => ?_, fun j hj => ?_⟩
  · by_cases e : j = i
    · subst e; rw [pk_us]
    · rw [pk_un (by omega)]; exact b1 j (by omega)
  · rw [pk_un (by omega)]; exact b2 j hj
