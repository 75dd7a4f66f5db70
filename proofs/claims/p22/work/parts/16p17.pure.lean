/-! pure facts for 17.law.lean.txt -/
def bgA (u : Nat → Int32) : Prop := (∀ j, j < 8 → u j = sv0 j) ∧ u 8 = nI 0 ∧ u 9 = nI 4 ∧ (∀ j, j < 10 → u (10 + j) = (-1)) ∧ (∀ j, 20 ≤ j → j < 40 → u j = nI 0) ∧ (∀ j, j < 6 → u (40 + j) = (-1)) ∧ u 46 = nI 1638400 ∧ u 47 = nI 0
theorem bg_0 {a1 : Nat → Int32} (h : a1 = upd (upd (upd (upd (upd (upd (upd (upd (upd (fun _ => nI 0) 0 (nI 3)) 1 (nI 5)) 2 (nI 150)) 3 (nI 400)) 4 (nI 100)) 5 (nI 10)) 6 (nI 2)) 7 (nI 3)) 9 (nI 4)) : (∀ j, j < 8 → a1 j = sv0 j) ∧ a1 8 = nI 0 ∧ a1 9 = nI 4 ∧ ∀ j, 10 ≤ j → a1 j = nI 0 := by
  subst h
  refine ⟨fun j hj => ?_, rfl, pk_us, fun j hj => ?_⟩
  · rw [pk_un (by omega)]
    rfl
  · rw [pk_un (by omega), pk_un (by omega), pk_un (by omega), pk_un (by omega), pk_un (by omega), pk_un (by omega), pk_un (by omega), pk_un (by omega), pk_un (by omega)]
theorem bg_1 {a1 bk ck : Nat → Int32} (h : (∀ j, j < 8 → a1 j = sv0 j) ∧ a1 8 = nI 0 ∧ a1 9 = nI 4 ∧ ∀ j, 10 ≤ j → a1 j = nI 0) (b1 : ∀ j, j < 10 → bk (10 + j) = (-1)) (b2 : ∀ j, (j < 10 ∨ 10 + 10 ≤ j) → bk j = a1 j) (c1 : ∀ j, j < 6 → ck (40 + j) = (-1)) (c2 : ∀ j, (j < 40 ∨ 40 + 6 ≤ j) → ck j = bk j) : bgA (upd ck 46 (nI 1638400)) := by
  obtain ⟨h1, h2, h3, h4⟩ := h
  have lo : ∀ j, j < 10 → upd ck 46 (nI 1638400) j = a1 j := fun j hj => by rw [pk_un (by omega), c2 j (by omega), b2 j (by omega)]
  refine ⟨fun j hj => (lo j (by omega)).trans (h1 j hj), (lo 8 (by decide)).trans h2, (lo 9 (by decide)).trans h3, fun j hj => ?_, fun j h5 h6 => ?_, fun j hj => ?_, pk_us, ?_⟩
  · rw [pk_un (by omega), c2 _ (by omega)]; exact b1 j hj
  · rw [pk_un (by omega), c2 j (by omega), b2 j (by omega)]; exact h4 j (by omega)
  · rw [pk_un (by omega)]; exact c1 j hj
  · rw [pk_un (by omega), c2 47 (by omega), b2 47 (by omega)]; exact h4 47 (by omega)
