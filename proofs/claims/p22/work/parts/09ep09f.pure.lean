/-! pure facts for 09f.model.lean.txt -/
/-- the model's slots -/
def svM (q : Sv) (sl fs : Nat → Int32) (p1 p2 : UInt32) : Prop := ∀ w, w ≤ 1 → flg q w ≤ 1 ∧ fs w = nI (flg q w) ∧ (flg q w ≠ 0 → rM (slq q w) (fun j => sl (204 * w + j)) (if w = 0 then p1 else p2))
theorem sv_s {sk sl ar : Nat → Int32} {w i : Nat} (hi : i < 204) (q1 : ∀ j, j < i → sk (204 * w + j) = ar j) (q2 : ∀ j, (j < 204 * w ∨ 204 * w + 204 ≤ j) → sk j = sl j) : (∀ j, j < i + 1 → upd sk (204 * w + i) (ar i) (204 * w + j) = ar j) ∧ (∀ j, (j < 204 * w ∨ 204 * w + 204 ≤ j) → upd sk (204 * w + i) (ar i) j = sl j) := by
  refine ⟨fun j hj => ?_, fun j hj => ?_⟩
  · by_cases e : j = i
    · subst e; rw [pk_us]
    · rw [pk_un (by omega)]; exact q1 j (by omega)
  · rw [pk_un (by omega)]; exact q2 j hj
theorem sv_0 {z : Sg} {q : Sv} {ar sk sl fs : Nat → Int32} {pt p1 p2 : UInt32} (hR : rM z ar pt) (hq : svM q sl fs p1 p2) (q1 : ∀ j, j < 204 → sk (204 * 0 + j) = ar j) (q2 : ∀ j, (j < 204 * 0 ∨ 204 * 0 + 204 ≤ j) → sk j = sl j) : svM (stq q 0 z) sk (upd fs 0 (nI 1)) pt p2 := by
  intro w hw
  rcases (show w = 0 ∨ w = 1 by omega) with rfl | rfl
  · exact ⟨Nat.le_refl 1, pk_us, fun _ => rM_cg hR q1⟩
  · obtain ⟨h1, h2, h3⟩ := hq 1 (Nat.le_refl 1)
    refine ⟨h1, (pk_un (by decide)).trans h2, fun h => rM_cg (h3 h) (fun j _ => q2 _ (Or.inr (by omega)))⟩
theorem sv_1 {z : Sg} {q : Sv} {ar sk sl fs : Nat → Int32} {pt p1 p2 : UInt32} (hR : rM z ar pt) (hq : svM q sl fs p1 p2) (q1 : ∀ j, j < 204 → sk (204 * 1 + j) = ar j) (q2 : ∀ j, (j < 204 * 1 ∨ 204 * 1 + 204 ≤ j) → sk j = sl j) : svM (stq q 1 z) sk (upd fs 1 (nI 1)) p1 pt := by
  intro w hw
  rcases (show w = 0 ∨ w = 1 by omega) with rfl | rfl
  · obtain ⟨h1, h2, h3⟩ := hq 0 (Nat.zero_le 1)
    refine ⟨h1, (pk_un (by decide)).trans h2, fun h => rM_cg (h3 h) (fun j hj => q2 _ (Or.inl (by omega)))⟩
  · exact ⟨Nat.le_refl 1, pk_us, fun _ => rM_cg hR q1⟩
theorem bx_n {x : Int32} (h : x = nI 0 ∨ x = nI 1 ∨ x = nI 5) : ∃ k, (k = 0 ∨ k = 1 ∨ k = 5) ∧ x = nI k := by
  rcases h with h | h | h
  · exact ⟨0, Or.inl rfl, h⟩
  · exact ⟨1, Or.inr (Or.inl rfl), h⟩
  · exact ⟨5, Or.inr (Or.inr rfl), h⟩
theorem be_k {bk ar : Nat → Int32} {k : Nat} {x : Int32} {gk : Nat → Int32} (hk : ∀ j, j < 204 → j ≠ k → bk j = ar j) (h : ∀ j, j < 204 → gk j = upd bk k x j) : ∀ j, j < 204 → j ≠ k → gk j = ar j := fun j h1 h2 => by rw [h j h1, pk_un h2]; exact hk j h1 h2
theorem be_e {bk ar : Nat → Int32} {k : Nat} (hk : ∀ j, j < 204 → j ≠ k → bk j = ar j) : ∀ j, j < 204 → upd bk k (ar k) j = ar j := fun j h1 => by
  by_cases e : j = k
  · subst e; rw [pk_us]
  · rw [pk_un e]; exact hk j h1 e
theorem best_e {z : Sg} {w n m : Nat} {v q4 q5 : Int32} (h : bestI z w n v m q4 q5) (hm : m = st_hi w - st_lo w + 1) : q4 = nI (beS z w n v (st_lo w) (st_hi w - st_lo w + 1)).1 := by
  subst hm
  rcases h with ⟨h, -⟩ | ⟨-, h, -⟩
  · omega
  · exact h
