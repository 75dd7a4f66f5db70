/-! pure facts for 09b.model.lean.txt -/
theorem sp_a {hb s : Nat} {k : Int32} (hH : hb = if 0 < s then 1 else 0) (g : ¬ hb = 0) : 1 = if 0 < cyS k s then 1 else 0 := by
  have h : 0 < s := Nat.pos_of_ne_zero (fun q => g (by rw [hH, q]; rfl))
  have h2 : 0 < cyS k s := by unfold cyS; split <;> omega
  rw [if_pos h2]
theorem sp_b {s : Nat} {k : Int32} (g : k = nI 3) : 1 = if 0 < cyS k s then 1 else 0 := by
  rw [cyS, if_pos g, if_pos (by omega)]
theorem sp_c {hb s : Nat} {k : Int32} (hH : hb = if 0 < s then 1 else 0) (g : hb = 0) (g2 : ¬ k = nI 3) : 0 = if 0 < cyS k s then 1 else 0 := by
  have h : ¬ 0 < s := fun q => by rw [if_pos q] at hH; omega
  rw [cyS, if_neg g2, if_neg h]
theorem fs_1 {gk ar : Nat → Int32} {kk i n : Nat} (hn : n ≤ 80) (hk : kk < n - i) (b0 : gk 0 = nI (n - i)) (b1 : ∀ j, j < kk → gk (1 + j) = ar (1 + j + i) ∧ gk (81 + j) = ar (81 + j + i)) (b2 : ∀ j, kk ≤ j → j < 80 → gk (1 + j) = ar (1 + j) ∧ gk (81 + j) = ar (81 + j)) (b3 : ∀ j, 161 ≤ j → gk j = ar j) :
    (upd (upd gk (1 + kk) (gk (1 + kk + i))) (81 + kk) ((upd gk (1 + kk) (gk (1 + kk + i))) (81 + kk + i))) 0 = nI (n - i) ∧ (∀ j, j < kk + 1 → (upd (upd gk (1 + kk) (gk (1 + kk + i))) (81 + kk) ((upd gk (1 + kk) (gk (1 + kk + i))) (81 + kk + i))) (1 + j) = ar (1 + j + i) ∧ (upd (upd gk (1 + kk) (gk (1 + kk + i))) (81 + kk) ((upd gk (1 + kk) (gk (1 + kk + i))) (81 + kk + i))) (81 + j) = ar (81 + j + i)) ∧ (∀ j, kk + 1 ≤ j → j < 80 → (upd (upd gk (1 + kk) (gk (1 + kk + i))) (81 + kk) ((upd gk (1 + kk) (gk (1 + kk + i))) (81 + kk + i))) (1 + j) = ar (1 + j) ∧ (upd (upd gk (1 + kk) (gk (1 + kk + i))) (81 + kk) ((upd gk (1 + kk) (gk (1 + kk + i))) (81 + kk + i))) (81 + j) = ar (81 + j)) ∧ (∀ j, 161 ≤ j → (upd (upd gk (1 + kk) (gk (1 + kk + i))) (81 + kk) ((upd gk (1 + kk) (gk (1 + kk + i))) (81 + kk + i))) j = ar j) := by
  have e1 : gk (1 + kk + i) = ar (1 + kk + i) := by
    have := (b2 (kk + i) (by omega) (by omega)).1
    rw [show 1 + (kk + i) = 1 + kk + i by omega] at this
    exact this
  have e2 : gk (81 + kk + i) = ar (81 + kk + i) := by
    have := (b2 (kk + i) (by omega) (by omega)).2
    rw [show 81 + (kk + i) = 81 + kk + i by omega] at this
    exact this
  rw [e1]
  generalize hA : upd gk (1 + kk) (ar (1 + kk + i)) = gA'
  have f1 : ∀ j, j ≠ 1 + kk → gA' j = gk j := fun j h => by rw [← hA, pk_un h]
  have f2 : gA' (1 + kk) = ar (1 + kk + i) := by rw [← hA, pk_us]
  refine ⟨?_, fun j hj => ⟨?_, ?_⟩, fun j h1 h2 => ⟨?_, ?_⟩, fun j hj => ?_⟩
  · rw [pk_un (by omega), f1 _ (by omega)]; exact b0
  · rw [pk_un (by omega)]
    by_cases e : j = kk
    · subst e; exact f2
    · rw [f1 _ (by omega)]; exact (b1 j (by omega)).1
  · by_cases e : j = kk
    · subst e
      rw [pk_us, f1 _ (by omega)]; exact e2
    · rw [pk_un (by omega), f1 _ (by omega)]; exact (b1 j (by omega)).2
  · rw [pk_un (by omega), f1 _ (by omega)]; exact (b2 j (by omega) h2).1
  · rw [pk_un (by omega), f1 _ (by omega)]; exact (b2 j (by omega) h2).2
  · rw [pk_un (by omega), f1 _ (by omega)]; exact b3 j hj
