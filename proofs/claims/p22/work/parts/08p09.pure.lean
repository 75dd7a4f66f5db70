/-! pure facts for 09.model.lean.txt -/
theorem add0 (x : Int32) : x + nI 0 = x := by rw [nI_0, Int32.add_zero]
theorem gtA_y {x y c : Int32} (h : x = nI 0) (e : y = c + nI 1) : y = gtA x c := by rw [gtA, if_pos h]; exact e
theorem gtA_n {x y c : Int32} (h : ¬ x = nI 0) (e : y = c + nI 0) : y = gtA x c := by rw [gtA, if_neg h, e, add0]
theorem gtB_n {x y c : Int32} (hx : x = (-1) ∨ ∃ k, k ≤ 7 ∧ x = nI k) (h : x ≤ 0) (e : y = c + nI 0) : y = gtB x c := by
  rw [e, add0]
  rcases hx with rfl | ⟨k, hk, rfl⟩
  · rw [gtB, if_neg (fun q => nI_m1 (by decide) q.symm), if_pos rfl]
  · have hk0 : k = 0 := by
      have := (nI_leI (a := k) (b := 0) (by omega) (by omega)).mp (nI_0 ▸ h)
      omega
    subst hk0
    rw [gtB, if_pos rfl]
theorem gtB_y {x y c : Int32} (hx : x = (-1) ∨ ∃ k, k ≤ 7 ∧ x = nI k) (h : ¬ x ≤ 0) (e : y = c + nI 1) : y = gtB x c := by
  rw [e]
  rcases hx with rfl | ⟨k, hk, rfl⟩
  · exact absurd (by decide) h
  · rw [gtB, if_neg (fun q => h (by rw [q, nI_0]; decide)), if_neg (nI_m1 (by omega))]
theorem upd2 {ar : Nat → Int32} {x y : Int32} {i k : Nat} (hik : i ≠ k) : upd (upd ar i x) k y i = x ∧ upd (upd ar i x) k y k = y ∧ ∀ j, j ≠ i → j ≠ k → upd (upd ar i x) k y j = ar j := ⟨by rw [pk_un hik, pk_us], pk_us, fun j h1 h2 => by rw [pk_un h2, pk_un h1]⟩
theorem tn_1 {bk gk : Nat → Int32} {kk st : Nat} {x : Int32} (hk : 0 < kk) (q1 : ∀ j, kk < j → j < st → bk (171 + j) = gk (171 + (j - 1))) (q2 : ∀ j, j ≤ kk ∨ st ≤ j → bk (171 + j) = gk (171 + j)) : ∀ j, kk - 1 < j → j < st → upd bk (171 + kk) (bk (171 + kk - 1)) (171 + j) = gk (171 + (j - 1)) := by
  intro j h1 h2
  by_cases e : j = kk
  · subst e
    rw [pk_us, show 171 + j - 1 = 171 + (j - 1) by omega]
    exact q2 (j - 1) (Or.inl (by omega))
  · rw [pk_un (by omega)]
    exact q1 j (by omega) h2
theorem tn_2 {bk gk : Nat → Int32} {kk st : Nat} {x : Int32} (q2 : ∀ j, j ≤ kk ∨ st ≤ j → bk (171 + j) = gk (171 + j)) (hk : 0 < kk) (hs : kk < st) : ∀ j, j ≤ kk - 1 ∨ st ≤ j → upd bk (171 + kk) x (171 + j) = gk (171 + j) := by
  intro j h
  rw [pk_un (by omega)]
  exact q2 j (by omega)
theorem tn_end {ar gk bk : Nat → Int32} {st k kk : Nat} {X Y : Int32} (h1 : 1 ≤ st) (h2 : st ≤ 10) (hk : kk = 0) (q1 : ∀ j, kk < j → j < st → bk (171 + j) = gk (171 + (j - 1))) (q2 : ∀ j, j ≤ kk ∨ st ≤ j → bk (171 + j) = gk (171 + j)) (q3 : ∀ j, j < 171 → bk j = gk j) (c1 : gk 182 = X) (c2 : gk 183 = Y) (c3 : ∀ j, j ≠ 182 → j ≠ 183 → gk j = ar j) :
    (∀ j, j < 10 → upd bk 171 (nI k) (171 + j) = rgS (fun j => ar (171 + j)) st (nI k) j) ∧ upd bk 171 (nI k) 182 = X ∧ upd bk 171 (nI k) 183 = Y ∧ ∀ j, (j < 171 ∨ 181 ≤ j) → j ≠ 182 → j ≠ 183 → upd bk 171 (nI k) j = ar j := by
  subst hk
  refine ⟨fun j hj => ?_, ?_, ?_, fun j h3 h4 h5 => ?_⟩
  · unfold rgS
    by_cases e : j = 0
    · subst e
      rw [Nat.add_zero, pk_us, if_pos (by omega), if_pos rfl]
    · rw [pk_un (by omega)]
      by_cases l : j < st
      · rw [if_pos l, if_neg e, q1 j (by omega) l]
        exact c3 _ (by omega) (by omega)
      · rw [if_neg l, q2 j (Or.inr (by omega))]
        exact c3 _ (by omega) (by omega)
  · rw [pk_un (by decide)]
    exact (q2 11 (Or.inr (by omega))).trans c1
  · rw [pk_un (by decide)]
    exact (q2 12 (Or.inr (by omega))).trans c2
  · rw [pk_un (by omega)]
    rcases h3 with h | h
    · rw [q3 j h]
      exact c3 j h4 h5
    · have := q2 (j - 171) (Or.inr (by omega))
      rw [show 171 + (j - 171) = j by omega] at this
      rw [this]
      exact c3 j h4 h5
theorem fo_3 {s c g v lo hi y : Int32} (e1 : lo = (if s - c < 0 then (0 : Int32) else s - c)) (e2 : hi = (if g < s + c then g else s + c)) (h : (hi < lo ∧ y = g) ∨ (¬ hi < lo ∧ ((v < lo ∧ y = lo) ∨ (¬ v < lo ∧ ((hi < v ∧ y = hi) ∨ (¬ hi < v ∧ y = v)))))) : y = follow s c g v := by
  subst e1 e2
  unfold follow
  simp only
  rcases h with ⟨h, rfl⟩ | ⟨h, ⟨h2, rfl⟩ | ⟨h2, ⟨h3, rfl⟩ | ⟨h3, rfl⟩⟩⟩
  · rw [if_pos h]
  · rw [if_neg h, if_pos h2]
  · rw [if_neg h, if_neg h2, if_pos h3]
  · rw [if_neg h, if_neg h2, if_neg h3]
