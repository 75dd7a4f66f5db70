/-! pure facts for 09e.model.lean.txt -/
theorem rM_sp {z : Sg} {ar : Nat → Int32} {pt p : UInt32} (h : rM z ar pt) (hp : pOK p) : rM (pS z p) ar p := ⟨pS_OK h.1 hp, h.2.1, h.2.2.1, h.2.2.2.1, h.2.2.2.2.1, h.2.2.2.2.2.1, h.2.2.2.2.2.2.1, h.2.2.2.2.2.2.2.1, h.2.2.2.2.2.2.2.2.1, h.2.2.2.2.2.2.2.2.2.1, rfl⟩
theorem rM_un {z : Sg} {ar : Nat → Int32} {pt : UInt32} (h : rM z ar pt) : rM (unS z) (upd ar 0 (nI 0)) pt := by
  obtain ⟨hO, h0, hw, hs, hv, hT, hr, hc, hb, hl, hp⟩ := h
  have e : ∀ k j, upd ar 0 (nI 0) (k + 1 + j) = ar (k + 1 + j) := fun k j => pk_un (by omega)
  exact ⟨unS_OK hO, pk_us, fun i hi => absurd hi (Nat.not_lt_zero _), fun j hj => (e 160 j).trans (hs j hj), (e 168 0).trans hv, (e 169 0).trans hT, fun j hj => (e 170 j).trans (hr j hj), fun j hj => (e 180 j).trans (hc j hj), fun j hj => (e 189 j).trans (hb j hj), fun j hj => (e 197 j).trans (hl j hj), hp⟩
theorem rM_set {z : Sg} {ar br : Nat → Int32} {pt : UInt32} {w x : Nat} (h : rM z ar pt) (hw : w < 8) (h1 : st_lo w ≤ x) (h2 : x ≤ st_hi w) (hbr : ∀ j, j < 204 → j ≠ 161 + w → br j = ar j) : rM (setS z w (nI x)) (upd br (161 + w) (nI x)) pt := by
  obtain ⟨hO, h0, hw', hs, hv, hT, hr, hc, hb, hl, hp⟩ := h
  have hn := hO.1
  have f : ∀ j, j < 204 → j ≠ 161 + w → upd br (161 + w) (nI x) j = ar j := fun j hj h => (pk_un h).trans (hbr j hj h)
  refine ⟨setS_OK hO hw h1 h2, (f 0 (by decide) (by omega)).trans h0, fun i hi => ?_, fun j hj => ?_, (f 169 (by decide) (by omega)).trans hv, (f 170 (by decide) (by omega)).trans hT, fun j hj => (f _ (by omega) (by omega)).trans (hr j hj), fun j hj => (f _ (by omega) (by omega)).trans (hc j hj), fun j hj => (f _ (by omega) (by omega)).trans (hb j hj), fun j hj => (f _ (by omega) (by omega)).trans (hl j hj), hp⟩
  · have hi : i < gN z := hi
    rw [f _ (by omega) (by omega), f _ (by omega) (by omega)]
    exact hw' i hi
  · show upd br (161 + w) (nI x) (161 + j) = upd (gS z) w (nI x) j
    by_cases e : j = w
    · subst e; rw [pk_us, pk_us]
    · rw [pk_un e, f _ (by omega) (by omega)]; exact hs j hj
theorem rM_cl {z : Sg} {ar : Nat → Int32} {pt : UInt32} (h : rM z ar pt) : rM (clS z) (upd (upd ar 188 (nI 0)) 189 (nI 0)) pt := by
  obtain ⟨hO, h0, hw', hs, hv, hT, hr, hc, hb, hl, hp⟩ := h
  have hn := hO.1
  have f : ∀ j, j ≠ 188 → j ≠ 189 → upd (upd ar 188 (nI 0)) 189 (nI 0) j = ar j := fun j h1 h2 => (pk_un h2).trans (pk_un h1)
  refine ⟨clS_OK hO, (f 0 (by decide) (by decide)).trans h0, fun i hi => ?_, fun j hj => (f _ (by omega) (by omega)).trans (hs j hj), (f 169 (by decide) (by omega)).trans hv, (f 170 (by decide) (by omega)).trans hT, fun j hj => (f _ (by omega) (by omega)).trans (hr j hj), fun j hj => ?_, fun j hj => (f _ (by omega) (by omega)).trans (hb j hj), fun j hj => (f _ (by omega) (by omega)).trans (hl j hj), hp⟩
  · have hi : i < gN z := hi
    rw [f _ (by omega) (by omega), f _ (by omega) (by omega)]
    exact hw' i hi
  · show upd (upd ar 188 (nI 0)) 189 (nI 0) (181 + j) = upd (upd (gC z) 7 (nI 0)) 8 (nI 0) j
    by_cases e8 : j = 8
    · subst e8; rw [pk_us, pk_us]
    · rw [pk_un (by omega), pk_un e8]
      by_cases e7 : j = 7
      · subst e7; rw [pk_us, pk_us]
      · rw [pk_un (by omega), pk_un e7]; exact hc j hj
def rgI (z : Sg) (ar bk : Nat → Int32) (k c : Nat) : Prop :=
  (∀ j, j < k → bk (171 + j) = gR z j) ∧ (∀ j, k ≤ j → j < 10 → bk (171 + j) = (-1)) ∧ lvS (gR z) k (bk 182, bk 183) = lvS (gR z) (gT z) (gC z 1, gC z 2) ∧ (∀ j, (j < 171 ∨ 181 ≤ j) → j ≠ 182 → j ≠ 183 → bk j = ar j) ∧ c + cntR (gR z) k = cntR (gR z) (gT z)
theorem rg_0 {z : Sg} {ar : Nat → Int32} {pt : UInt32} (h : rM z ar pt) : rgI z ar ar (gT z) 0 := by
  have hT := h.1.2.2.2.2.1
  refine ⟨fun j hj => rM_R h j (by omega), fun j h1 h2 => (rM_R h j h2).trans (h.1.2.2.2.2.2.2.1 j h1 h2), ?_, fun _ _ _ _ => rfl, Nat.zero_add _⟩
  rw [show ar 182 = gC z 1 from rM_C h 1 (by decide), show ar 183 = gC z 2 from rM_C h 2 (by decide)]
theorem rg_s {z : Sg} {ar bk gk : Nat → Int32} {k c c' : Nat} (h : rgI z ar bk (k + 1) c) (hk : k < 10) (c1 : gk 182 = gtA (bk (171 + k)) (bk 182)) (c2 : gk 183 = gtB (bk (171 + k)) (bk 183)) (c3 : ∀ j, j ≠ 182 → j ≠ 183 → gk j = bk j) (hd : (bk (171 + k) = (-1) ∧ c' = c) ∨ (¬ bk (171 + k) = (-1) ∧ c' = c + 1)) : rgI z ar (upd gk (171 + k) (-1)) k c' := by
  obtain ⟨h1, h2, h3, h4, h5⟩ := h
  have e := h1 k (Nat.lt_succ_self k)
  refine ⟨fun j hj => ?_, fun j hj1 hj2 => ?_, ?_, fun j hj1 hj2 hj3 => ?_, ?_⟩
  · rw [pk_un (by omega), c3 _ (by omega) (by omega)]; exact h1 j (by omega)
  · by_cases q : j = k
    · subst q; rw [pk_us]
    · rw [pk_un (by omega), c3 _ (by omega) (by omega)]; exact h2 j (by omega) hj2
  · rw [pk_un (by omega), pk_un (by omega), c1, c2, e, ← h3]; rfl
  · rw [pk_un (by omega), c3 _ hj2 hj3]; exact h4 j hj1 hj2 hj3
  · rw [← h5, cntR]
    rw [e] at hd
    rcases hd with ⟨a, b⟩ | ⟨a, b⟩
    · rw [if_pos a, b]
    · rw [if_neg a, b]; omega
theorem rg_e {z : Sg} {ar bk : Nat → Int32} {pt : UInt32} {c n : Nat} (hR : rM z ar pt) (h : rgI z ar bk 0 c) (h1 : 1 ≤ n) (h2 : n ≤ 10) : c = cntR (gR z) (gT z) ∧ rM (rngS z n) (upd bk 170 (nI n)) pt := by
  obtain ⟨hO, h0, hw, hs, hv, hT, hr, hc, hb, hl, hp⟩ := hR
  obtain ⟨q1, q2, q3, q4, q5⟩ := h
  have hn := hO.1
  have f : ∀ j, j ≠ 170 → (j < 171 ∨ 181 ≤ j) → j ≠ 182 → j ≠ 183 → upd bk 170 (nI n) j = ar j := fun j a b c d => (pk_un a).trans (q4 j b c d)
  have q3 : (bk 182, bk 183) = lvS (gR z) (gT z) (gC z 1, gC z 2) := q3
  refine ⟨q5, rngS_OK hO h1 h2, (f 0 (by decide) (by decide) (by decide) (by decide)).trans h0, fun i hi => ?_, fun j hj => (f _ (by omega) (by omega) (by omega) (by omega)).trans (hs j hj), (f 169 (by decide) (by omega) (by decide) (by decide)).trans hv, pk_us, fun j hj => (pk_un (by omega)).trans (q2 j (Nat.zero_le _) hj), fun j hj => ?_, fun j hj => (f _ (by omega) (by omega) (by omega) (by omega)).trans (hb j hj), fun j hj => (f _ (by omega) (by omega) (by omega) (by omega)).trans (hl j hj), hp⟩
  · have hi : i < gN z := hi
    rw [f _ (by omega) (by omega) (by omega) (by omega), f _ (by omega) (by omega) (by omega) (by omega)]
    exact hw i hi
  · show upd bk 170 (nI n) (181 + j) = upd (upd (gC z) 1 (lvS (gR z) (gT z) (gC z 1, gC z 2)).1) 2 (lvS (gR z) (gT z) (gC z 1, gC z 2)).2 j
    rw [← q3]
    by_cases e2 : j = 2
    · subst e2; rw [pk_us, pk_un (by decide)]
    · rw [pk_un e2]
      by_cases e1 : j = 1
      · subst e1; rw [pk_us, pk_un (by decide)]
      · rw [pk_un e1, f _ (by omega) (by omega) (by omega) (by omega)]; exact hc j hj
/-- the search for the best value */ -/
def bestI (z : Sg) (w n : Nat) (v : Int32) (m : Nat) (q4 q5 : Int32) : Prop := (m = 0 ∧ q4 = (-1) ∧ q5 = (-1)) ∨ (1 ≤ m ∧ q4 = nI (beS z w n v (st_lo w) m).1 ∧ q5 = (beS z w n v (st_lo w) m).2)
theorem beS_n (z : Sg) (w n : Nat) (v : Int32) (a : Nat) (hn : n ≤ 100) : ∀ m, (m = 0 ∧ (beS z w n v a m).2 = (-1)) ∨ ∃ d, d ≤ n ∧ (beS z w n v a m).2 = nI d
  | 0 => Or.inl ⟨rfl, rfl⟩
  | m + 1 => by
    obtain ⟨d, hd, e⟩ := gdS_nat z w (a + m) n v
    rw [beS]
    split
    · exact Or.inr ⟨d, hd, e⟩
    · rename_i h
      rcases beS_n z w n v a hn m with ⟨-, h2⟩ | h2
      · rw [h2, e] at h
        exact absurd (m1_lt (by omega)) h
      · exact Or.inr h2
theorem best_s {z : Sg} {w n m : Nat} {v q4 q5 x4 x5 : Int32} (hn : n ≤ 100) (h : bestI z w n v m q4 q5) (hd : (q5 < gdS z w (st_lo w + m) n v ∧ x4 = nI (st_lo w + m) ∧ x5 = gdS z w (st_lo w + m) n v) ∨ (¬ q5 < gdS z w (st_lo w + m) n v ∧ x4 = q4 ∧ x5 = q5)) : bestI z w n v (m + 1) x4 x5 := by
  obtain ⟨d, hd1, e⟩ := gdS_nat z w (st_lo w + m) n v
  have e5 : q5 = (beS z w n v (st_lo w) m).2 := by
    rcases h with ⟨rfl, -, h⟩ | ⟨-, -, h⟩
    · exact h
    · exact h
  refine Or.inr ⟨by omega, ?_⟩
  rw [beS]
  rcases hd with ⟨a, b, c⟩ | ⟨a, b, c⟩
  · rw [← e5, if_pos a]; exact ⟨b, c⟩
  · rcases h with ⟨-, -, h⟩ | ⟨-, h4, -⟩
    · rw [h, e] at a
      exact absurd (m1_lt (by omega)) a
    · rw [← e5, if_neg a]; exact ⟨b.trans h4, c.trans e5⟩
