/-! pure facts for 23.law.lean.txt -/
theorem ldS_id (z : Sg) : ldS z (gN z) (gK z) (gL z) = z := rfl
theorem tnN_1 {v q : Nat} (h : v < 10) : tnN v q = q + 1 := if_pos h
theorem tnF_1 {v q : Nat} {f : Nat → Int32} (h : v < 10) : tnF v q f = upd f q (nI (48 + v % 10)) := if_pos h
theorem tx_00 {t : Nat} {tx ty : Nat → Int32} (ht : 1 ≤ t ∧ t ≤ 3) (h : ty = upd (upd (upd (upd tx 0 (nI (48 + t % 10))) (0 + 1) (nI 42)) (0 + 1 + 1) (nI 40)) (0 + 1 + 1 + 1) (nI 32)) : txI ty 4 79 (psI 4 0 (fun _ => nI 0) (fun _ => nI 0) t) := by
  subst h
  refine tx_0 ?_ ?_ ?_ pk_us (by omega)
  · rw [pk_un (by decide), pk_un (by decide), pk_un (by decide), pk_us, show t % 10 = t by omega]
  · rw [pk_un (by decide), pk_un (by decide), pk_us]
  · rw [pk_un (by decide), pk_us]
theorem tx_k {tq n kd sz t : Nat} {tx K L : Nat → Int32} (h : txI tx tq (79 - n) (psI tq n K L t)) (hn : n < 70) (hk : kd ≤ 3) (hz : 1 ≤ sz ∧ sz ≤ 99) (hz2 : (kd = 1 ∨ kd = 3) → sz ≤ 30) : txI (tnF sz (tq + 1) (upd tx tq (nI (ltS kd)))) (tnN sz (tq + 1)) (79 - (n + 1)) (psI (tnN sz (tq + 1)) (n + 1) (apF n (nI kd) K) (apF n (nI sz) L) t) := by
  refine tx_s ?_ (by omega) hk hz hz2
  rw [show 79 - (n + 1) + 1 = 79 - n by omega]
  exact h
/-- items typed so far -/
def itD (N0 : Nat) (wb K L : Nat → Int32) (j : Nat) : Prop := ∃ k sz : Nat, k ≤ 3 ∧ 1 ≤ sz ∧ sz ≤ 69 ∧ (k = 1 → sz ≤ 9) ∧ K j = nI k ∧ L j = nI sz ∧ wb (N0 + j) = nI (100 * k + sz)
theorem itD_s {N0 kk kd sz : Nat} {wb K L : Nat → Int32} (h : ∀ j, j < kk → itD N0 wb K L j) (hk : kd ≤ 3) (hz : 1 ≤ sz ∧ sz ≤ 69 ∧ (kd = 1 ∨ kd = 3 → sz ≤ 9)) : ∀ j, j < kk + 1 → itD N0 (upd wb (N0 + kk) (nI (100 * kd + sz))) (apF kk (nI kd) K) (apF kk (nI sz) L) j := by
  intro j hj
  by_cases e : j = kk
  · subst e
    exact ⟨kd, sz, hk, hz.1, hz.2.1, fun q => hz.2.2 (Or.inl q), if_neg (Nat.lt_irrefl _), if_neg (Nat.lt_irrefl _), pk_us⟩
  · obtain ⟨k, s, a1, a2, a3, a4, a5, a6, a7⟩ := h j (by omega)
    exact ⟨k, s, a1, a2, a3, a4, (if_pos (by omega)).trans a5, (if_pos (by omega)).trans a6, (pk_un (by omega)).trans a7⟩
theorem lp_c {N0 n0 k2 : Nat} {wc wb : Nat → Int32} (h1 : n0 ≤ k2) (h0 : 1 ≤ n0) (h : ∀ j, j < k2 → wc (N0 + j) = wb (N0 + j % n0)) : ∀ j, j < k2 + 1 → upd wc (N0 + k2) (wc (N0 + k2 - n0)) (N0 + j) = wb (N0 + j % n0) := by
  intro j hj
  by_cases e : j = k2
  · subst e
    rw [pk_us, show N0 + j - n0 = N0 + (j - n0) by omega, h (j - n0) (by omega), ← Nat.mod_eq_sub_mod h1]
  · rw [pk_un (by omega)]
    exact h j (by omega)
theorem lo_t {z : Sg} {tq : Nat} {tx : Nat → Int32} {s : Ps} {n : Nat} (h : rdR tq tx = (-1, s)) (hn : pzN s = n) (h80 : gN z + n ≤ 80) : loA z tq tx = (nI (gN z + n), ldS z (gN z + n) (appF (gN z) (gK z) (pzK s)) (appF (gN z) (gL z) (pzL s))) := by
  have h1 : (rdR tq tx).1 = (-1) := by rw [h]
  have h2 : (rdR tq tx).2 = s := by rw [h]
  rw [loA, if_pos h1, h2, hn, if_neg (by omega)]
theorem rW_ld {z : Sg} {n0 T : Nat} {ww wb wc K1 L1 K L : Nat → Int32} (h : rW z ww) (hN : gN z + T ≤ 60) (h0 : 1 ≤ n0) (hK : K = clF 0 n0 K1) (hL : L = clF 0 n0 L1) (hIt : ∀ j, j < n0 → itD (gN z) wb K1 L1 j) (hC1 : ∀ j, j < T → wc (gN z + j) = wb (gN z + j % n0)) (hC2 : ∀ j, (j < gN z ∨ j = 63) → wc j = ww j) : rW (ldS z (gN z + T) (appF (gN z) (gK z) K) (appF (gN z) (gL z) L)) (upd wc 63 (nI (gN z + T))) := by
  obtain ⟨h1, h2, h3⟩ := h
  refine ⟨hN, pk_us, fun i hi => ?_⟩
  have hi : i < gN z + T := hi
  show ∃ k sz : Nat, k ≤ 3 ∧ 1 ≤ sz ∧ sz ≤ 69 ∧ (k = 1 → sz ≤ 9) ∧ appF (gN z) (gK z) K i = nI k ∧ appF (gN z) (gL z) L i = nI sz ∧ upd wc 63 (nI (gN z + T)) i = nI (100 * k + sz)
  rw [pk_un (by omega)]
  by_cases q : i < gN z
  · obtain ⟨k, sz, a1, a2, a3, a4, a5, a6, a7⟩ := h3 i q
    exact ⟨k, sz, a1, a2, a3, a4, (appF_lo q).trans a5, (appF_lo q).trans a6, (hC2 i (Or.inl q)).trans a7⟩
  · obtain ⟨j, rfl⟩ : ∃ j, i = gN z + j := ⟨i - gN z, by omega⟩
    obtain ⟨k, sz, a1, a2, a3, a4, a5, a6, a7⟩ := hIt (j % n0) (Nat.mod_lt _ h0)
    refine ⟨k, sz, a1, a2, a3, a4, ?_, ?_, (hC1 j (by omega)).trans a7⟩
    · rw [appF_hi, hK, clF_at h0]
      exact a5
    · rw [appF_hi, hL, clF_at h0]
      exact a6
