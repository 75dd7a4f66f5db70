/-! pure facts for the law -/
theorem bg_rA {u : Nat → Int32} (h : bgA u) : rA z00 u 0 := by
  obtain ⟨h1, h2, h3, h4, h5, h6, h7, h8⟩ := h
  refine ⟨h1, h2, h3, h4, fun j hj => h5 _ (by omega) (by omega), fun j hj => h5 _ (by omega) (by omega), h6, h8, 1638400, h7, pch_50⟩
theorem rW_0 : rW z00 (fun _ => nI 0) := ⟨Nat.zero_le _, rfl, fun i hi => absurd hi (Nat.not_lt_zero i)⟩
theorem rW_10 {K L : Nat → Int32} : rW (ldS z00 (gN z00 + 0) K L) (fun _ => nI 0) := ⟨Nat.zero_le _, rfl, fun i hi => absurd hi (Nat.not_lt_zero i)⟩
theorem rA_ld {z : Sg} {aa K L : Nat → Int32} {n k : Nat} (h : rA z aa k) : rA (ldS z n K L) aa k := h
theorem gn_ld {z : Sg} {K L : Nat → Int32} {n : Nat} (h : gnOK z) : gnOK (ldS z n K L) := h
theorem rW_st {z : Sg} {ww : Nat → Int32} {k : Nat} {x : Int32} (h : rW z ww) : rW (setS z k x) ww := h
theorem rW_p {z : Sg} {ww : Nat → Int32} {p : UInt32} (h : rW z ww) : rW (pS z p) ww := h
theorem gn_p {z : Sg} {p : UInt32} (h : gnOK z) : gnOK (pS z p) := h
theorem rW_r {z : Sg} {ww : Nat → Int32} {n : Nat} (h : rW z ww) : rW (rngS z n) ww := h
theorem gn_r {z : Sg} {n : Nat} (h : gnOK z) : gnOK (rngS z n) := h
theorem rW_c {z : Sg} {ww : Nat → Int32} (h : rW z ww) : rW (clS z) ww := h
theorem gn_c {z : Sg} (h : gnOK z) : gnOK (clS z) := h
theorem rA_cl {z : Sg} {aa : Nat → Int32} {K : Nat} (h : rA z aa K) : rA (clS z) (upd (upd aa 27 (nI 0)) 28 (nI 0)) K := by
  obtain ⟨x1, x2, x3, x4, x5, x6, x7, x8, P, x9, x10⟩ := h
  have f : ∀ j, j ≠ 27 → j ≠ 28 → upd (upd aa 27 (nI 0)) 28 (nI 0) j = aa j := fun j h1 h2 => by rw [pk_un h2, pk_un h1]
  refine ⟨fun j hj => ?_, (f 8 (by decide) (by decide)).trans x2, (f 9 (by decide) (by decide)).trans x3, fun j hj => ?_, fun j hj => ?_, fun j hj => ?_, fun j hj => ?_, (f 47 (by decide) (by decide)).trans x8, P, (f 46 (by decide) (by decide)).trans x9, x10⟩
  · rw [f j (by omega) (by omega)]; exact x1 j hj
  · rw [f _ (by omega) (by omega)]; exact x4 j hj
  · show upd (upd aa 27 (nI 0)) 28 (nI 0) (20 + j) = upd (upd (gC z) 7 (nI 0)) 8 (nI 0) j
    by_cases e8 : j = 8
    · subst e8
      rw [pk_us, pk_us]
    · by_cases e7 : j = 7
      · subst e7
        rw [pk_un (by decide), pk_us, pk_un (by decide), pk_us]
      · rw [f _ (by omega) (by omega), pk_un e8, pk_un e7]
        exact x5 j hj
  · rw [f _ (by omega) (by omega)]; exact x6 j hj
  · rw [f _ (by omega) (by omega)]; exact x7 j hj
theorem rW_up {z : Sg} {ww : Nat → Int32} (h : rW z ww) : rW z (upd ww 63 (nI (gN z))) := by
  obtain ⟨h1, h2, h3⟩ := h
  refine ⟨h1, pk_us, fun i hi => ?_⟩
  obtain ⟨k, sz, a1, a2, a3, a4, a5, a6, a7⟩ := h3 i hi
  exact ⟨k, sz, a1, a2, a3, a4, a5, a6, (pk_un (by omega)).trans a7⟩
theorem rW_un {z : Sg} {ww : Nat → Int32} : rW (unS z) (upd ww 63 (nI 0)) := ⟨Nat.zero_le _, pk_us, fun i hi => absurd hi (Nat.not_lt_zero i)⟩
