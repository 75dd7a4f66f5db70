/-! pure facts for 12d.reader.lean.txt -/
theorem lo_1 {z : Sg} {s : Ps} {tm : Int32} {e9 : Nat} {kk ll : Nat → Int32} {dp : Nat} {fi ti : Nat → Int32} (hq : cQ s tm e9 kk ll dp fi ti) (ht : ¬ tm = nI 0) : 80 < gN z + pzN s := by
  rcases hq.2.2.2.2 with ⟨a, -, -⟩ | ⟨-, b⟩
  · exact absurd a ht
  · omega
theorem lo_w {s : Ps} {tm : Int32} {e9 : Nat} {kk ll : Nat → Int32} {dp : Nat} {fi ti : Nat → Int32} (hq : cQ s tm e9 kk ll dp fi ti) (ht : tm = nI 0) : pzN s = e9 ∧ ∀ j, j < e9 → kk j = pzK s j ∧ ll j = pzL s j := by
  rcases hq.2.2.2.2 with ⟨-, b⟩ | ⟨a, -⟩
  · exact b
  · exact absurd (a.symm.trans ht) nI_10
theorem lo_2 {s : Ps} {tm : Int32} {e9 : Nat} {kk ll : Nat → Int32} {dp : Nat} {fi ti : Nat → Int32} (hq : cQ s tm e9 kk ll dp fi ti) (ht : tm = nI 0) : pzN s = e9 := (lo_w hq ht).1
theorem lo_rC {z : Sg} {fr en : Nat} {fk fl sv : Nat → Int32} {st : Nat} {rg rs : Nat → Int32} {pt : UInt32} {sc cy : Nat → Int32} (h : rC z fr en fk fl sv st rg rs pt sc cy) {s : Ps} {tm : Int32} {e9 : Nat} {kk ll : Nat → Int32} {dp : Nat} {fi ti : Nat → Int32} (hq : cQ s tm e9 kk ll dp fi ti) (ht : tm = nI 0) (hn : gN z + e9 ≤ 80) {gk gl : Nat → Int32} (c1 : ∀ j, j < en - fr + (e9 - 0) → gk j = appF (en - fr) (fun j => fk (fr + j)) (fun j => kk (0 + j)) j) (c2 : ∀ j, j < en - fr + (e9 - 0) → gl j = appF (en - fr) (fun j => fl (fr + j)) (fun j => ll (0 + j)) j) : rC (ldS z (gN z + e9) (appF (gN z) (gK z) (pzK s)) (appF (gN z) (gL z) (pzL s))) 0 (gN z + e9) gk gl sv st rg rs pt sc cy := by
  obtain ⟨w1, w2⟩ := lo_w hq ht
  have hO := lo_OK (s := s) h.1 hq.1 (by omega)
  rw [w1] at hO
  have hN := rC_N h
  refine ⟨hO, ⟨Nat.zero_le _, hn, rfl⟩, fun i hi => ?_, h.2.2.2⟩
  have hi : i < gN z + e9 := hi
  show gk (0 + i) = appF (gN z) (gK z) (pzK s) i ∧ gl (0 + i) = appF (gN z) (gL z) (pzL s) i
  rw [Nat.zero_add, c1 i (by omega), c2 i (by omega), ← hN]
  by_cases q : i < gN z
  · rw [appF_lo q, appF_lo q, appF_lo q, appF_lo q]
    exact rC_W h i q
  · obtain ⟨k, rfl⟩ : ∃ k, i = gN z + k := ⟨i - gN z, by omega⟩
    rw [appF_hi, appF_hi, appF_hi, appF_hi, Nat.zero_add]
    exact w2 k (by omega)
