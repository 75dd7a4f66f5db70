/-! pure facts for 14.reads.lean.txt -/
theorem mdI_z {ch : Nat → Int32} {tq : Nat} {R0 : Int32 × Ps} {m : Nat} {s : Ps} {fa : Int32} {n : Nat} {kk ll : Nat → Int32} {dp : Nat} {tt bb : Nat → Int32} {a : Nat} (h : mdI ch tq R0 m s fa n kk ll dp tt bb a) (he : ¬ fa = (-1) ∨ ¬ a < tq) (hd : dp = 0) : fa = R0.1 ∧ (R0.1 = (-1) → mQ R0.2 n kk ll dp tt bb) := by
  by_cases hf : fa = (-1)
  · obtain ⟨e1, e2, e3⟩ := mdI_e h hf (he.resolve_left (fun q => q hf))
    rw [e2, edF, if_neg (by omega)]
    exact ⟨hf, fun _ => e1⟩
  · exact ⟨mdI_f h hf, fun q => absurd ((mdI_f h hf).trans q) hf⟩
theorem mdI_y {ch : Nat → Int32} {tq : Nat} {R0 : Int32 × Ps} {m : Nat} {s : Ps} {fa : Int32} {n : Nat} {kk ll : Nat → Int32} {dp : Nat} {tt bb : Nat → Int32} {a : Nat} (h : mdI ch tq R0 m s fa n kk ll dp tt bb a) (he : ¬ fa = (-1) ∨ ¬ a < tq) (hd : ¬ dp = 0) (ht : tq ≤ 80) {f9 : Int32} (h9 : f9 = (if fa = (-1) then nI tq else fa)) : f9 = R0.1 ∧ (R0.1 = (-1) → mQ R0.2 n kk ll dp tt bb) := by
  by_cases hf : fa = (-1)
  · obtain ⟨e1, e2, e3⟩ := mdI_e h hf (he.resolve_left (fun q => q hf))
    rw [if_pos hf] at h9
    rw [e2, edF, if_pos (by omega)]
    exact ⟨h9, fun q => absurd q (nI_m1 (by omega))⟩
  · rw [if_neg hf] at h9
    rw [h9]
    exact ⟨mdI_f h hf, fun q => absurd ((mdI_f h hf).trans q) hf⟩
/-- the model's load: i of the items stand in its row -/
def loM (z : Sg) (s : Ps) (ar bk : Nat → Int32) (i : Nat) : Prop := bk 0 = nI (gN z + i) ∧ (∀ j, j < gN z + i → bk (1 + j) = appF (gN z) (gK z) (pzK s) j ∧ bk (81 + j) = appF (gN z) (gL z) (pzL s) j) ∧ ∀ j, 161 ≤ j → bk j = ar j
theorem loM_0 {z : Sg} {s : Ps} {ar : Nat → Int32} {pt : UInt32} (h : rM z ar pt) : loM z s ar ar 0 := by
  refine ⟨rM_N h, fun j hj => ?_, fun _ _ => rfl⟩
  have hj : j < gN z := hj
  rw [appF_lo hj, appF_lo hj]
  exact rM_W h j hj
theorem loM_s {z : Sg} {s : Ps} {ar bk : Nat → Int32} {i : Nat} {x y : Int32} (h : loM z s ar bk i) (hi : gN z + i < 80) (h1 : x = pzK s i) (h2 : y = pzL s i) : loM z s ar (upd (upd (upd bk (1 + (gN z + i)) x) (81 + (gN z + i)) y) 0 (nI (gN z + i + 1))) (i + 1) := by
  obtain ⟨a1, a2, a3⟩ := h
  refine ⟨pk_us, fun j hj => ?_, fun j hj => ?_⟩
  · have hj : j < gN z + i + 1 := hj
    rw [pk_un (show 1 + j ≠ 0 by omega), pk_un (show 81 + j ≠ 0 by omega), pk_un (show 1 + j ≠ 81 + (gN z + i) by omega)]
    by_cases q : j = gN z + i
    · subst q
      rw [pk_us, pk_us, appF_hi, appF_hi]
      exact ⟨h1, h2⟩
    · rw [pk_un (show 1 + j ≠ 1 + (gN z + i) by omega), pk_un (show 81 + j ≠ 81 + (gN z + i) by omega), pk_un (show 81 + j ≠ 1 + (gN z + i) by omega)]
      exact a2 j (by omega)
  · rw [pk_un (by omega), pk_un (by omega), pk_un (by omega)]
    exact a3 j hj
theorem lo_rM {z : Sg} {s : Ps} {ar bk : Nat → Int32} {pt : UInt32} (h : rM z ar pt) (hs : pzO s) (hn : gN z + pzN s ≤ 80) (hl : loM z s ar bk (pzN s)) : rM (ldS z (gN z + pzN s) (appF (gN z) (gK z) (pzK s)) (appF (gN z) (gL z) (pzL s))) bk pt := by
  have hO := lo_OK h.1 hs hn
  obtain ⟨a1, a2, a3⟩ := hl
  refine ⟨hO, a1, fun i hi => a2 i hi, fun j hj => (a3 _ (by omega)).trans (rM_S h j hj), (a3 _ (by decide)).trans (rM_V (z := z) h), (a3 _ (by decide)).trans (rM_T (z := z) h), fun j hj => (a3 _ (by omega)).trans (rM_R h j hj), fun j hj => (a3 _ (by omega)).trans (rM_C h j hj), fun j hj => (a3 _ (by omega)).trans (rM_B h j hj), fun j hj => (a3 _ (by omega)).trans (rM_A h j hj), rM_P (z := z) h⟩
