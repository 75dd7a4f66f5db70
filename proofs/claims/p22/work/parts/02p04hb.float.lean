/-! FLOATS, part 3b -/
/-- halved -/
theorem fb2 {n : Nat} (h1 : 1073741824 ≤ n) (h2 : n < 1140850688) : FP.fdiv (UInt32.ofNat n) FP.fconst2 = UInt32.ofNat (n - 8388608) ∧ vf_n32 (FP.fdiv (UInt32.ofNat n) FP.fconst2) := by
  obtain ⟨c, hc⟩ : ∃ c, 8388608 + n % 8388608 = c := ⟨_, rfl⟩
  obtain ⟨q, hq⟩ : ∃ q : Int, -149 + ((n / 8388608 : Nat) - 1 : Int) = q := ⟨_, rfl⟩
  have hl1 : c.log2 = 23 := by
    have a1 : 2 ^ 23 ≤ c := by omega
    have a2 : c < 2 ^ 24 := by omega
    have b1 := (Nat.le_log2 (n := c) (k := 23) (by omega)).mpr a1
    have b2 : c.log2 < 24 := (Nat.log2_lt (n := c) (k := 24) (by omega)).mpr a2
    omega
  have hl2 : (8388608 : Nat).log2 = 23 := by decide +kernel
  have key : FP.Core.quotient fB (.fin false c q) (.fin false 8388608 (-22)) = .fin false c (q - 1) := by
    unfold FP.Core.quotient FP.Core.roundRatio FP.Core.roundAt
    simp only
    rw [if_neg (by omega), if_neg (by omega)]
    have hqq : FP.Core.quantum fB c 8388608 (q - -22) = q - 1 := by
      unfold FP.Core.quantum FP.Core.leading
      simp only
      rw [hl1, hl2, if_pos (by simp; omega), fB_qmin, fB_p]
      omega
    rw [hqq]
    have hu : FP.Core.unitsNum c (q - -22) (q - 1) = c * 8388608 := by
      unfold FP.Core.unitsNum
      rw [show (q - -22 - (q - 1)).toNat = 23 by omega]
    have hd : FP.Core.unitsDen 8388608 (q - -22) (q - 1) = 8388608 := by
      unfold FP.Core.unitsDen
      rw [show (q - 1 - (q - -22)).toNat = 0 by omega]
    rw [hu, hd]
    have hn : FP.Core.nearest (c * 8388608) 8388608 = c := by
      unfold FP.Core.nearest
      rw [Nat.mul_mod_left, if_pos (by omega), Nat.mul_div_cancel _ (by omega)]
    rw [hn]
    unfold FP.Core.settle FP.Core.bound
    rw [fB_p, fB_qmax, if_pos (by simp; omega), if_pos (by omega)]
    rfl
  rw [fdiv_of (dno (by omega) h2) dec2, hc, hq, key]
  have hg : gd c (q - 1) := ⟨by omega, by omega, by omega, Or.inl (by omega)⟩
  have he : FP.Core.encode fB (.fin false c (q - 1)) = n - 8388608 := by
    unfold FP.Core.encode FP.Core.assemble
    simp only
    rw [fB_tails, fB_exps, fB_qmin, if_neg (by omega)]
    simp only [Bool.toNat_false]
    omega
  exact ⟨by rw [he], vf_fin hg⟩
