/-! FLOATS, part 3a -/
/-- less than 2 -/
theorem fb1 {n : Nat} (h1 : 1065353216 ≤ n) (h2 : n < 1140850688) : Op.cmpValue (FP.fcmp (UInt32.ofNat n) FP.fconst2) CmpOp.l < 0 ↔ n < 1073741824 := by
  rw [fcmp_of (dno h1 h2) dec2]
  unfold FP.Core.order
  simp only [sg_f]
  by_cases h : n < 1073741824
  · rw [show n / 8388608 = 127 by omega]
    have : FP.Core.inUnits (8388608 + n % 8388608) (-149 + (((127 : Nat) : Int) - 1)) (min (-149 + (((127 : Nat) : Int) - 1)) (-22)) < FP.Core.inUnits 8388608 (-22) (min (-149 + (((127 : Nat) : Int) - 1)) (-22)) := by
      unfold FP.Core.inUnits
      rw [show ((-149 + (((127 : Nat) : Int) - 1)) - min (-149 + (((127 : Nat) : Int) - 1)) (-22)).toNat = 0 by omega, show ((-22 : Int) - min (-149 + (((127 : Nat) : Int) - 1)) (-22)).toNat = 1 by omega]
      omega
    rw [cmp_lt (by omega)]
    exact iff_of_true (by decide) h
  · obtain ⟨k, hk⟩ : ∃ k : Nat, n / 8388608 = 128 + k := ⟨n / 8388608 - 128, by omega⟩
    rw [hk]
    have : ¬ FP.Core.inUnits (8388608 + n % 8388608) (-149 + (((128 + k : Nat) : Int) - 1)) (min (-149 + (((128 + k : Nat) : Int) - 1)) (-22)) < FP.Core.inUnits 8388608 (-22) (min (-149 + (((128 + k : Nat) : Int) - 1)) (-22)) := by
      unfold FP.Core.inUnits
      rw [show ((-149 + (((128 + k : Nat) : Int) - 1)) - min (-149 + (((128 + k : Nat) : Int) - 1)) (-22)).toNat = k by omega, show ((-22 : Int) - min (-149 + (((128 + k : Nat) : Int) - 1)) (-22)).toNat = 0 by omega]
      have h3 := Nat.two_pow_pos k
      have h4 : (8388608 + n % 8388608) * 1 ≤ (8388608 + n % 8388608) * 2 ^ k := Nat.mul_le_mul_left _ h3
      omega
    generalize FP.Core.inUnits (8388608 + n % 8388608) (-149 + (((128 + k : Nat) : Int) - 1)) (min (-149 + (((128 + k : Nat) : Int) - 1)) (-22)) = x at *
    generalize FP.Core.inUnits 8388608 (-22) (min (-149 + (((128 + k : Nat) : Int) - 1)) (-22)) = y at *
    refine iff_of_false ?_ h
    by_cases hxy : x = y
    · subst hxy
      rw [cmp_eq]
      decide
    · rw [cmp_gt (by omega)]
      decide
