/-! FLOATS, part 4 -/
theorem ofInt_nI (k : Nat) : Int32.ofInt (k : Int) = nI k := rfl
theorem dec23 : FP.Core.decode fB (FP.i2f (nI 8388608)).toNat = .fin false 8388608 0 := by decide +kernel
/-- the fraction's bits -/
theorem fb3 {n : Nat} (h1 : 1065353216 ≤ n) (h2 : n < 1073741824) : FP.f2i (FP.fmul (UInt32.ofNat n) (FP.i2f (nI 8388608))) = nI (n - 1056964608) ∧ vf_n32 (FP.fmul (UInt32.ofNat n) (FP.i2f (nI 8388608))) := by
  obtain ⟨c, hc⟩ : ∃ c, 8388608 + n % 8388608 = c := ⟨_, rfl⟩
  have e : FP.fmul (UInt32.ofNat n) (FP.i2f (nI 8388608)) = UInt32.ofNat (FP.Core.encode fB (FP.Core.round fB (FP.Core.exactProduct (.fin false c (-23)) (.fin false 8388608 0)))) := by
    show UInt32.ofNat (FP.Core.encode fB (FP.Core.round fB (FP.Core.exactProduct (FP.Core.decode fB (UInt32.ofNat n).toNat) (FP.Core.decode fB (FP.i2f (nI 8388608)).toNat)))) = _
    rw [u32_of (by omega), dec23, dn h1 (by omega), hc, show (-149 + ((n / 8388608 : Nat) - 1 : Int)) = -23 by omega]
  have hg0 : gd c 0 := ⟨by omega, by decide, by decide, Or.inl (by omega)⟩
  have key : FP.Core.round fB (FP.Core.exactProduct (.fin false c (-23)) (.fin false 8388608 0)) = .fin false c 0 := by
    unfold FP.Core.exactProduct FP.Core.round
    simp only
    have hm : mg (c * 8388608) (-23 + 0) = mg c 0 := by
      unfold mg
      rw [Nat.mul_assoc, show (-23 + 0 + 400 : Int).toNat = 377 from rfl, show ((0 : Int) + 400).toNat = 400 from rfl, show (8388608 : Nat) = 2 ^ 23 from rfl, ← pw]
    obtain ⟨c', q', g1, g2, g3, g4⟩ := rr (s := (false != false)) (num := c * 8388608) (e := -23 + 0) (B := c) (r := 0) (by omega) (by decide) (by omega) (by decide) (by decide) (by rw [hm]; exact Nat.le_refl _)
    have g5 := g4 c 0 (by omega) (by decide) (by rw [hm]; exact Nat.le_refl _)
    have g6 : mg c' q' = mg c 0 := Nat.le_antisymm g3 g5
    rw [g1]
    obtain ⟨k1, k2, k3, k4⟩ := g2
    have hq' : q' = 0 := by
      unfold mg at g6
      have l1 : 2 ^ 423 ≤ c * 2 ^ ((0 : Int) + 400).toNat := by
        rw [show (423 : Nat) = 23 + ((0 : Int) + 400).toNat from rfl, pw]
        exact Nat.mul_le_mul_right _ (by omega)
      have l2 : c * 2 ^ ((0 : Int) + 400).toNat < 2 ^ 424 := by
        rw [show (424 : Nat) = 24 + ((0 : Int) + 400).toNat from rfl, pw]
        exact Nat.mul_lt_mul_of_pos_right (by omega) (Nat.two_pow_pos _)
      rw [← g6] at l1 l2
      have m1 : ¬ q' < 0 := fun h => by
        have : c' * 2 ^ (q' + 400).toNat < 2 ^ 423 := by
          refine Nat.lt_of_lt_of_le (Nat.mul_lt_mul_of_pos_right (show c' < 2 ^ 24 by omega) (Nat.two_pow_pos _)) ?_
          rw [← pw]
          exact pw_le (by omega)
        omega
      have m2 : ¬ 0 < q' := fun h => by
        have : 2 ^ 424 ≤ c' * 2 ^ (q' + 400).toNat := by
          refine Nat.le_trans (pw_le (show 424 ≤ 23 + (q' + 400).toNat by omega)) ?_
          rw [pw]
          exact Nat.mul_le_mul_right _ (by omega)
        omega
      omega
    subst hq'
    have : c' = c := by
      unfold mg at g6
      exact Nat.eq_of_mul_eq_mul_right (Nat.two_pow_pos _) g6
    rw [this]
    rfl
  rw [e, key]
  refine ⟨?_, vf_fin hg0⟩
  show FP.Core.toI (FP.Core.decode fB (UInt32.ofNat (FP.Core.encode fB (.fin false c 0))).toNat) = _
  rw [dec_enc hg0]
  unfold FP.Core.toI FP.Core.toInt FP.Core.truncate
  simp only [sg_f]
  have ec : c * 2 ^ (0 : Int).toNat / 2 ^ (-(0 : Int)).toNat = n - 1056964608 := by
    rw [show (0 : Int).toNat = 0 from rfl, show (-(0 : Int)).toNat = 0 from rfl, Nat.pow_zero, Nat.mul_one, Nat.div_one]
    omega
  rw [ec, show max (-2 ^ 31 : Int) (min (2 ^ 31 - 1) ((n - 1056964608 : Nat) : Int)) = ((n - 1056964608 : Nat) : Int) by omega]
  exact ofInt_nI _
/-- no pitch is a NaN: the JDK's own question -/
theorem fb_self {pt : UInt32} (h : pOK pt) : Op.cmpValue (FP.fcmp pt pt) CmpOp.l = 0 := by
  have e : FP.fcmp pt pt = FP.Core.order (FP.Core.decode fB pt.toNat) (FP.Core.decode fB pt.toNat) := rfl
  rw [e, dn h.1 h.2]
  unfold FP.Core.order
  simp only
  rw [cmp_eq]
  rfl
theorem bits_nI (pt : UInt32) : pt.toInt32 = nI pt.toNat := by
  apply Int32.toBitVec_inj.mp
  show pt.toBitVec = BitVec.ofNat 32 pt.toNat
  exact BitVec.eq_of_toNat_eq (by rw [BitVec.toNat_ofNat]; exact (Nat.mod_eq_of_lt pt.toNat_lt).symm)
