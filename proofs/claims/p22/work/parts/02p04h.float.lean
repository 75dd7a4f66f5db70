/-! FLOATS, part 3: the bits of a pitch, found by arithmetic -/
theorem dn {n : Nat} (h1 : 1065353216 ≤ n) (h2 : n < 1140850688) : FP.Core.decode fB n = .fin false (8388608 + n % 8388608) (-149 + ((n / 8388608 : Nat) - 1 : Int)) := by
  have e1 : FP.Core.fieldE fB n = n / 8388608 := by unfold FP.Core.fieldE; rw [fB_tails, fB_exps]; omega
  have e2 : FP.Core.fieldT fB n = n % 8388608 := by unfold FP.Core.fieldT; rw [fB_tails]
  have e3 : FP.Core.fieldS fB n = false := by
    unfold FP.Core.fieldS
    rw [fB_tails, fB_exps, show n / 8388608 / 256 % 2 = 0 by omega]
    rfl
  unfold FP.Core.decode
  rw [e1, e2, e3, fB_exps, fB_qmin, fB_tails, if_neg (by omega), if_neg (by omega)]
theorem fdiv_of {x y : UInt32} {d1 d2 : FP.Core.Datum} (hx : FP.Core.decode fB x.toNat = d1) (hy : FP.Core.decode fB y.toNat = d2) : FP.fdiv x y = UInt32.ofNat (FP.Core.encode fB (FP.Core.quotient fB d1 d2)) := by
  subst hx hy
  rfl
theorem fmul_of {x y : UInt32} {d1 d2 : FP.Core.Datum} (hx : FP.Core.decode fB x.toNat = d1) (hy : FP.Core.decode fB y.toNat = d2) : FP.fmul x y = UInt32.ofNat (FP.Core.encode fB (FP.Core.round fB (FP.Core.exactProduct d1 d2))) := by
  subst hx hy
  rfl
theorem fcmp_of {x y : UInt32} {d1 d2 : FP.Core.Datum} (hx : FP.Core.decode fB x.toNat = d1) (hy : FP.Core.decode fB y.toNat = d2) : FP.fcmp x y = FP.Core.order d1 d2 := by
  subst hx hy
  rfl
theorem dno {n : Nat} (h1 : 1065353216 ≤ n) (h2 : n < 1140850688) : FP.Core.decode fB (UInt32.ofNat n).toNat = .fin false (8388608 + n % 8388608) (-149 + ((n / 8388608 : Nat) - 1 : Int)) := by
  rw [u32_of (by omega)]
  exact dn h1 h2
theorem dec2 : FP.Core.decode fB (FP.fconst2).toNat = .fin false 8388608 (-22) := by decide +kernel
theorem cmp_lt {x y : Int} (h : x < y) : compare x y = Ordering.lt := by
  show compareOfLessAndEq x y = _
  unfold compareOfLessAndEq
  rw [if_pos h]
theorem cmp_eq (x : Int) : compare x x = Ordering.eq := by
  show compareOfLessAndEq x x = _
  unfold compareOfLessAndEq
  rw [if_neg (Int.lt_irrefl x), if_pos rfl]
theorem cmp_gt {x y : Int} (h : y < x) : compare x y = Ordering.gt := by
  show compareOfLessAndEq x y = _
  unfold compareOfLessAndEq
  rw [if_neg (by omega), if_neg (by omega)]
