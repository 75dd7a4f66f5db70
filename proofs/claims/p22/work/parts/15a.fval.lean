/-! FLOATS of the law's pitch: a float's value in parts of 1/32768 -/
theorem nat_ltr {a b k : Nat} (h : a * k < b * k) : a < b := Nat.not_le.mp (fun q => by
  have := Nat.mul_le_mul_right k q
  omega)
theorem int_ltr {a b k : Int} (hk : 0 < k) (h : a * k < b * k) : a < b := Int.not_le.mp (fun q => by
  have := Int.mul_le_mul_of_nonneg_right q (Int.le_of_lt hk)
  omega)
theorem int_ltm {a b k : Int} (hk : 0 < k) (h : a < b) : a * k < b * k := by
  have h2 := Int.mul_nonneg (show 0 ≤ b - a - 1 by omega) (Int.le_of_lt hk)
  have h3 : (b - a - 1) * k = b * k - a * k - k := by rw [Int.sub_mul, Int.sub_mul, Int.one_mul]
  omega
def fU : Nat := 2 ^ 385
theorem fU_pos : 0 < fU := Nat.two_pow_pos _
theorem mg_u (n : Nat) : mg n (-15) = n * fU := rfl
def fv (x : UInt32) (v : Int) : Prop := ∃ s c q, FP.Core.decode fB x.toNat = .fin s c q ∧ gd c q ∧ FP.Core.signed s (mg c q) = v * (fU : Int)
theorem sgn_abs (s : Bool) (m : Nat) : (FP.Core.signed s m).natAbs = m := by
  cases s
  · rw [sg_f]; omega
  · rw [sg_t]; omega
theorem mul_fU_natAbs (v : Int) : (v * (fU : Int)).natAbs = v.natAbs * fU := by
  rw [Int.natAbs_mul, Int.natAbs_natCast]
theorem fv_nat {x : UInt32} {s : Bool} {c : Nat} {q : Int} {n : Nat} (h1 : FP.Core.decode fB x.toNat = .fin s c q) (h2 : gd c q) (h3 : FP.Core.signed s (mg c q) = (n : Int) * (fU : Int)) : mg c q = n * fU := by
  have := congrArg Int.natAbs h3
  rw [sgn_abs, mul_fU_natAbs, Int.natAbs_natCast] at this
  exact this
theorem p400 : 2 ^ 400 = 32768 * fU := by decide +kernel
theorem fv_i2f {t : Nat} (h : t ≤ 2000) : fv (FP.i2f (nI t)) ((32768 * t : Nat) : Int) := by
  obtain ⟨c, q, h1, h2, h3⟩ := i2f_dec h
  refine ⟨false, c, q, h1, h2, ?_⟩
  have e : t * 2 ^ 400 = 32768 * t * fU := by rw [p400, Nat.mul_left_comm, Nat.mul_assoc]
  rw [sg_f, h3, mg_nat, e, Int.natCast_mul]
/-- a sum whose value a float can hold -/
theorem fv_sum {s t : Bool} {c d : Nat} {q r : Int} {a b : Int} (hc : gd c q) (hd : gd d r) (ha : FP.Core.signed s (mg c q) = a * (fU : Int)) (hb : FP.Core.signed t (mg d r) = b * (fU : Int)) (hn : (a + b).natAbs < 16777216) :
    ∃ s' c' q', FP.Core.round fB (FP.Core.exactSum (.fin s c q) (.fin t d r)) = .fin s' c' q' ∧ gd c' q' ∧ FP.Core.signed s' (mg c' q') = (a + b) * (fU : Int) := by
  have hV : FP.Core.signed s (mg c q) + FP.Core.signed t (mg d r) = (a + b) * (fU : Int) := by rw [ha, hb, Int.add_mul]
  have hN : ((a + b) * (fU : Int)).natAbs = mg (a + b).natAbs (-15) := by rw [mul_fU_natAbs, mg_u]
  obtain ⟨s', c', q', e1, e2, e3, e4, e5, e6, -, e8⟩ := sum_dec hc hd hV hn (by decide) (by decide) (Nat.le_of_eq hN)
  refine ⟨s', c', q', e1, e2, ?_⟩
  have e9 := e8 (a + b).natAbs (-15) hn (by decide) (Nat.le_of_eq hN.symm)
  have e : mg c' q' = ((a + b) * (fU : Int)).natAbs := by rw [hN]; exact Nat.le_antisymm e3 e9
  generalize (a + b) * (fU : Int) = V at *
  rcases Int.lt_trichotomy V 0 with h | h | h
  · rw [e5 h, sg_t, e]; omega
  · subst h
    rw [e6 rfl]
    have : mg 0 q' = 0 := Nat.zero_mul _
    rw [this]
    cases s' <;> rfl
  · rw [e4 h, sg_f, e]; omega
theorem fv_add {x y : UInt32} {a b : Int} (hx : fv x a) (hy : fv y b) (hn : (a + b).natAbs < 16777216) : fv (FP.fadd x y) (a + b) := by
  obtain ⟨s, c, q, h1, h2, h3⟩ := hx
  obtain ⟨t, d, r, g1, g2, g3⟩ := hy
  obtain ⟨s', c', q', e1, e2, e3⟩ := fv_sum h2 g2 h3 g3 hn
  refine ⟨s', c', q', ?_, e2, e3⟩
  rw [fadd_of h1 g1, e1]
  exact dec_enc e2
theorem sg_not (t : Bool) (m : Nat) : FP.Core.signed (!t) m = -FP.Core.signed t m := by
  cases t
  · rfl
  · show (m : Int) = -(-(m : Int))
    omega
theorem fsub_g {x y : UInt32} {s t : Bool} {c d : Nat} {q r : Int} (hx : FP.Core.decode fB x.toNat = .fin s c q) (hy : FP.Core.decode fB y.toNat = .fin t d r) : FP.fsub x y = UInt32.ofNat (FP.Core.encode fB (FP.Core.round fB (FP.Core.exactSum (.fin s c q) (.fin (!t) d r)))) := by
  show UInt32.ofNat (FP.Core.encode fB (FP.Core.round fB (FP.Core.exactSum (FP.Core.decode fB x.toNat) (FP.Core.negate (FP.Core.decode fB y.toNat))))) = _
  rw [hx, hy]
  rfl
theorem fv_sub {x y : UInt32} {a b : Int} (hx : fv x a) (hy : fv y b) (hn : (a - b).natAbs < 16777216) : fv (FP.fsub x y) (a - b) := by
  obtain ⟨s, c, q, h1, h2, h3⟩ := hx
  obtain ⟨t, d, r, g1, g2, g3⟩ := hy
  have g4 : FP.Core.signed (!t) (mg d r) = (-b) * (fU : Int) := by rw [sg_not, g3, Int.neg_mul]
  obtain ⟨s', c', q', e1, e2, e3⟩ := fv_sum h2 g2 h3 g4 (by rw [show a + -b = a - b by omega]; exact hn)
  refine ⟨s', c', q', ?_, e2, by rw [show a - b = a + -b by omega]; exact e3⟩
  rw [fsub_g h1 g1, e1]
  exact dec_enc e2
/-- a product by a share: 0, a half, or 1 -/
theorem fv_mul {x y : UInt32} {a b : Int} {d : Nat} {r : Int} (hx : fv x a) (hy : FP.Core.decode fB y.toNat = .fin false d r) (hd : gd d r) (h : a * (mg d r : Int) = b * ((2 ^ 400 : Nat) : Int)) (hn : b.natAbs < 16777216) : fv (FP.fmul x y) b := by
  obtain ⟨s, c, q, h1, h2, h3⟩ := hx
  have hq := h2.2.1
  have hr := hd.2.1
  have hU := fU_pos
  have hp : (0 : Nat) < 2 ^ 400 := Nat.two_pow_pos _
  have ha : mg c q = a.natAbs * fU := by
    have := congrArg Int.natAbs h3
    rw [sgn_abs, mul_fU_natAbs] at this
    exact this
  have hab : a.natAbs * mg d r = b.natAbs * 2 ^ 400 := by
    have := congrArg Int.natAbs h
    rw [Int.natAbs_mul, Int.natAbs_mul, Int.natAbs_natCast, Int.natAbs_natCast] at this
    exact this
  have hm : mg (c * d) (q + r) * 2 ^ 400 = mg c q * mg d r := by
    unfold mg
    have h4 : 2 ^ (q + 400).toNat * 2 ^ (r + 400).toNat = 2 ^ (q + r + 400).toNat * 2 ^ 400 := by
      rw [← pw, ← pw]
      congr 1
      omega
    calc c * d * 2 ^ (q + r + 400).toNat * 2 ^ 400 = c * d * (2 ^ (q + r + 400).toNat * 2 ^ 400) := by ac_rfl
      _ = c * d * (2 ^ (q + 400).toNat * 2 ^ (r + 400).toNat) := by rw [h4]
      _ = c * 2 ^ (q + 400).toNat * (d * 2 ^ (r + 400).toNat) := by ac_rfl
  have hb : mg (c * d) (q + r) = mg b.natAbs (-15) := by
    rw [mg_u]
    refine Nat.eq_of_mul_eq_mul_right hp ?_
    rw [hm, ha]
    calc a.natAbs * fU * mg d r = a.natAbs * mg d r * fU := by ac_rfl
      _ = b.natAbs * 2 ^ 400 * fU := by rw [hab]
      _ = b.natAbs * fU * 2 ^ 400 := by ac_rfl
  have key : ∃ c' q', FP.Core.round fB (FP.Core.exactProduct (.fin s c q) (.fin false d r)) = .fin s c' q' ∧ gd c' q' ∧ mg c' q' = b.natAbs * fU := by
    unfold FP.Core.exactProduct FP.Core.round
    simp only [Bool.bne_false]
    by_cases z : c * d = 0
    · rw [z]
      refine ⟨0, -149, ?_, ⟨by decide, by decide, by decide, Or.inr rfl⟩, ?_⟩
      · unfold FP.Core.roundRatio
        rw [if_pos rfl, fB_qmin]
      · rw [← mg_u, ← hb, z]
        unfold mg
        rw [Nat.zero_mul, Nat.zero_mul]
    · obtain ⟨c', q', g1, g2, g3, g4⟩ := rr (s := s) (num := c * d) (e := q + r) (B := b.natAbs) (r := -15) (by omega) (by omega) hn (by decide) (by decide) (Nat.le_of_eq hb)
      have g5 := g4 b.natAbs (-15) hn (by decide) (Nat.le_of_eq hb.symm)
      exact ⟨c', q', g1, g2, by rw [← mg_u]; exact Nat.le_antisymm g3 g5⟩
  obtain ⟨c', q', e1, e2, e3⟩ := key
  refine ⟨s, c', q', ?_, e2, ?_⟩
  · rw [fmul_of h1 hy, e1]
    exact dec_enc e2
  · rw [e3]
    have hpi : (0 : Int) < ((2 ^ 400 : Nat) : Int) := by exact_mod_cast hp
    have hUi : (0 : Int) < (fU : Int) := by exact_mod_cast hU
    cases s
    · rw [sg_f] at h3 ⊢
      have a0 : 0 ≤ a := by
        refine Int.not_lt.mp fun q => ?_
        have := Int.mul_neg_of_neg_of_pos q hUi
        omega
      have b0 : 0 ≤ b := by
        refine Int.not_lt.mp fun q => ?_
        have h5 := Int.mul_neg_of_neg_of_pos q hpi
        have h6 := Int.mul_nonneg a0 (Int.natCast_nonneg (mg d r))
        omega
      rw [Int.natCast_mul, show (b.natAbs : Int) = b by omega]
    · rw [sg_t] at h3 ⊢
      have a0 : a ≤ 0 := by
        refine Int.not_lt.mp fun q => ?_
        have := int_ltm hUi q
        rw [Int.zero_mul] at this
        omega
      have b0 : b ≤ 0 := by
        refine Int.not_lt.mp fun q => ?_
        have h5 := int_ltm hpi q
        rw [Int.zero_mul] at h5
        have h6 := Int.mul_nonneg (show 0 ≤ -a by omega) (Int.natCast_nonneg (mg d r))
        rw [Int.neg_mul] at h6
        omega
      rw [Int.natCast_mul, show (b.natAbs : Int) = -b by omega, Int.neg_mul, Int.neg_neg]
/-- an order of values -/
theorem fv_cmp {x y : UInt32} {a b : Int} (hx : fv x a) (hy : fv y b) : (Op.cmpValue (FP.fcmp x y) CmpOp.l < 0 ↔ a < b) ∧ (Op.cmpValue (FP.fcmp x y) CmpOp.l ≤ 0 ↔ a ≤ b) := by
  obtain ⟨s, c, q, h1, h2, h3⟩ := hx
  obtain ⟨t, d, r, g1, g2, g3⟩ := hy
  have hq := h2.2.1
  have hr := g2.2.1
  obtain ⟨k, hk⟩ : ∃ k : Nat, (k : Int) = min q r + 400 := ⟨(min q r + 400).toNat, by omega⟩
  have f2 : ∀ (s : Bool) (c : Nat) (q' : Int), min q r ≤ q' → FP.Core.signed s (mg c q') = FP.Core.signed s (FP.Core.inUnits c q' (min q r)) * ((2 ^ k : Nat) : Int) := fun s c q' h => by
    have : mg c q' = FP.Core.inUnits c q' (min q r) * 2 ^ k := by
      unfold mg FP.Core.inUnits
      rw [Nat.mul_assoc, ← pw, show (q' - min q r).toNat + k = (q' + 400).toNat by omega]
    rw [this]
    cases s
    · simp [FP.Core.signed]
    · simp [FP.Core.signed, Int.neg_mul]
  rw [f2 s c q (by omega)] at h3
  rw [f2 t d r (by omega)] at g3
  rw [fcmp_of h1 g1]
  unfold FP.Core.order
  simp only
  generalize FP.Core.signed s (FP.Core.inUnits c q (min q r)) = A at *
  generalize FP.Core.signed t (FP.Core.inUnits d r (min q r)) = B at *
  have hp : (0 : Int) < ((2 ^ k : Nat) : Int) := by exact_mod_cast Nat.two_pow_pos k
  have hU : (0 : Int) < (fU : Int) := by exact_mod_cast fU_pos
  generalize ((2 ^ k : Nat) : Int) = M at *
  generalize (fU : Int) = N at *
  rcases Int.lt_trichotomy a b with h | h | h
  · have h5 : a * N < b * N := int_ltm hU h
    have h6 : A < B := by
      refine int_ltr hp ?_
      omega
    rw [cmp_lt h6]
    exact ⟨iff_of_true (by decide) h, iff_of_true (by decide) (Int.le_of_lt h)⟩
  · subst h
    have h6 : A = B := by
      refine Int.eq_of_mul_eq_mul_right (show M ≠ 0 by omega) ?_
      omega
    subst h6
    rw [cmp_eq]
    exact ⟨iff_of_false (by decide) (Int.lt_irrefl _), iff_of_true (by decide) (Int.le_refl _)⟩
  · have h5 : b * N < a * N := int_ltm hU h
    have h6 : B < A := by
      refine int_ltr hp ?_
      omega
    rw [cmp_gt h6]
    exact ⟨iff_of_false (by decide) (by omega), iff_of_false (by decide) (by omega)⟩
theorem sh_0 : FP.Core.decode fB (FP.fdiv (FP.i2f (nI 0)) 1090519040).toNat = .fin false 0 (-149) := by decide +kernel
theorem sh_4 : FP.Core.decode fB (FP.fdiv (FP.i2f (nI 4)) 1090519040).toNat = .fin false 8388608 (-24) := by decide +kernel
theorem sh_8 : FP.Core.decode fB (FP.fdiv (FP.i2f (nI 8)) 1090519040).toNat = .fin false 8388608 (-23) := by decide +kernel
