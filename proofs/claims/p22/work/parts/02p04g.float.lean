/-! FLOATS, part 2: the pitch stays from 1 to 512 -/
def pOK (pt : UInt32) : Prop := 1065353216 ≤ pt.toNat ∧ pt.toNat < 1140850688
theorem mg_nat (k : Nat) : mg k 0 = k * 2 ^ 400 := rfl
theorem pOK_dec {pt : UInt32} (h : pOK pt) : ∃ P q, FP.Core.decode fB pt.toNat = .fin false P q ∧ gd P q ∧ mg 1 0 ≤ mg P q ∧ mg P q < mg 512 0 := by
  obtain ⟨h1, h2⟩ := h
  generalize pt.toNat = n at h1 h2
  refine ⟨8388608 + n % 8388608, -149 + ((n / 8388608 : Nat) - 1 : Int), ?_, ?_, ?_, ?_⟩
  · have e1 : FP.Core.fieldE fB n = n / 8388608 := by unfold FP.Core.fieldE; rw [fB_tails, fB_exps]; omega
    have e2 : FP.Core.fieldT fB n = n % 8388608 := by unfold FP.Core.fieldT; rw [fB_tails]
    have e3 : FP.Core.fieldS fB n = false := by
      unfold FP.Core.fieldS
      rw [fB_tails, fB_exps, show n / 8388608 / 256 % 2 = 0 by omega]
      rfl
    unfold FP.Core.decode
    rw [e1, e2, e3, fB_exps, fB_qmin, fB_tails, if_neg (by omega), if_neg (by omega)]
  · exact ⟨by omega, by omega, by omega, Or.inl (by omega)⟩
  · unfold mg
    rw [Nat.one_mul]
    refine Nat.le_trans (pw_le (show ((0 : Int) + 400).toNat ≤ 23 + (-149 + ((n / 8388608 : Nat) - 1 : Int) + 400).toNat by omega)) ?_
    rw [pw]
    exact Nat.mul_le_mul_right _ (by omega)
  · unfold mg
    refine Nat.lt_of_lt_of_le (Nat.mul_lt_mul_of_pos_right (show 8388608 + n % 8388608 < 2 ^ 24 by omega) (Nat.two_pow_pos _)) ?_
    rw [← pw, show (512 : Nat) = 2 ^ 9 from rfl, ← pw]
    exact pw_le (by omega)
theorem pOK_enc {c : Nat} {q : Int} (h : gd c q) (h1 : mg 1 0 ≤ mg c q) (h2 : mg c q < mg 512 0) : pOK (UInt32.ofNat (FP.Core.encode fB (.fin false c q))) := by
  obtain ⟨g1, g2, g3, g4⟩ := id h
  have a1 : -23 ≤ q := by
    refine Int.not_lt.mp fun hq => ?_
    have : mg c q < mg 1 0 := by
      unfold mg
      rw [Nat.one_mul]
      refine Nat.lt_of_lt_of_le (Nat.mul_lt_mul_of_pos_right (show c < 2 ^ 24 by omega) (Nat.two_pow_pos _)) ?_
      rw [← pw]
      exact pw_le (by omega)
    omega
  have a2 : 8388608 ≤ c := by omega
  have a3 : q ≤ -15 := by
    refine Int.not_lt.mp fun hq => ?_
    have : mg 512 0 ≤ mg c q := by
      unfold mg
      rw [show (512 : Nat) = 2 ^ 9 from rfl, ← pw]
      refine Nat.le_trans (pw_le (show 9 + ((0 : Int) + 400).toNat ≤ 23 + (q + 400).toNat by omega)) ?_
      rw [pw]
      exact Nat.mul_le_mul_right _ (by omega)
    omega
  obtain ⟨e, t, b1, b2, b3, -, b5⟩ := enc_fin (s := false) h
  obtain ⟨b6, b7⟩ := b5 a2
  obtain ⟨-, -, -, c4, c5⟩ := fA false e t (by omega) b3
  unfold pOK
  rw [b1, u32_of c4]
  unfold FP.Core.assemble
  rw [fB_tails, fB_exps]
  simp only [Bool.toNat_false]
  omega
theorem i2f_dec {t : Nat} (h : t ≤ 2000) : ∃ c q, FP.Core.decode fB (FP.i2f (nI t)).toNat = .fin false c q ∧ gd c q ∧ mg c q = mg t 0 := by
  have e0 : FP.i2f (nI t) = UInt32.ofNat (FP.Core.encode fB (FP.Core.roundRatio fB false t 1 0)) := by
    show UInt32.ofNat (FP.Core.encode fB (FP.Core.round fB (FP.Core.ofInt (nI t).toInt))) = _
    rw [nI_toInt (by omega)]
    unfold FP.Core.ofInt FP.Core.round
    rw [show decide ((t : Int) < 0) = false by simp, show (t : Int).natAbs = t by omega]
  rw [e0]
  by_cases z : t = 0
  · subst z
    have g0 : gd 0 (-149) := ⟨by decide, by decide, by decide, Or.inr rfl⟩
    refine ⟨0, -149, ?_, g0, by unfold mg; rw [Nat.zero_mul, Nat.zero_mul]⟩
    rw [show FP.Core.roundRatio fB false 0 1 0 = .fin false 0 (-149) by unfold FP.Core.roundRatio; rw [if_pos rfl, fB_qmin]]
    exact dec_enc g0
  · obtain ⟨c, q, h1, h2, h3, h4⟩ := rr (s := false) (num := t) (e := 0) (B := t) (r := 0) (by omega) (by decide) (by omega) (by decide) (by decide) (Nat.le_refl _)
    rw [h1]
    exact ⟨c, q, dec_enc h2, h2, Nat.le_antisymm h3 (h4 t 0 (by omega) (by decide) (Nat.le_refl _))⟩
theorem su {s t : Bool} {c d : Nat} {q r : Int} (hq : -300 ≤ q) (hr : -300 ≤ r) : mg (FP.Core.sumUnits s c q t d r (min q r)).natAbs (min q r) = (FP.Core.signed s (mg c q) + FP.Core.signed t (mg d r)).natAbs ∧ (FP.Core.sumUnits s c q t d r (min q r) < 0 ↔ FP.Core.signed s (mg c q) + FP.Core.signed t (mg d r) < 0) := by
  obtain ⟨k, hk⟩ : ∃ k : Nat, (k : Int) = min q r + 400 := ⟨(min q r + 400).toNat, by omega⟩
  have f2 : ∀ (s : Bool) (c : Nat) (q' : Int), min q r ≤ q' → FP.Core.signed s (mg c q') = FP.Core.signed s (FP.Core.inUnits c q' (min q r)) * ((2 ^ k : Nat) : Int) := fun s c q' h => by
    have : mg c q' = FP.Core.inUnits c q' (min q r) * 2 ^ k := by
      unfold mg FP.Core.inUnits
      rw [Nat.mul_assoc, ← pw, show (q' - min q r).toNat + k = (q' + 400).toNat by omega]
    rw [this]
    cases s
    · simp [FP.Core.signed]
    · simp [FP.Core.signed, Int.neg_mul]
  have hS : FP.Core.signed s (mg c q) + FP.Core.signed t (mg d r) = FP.Core.sumUnits s c q t d r (min q r) * ((2 ^ k : Nat) : Int) := by
    rw [f2 s c q (by omega), f2 t d r (by omega)]
    unfold FP.Core.sumUnits
    rw [Int.add_mul]
  have hp : (0 : Int) < ((2 ^ k : Nat) : Int) := by exact_mod_cast Nat.two_pow_pos k
  constructor
  · rw [hS, Int.natAbs_mul]
    unfold mg
    rw [show (min q r + 400).toNat = k by omega]
    rfl
  · rw [hS]
    constructor
    · intro h
      exact Int.mul_neg_of_neg_of_pos h hp
    · intro h
      refine Int.not_le.mp fun h2 => ?_
      have := Int.mul_nonneg h2 (Int.le_of_lt hp)
      omega
/-- a sum: its value V is bounded by a float -/
theorem sum_dec {s t : Bool} {c d : Nat} {q r : Int} {B : Nat} {rB : Int} {V : Int} (hc : gd c q) (hd : gd d r) (hV : FP.Core.signed s (mg c q) + FP.Core.signed t (mg d r) = V) (hB : B < 16777216) (h1 : -149 ≤ rB) (h2 : rB ≤ 50) (hb : V.natAbs ≤ mg B rB) :
    ∃ s' c' q', FP.Core.round fB (FP.Core.exactSum (.fin s c q) (.fin t d r)) = .fin s' c' q' ∧ gd c' q' ∧ mg c' q' ≤ mg B rB ∧ (0 < V → s' = false) ∧ (V < 0 → s' = true) ∧ (V = 0 → c' = 0) ∧ (V = 0 → s ≠ t → s' = false) ∧ ∀ (B' : Nat) (r' : Int), B' < 16777216 → -149 ≤ r' → mg B' r' ≤ V.natAbs → mg B' r' ≤ mg c' q' := by
  obtain ⟨e1, e2⟩ := su (s := s) (t := t) (c := c) (d := d) (q := q) (r := r) (by have := hc.2.1; omega) (by have := hd.2.1; omega)
  rw [hV] at e1 e2
  unfold FP.Core.exactSum FP.Core.round
  simp only
  generalize hu : FP.Core.sumUnits s c q t d r (min q r) = u at *
  have hz : u = 0 ↔ V = 0 := by
    constructor
    · intro h
      rw [h] at e1
      have : mg (0 : Int).natAbs (min q r) = 0 := by unfold mg; simp
      omega
    · intro h
      rw [h] at e1
      unfold mg at e1
      have := Nat.two_pow_pos (min q r + 400).toNat
      rcases Nat.mul_eq_zero.mp (show u.natAbs * 2 ^ (min q r + 400).toNat = 0 by simpa using e1) with z | z <;> omega
  by_cases z : u = 0
  · have hV0 := hz.mp z
    refine ⟨FP.Core.sumSign s t u, 0, -149, ?_, ⟨by decide, by decide, by decide, Or.inr rfl⟩, by unfold mg; omega, fun h => by omega, fun h => by omega, fun _ => rfl, fun _ h => ?_, fun B' r' _ _ h => ?_⟩
    · rw [z]
      unfold FP.Core.roundRatio
      rw [if_pos (show (0 : Int).natAbs = 0 from rfl), fB_qmin]
    · rw [z]
      unfold FP.Core.sumSign
      rw [if_pos rfl]
      cases s <;> cases t <;> simp_all
    · rw [hV0] at h
      exact Nat.le_trans h (Nat.zero_le _)
  · have hV0 : V ≠ 0 := fun h => z (hz.mpr h)
    obtain ⟨c', q', g1, g2, g3, g4⟩ := rr (s := FP.Core.sumSign s t u) (num := u.natAbs) (e := min q r) (B := B) (r := rB) (by omega) (by have := hc.2.1; have := hd.2.1; omega) hB h1 h2 (by rw [e1]; exact hb)
    refine ⟨_, c', q', g1, g2, g3, fun h => ?_, fun h => ?_, fun h => absurd h hV0, fun h => absurd h hV0, fun B' r' b1 b2 b3 => g4 B' r' b1 b2 (by rw [e1]; exact b3)⟩
    · unfold FP.Core.sumSign
      rw [if_neg z]
      have : ¬ u < 0 := fun q => by have := e2.mp q; omega
      simp [this]
    · unfold FP.Core.sumSign
      rw [if_neg z]
      simp [e2.mpr h]
theorem sg_f (x : Nat) : FP.Core.signed false x = (x : Int) := rfl
theorem sg_t (x : Nat) : FP.Core.signed true x = -(x : Int) := rfl
theorem fsub_of {x y : UInt32} {s : Bool} {c d : Nat} {q r : Int} (hx : FP.Core.decode fB x.toNat = .fin s c q) (hy : FP.Core.decode fB y.toNat = .fin false d r) : FP.fsub x y = UInt32.ofNat (FP.Core.encode fB (FP.Core.round fB (FP.Core.exactSum (.fin s c q) (.fin true d r)))) := by
  show UInt32.ofNat (FP.Core.encode fB (FP.Core.round fB (FP.Core.exactSum (FP.Core.decode fB x.toNat) (FP.Core.negate (FP.Core.decode fB y.toNat))))) = _
  rw [hx, hy]
  rfl
theorem fadd_of {x y : UInt32} {s t : Bool} {c d : Nat} {q r : Int} (hx : FP.Core.decode fB x.toNat = .fin s c q) (hy : FP.Core.decode fB y.toNat = .fin t d r) : FP.fadd x y = UInt32.ofNat (FP.Core.encode fB (FP.Core.round fB (FP.Core.exactSum (.fin s c q) (.fin t d r)))) := by
  show UInt32.ofNat (FP.Core.encode fB (FP.Core.round fB (FP.Core.exactSum (FP.Core.decode fB x.toNat) (FP.Core.decode fB y.toNat)))) = _
  rw [hx, hy]
theorem mg_lt {a b : Nat} (h : a < b) : mg a 0 < mg b 0 := by
  rw [mg_nat, mg_nat]
  exact Nat.mul_lt_mul_of_pos_right h (Nat.two_pow_pos 400)
theorem mg_le {a b : Nat} (h : a ≤ b) : mg a 0 ≤ mg b 0 := by
  rw [mg_nat, mg_nat]
  exact Nat.mul_le_mul_right _ h
theorem mg_add (a b : Nat) : mg (a + b) 0 = mg a 0 + mg b 0 := by
  rw [mg_nat, mg_nat, mg_nat, Nat.add_mul]
/-- the bounds of the marks: no NaN -/
theorem fl_win {pt : UInt32} {w : Nat} (hp : pOK pt) (hw : w ≤ 50) : vf_n32 (FP.fsub pt (FP.i2f (nI w))) ∧ vf_n32 (FP.fadd pt (FP.i2f (nI w))) := by
  obtain ⟨P, q, d1, g1, b1, b2⟩ := pOK_dec hp
  obtain ⟨c, r, d2, g2, b3⟩ := i2f_dec (t := w) (by omega)
  have b4 := mg_le (show w ≤ 50 by omega)
  have b5 := mg_le (show 0 ≤ 512 by omega)
  have b6 : mg 562 0 = mg 512 0 + mg 50 0 := mg_add 512 50
  constructor
  · rw [fsub_of d1 d2]
    obtain ⟨s', c', q', h1, h2, -⟩ := sum_dec (s := false) (t := true) (B := 562) (rB := 0) g1 g2 rfl (by decide) (by decide) (by decide) (by rw [sg_f, sg_t, b3]; omega)
    rw [h1]
    exact vf_fin h2
  · rw [fadd_of d1 d2]
    obtain ⟨s', c', q', h1, h2, -⟩ := sum_dec (s := false) (t := false) (B := 562) (rB := 0) g1 g2 rfl (by decide) (by decide) (by decide) (by rw [sg_f, sg_f, b3]; omega)
    rw [h1]
    exact vf_fin h2
def fchk : FP.Core.Datum → Bool
  | .fin false c q => decide (c < 16777216) && decide (-149 ≤ q) && decide (q ≤ 104) && (decide (8388608 ≤ c) || decide (q = -149)) && decide (mg c q ≤ mg 1 0)
  | _ => false
theorem fchk_8 : ∀ g, g < 9 → fchk (FP.Core.decode fB (FP.fdiv (FP.i2f (nI g)) 1090519040).toNat) = true ∧ FP.fdiv (FP.i2f (nI g)) 1090519040 &&& 0x7fffffff ≤ 0x7f800000 := by decide +kernel
theorem share_dec {g : Nat} (h : g ≤ 8) : ∃ c q, FP.Core.decode fB (FP.fdiv (FP.i2f (nI g)) 1090519040).toNat = .fin false c q ∧ gd c q ∧ mg c q ≤ mg 1 0 := by
  have h1 := (fchk_8 g (by omega)).1
  generalize FP.Core.decode fB (FP.fdiv (FP.i2f (nI g)) 1090519040).toNat = d at h1
  match d, h1 with
  | .fin false c q, h1 =>
    simp only [fchk, Bool.and_eq_true, Bool.or_eq_true, decide_eq_true_eq] at h1
    exact ⟨c, q, rfl, ⟨h1.1.1.1.1, h1.1.1.1.2, h1.1.1.2, h1.1.2⟩, h1.2⟩
/-- a product by a share of at most 1 -/
theorem mul_dec {s : Bool} {c d B : Nat} {q r : Int} (hc : gd c q) (hd : gd d r) (h1 : mg d r ≤ mg 1 0) (hB : B < 16777216) (hb : mg c q ≤ mg B 0) :
    ∃ c' q', FP.Core.round fB (FP.Core.exactProduct (.fin s c q) (.fin false d r)) = .fin s c' q' ∧ gd c' q' ∧ mg c' q' ≤ mg B 0 := by
  unfold FP.Core.exactProduct FP.Core.round
  simp only [Bool.bne_false]
  by_cases z : c * d = 0
  · rw [z]
    refine ⟨0, -149, ?_, ⟨by decide, by decide, by decide, Or.inr rfl⟩, by unfold mg; omega⟩
    unfold FP.Core.roundRatio
    rw [if_pos rfl, fB_qmin]
  · have hq := hc.2.1
    have hr := hd.2.1
    have hle : mg (c * d) (q + r) ≤ mg c q := by
      have h2 : d * 2 ^ (r + 400).toNat * (c * 2 ^ (q + 400).toNat) ≤ 2 ^ 400 * (c * 2 ^ (q + 400).toNat) := Nat.mul_le_mul_right _ (by unfold mg at h1; rw [Nat.one_mul] at h1; exact h1)
      have h3 : d * 2 ^ (r + 400).toNat * (c * 2 ^ (q + 400).toNat) = 2 ^ 400 * (c * d * 2 ^ (q + r + 400).toNat) := by
        have h4 : 2 ^ (r + 400).toNat * 2 ^ (q + 400).toNat = 2 ^ 400 * 2 ^ (q + r + 400).toNat := by
          rw [← pw, ← pw]
          congr 1
          omega
        calc d * 2 ^ (r + 400).toNat * (c * 2 ^ (q + 400).toNat) = c * d * (2 ^ (r + 400).toNat * 2 ^ (q + 400).toNat) := by ac_rfl
          _ = c * d * (2 ^ 400 * 2 ^ (q + r + 400).toNat) := by rw [h4]
          _ = 2 ^ 400 * (c * d * 2 ^ (q + r + 400).toNat) := by ac_rfl
      rw [h3] at h2
      exact Nat.le_of_mul_le_mul_left h2 (Nat.two_pow_pos 400)
    obtain ⟨c', q', g1, g2, g3, -⟩ := rr (s := s) (num := c * d) (e := q + r) (B := B) (r := 0) (by omega) (by omega) hB (by decide) (by decide) (Nat.le_trans hle hb)
    exact ⟨c', q', g1, g2, g3⟩
/-- the pitch that is learned: no NaN on the way, and a pitch again -/
theorem fl_learn {pt : UInt32} {tr g : Nat} (hp : pOK pt) (h2 : 2 ≤ tr) (h499 : tr ≤ 499) (hg : g ≤ 8) :
    vf_n32 (FP.fdiv (FP.i2f (nI g)) 1090519040) ∧ vf_n32 (FP.fsub (FP.i2f (nI tr)) pt) ∧ vf_n32 (FP.fmul (FP.fsub (FP.i2f (nI tr)) pt) (FP.fdiv (FP.i2f (nI g)) 1090519040)) ∧ vf_n32 (lrP pt tr (nI g)) ∧ pOK (lrP pt tr (nI g)) := by
  obtain ⟨P, q, d1, g1, b1, b2⟩ := pOK_dec hp
  obtain ⟨T, r, d2, g2, b3⟩ := i2f_dec (t := tr) (by omega)
  obtain ⟨G, rg, d3, g3, b4⟩ := share_dec hg
  -- the whole millimeters of the pitch
  obtain ⟨k, k1, k2⟩ : ∃ k, mg k 0 ≤ mg P q ∧ mg P q < mg (k + 1) 0 := by
    refine ⟨mg P q / 2 ^ 400, ?_, ?_⟩
    · rw [mg_nat]
      exact Nat.div_mul_le_self _ _
    · rw [mg_nat]
      exact Nat.lt_mul_of_div_lt (Nat.lt_succ_self _) (Nat.two_pow_pos 400)
  have k3 : k < 512 := by
    refine Nat.not_le.mp fun h => ?_
    have := mg_le h
    omega
  have k4 : 1 ≤ k := by
    refine Nat.not_lt.mp fun h => ?_
    have : k = 0 := by omega
    subst this
    rw [Nat.zero_add] at k2
    omega
  have mg1 : 0 < mg 1 0 := by
    rw [mg_nat, Nat.one_mul]
    exact Nat.two_pow_pos 400
  have e1 : FP.fsub (FP.i2f (nI tr)) pt = _ := fsub_of d2 d1
  have hv1 : FP.Core.signed false (mg T r) + FP.Core.signed true (mg P q) = (mg tr 0 : Int) - mg P q := by rw [sg_f, sg_t, b3]; omega
  have e9 : lrP pt tr (nI g) = FP.fadd pt (FP.fmul (FP.fsub (FP.i2f (nI tr)) pt) (FP.fdiv (FP.i2f (nI g)) 1090519040)) := rfl
  have fm : ∀ {s1 : Bool} {c1 : Nat} {q1 : Int}, gd c1 q1 → FP.fsub (FP.i2f (nI tr)) pt = UInt32.ofNat (FP.Core.encode fB (.fin s1 c1 q1)) → FP.fmul (FP.fsub (FP.i2f (nI tr)) pt) (FP.fdiv (FP.i2f (nI g)) 1090519040) = UInt32.ofNat (FP.Core.encode fB (FP.Core.round fB (FP.Core.exactProduct (.fin s1 c1 q1) (.fin false G rg)))) := fun hgd he => by
    show UInt32.ofNat (FP.Core.encode fB (FP.Core.round fB (FP.Core.exactProduct (FP.Core.decode fB (FP.fsub (FP.i2f (nI tr)) pt).toNat) (FP.Core.decode fB (FP.fdiv (FP.i2f (nI g)) 1090519040).toNat)))) = _
    rw [d3, he, dec_enc hgd]
  refine ⟨(fchk_8 g (by omega)).2, ?_⟩
  by_cases ht : mg P q ≤ mg tr 0
  · have hkt : k ≤ tr := by
      refine Nat.not_lt.mp fun h => ?_
      have := mg_lt h
      omega
    have ha := mg_add k (tr - k)
    rw [show k + (tr - k) = tr by omega] at ha
    obtain ⟨s1, c1, q1, h1, h2', h3, h4, -, -, h7, -⟩ := sum_dec (s := false) (t := true) (B := tr - k) (rB := 0) g2 g1 hv1 (by omega) (by decide) (by decide) (by omega)
    have hs1 : s1 = false := by
      by_cases z : (mg tr 0 : Int) - mg P q = 0
      · exact h7 z (by decide)
      · exact h4 (by omega)
    subst hs1
    rw [h1] at e1
    obtain ⟨c2, q2, m1, m2, m3⟩ := mul_dec (s := false) h2' g3 b4 (B := tr - k) (by omega) h3
    have e2 := fm h2' e1
    rw [m1] at e2
    obtain ⟨s3, c3, q3, n1, n2, n3, n4, -, -, -, n8⟩ := sum_dec (s := false) (t := false) (B := tr + 1) (rB := 0) g1 m2 (V := (mg P q : Int) + mg c2 q2) (by rw [sg_f, sg_f]) (by omega) (by decide) (by decide) (by
      have := mg_add k 1
      have := mg_add tr 1
      omega)
    have hs3 : s3 = false := n4 (by omega)
    subst hs3
    rw [e9, fadd_of d1 (by rw [e2]; exact dec_enc m2), n1, e2, e1]
    have l1 := n8 1 0 (by decide) (by decide) (by omega)
    have l2 := mg_lt (show tr + 1 < 512 by omega)
    exact ⟨vf_fin h2', vf_fin m2, vf_fin n2, pOK_enc n2 l1 (by omega)⟩
  · have hkt : tr ≤ k := by
      refine Nat.not_lt.mp fun h => ?_
      have := mg_le (show k + 1 ≤ tr from h)
      omega
    have ha := mg_add tr (k + 1 - tr)
    rw [show tr + (k + 1 - tr) = k + 1 by omega] at ha
    obtain ⟨s1, c1, q1, h1, h2', h3, -, h5, -⟩ := sum_dec (s := false) (t := true) (B := k + 1 - tr) (rB := 0) g2 g1 hv1 (by omega) (by decide) (by decide) (by omega)
    have hs1 : s1 = true := h5 (by omega)
    subst hs1
    rw [h1] at e1
    obtain ⟨c2, q2, m1, m2, m3⟩ := mul_dec (s := true) h2' g3 b4 (B := k + 1 - tr) (by omega) h3
    have e2 := fm h2' e1
    rw [m1] at e2
    have hb := mg_add (tr - 1) (k + 1 - tr)
    rw [show tr - 1 + (k + 1 - tr) = k by omega] at hb
    have hc := mg_le (show 1 ≤ tr - 1 by omega)
    obtain ⟨s3, c3, q3, n1, n2, n3, n4, -, -, -, n8⟩ := sum_dec (s := false) (t := true) (B := P) (rB := q) g1 m2 (V := (mg P q : Int) - mg c2 q2) (by rw [sg_f, sg_t]; omega) g1.1 g1.2.1 (by
      refine Int.not_lt.mp fun h => ?_
      have h9 := g1.2.2.2
      have h8 : 8388608 ≤ P := by omega
      have : mg 512 0 ≤ mg P q := by
        unfold mg
        rw [show (512 : Nat) = 2 ^ 9 from rfl, ← pw]
        refine Nat.le_trans (pw_le (show 9 + ((0 : Int) + 400).toNat ≤ 23 + (q + 400).toNat by omega)) ?_
        rw [pw]
        exact Nat.mul_le_mul_right _ (by omega)
      omega) (by omega)
    have hs3 : s3 = false := n4 (by omega)
    subst hs3
    rw [e9, fadd_of d1 (by rw [e2]; exact dec_enc m2), n1, e2, e1]
    have l1 := n8 1 0 (by decide) (by decide) (by omega)
    exact ⟨vf_fin h2', vf_fin m2, vf_fin n2, pOK_enc n2 l1 (by omega)⟩
theorem fl_set : ∀ n, n < 1991 → (1065353216 ≤ (FP.fdiv (FP.i2f (nI (n + 10))) 1092616192).toNat ∧ (FP.fdiv (FP.i2f (nI (n + 10))) 1092616192).toNat < 1140850688) ∧ FP.fdiv (FP.i2f (nI (n + 10))) 1092616192 &&& 0x7fffffff ≤ 0x7f800000 := by decide +kernel
theorem fl_tenths {n : Nat} (h1 : 10 ≤ n) (h2 : n ≤ 2000) : pOK (FP.fdiv (FP.i2f (nI n)) 1092616192) ∧ vf_n32 (FP.fdiv (FP.i2f (nI n)) 1092616192) := by
  have := fl_set (n - 10) (by omega)
  rw [show n - 10 + 10 = n by omega] at this
  exact this
theorem pOK_50 : pOK 1112014848 := ⟨by decide, by decide⟩
