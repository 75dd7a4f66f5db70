/-! the law's pitch: P parts of 1/32768, with K binary places at most -/
def pch (p : UInt32) (P K : Nat) : Prop := fv p (P : Int) ∧ 32768 ≤ P ∧ P ≤ 14090240 ∧ K ≤ 15 ∧ ∃ q, P = q * 2 ^ (15 - K)
theorem pch_M {p : UInt32} {P K w tr : Nat} (h : pch p P K) (hw : w ≤ 50) (ht : tr ≤ 499) : fqM p (nI w) tr < 0 ↔ 32768 * (tr + w) < P := by
  obtain ⟨h1, h2, h3, -⟩ := h
  unfold fqM
  rw [(fv_cmp (fv_i2f (t := tr) (by omega)) (fv_sub h1 (fv_i2f (t := w) (by omega)) (by omega))).1]
  omega
theorem pch_L {p : UInt32} {P K w tr : Nat} (h : pch p P K) (hw : w ≤ 50) (ht : tr ≤ 499) : fqL p (nI w) tr ≤ 0 ↔ 32768 * tr ≤ P + 32768 * w := by
  obtain ⟨h1, h2, h3, -⟩ := h
  unfold fqL
  rw [(fv_cmp (fv_i2f (t := tr) (by omega)) (fv_add h1 (fv_i2f (t := w) (by omega)) (by omega))).2]
  omega
theorem gd_0 : gd 0 (-149) := ⟨by decide, by decide, by decide, Or.inr rfl⟩
theorem gd_h : gd 8388608 (-24) := ⟨by decide, by decide, by decide, Or.inl (Nat.le_refl _)⟩
theorem gd_1 : gd 8388608 (-23) := ⟨by decide, by decide, by decide, Or.inl (Nat.le_refl _)⟩
theorem mg_h : mg 8388608 (-24) = 2 ^ 399 := by
  unfold mg
  rw [show (-24 + 400 : Int).toNat = 376 from rfl, show (8388608 : Nat) = 2 ^ 23 by decide, ← pw]
theorem mg_1 : mg 8388608 (-23) = 2 ^ 400 := by
  unfold mg
  rw [show (-23 + 400 : Int).toNat = 377 from rfl, show (8388608 : Nat) = 2 ^ 23 by decide, ← pw]
theorem mg_z : mg 0 (-149) = 0 := Nat.zero_mul _
theorem pch_l0 {p : UInt32} {P K tr : Nat} (h : pch p P K) (ht : tr ≤ 430) : pch (lrP p tr (nI 0)) P K := by
  obtain ⟨h1, h2, h3, h4⟩ := h
  refine ⟨?_, h2, h3, h4⟩
  have hd := fv_sub (fv_i2f (t := tr) (by omega)) h1 (by omega)
  have hm := fv_mul (b := 0) hd sh_0 gd_0 (by rw [mg_z]; simp) (by decide)
  have ha := fv_add h1 hm (by omega)
  rw [Int.add_zero] at ha
  exact ha
theorem pch_l8 {p : UInt32} {P K tr : Nat} (h : pch p P K) (h1t : 1 ≤ tr) (ht : tr ≤ 430) : pch (lrP p tr (nI 8)) (32768 * tr) 0 := by
  obtain ⟨h1, h2, h3, h4⟩ := h
  refine ⟨?_, by omega, by omega, by omega, tr, by rw [show (2 : Nat) ^ (15 - 0) = 32768 by decide]; omega⟩
  have hd := fv_sub (fv_i2f (t := tr) (by omega)) h1 (by omega)
  have hm := fv_mul hd sh_8 gd_1 (by rw [mg_1]) (by omega)
  have ha := fv_add h1 hm (by omega)
  rw [show (P : Int) + (((32768 * tr : Nat) : Int) - (P : Int)) = ((32768 * tr : Nat) : Int) by omega] at ha
  exact ha
theorem pch_ev {P K : Nat} (h : ∃ q, P = q * 2 ^ (15 - K)) (hK : K ≤ 14) : ∃ q, P = 2 * q := by
  obtain ⟨q, hq⟩ := h
  refine ⟨q * 2 ^ (14 - K), ?_⟩
  rw [hq, show 15 - K = (14 - K) + 1 by omega, Nat.pow_succ]
  ac_rfl
theorem pch_l4 {p : UInt32} {P K tr : Nat} (h : pch p P K) (hK : K ≤ 14) (h1t : 1 ≤ tr) (ht : tr ≤ 430) : pch (lrP p tr (nI 4)) ((P + 32768 * tr) / 2) (K + 1) := by
  obtain ⟨h1, h2, h3, h4, h5⟩ := h
  obtain ⟨e, he⟩ := pch_ev h5 hK
  refine ⟨?_, by omega, by omega, by omega, ?_⟩
  · have hd := fv_sub (fv_i2f (t := tr) (by omega)) h1 (by omega)
    have hm := fv_mul (b := 16384 * (tr : Int) - (e : Int)) hd sh_4 gd_h (by
      rw [mg_h, show ((2 ^ 400 : Nat) : Int) = 2 * ((2 ^ 399 : Nat) : Int) from by rw [show (400 : Nat) = 399 + 1 from rfl, Nat.pow_succ, Int.natCast_mul, Int.mul_comm]; rfl, ← Int.mul_assoc]
      congr 1
      omega) (by omega)
    have ha := fv_add h1 hm (by omega)
    rw [show (P : Int) + (16384 * (tr : Int) - (e : Int)) = (((P + 32768 * tr) / 2 : Nat) : Int) by omega] at ha
    exact ha
  · obtain ⟨q, hq⟩ := h5
    refine ⟨q + tr * 2 ^ K, ?_⟩
    have e1 : 32768 = 2 ^ K * 2 ^ (15 - K) := by
      rw [← pw, show K + (15 - K) = 15 by omega]
    have e2 : 2 ^ (15 - K) = 2 ^ (15 - (K + 1)) * 2 := by
      rw [← Nat.pow_succ]
      congr 1
      omega
    have e3 : P + 32768 * tr = (q + tr * 2 ^ K) * 2 ^ (15 - (K + 1)) * 2 := by
      rw [Nat.mul_assoc, ← e2, Nat.add_mul, ← hq, Nat.mul_assoc, ← e1]
      omega
    rw [e3, Nat.mul_div_cancel _ (by decide)]
def fvc (x : UInt32) (n : Nat) : Bool := match FP.Core.decode fB x.toNat with
  | .fin false c q => decide (c < 16777216) && decide (-149 ≤ q) && decide (q ≤ 104) && (decide (8388608 ≤ c) || decide (q = -149)) && decide (mg c q = n * 2 ^ 385)
  | _ => false
theorem fvc_fv {x : UInt32} {n : Nat} (h : fvc x n = true) : fv x (n : Int) := by
  unfold fvc at h
  generalize hd : FP.Core.decode fB x.toNat = d at h
  match d, hd, h with
  | .fin false c q, hd, h =>
    simp only [Bool.and_eq_true, Bool.or_eq_true, decide_eq_true_eq] at h
    refine ⟨false, c, q, hd, ⟨h.1.1.1.1, h.1.1.1.2, h.1.1.2, h.1.2⟩, ?_⟩
    rw [sg_f, h.2]
    exact Int.natCast_mul _ _
theorem fvc_sp : ∀ h, h < 398 → fvc (FP.fdiv (FP.i2f (nI (5 * (h + 2)))) 1092616192) (16384 * (h + 2)) = true := by decide +kernel
theorem pch_sp {h : Nat} (h2 : 2 ≤ h) (h399 : h ≤ 399) : pch (FP.fdiv (FP.i2f (nI (5 * h))) 1092616192) (16384 * h) 1 := by
  have := fvc_fv (fvc_sp (h - 2) (by omega))
  rw [show h - 2 + 2 = h by omega] at this
  exact ⟨this, by omega, by omega, by decide, h, by rw [show (2 : Nat) ^ (15 - 1) = 16384 by decide]; omega⟩
theorem pch_50 : pch 1112014848 1638400 0 := ⟨fvc_fv (n := 1638400) (by decide +kernel), by decide, by decide, by decide, 50, by decide⟩
/-! the bits of a pitch -/
def btN (P : Nat) : Nat := (P.log2 + 112) * 8388608 + (P * 2 ^ (23 - P.log2) - 8388608)
theorem fv_bits {x : UInt32} {P : Nat} (hp : pOK x) (h : fv x (P : Int)) : x.toNat = btN P := by
  obtain ⟨s, c, q, h1, h2, h3⟩ := h
  obtain ⟨p1, p2⟩ := hp
  have hm := fv_nat h1 h2 h3
  rw [dn p1 p2] at h1
  generalize x.toNat = n at *
  injection h1 with _ e2 e3
  obtain ⟨E, hE⟩ : ∃ E, n / 8388608 = E := ⟨_, rfl⟩
  rw [hE] at e3
  have hc : c = P * 2 ^ (135 - E) := by
    refine Nat.eq_of_mul_eq_mul_right (Nat.two_pow_pos (E + 250)) ?_
    have a1 : mg c q = c * 2 ^ (E + 250) := by
      unfold mg
      rw [show (q + 400).toNat = E + 250 by omega]
    rw [← a1, hm, Nat.mul_assoc, ← pw, show 135 - E + (E + 250) = 385 by omega]
    rfl
  have b1 : 2 ^ 23 ≤ P * 2 ^ (135 - E) := by rw [← hc]; omega
  have b2 : P * 2 ^ (135 - E) < 2 ^ 24 := by rw [← hc]; omega
  have c1 : 2 ^ (E - 112) ≤ P := by
    refine Nat.le_of_mul_le_mul_right (c := 2 ^ (135 - E)) ?_ (Nat.two_pow_pos _)
    rw [← pw, show E - 112 + (135 - E) = 23 by omega]
    exact b1
  have c2 : P < 2 ^ (E - 112 + 1) := by
    refine nat_ltr (k := 2 ^ (135 - E)) ?_
    rw [← pw, show E - 112 + 1 + (135 - E) = 24 by omega]
    exact b2
  have hP : P ≠ 0 := fun z => by
    have := Nat.two_pow_pos (E - 112)
    omega
  have d1 := (Nat.le_log2 (n := P) (k := E - 112) hP).mpr c1
  have d2 : P.log2 < E - 112 + 1 := (Nat.log2_lt (n := P) (k := E - 112 + 1) hP).mpr c2
  have hl : P.log2 = E - 112 := by omega
  unfold btN
  rw [hl, show 23 - (E - 112) = 135 - E by omega, ← hc]
  omega
/-- (from the given NUMBERS) -/
theorem fa_or9 (a b : Nat) : nI a ||| nI b = nI (a ||| b) := by
  apply Int32.toBitVec_inj.1
  show BitVec.ofNat 32 a ||| BitVec.ofNat 32 b = BitVec.ofNat 32 (a ||| b)
  apply BitVec.eq_of_getLsbD_eq
  intro i hi
  simp [hi]
theorem or23 {a b : Nat} (h : b < 8388608) : nI (a * 8388608) ||| nI b = nI (a * 8388608 + b) := by
  rw [fa_or9, Nat.mul_comm a, show (8388608 : Nat) = 2 ^ 23 by decide, Nat.two_pow_add_eq_or_of_lt (by simpa using h)]
theorem sh31 : ∀ j, j < 32 → ((nI j &&& 31).toBitVec.smod 32).toNat = j := by decide +kernel
theorem shrv {n j : Nat} (hj : j < 32) (hn : n < 2 ^ 31) : nI n >>> (nI j &&& 31) = nI (n / 2 ^ j) := pk_shrN hn _ j (sh31 j hj)
theorem shlv {n j : Nat} (hj : j < 32) (hn : n * 2 ^ j < 2 ^ 32) : nI n <<< (nI j &&& 31) = nI (n * 2 ^ j) := pk_shlN _ j (sh31 j hj) hn
theorem shl23v {d : Nat} (h1 : d ≤ 255) : nI d <<< (nI 23 &&& 31) = nI (d * 8388608) := by
  have := shlv (n := d) (j := 23) (by decide) (by rw [show (2 : Nat) ^ 23 = 8388608 by decide]; omega)
  rw [show (2 : Nat) ^ 23 = 8388608 by decide] at this
  exact this
theorem btA {P i : Nat} (hP : 1 ≤ P) (hP2 : P < 16777216) (hi : i ≤ P.log2) (h : ¬ P / 2 ^ i ≤ 1) : i + 1 ≤ P.log2 := by
  refine (Nat.le_log2 (n := P) (k := i + 1) (by omega)).mpr ?_
  have h2 : 2 ≤ P / 2 ^ i := by omega
  have := (Nat.le_div_iff_mul_le (Nat.two_pow_pos i)).mp h2
  rw [Nat.pow_succ, Nat.mul_comm]
  exact this
theorem btB {P i : Nat} (hP : 1 ≤ P) (hi : i ≤ P.log2) (h : P / 2 ^ i ≤ 1) : i = P.log2 := by
  have h1 : P < 2 * 2 ^ i := (Nat.div_lt_iff_lt_mul (Nat.two_pow_pos i)).mp (by omega)
  have d2 : P.log2 < i + 1 := (Nat.log2_lt (n := P) (k := i + 1) (by omega)).mpr (by rw [Nat.pow_succ, Nat.mul_comm]; exact h1)
  omega
theorem btC {P : Nat} (hP : 1 ≤ P) (hP2 : P < 16777216) : P.log2 ≤ 23 ∧ 8388608 ≤ P * 2 ^ (23 - P.log2) ∧ P * 2 ^ (23 - P.log2) < 16777216 := by
  have d2 : P.log2 < 24 := (Nat.log2_lt (n := P) (k := 24) (by omega)).mpr (by rw [show (2 : Nat) ^ 24 = 16777216 by decide]; exact hP2)
  have h1 := Nat.log2_self_le (n := P) (by omega)
  have h2 := Nat.lt_log2_self (n := P)
  have e1 : 2 ^ P.log2 * 2 ^ (23 - P.log2) = 8388608 := by rw [← pw, show P.log2 + (23 - P.log2) = 23 by omega]
  have e2 : 2 ^ (P.log2 + 1) * 2 ^ (23 - P.log2) = 16777216 := by rw [← pw, show P.log2 + 1 + (23 - P.log2) = 24 by omega]
  refine ⟨by omega, ?_, ?_⟩
  · rw [← e1]
    exact Nat.mul_le_mul_right _ h1
  · rw [← e2]
    exact Nat.mul_lt_mul_of_pos_right h2 (Nat.two_pow_pos _)
theorem btD {P : Nat} (hP : 1 ≤ P) (hP2 : P < 16777216) : nI (P * 2 ^ (23 - P.log2)) &&& nI 8388607 = nI (P * 2 ^ (23 - P.log2) - 8388608) := by
  obtain ⟨-, h1, h2⟩ := btC hP hP2
  rw [pk_andN (n := P * 2 ^ (23 - P.log2)) (by omega) 23 (by decide)]
  have e : P * 2 ^ (23 - P.log2) % 2 ^ 23 = P * 2 ^ (23 - P.log2) - 8388608 := by
    rw [show (2 : Nat) ^ 23 = 8388608 by decide]
    omega
  rw [e]
