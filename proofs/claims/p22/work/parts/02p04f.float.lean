/-! FLOATS: what the pitch's arithmetic keeps. A float's magnitude in units of 2^-400: mg c q -/
abbrev fB : FP.Core.Fmt := FP.Core.b32
def mg (c : Nat) (q : Int) : Nat := c * 2 ^ (q + 400).toNat
def gd (c : Nat) (q : Int) : Prop := c < 16777216 ∧ -149 ≤ q ∧ q ≤ 104 ∧ (8388608 ≤ c ∨ q = -149)
theorem fB_tails : fB.tails = 8388608 := by decide
theorem fB_exps : fB.exps = 256 := by decide
theorem fB_qmin : fB.qmin = -149 := by decide
theorem fB_qmax : fB.qmax = 104 := by decide
theorem fB_p : fB.p = 24 := rfl
theorem fA (s : Bool) (e t : Nat) (he : e < 256) (ht : t < 8388608) : FP.Core.fieldE fB (FP.Core.assemble fB s e t) = e ∧ FP.Core.fieldT fB (FP.Core.assemble fB s e t) = t ∧ FP.Core.fieldS fB (FP.Core.assemble fB s e t) = s ∧ FP.Core.assemble fB s e t < 4294967296 ∧ FP.Core.assemble fB s e t % 2147483648 = e * 8388608 + t := by
  unfold FP.Core.fieldE FP.Core.fieldT FP.Core.fieldS FP.Core.assemble
  rw [fB_tails, fB_exps]
  cases s
  · refine ⟨by simp; omega, by simp; omega, ?_, by simp; omega, by simp; omega⟩
    rw [show (((false.toNat * 256 + e) * 8388608 + t) / 8388608 / 256 % 2) = 0 by simp; omega]
    rfl
  · refine ⟨by simp; omega, by simp; omega, ?_, by simp; omega, by simp; omega⟩
    rw [show (((true.toNat * 256 + e) * 8388608 + t) / 8388608 / 256 % 2) = 1 by simp; omega]
    rfl
theorem u32_of {n : Nat} (h : n < 4294967296) : (UInt32.ofNat n).toNat = n := by
  rw [UInt32.toNat_ofNat']
  exact Nat.mod_eq_of_lt h
theorem vf_asm (s : Bool) (e t : Nat) (he : e < 256) (ht : t < 8388608) (h : e < 255 ∨ t = 0) : vf_n32 (UInt32.ofNat (FP.Core.assemble fB s e t)) := by
  obtain ⟨-, -, -, h4, h5⟩ := fA s e t he ht
  unfold vf_n32
  rw [UInt32.le_iff_toNat_le, UInt32.toNat_and, u32_of h4]
  rw [show (0x7fffffff : UInt32).toNat = 2 ^ 31 - 1 from rfl, Nat.and_two_pow_sub_one_eq_mod]
  rw [show (2 : Nat) ^ 31 = 2147483648 from rfl, h5]
  rw [show (0x7f800000 : UInt32).toNat = 2139095040 from rfl]
  omega
theorem enc_fin {s : Bool} {c : Nat} {q : Int} (h : gd c q) : ∃ e t, FP.Core.encode fB (.fin s c q) = FP.Core.assemble fB s e t ∧ e < 255 ∧ t < 8388608 ∧ (c < 8388608 → e = 0 ∧ t = c) ∧ (8388608 ≤ c → (e : Int) = q + 150 ∧ t = c - 8388608) := by
  obtain ⟨h1, h2, h3, h4⟩ := h
  unfold FP.Core.encode
  simp only
  rw [fB_tails, fB_qmin]
  by_cases hc : c < 8388608
  · rw [if_pos hc]
    exact ⟨0, c, rfl, by omega, hc, fun _ => ⟨rfl, rfl⟩, fun q => by omega⟩
  · rw [if_neg hc]
    exact ⟨_, _, rfl, by omega, by omega, fun q => by omega, fun _ => ⟨by omega, rfl⟩⟩
theorem dec_enc {s : Bool} {c : Nat} {q : Int} (h : gd c q) : FP.Core.decode fB (UInt32.ofNat (FP.Core.encode fB (.fin s c q))).toNat = .fin s c q := by
  obtain ⟨e, t, h1, h2, h3, h4, h5⟩ := enc_fin (s := s) h
  obtain ⟨a1, a2, a3, a4, -⟩ := fA s e t (by omega) h3
  rw [h1, u32_of a4]
  unfold FP.Core.decode
  rw [a1, a2, a3, fB_exps, fB_qmin, fB_tails, if_neg (by omega)]
  obtain ⟨g1, g2, g3, g4⟩ := h
  by_cases hc : c < 8388608
  · obtain ⟨rfl, rfl⟩ := h4 hc
    rw [if_pos rfl, g4.resolve_left (by omega)]
  · obtain ⟨e1, e2⟩ := h5 (by omega)
    have a : 8388608 + t = c := by omega
    have b : (-149 + ((e : Int) - 1)) = q := by omega
    rw [if_neg (by omega), a, b]
theorem vf_fin {s : Bool} {c : Nat} {q : Int} (h : gd c q) : vf_n32 (UInt32.ofNat (FP.Core.encode fB (.fin s c q))) := by
  obtain ⟨e, t, h1, h2, h3, -⟩ := enc_fin (s := s) h
  rw [h1]
  exact vf_asm s e t (by omega) h3 (Or.inl h2)
/-! rounding -/
theorem near_up {U D k : Nat} (hD : 0 < D) (h : U ≤ k * D) : FP.Core.nearest U D ≤ k := by
  have h1 := Nat.div_add_mod U D
  have h2 := Nat.mod_lt U hD
  have h3 : U / D ≤ k := by
    have := Nat.div_le_div_right (c := D) h
    rwa [Nat.mul_div_cancel _ hD] at this
  unfold FP.Core.nearest
  by_cases e : U / D = k
  · have h4 : U % D = 0 := by
      rw [e, Nat.mul_comm] at h1
      omega
    rw [h4, if_pos (by omega)]
    exact h3
  · split
    · exact h3
    · split
      · omega
      · omega
theorem near_lo {U D k : Nat} (hD : 0 < D) (h : k * D ≤ U) : k ≤ FP.Core.nearest U D := by
  have h3 : k ≤ U / D := (Nat.le_div_iff_mul_le hD).mpr h
  unfold FP.Core.nearest
  split
  · exact h3
  · split <;> omega
theorem pw (a b : Nat) : 2 ^ (a + b) = 2 ^ a * 2 ^ b := Nat.pow_add 2 a b
theorem pw_le {a b : Nat} (h : a ≤ b) : 2 ^ a ≤ 2 ^ b := Nat.pow_le_pow_right (by decide) h
/-- a number other than zero that a float bounds: what it is rounded to; every float below it stays below -/
theorem rr {s : Bool} {num : Nat} {e : Int} {B : Nat} {r : Int} (hn : 0 < num) (he : -350 ≤ e) (hB : B < 16777216) (hr : -149 ≤ r) (hr2 : r ≤ 50) (hup : mg num e ≤ mg B r) :
    ∃ c q, FP.Core.roundRatio fB s num 1 e = .fin s c q ∧ gd c q ∧ mg c q ≤ mg B r ∧ ∀ (B' : Nat) (r' : Int), B' < 16777216 → -149 ≤ r' → mg B' r' ≤ mg num e → mg B' r' ≤ mg c q := by
  obtain ⟨en, hen⟩ : ∃ n : Nat, (n : Int) = e + 400 := ⟨(e + 400).toNat, by omega⟩
  have hL1 : 2 ^ num.log2 ≤ num := Nat.log2_self_le (by omega)
  have hL2 : num < 2 ^ (num.log2 + 1) := Nat.lt_log2_self
  generalize hL : num.log2 = L at hL1 hL2
  obtain ⟨qn, hqn⟩ : ∃ n : Nat, (n : Int) = max (-149) ((L : Int) + e - 23) + 400 := ⟨(max (-149) ((L : Int) + e - 23) + 400).toNat, by omega⟩
  have hq : FP.Core.quantum fB num 1 e = (qn : Int) - 400 := by
    unfold FP.Core.quantum FP.Core.leading
    simp only
    rw [hL, show (1 : Nat).log2 = 0 from by decide, show (((L : Int) - ((0 : Nat) : Int)).toNat) = L by omega, show ((-((L : Int) - ((0 : Nat) : Int))).toNat) = 0 by omega, if_pos (by simpa using hL1), fB_qmin, fB_p]
    omega
  have M1 : mg num e = num * 2 ^ en := by unfold mg; rw [show (e + 400).toNat = en by omega]
  have hU : FP.Core.unitsNum num e ((qn : Int) - 400) = num * 2 ^ (en - qn) := by unfold FP.Core.unitsNum; rw [show (e - ((qn : Int) - 400)).toNat = en - qn by omega]
  have hDn : FP.Core.unitsDen 1 e ((qn : Int) - 400) = 2 ^ (qn - en) := by unfold FP.Core.unitsDen; rw [show (((qn : Int) - 400) - e).toNat = qn - en by omega, Nat.one_mul]
  have hD0 : 0 < 2 ^ (qn - en) := Nat.two_pow_pos _
  have hP0 : 0 < 2 ^ qn := Nat.two_pow_pos _
  have hUP : num * 2 ^ (en - qn) * 2 ^ qn = num * 2 ^ en * 2 ^ (qn - en) := by
    by_cases h : qn ≤ en
    · rw [show qn - en = 0 by omega, Nat.pow_zero, Nat.mul_one, Nat.mul_assoc, ← pw, show en - qn + qn = en by omega]
    · rw [show en - qn = 0 by omega, Nat.pow_zero, Nat.mul_one, Nat.mul_assoc, ← pw, show en + (qn - en) = qn by omega]
  have up : ∀ k, num * 2 ^ en ≤ k * 2 ^ qn → FP.Core.nearest (num * 2 ^ (en - qn)) (2 ^ (qn - en)) ≤ k := fun k h => by
    refine near_up hD0 (Nat.le_of_mul_le_mul_right (c := 2 ^ qn) ?_ hP0)
    rw [hUP, Nat.mul_assoc k, Nat.mul_comm (2 ^ (qn - en)), ← Nat.mul_assoc]
    exact Nat.mul_le_mul_right _ h
  have lo : ∀ k, k * 2 ^ qn ≤ num * 2 ^ en → k ≤ FP.Core.nearest (num * 2 ^ (en - qn)) (2 ^ (qn - en)) := fun k h => by
    refine near_lo hD0 (Nat.le_of_mul_le_mul_right (c := 2 ^ qn) ?_ hP0)
    rw [hUP, Nat.mul_assoc k, Nat.mul_comm (2 ^ (qn - en)), ← Nat.mul_assoc]
    exact Nat.mul_le_mul_right _ h
  have mB : ∀ (B : Nat) (r : Int), B < 16777216 → -149 ≤ r → (qn : Int) ≤ r + 400 → ∃ k, mg B r = k * 2 ^ qn := fun B r _ hr h => by
    refine ⟨B * 2 ^ ((r + 400).toNat - qn), ?_⟩
    unfold mg
    rw [Nat.mul_assoc, ← pw, show (r + 400).toNat - qn + qn = (r + 400).toNat by omega]
  have mS : ∀ (B : Nat) (r : Int), B < 16777216 → -149 ≤ r → r + 400 < (qn : Int) → mg B r < 2 ^ (qn + 23) := fun B r hB hr h => by
    unfold mg
    have h1 : B * 2 ^ (r + 400).toNat < 2 ^ 24 * 2 ^ (r + 400).toNat := Nat.mul_lt_mul_of_pos_right hB (Nat.two_pow_pos _)
    rw [← pw] at h1
    exact Nat.lt_of_lt_of_le h1 (pw_le (by omega))
  have hMlo : (qn : Int) ≠ 251 → 2 ^ (qn + 23) ≤ num * 2 ^ en := fun h => by
    rw [show qn + 23 = L + en by omega, pw]
    exact Nat.mul_le_mul_right _ hL1
  have hrq : (qn : Int) ≤ r + 400 := by
    refine Int.not_lt.mp fun h => ?_
    have h1 := mS B r hB hr h
    have h2 := hMlo (by omega)
    rw [M1] at hup
    omega
  obtain ⟨k, hk⟩ := mB B r hB hr hrq
  have hc1 := up k (by rw [← M1, ← hk]; exact hup)
  have hc2 := up 16777216 (by
    have h1 : num * 2 ^ en ≤ 2 ^ (L + 1) * 2 ^ en := Nat.mul_le_mul_right _ (Nat.le_of_lt hL2)
    rw [← pw] at h1
    refine Nat.le_trans h1 (Nat.le_trans (pw_le (show L + 1 + en ≤ 24 + qn by omega)) ?_)
    rw [pw]
    exact Nat.le_refl _)
  have hc3 : (qn : Int) ≠ 251 → 8388608 ≤ FP.Core.nearest (num * 2 ^ (en - qn)) (2 ^ (qn - en)) := fun h => lo 8388608 (by
    have := hMlo h
    rw [Nat.add_comm, pw] at this
    exact this)
  unfold FP.Core.roundRatio FP.Core.roundAt
  rw [if_neg (by omega), hq, hU, hDn]
  have key : ∀ (B' : Nat) (r' : Int), B' < 16777216 → -149 ≤ r' → mg B' r' ≤ mg num e → mg B' r' ≤ FP.Core.nearest (num * 2 ^ (en - qn)) (2 ^ (qn - en)) * 2 ^ qn := fun B' r' h1 h2 h3 => by
    by_cases h : (qn : Int) ≤ r' + 400
    · obtain ⟨k', hk'⟩ := mB B' r' h1 h2 h
      rw [hk']
      exact Nat.mul_le_mul_right _ (lo k' (by rw [← M1, ← hk']; exact h3))
    · have h4 := mS B' r' h1 h2 (by omega)
      refine Nat.le_trans (Nat.le_of_lt h4) ?_
      rw [Nat.add_comm, pw]
      exact Nat.mul_le_mul_right _ (hc3 (by omega))
  generalize FP.Core.nearest (num * 2 ^ (en - qn)) (2 ^ (qn - en)) = c0 at *
  unfold FP.Core.settle FP.Core.bound
  rw [fB_p, fB_qmax, fB_tails]
  by_cases hc : c0 < 16777216
  · rw [if_pos (by simpa using hc), if_pos (by omega)]
    have m1 : mg c0 ((qn : Int) - 400) = c0 * 2 ^ qn := by unfold mg; rw [show ((qn : Int) - 400 + 400).toNat = qn by omega]
    refine ⟨c0, (qn : Int) - 400, rfl, ⟨hc, by omega, by omega, ?_⟩, ?_, ?_⟩
    · by_cases z : (qn : Int) = 251
      · exact Or.inr (by omega)
      · exact Or.inl (hc3 z)
    · rw [m1, hk]
      exact Nat.mul_le_mul_right _ hc1
    · rw [m1]
      exact key
  · have e0 : c0 = 16777216 := by omega
    rw [if_neg (by simpa using hc), if_pos (by omega)]
    have m1 : mg 8388608 ((qn : Int) - 400 + 1) = c0 * 2 ^ qn := by
      unfold mg
      rw [show ((qn : Int) - 400 + 1 + 400).toNat = 1 + qn by omega, pw, ← Nat.mul_assoc, e0]
    refine ⟨8388608, (qn : Int) - 400 + 1, rfl, ⟨by omega, by omega, by omega, Or.inl (Nat.le_refl _)⟩, ?_, ?_⟩
    · rw [m1, hk]
      exact Nat.mul_le_mul_right _ hc1
    · rw [m1]
      exact key
