/-! THE LAW'S OWN NUMBERS: how its two rows hold the state -/
def itOK (z : Sg) (ww : Nat → Int32) (i : Nat) : Prop := ∃ k sz : Nat, k ≤ 3 ∧ 1 ≤ sz ∧ sz ≤ 69 ∧ (k = 1 → sz ≤ 9) ∧ gK z i = nI k ∧ gL z i = nI sz ∧ ww i = nI (100 * k + sz)
def rW (z : Sg) (ww : Nat → Int32) : Prop := gN z ≤ 60 ∧ ww 63 = nI (gN z) ∧ ∀ i, i < gN z → itOK z ww i
def rA (z : Sg) (aa : Nat → Int32) (K : Nat) : Prop := (∀ j, j < 8 → aa j = gS z j) ∧ aa 8 = gV z ∧ aa 9 = nI (gT z) ∧ (∀ j, j < 10 → aa (10 + j) = gR z j) ∧ (∀ j, j < 9 → aa (20 + j) = gC z j) ∧ (∀ j, j < 8 → aa (30 + j) = gB z j) ∧ (∀ j, j < 6 → aa (40 + j) = gA z j) ∧ aa 47 = nI K ∧ ∃ P, aa 46 = nI P ∧ pch (gP z) P K
/-- the gain is one of those that the law sets -/
def gnOK (z : Sg) : Prop := ∃ g, (g = 0 ∨ g = 4 ∨ g = 8) ∧ gS z 6 = nI g
/-- the travel of a marked cycle -/
theorem fdS_mk {κ lm sv : Nat → Int32} {pt : UInt32} {G : Nat} (hg : sv 2 = nI G) (hG : G ≤ 400) : ∀ (m tk tr lb sc : Nat), (∀ j, tk ≤ j → j < tk + m → ∃ sz, sz ≤ 99 ∧ lm j = nI sz ∧ (κ j = nI 1 → sz ≤ 9)) → tr ≤ 400 → (fdS κ lm sv pt m tk tr lb sc).2.2.2.2 = 1 → (fdS κ lm sv pt m tk tr lb sc).2.1 ≤ 430
  | 0, tk, tr, lb, sc, _, h1, h2 => by
    unfold fdS at h2
    simp only at h2
    omega
  | m + 1, tk, tr, lb, sc, hl, h1, h2 => by
    obtain ⟨sz, l1, l2, l3⟩ := hl tk (Nat.le_refl _) (by omega)
    have hn : nv (lm tk) = sz := by rw [l2, nv_nI (by omega)]
    unfold fdS at h2 ⊢
    rw [hn] at h2 ⊢
    by_cases q : fdE sv pt (κ tk) (lm tk) (tr + sz) = 0
    · rw [if_pos q] at h2 ⊢
      have ht : tr + sz ≤ 400 := by
        unfold fdE at q
        split at q
        · omega
        · split at q
          · rename_i hh
            rw [hg] at hh
            have := (nI_leI (by omega) (by omega)).mp hh
            omega
          · omega
      exact fdS_mk hg hG m (tk + 1) (tr + sz) _ _ (fun j q1 q2 => hl j (by omega) (by omega)) ht h2
    · rw [if_neg q] at h2 ⊢
      simp only at h2 ⊢
      have hk : κ tk = nI 1 := by
        unfold fdE at h2
        split at h2
        · rename_i hh
          exact hh.1.1
        · split at h2 <;> omega
      have := l3 hk
      omega
theorem cTr_430 {z : Sg} {ww : Nat → Int32} (hO : OKs z) (hW : rW z ww) (h1 : cEd z = 1) : cTr z ≤ 430 := by
  obtain ⟨G, -, hG, hg⟩ := set_nat hO 2 (by decide)
  refine fdS_mk (κ := gK z) (lm := gL z) (pt := gP z) hg (by simpa [st_hi] using hG) (gN z) 0 0 0 0 (fun j _ hj => ?_) (by decide) h1
  obtain ⟨k, sz, a1, a2, a3, a4, a5, a6, -⟩ := hW.2.2 j (by omega)
  refine ⟨sz, by omega, a6, fun q => a4 ?_⟩
  rw [a5] at q
  exact (nI_eq (by omega) (by decide)).mp q
/-- how a cycle ends behind an item, as the law counts it -/
def fdN (g0 w G P k sz tr : Nat) : Nat := if (k = 1 ∧ g0 ≤ sz) ∧ ¬ 32768 * (tr + w) < P then 1 else if tr ≤ G then 0 else 2
theorem fdN_e {sv : Nat → Int32} {pt : UInt32} {g0 w G P K k sz tr : Nat} (h0 : sv 0 = nI g0) (h1 : sv 1 = nI w) (h2 : sv 2 = nI G) (hp : pch pt P K) (b0 : g0 ≤ 30) (b1 : w ≤ 50) (b2 : G ≤ 400) (bk : k ≤ 3) (bs : sz ≤ 99) (bt : tr ≤ 499) : fdE sv pt (nI k) (nI sz) tr = fdN g0 w G P k sz tr := by
  unfold fdE fdN
  rw [h0, h1, h2]
  have e1 : nI k = nI 1 ↔ k = 1 := nI_eq (by omega) (by decide)
  have e2 : nI sz < nI g0 ↔ sz < g0 := nI_ltI (by omega) (by omega)
  have e3 := pch_M hp b1 bt
  have e4 : nI tr ≤ nI G ↔ tr ≤ G := nI_leI (by omega) (by omega)
  have e5 : ((nI k = nI 1 ∧ ¬ nI sz < nI g0) ∧ ¬ fqM pt (nI w) tr < 0) ↔ ((k = 1 ∧ g0 ≤ sz) ∧ ¬ 32768 * (tr + w) < P) := by rw [e1, e2, e3, Nat.not_lt]
  by_cases h : (k = 1 ∧ g0 ≤ sz) ∧ ¬ 32768 * (tr + w) < P
  · rw [if_pos h, if_pos (e5.mpr h)]
  · rw [if_neg h, if_neg (fun q => h (e5.mp q))]
    by_cases h6 : tr ≤ G
    · rw [if_pos h6, if_pos (e4.mpr h6)]
    · rw [if_neg h6, if_neg (fun q => h6 (e4.mp q))]
theorem mulI {t w P : Nat} (ht : t ≤ 499) (hw : w ≤ 50) (hP : P ≤ 14090240) : nI 32768 * (nI t - nI w) ≤ nI P ↔ 32768 * t ≤ P + 32768 * w := by
  have e1 : (nI t - nI w).toInt = (t : Int) - w := pk_sub_toInt (by omega) (by omega)
  have e2 : (nI 32768).toInt = 32768 := nI_toInt (by decide)
  have e3 : (nI P).toInt = (P : Int) := nI_toInt (by omega)
  rw [Int32.le_iff_toInt_le, Int32.toInt_mul, e1, e2, e3, Int.bmod_eq_of_le (by omega) (by omega)]
  omega
theorem late_0 {z : Sg} {P K w : Nat} (hp : pch (gP z) P K) (hw : gS z 1 = nI w) (hw2 : w ≤ 50) (ht : cTr z ≤ 499) (h : nI 32768 * (nI (cTr z) - nI w) ≤ nI P) : cBl z = 0 := by
  rw [cBl, if_neg]
  intro q
  refine q.2 ?_
  rw [hw]
  exact (pch_L hp hw2 ht).mpr ((mulI ht hw2 hp.2.2.1).mp h)
theorem late_1 {z : Sg} {P K w : Nat} (hp : pch (gP z) P K) (hw : gS z 1 = nI w) (hw2 : w ≤ 50) (ht : cTr z ≤ 499) (he : cEd z = 1) (h : ¬ nI 32768 * (nI (cTr z) - nI w) ≤ nI P) : cBl z = 1 := by
  rw [cBl, if_pos]
  refine ⟨he, fun q => h ?_⟩
  rw [hw] at q
  exact (mulI ht hw2 hp.2.2.1).mpr ((pch_L hp hw2 ht).mp q)
theorem abs9 {s v t y : Nat} (hs : s ≤ 1000) (hv : v ≤ 1000) (ht : t ≤ 1000) (hy : (s ≤ v ∧ y = v - s) ∨ (v < s ∧ y = s - v)) : (nI t < nI s - nI v ∨ nI t < -(nI s - nI v)) ↔ t < y := by
  have e1 : (nI s - nI v).toInt = (s : Int) - v := pk_sub_toInt (by omega) (by omega)
  have e2 : (0 - (nI s - nI v)).toInt = (v : Int) - s := by
    rw [Int32.toInt_sub, e1, Int32.toInt_zero, Int.bmod_eq_of_le (by omega) (by omega)]
    omega
  have e3 : -(nI s - nI v) = 0 - (nI s - nI v) := (Int32.zero_sub _).symm
  have e4 : (nI t).toInt = t := nI_toInt (by omega)
  rw [e3]
  simp only [Int32.lt_iff_toInt_lt]
  rw [e1, e2, e4]
  omega
/-- half the way to the travel -/
theorem halfI {P t : Nat} (hP : P ≤ 14090240) (ht : t ≤ 430) (he : ∃ q, P = 2 * q) : nI P + (nI (32768 * t) - nI P) / nI 2 = nI ((P + 32768 * t) / 2) := by
  obtain ⟨q, hq⟩ := he
  apply Int32.toInt_inj.mp
  have e1 : (nI (32768 * t) - nI P).toInt = 2 * (16384 * (t : Int) - q) := by
    rw [pk_sub_toInt (by omega) (by omega)]
    omega
  have e2 : (nI P).toInt = (P : Int) := nI_toInt (by omega)
  have e3 : (nI 2).toInt = 2 := nI_toInt (by decide)
  have e4 : (nI ((P + 32768 * t) / 2)).toInt = (((P + 32768 * t) / 2 : Nat) : Int) := nI_toInt (by omega)
  have e5 : (2 * (16384 * (t : Int) - q)).tdiv 2 = 16384 * (t : Int) - q := by rw [Int.mul_comm]; exact Int.mul_tdiv_cancel _ (by decide)
  rw [Int32.toInt_add, Int32.toInt_div_of_ne_right _ _ (by decide), e1, e2, e3, e4, e5, Int.bmod_eq_of_le (by omega) (by omega)]
  omega
/-- the pitch that the law learns -/
theorem pch_cyc {z : Sg} {v : Int32} {ww : Nat → Int32} {P K g P2 K2 : Nat} (hO : OKs z) (hW : rW z ww) (hp : pch (gP z) P K) (hK : K ≤ 14) (h0 : cRs z v = 0) (hg : gS z 6 = nI g) (h2 : (g = 4 ∧ P2 = (P + 32768 * cTr z) / 2 ∧ K2 = K + 1) ∨ (g = 8 ∧ P2 = 32768 * cTr z ∧ K2 = 0) ∨ (g = 0 ∧ P2 = P ∧ K2 = K)) : pch (cPt z v) P2 K2 := by
  obtain ⟨a1, a2⟩ := cRs_0 hO h0
  have ht := cTr_430 hO hW a1
  obtain ⟨-, -, -, -, -, -, -, e8⟩ := cy_inv hO
  have ht2 := e8 a1 (by omega)
  rw [cPt, if_pos h0, hg]
  rcases h2 with ⟨rfl, rfl, rfl⟩ | ⟨rfl, rfl, rfl⟩ | ⟨rfl, rfl, rfl⟩
  · exact pch_l4 hp hK (by omega) ht
  · exact pch_l8 hp (by omega) ht
  · exact pch_l0 hp ht
