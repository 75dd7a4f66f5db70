/-! pure facts for 21.law.lean.txt -/
theorem setA_hi {z : Sg} {k : Nat} (hk : k ≤ 7) : setA z (nI k) (nI (st_hi k + 1)) = ((-2), z) := setA_f (fun q => by
  have hb := st_bd (w := k) (by omega)
  have h := (inR_iff (by omega) hb.1 (by omega)).mp ((okS_iff hk).mp q)
  omega)
theorem setA_lo {z : Sg} {k : Nat} (hk : k ≤ 7) : setA z (nI k) (nI (st_lo k) - nI 1) = ((-2), z) := setA_f (fun q => by
  have hb := st_bd (w := k) (by omega)
  have h := ((okS_iff hk).mp q).1
  rw [Int32.le_iff_toInt_le, pk_sub_toInt (by omega) (by omega), nI_toInt (by omega)] at h
  omega)
theorem setA_8 {z : Sg} {x : Int32} : setA z (nI 8) x = ((-2), z) := setA_f (fun ⟨w, h1, h2, _⟩ => by
  have := (nI_eq (by decide) (by omega)).mp h2
  omega)
theorem rA_set {z : Sg} {aa : Nat → Int32} {K k : Nat} {x : Int32} (h : rA z aa K) (hk : k < 8) : rA (setS z k x) (upd aa k x) K := by
  obtain ⟨x1, x2, x3, x4, x5, x6, x7, x8, P, x9, x10⟩ := h
  refine ⟨fun j hj => ?_, ?_, ?_, fun j hj => ?_, fun j hj => ?_, fun j hj => ?_, fun j hj => ?_, ?_, P, ?_, x10⟩
  · show upd aa k x j = upd (gS z) k x j
    by_cases e : j = k
    · rw [e, pk_us, pk_us]
    · rw [pk_un e, pk_un e]
      exact x1 j hj
  · rw [pk_un (by omega)]; exact x2
  · rw [pk_un (by omega)]; exact x3
  · rw [pk_un (by omega)]; exact x4 j hj
  · rw [pk_un (by omega)]; exact x5 j hj
  · rw [pk_un (by omega)]; exact x6 j hj
  · rw [pk_un (by omega)]; exact x7 j hj
  · rw [pk_un (by omega)]; exact x8
  · rw [pk_un (by omega)]; exact x9
theorem gn_set {z : Sg} {k v : Nat} (h : gnOK z) (h6 : k = 6 → v = 0 ∨ v = 4 ∨ v = 8) : gnOK (setS z k (nI v)) := by
  by_cases e : k = 6
  · subst e
    exact ⟨v, h6 rfl, pk_us (f := gS z) (k := 6) (x := nI v)⟩
  · obtain ⟨g, h1, h2⟩ := h
    exact ⟨g, h1, (pk_un (f := gS z) (k := k) (x := nI v) (j := 6) (fun q => e q.symm)).trans h2⟩
theorem spA_t {z : Sg} {n : Nat} (h1 : 10 ≤ n) (h2 : n ≤ 2000) : spA z (nI n) = ((gP z).toInt32, pS z (FP.fdiv (FP.i2f (nI n)) 1092616192)) := by
  rw [spA, inB_t ((inR_iff (by decide) (by decide) (by omega)).mpr ⟨h1, h2⟩), if_pos rfl]
theorem spA_f {z : Sg} {n : Nat} (h : n < 10 ∨ 2000 < n) (h2 : n < 2 ^ 31) : spA z (nI n) = ((-2), z) := by
  rw [spA, inB_f (fun q => by have := (inR_iff (by decide) (by decide) h2).mp q; omega)]
  rfl
theorem rA_sp {z : Sg} {aa : Nat → Int32} {K h : Nat} (hr : rA z aa K) (h2 : 2 ≤ h) (h399 : h ≤ 399) : rA (pS z (FP.fdiv (FP.i2f (nI (5 * h))) 1092616192)) (upd (upd aa 46 (nI (16384 * h))) 47 (nI 1)) 1 := by
  obtain ⟨x1, x2, x3, x4, x5, x6, x7, x8, P, x9, x10⟩ := hr
  have f : ∀ j, j < 46 → upd (upd aa 46 (nI (16384 * h))) 47 (nI 1) j = aa j := fun j hj => by rw [pk_un (by omega), pk_un (by omega)]
  refine ⟨fun j hj => ?_, (f 8 (by decide)).trans x2, (f 9 (by decide)).trans x3, fun j hj => ?_, fun j hj => ?_, fun j hj => ?_, fun j hj => ?_, pk_us, 16384 * h, by rw [pk_un (by decide), pk_us], pch_sp h2 h399⟩
  · rw [f j (by omega)]; exact x1 j hj
  · rw [f _ (by omega)]; exact x4 j hj
  · rw [f _ (by omega)]; exact x5 j hj
  · rw [f _ (by omega)]; exact x6 j hj
  · rw [f _ (by omega)]; exact x7 j hj
theorem btN_b {P : Nat} (h1 : 1 ≤ P) (h2 : P < 16777216) : btN P < 2 ^ 31 := by
  obtain ⟨b1, b2, b3⟩ := btC h1 h2
  unfold btN
  omega
/-! the ring let out: the order is no matter -/
theorem gtA_c (x y c : Int32) : gtA x (gtA y c) = gtA y (gtA x c) := by
  unfold gtA
  by_cases h1 : x = nI 0
  · by_cases h2 : y = nI 0
    · simp only [if_pos h1, if_pos h2]
    · simp only [if_pos h1, if_neg h2]
  · by_cases h2 : y = nI 0
    · simp only [if_neg h1, if_pos h2]
    · simp only [if_neg h1, if_neg h2]
theorem gtB_c (x y c : Int32) : gtB x (gtB y c) = gtB y (gtB x c) := by
  unfold gtB
  by_cases h1 : x = nI 0
  · simp only [if_pos h1]
  · by_cases h3 : x = (-1)
    · simp only [if_neg h1, if_pos h3]
    · by_cases h2 : y = nI 0
      · simp only [if_neg h1, if_neg h3, if_pos h2]
      · by_cases h4 : y = (-1)
        · simp only [if_neg h1, if_neg h3, if_neg h2, if_pos h4]
        · simp only [if_neg h1, if_neg h3, if_neg h2, if_neg h4]
theorem lvS_c (rg : Nat → Int32) (x : Int32) : ∀ (n : Nat) (p : Int32 × Int32), lvS rg n (gtA x p.1, gtB x p.2) = (gtA x (lvS rg n p).1, gtB x (lvS rg n p).2)
  | 0, _ => rfl
  | n + 1, p => by
    rw [lvS, lvS, gtA_c, gtB_c]
    exact lvS_c rg x n (gtA (rg n) p.1, gtB (rg n) p.2)
theorem lvS_f (rg : Nat → Int32) (n : Nat) (p : Int32 × Int32) : lvS rg (n + 1) p = (gtA (rg n) (lvS rg n p).1, gtB (rg n) (lvS rg n p).2) := by
  rw [lvS, lvS_c]
theorem gt_m1 (c : Int32) : gtA (-1) c = c ∧ gtB (-1) c = c := by
  have h : ¬ (-1 : Int32) = nI 0 := by decide
  exact ⟨if_neg h, by rw [gtB, if_neg h, if_pos rfl]⟩
/-- empty stations behind the ring let nothing out -/
theorem lvS_10 {rg : Nat → Int32} {n : Nat} (p : Int32 × Int32) : ∀ m, (∀ j, n ≤ j → j < n + m → rg j = (-1)) → lvS rg (n + m) p = lvS rg n p ∧ cntR rg (n + m) = cntR rg n
  | 0, _ => ⟨rfl, rfl⟩
  | m + 1, h => by
    have h1 := h (n + m) (by omega) (by omega)
    obtain ⟨i1, i2⟩ := lvS_10 (rg := rg) (n := n) p m (fun j a b => h j a (by omega))
    refine ⟨?_, ?_⟩
    · rw [← Nat.add_assoc, lvS_f, h1, (gt_m1 _).1, (gt_m1 _).2]
      exact i1
    · rw [← Nat.add_assoc, cntR, if_pos h1]
      exact i2
def rqI (z : Sg) (aa bk : Nat → Int32) (kk : Nat) : Prop := (∀ j, j < kk → bk (10 + j) = (-1)) ∧ (∀ j, kk ≤ j → j < 10 → bk (10 + j) = gR z j) ∧ bk 21 = (lvS (gR z) kk (gC z 1, gC z 2)).1 ∧ bk 22 = (lvS (gR z) kk (gC z 1, gC z 2)).2 ∧ ∀ j, (j < 10 ∨ 20 ≤ j) → j ≠ 21 → j ≠ 22 → bk j = aa j
theorem rqI_0 {z : Sg} {aa : Nat → Int32} {K : Nat} (h : rA z aa K) : rqI z aa aa 0 := ⟨fun _ h => absurd h (Nat.not_lt_zero _), fun j _ hj => h.2.2.2.1 j hj, h.2.2.2.2.1 1 (by decide), h.2.2.2.2.1 2 (by decide), fun _ _ _ _ => rfl⟩
theorem rqI_s {z : Sg} {aa bk : Nat → Int32} {kk : Nat} (h : rqI z aa bk kk) (hk : kk < 10) : rqI z aa (upd (upd (upd bk 21 (gtA (gR z kk) (bk 21))) 22 (gtB (gR z kk) (bk 22))) (10 + kk) (-1)) (kk + 1) := by
  obtain ⟨h1, h2, h3, h4, h5⟩ := h
  refine ⟨fun j hj => ?_, fun j a b => ?_, ?_, ?_, fun j a b c => ?_⟩
  · by_cases e : j = kk
    · rw [e, pk_us]
    · rw [pk_un (by omega), pk_un (by omega), pk_un (by omega)]
      exact h1 j (by omega)
  · rw [pk_un (by omega), pk_un (by omega), pk_un (by omega)]
    exact h2 j (by omega) b
  · rw [pk_un (by omega), pk_un (by omega), pk_us, lvS_f, h3]
  · rw [pk_un (by omega), pk_us, lvS_f, h4]
  · rw [pk_un (by omega), pk_un c, pk_un b]
    exact h5 j a b c
theorem srA_t {z : Sg} {n : Nat} (h1 : 1 ≤ n) (h2 : n ≤ 10) : srA z (nI n) = (nI (cntR (gR z) (gT z)), rngS z n) := by
  rw [srA, inB_t ((inR_iff (by decide) (by decide) (by omega)).mpr ⟨h1, h2⟩), if_pos rfl, nv_nI (by omega)]
theorem srA_f {z : Sg} {n : Nat} (h : n < 1 ∨ 10 < n) (h2 : n < 2 ^ 31) : srA z (nI n) = ((-2), z) := by
  rw [srA, inB_f (fun q => by have := (inR_iff (by decide) (by decide) h2).mp q; omega)]
  rfl
theorem rA_rng {z : Sg} {aa bk : Nat → Int32} {K n : Nat} (hO : OKs z) (hr : rA z aa K) (h : rqI z aa bk 10) : rA (rngS z n) (upd bk 9 (nI n)) K := by
  obtain ⟨x1, x2, x3, x4, x5, x6, x7, x8, P, x9, x10⟩ := hr
  obtain ⟨h1, h2, h3, h4, h5⟩ := h
  have hT := hO.2.2.2.2.1
  have e := (lvS_10 (rg := gR z) (n := gT z) (gC z 1, gC z 2) (10 - gT z) (fun j a b => hO.2.2.2.2.2.2.1 j a (by omega))).1
  rw [show gT z + (10 - gT z) = 10 by omega] at e
  rw [e] at h3 h4
  refine ⟨fun j hj => ?_, ?_, pk_us, fun j hj => ?_, fun j hj => ?_, fun j hj => ?_, fun j hj => ?_, ?_, P, ?_, x10⟩
  · rw [pk_un (by omega), h5 j (by omega) (by omega) (by omega)]; exact x1 j hj
  · rw [pk_un (by omega), h5 8 (by omega) (by omega) (by omega)]; exact x2
  · rw [pk_un (by omega), h1 j hj]; rfl
  · show upd bk 9 (nI n) (20 + j) = upd (upd (gC z) 1 (lvS (gR z) (gT z) (gC z 1, gC z 2)).1) 2 (lvS (gR z) (gT z) (gC z 1, gC z 2)).2 j
    rw [pk_un (by omega)]
    by_cases e2 : j = 2
    · subst e2
      rw [pk_us]
      exact h4
    · by_cases e1 : j = 1
      · subst e1
        rw [pk_un (by decide), pk_us]
        exact h3
      · rw [pk_un e2, pk_un e1, h5 _ (by omega) (by omega) (by omega)]
        exact x5 j hj
  · rw [pk_un (by omega), h5 _ (by omega) (by omega) (by omega)]; exact x6 j hj
  · rw [pk_un (by omega), h5 _ (by omega) (by omega) (by omega)]; exact x7 j hj
  · rw [pk_un (by omega), h5 _ (by omega) (by omega) (by omega)]; exact x8
  · rw [pk_un (by omega), h5 _ (by omega) (by omega) (by omega)]; exact x9
theorem cnt_10 {z : Sg} (hO : OKs z) : cntR (gR z) 10 = cntR (gR z) (gT z) := by
  have hT := hO.2.2.2.2.1
  have e := (lvS_10 (rg := gR z) (n := gT z) (gC z 1, gC z 2) (10 - gT z) (fun j a b => hO.2.2.2.2.2.2.1 j a (by omega))).2
  rw [show gT z + (10 - gT z) = 10 by omega] at e
  exact e
theorem runA_s {z : Sg} {n v : Nat} (h1 : 1 ≤ n) (h2 : n ≤ 100) (h3 : v ≤ 1000) (h : gC z 8 = nI 1) : runA z (nI n) (nI v) = ((-3), z) := by
  rw [runA, inB_t ((inR_iff (by decide) (by decide) (by omega)).mpr ⟨h1, h2⟩), inB_t ((inR_iff (by decide) (by decide) (by omega)).mpr ⟨Nat.zero_le v, h3⟩), show (true && true) = true from rfl, if_pos rfl, if_pos h]
theorem runA_t {z : Sg} {n v : Nat} (h1 : 1 ≤ n) (h2 : n ≤ 100) (h3 : v ≤ 1000) (h : ¬ gC z 8 = nI 1) : runA z (nI n) (nI v) = (nI (rnS (nI v) n z).1, (rnS (nI v) n z).2) := by
  rw [runA, inB_t ((inR_iff (by decide) (by decide) (by omega)).mpr ⟨h1, h2⟩), inB_t ((inR_iff (by decide) (by decide) (by omega)).mpr ⟨Nat.zero_le v, h3⟩), show (true && true) = true from rfl, if_pos rfl, if_neg h, nv_nI (by omega)]
theorem runA_f {z : Sg} {n v : Nat} (h : (n < 1 ∨ 100 < n) ∨ 1000 < v) (hn : n < 2 ^ 31) (hv : v < 2 ^ 31) : runA z (nI n) (nI v) = ((-2), z) := by
  rw [runA, run_f (fun q => by
    have q1 := (inR_iff (by decide) (by decide) hn).mp q.1
    have q2 := (inR_iff (by decide) (by decide) hv).mp q.2
    omega)]
  rfl
theorem gn_cyc {z : Sg} {v : Int32} (h : gnOK z) : gnOK (cyc z v) := h
