/-! THE TEXT that the law types, read: a number, a star, a parenthesis with items in it -/
def nbd (c : Int32) : Prop := c ≠ nI 32 ∧ dgB c = false
/-- a text so far: whatever follows it (no blank, no digit first), the reading comes to the state s -/
def txI (tx : Nat → Int32) (tq m : Nat) (s : Ps) : Prop := ∀ (ty : Nat → Int32) (tr : Nat), tq < tr → tr ≤ 80 → (∀ j, j < tq → ty j = tx j) → nbd (ty tq) → prs (chA tr ty) tr 80 (ps0 (chA tr ty)) = prs (chA tr ty) tr m s
def psI (tq n : Nat) (K L : Nat → Int32) (t : Nat) : Ps := (tq, n, 1, K, L, upn (fun _ => 0) 0 t, upn (fun _ => 0) 0 0)
theorem dgB_n {d : Nat} (h : d ≤ 9) : dgB (nI (48 + d)) = true := inB_t ((inR_iff (by decide) (by decide) (by omega)).mpr ⟨by omega, by omega⟩)
theorem dgV_n {d : Nat} (h : d ≤ 9) : dgV (nI (48 + d)) = d := by
  unfold dgV
  rw [nv_nI (by omega)]
  omega
theorem dgB_f {c : Nat} (h : c < 48 ∨ 57 < c) (h2 : c < 128) : dgB (nI c) = false := inB_f (fun q => by
  have := (inR_iff (by decide) (by decide) (by omega)).mp q
  omega)
theorem nI_ne {a b : Nat} (ha : a < 128) (hb : b < 128) (h : a ≠ b) : nI a ≠ nI b := fun q => h ((nI_eq (by omega) (by omega)).mp q)
theorem ltS_b (k : Nat) : 98 ≤ ltS k ∧ ltS k ≤ 115 := by
  unfold ltS
  split
  · decide
  · split
    · decide
    · split <;> decide
theorem ltS_nbd (k : Nat) : nbd (nI (ltS k)) := by
  have := ltS_b k
  exact ⟨nI_ne (by omega) (by decide) (by omega), dgB_f (by omega) (by omega)⟩
theorem kdS_lt {k : Nat} (h : k ≤ 3) : kdS (nI (ltS k)) = nI k := by
  rcases (show k = 0 ∨ k = 1 ∨ k = 2 ∨ k = 3 by omega) with rfl | rfl | rfl | rfl <;> decide
theorem chA_in {tr a : Nat} {ty : Nat → Int32} (h : a < tr) : chA tr ty a = ty a := if_pos h
theorem skp_x {tr a : Nat} {ty : Nat → Int32} (h : a < tr) (h2 : ty a ≠ nI 32) : skp (chA tr ty) a = a := skp_n (fun q => h2 ((chA_in h).symm.trans q.2))
/-- a number of one or two digits, no third behind it -/
theorem nm_law {tr a v b : Nat} {ty : Nat → Int32} (hb : b = tnN v a) (hv : 1 ≤ v ∧ v ≤ 99) (hr : b < tr) (h1 : ∀ j, a ≤ j → j < b → ty j = tnF v a (fun _ => nI 0) j) (h2 : dgB (ty b) = false) : dgB (chA tr ty a) = true ∧ ty a ≠ nI 32 ∧ nmV (chA tr ty) a = v ∧ nmE (chA tr ty) a = b ∧ a < b := by
  subst hb
  unfold tnN tnF at *
  by_cases q : v < 10
  · rw [if_pos q] at hr h2 ⊢
    have e0 : ty a = nI (48 + v) := by
      have := h1 a (Nat.le_refl _) (by rw [if_pos q]; omega)
      rw [if_pos q, pk_us, show v % 10 = v by omega] at this
      exact this
    have d0 : dgB (chA tr ty a) = true := by rw [chA_in (by omega), e0]; exact dgB_n (by omega)
    have d1 : dgB (chA tr ty (a + 1)) = false := by rw [chA_in (by omega)]; exact h2
    obtain ⟨n1, n2⟩ := nm_c d0 d1
    refine ⟨d0, ?_, ?_, n2, by omega⟩
    · rw [e0]
      exact nI_ne (by omega) (by decide) (by omega)
    · rw [n1, chA_in (by omega), e0]
      exact dgV_n (by omega)
  · rw [if_neg q] at hr h2 ⊢
    have e0 : ty a = nI (48 + v / 10) := by
      have := h1 a (Nat.le_refl _) (by rw [if_neg q]; omega)
      rw [if_neg q, pk_un (by omega), pk_us] at this
      exact this
    have e1 : ty (a + 1) = nI (48 + v % 10) := by
      have := h1 (a + 1) (by omega) (by rw [if_neg q]; omega)
      rw [if_neg q, pk_us] at this
      exact this
    have d0 : dgB (chA tr ty a) = true := by rw [chA_in (by omega), e0]; exact dgB_n (by omega)
    have d1 : dgB (chA tr ty (a + 1)) = true := by rw [chA_in (by omega), e1]; exact dgB_n (by omega)
    obtain ⟨n1, n2⟩ := nm_b d0 d1
    refine ⟨d0, ?_, ?_, n2, by omega⟩
    · rw [e0]
      exact nI_ne (by omega) (by decide) (by omega)
    · rw [n1, chA_in (by omega), chA_in (by omega), e0, e1, dgV_n (by omega), dgV_n (by omega)]
      omega
theorem tnN_b (v a : Nat) : a < tnN v a ∧ tnN v a ≤ a + 2 := by
  unfold tnN
  split <;> omega
theorem tnF_lo {v a j : Nat} {f : Nat → Int32} (h : j < a) : tnF v a f j = f j := by
  unfold tnF
  split
  · rw [pk_un (by omega)]
  · rw [pk_un (by omega), pk_un (by omega)]
theorem tnF_hi {v a j : Nat} {f g : Nat → Int32} (h1 : a ≤ j) (h2 : j < tnN v a) : tnF v a f j = tnF v a g j := by
  unfold tnN at h2
  unfold tnF
  by_cases q : v < 10
  · rw [if_pos q] at h2
    rw [if_pos q, if_pos q, show j = a by omega, pk_us, pk_us]
  · rw [if_neg q] at h2
    rw [if_neg q, if_neg q]
    by_cases e : j = a
    · subst e
      rw [pk_un (by omega), pk_us, pk_un (by omega), pk_us]
    · rw [show j = a + 1 by omega, pk_us, pk_us]
/-- the beginning: a digit, a star, a parenthesis, a blank -/
theorem tx_0 {t : Nat} {tx : Nat → Int32} (h0 : tx 0 = nI (48 + t)) (h1 : tx 1 = nI 42) (h2 : tx 2 = nI 40) (h3 : tx 3 = nI 32) (ht : 1 ≤ t ∧ t ≤ 9) : txI tx 4 79 (psI 4 0 (fun _ => nI 0) (fun _ => nI 0) t) := by
  intro ty tr k1 k2 k3 k4
  have c0 : chA tr ty 0 = nI (48 + t) := by rw [chA_in (by omega), k3 0 (by decide)]; exact h0
  have c1 : chA tr ty 1 = nI 42 := by rw [chA_in (by omega), k3 1 (by decide)]; exact h1
  have c2 : chA tr ty 2 = nI 40 := by rw [chA_in (by omega), k3 2 (by decide)]; exact h2
  have c3 : chA tr ty 3 = nI 32 := by rw [chA_in (by omega), k3 3 (by decide)]; exact h3
  have c4 : chA tr ty 4 = ty 4 := chA_in (by omega)
  generalize chA tr ty = ch at *
  have s0 : skp ch 0 = 0 := skp_n (fun q => nI_ne (a := 48 + t) (b := 32) (by omega) (by decide) (by omega) (c0 ▸ q.2))
  have s1 : skp ch 1 = 1 := skp_n (fun q => nI_ne (a := 42) (b := 32) (by decide) (by decide) (by decide) (c1 ▸ q.2))
  have s2 : skp ch 2 = 2 := skp_n (fun q => nI_ne (a := 40) (b := 32) (by decide) (by decide) (by decide) (c2 ▸ q.2))
  have s4 : skp ch 4 = 4 := skp_n (fun q => k4.1 (c4 ▸ q.2))
  have s3 : skp ch 3 = 4 := by rw [skp_y (by decide) c3]; exact s4
  have d0 : dgB (ch 0) = true := by rw [c0]; exact dgB_n (by omega)
  have d1 : dgB (ch (0 + 1)) = false := by rw [Nat.zero_add, c1]; exact dgB_f (by decide) (by decide)
  obtain ⟨n1, n2⟩ := nm_c d0 d1
  have n1 : nmV ch 0 = t := by rw [n1, c0]; exact dgV_n (by omega)
  have n2 : nmE ch 0 = 1 := n2
  have nf : nmF ch 99 0 = (-1) := nf_3 (by omega) n2 (by rw [c1]; exact dgB_f (by decide) (by decide))
  have tf : tmF ch 0 = (-1) := by rw [tmF, if_pos nf, n2, s1, if_pos c1]
  have te : tmE ch 0 = 2 := by rw [tmE, n2, s1]; exact s2
  have p0 : ps0 ch = (0, 0, 0, fun _ => nI 0, fun _ => nI 0, fun _ => 0, fun _ => 0) := by rw [ps0, s0]
  have g1 : ptG ch 0 = (-1) := by rw [ptG, if_pos d0, tf]
  have g2 : ptE ch 0 = 2 := by rw [ptE, if_pos d0, te]
  have g3 : ptT ch 0 = t := by rw [ptT, if_pos d0, n1]
  have z41 : ¬ ch 0 = nI 41 := fun q => nI_ne (a := 48 + t) (b := 41) (by omega) (by decide) (by omega) (c0 ▸ q)
  rw [p0]
  have hF : sgF ch (0, 0, 0, fun _ => nI 0, fun _ => nI 0, fun _ => 0, fun _ => 0) = (-1) := by
    show (if ch 0 = nI 41 then _ else (if ptG ch 0 = (-1) then (if ch (ptE ch 0) = nI 40 then (if (0 : Nat) < 3 then ((-1) : Int32) else _) else _) else _)) = _
    rw [if_neg z41, if_pos g1, g2, if_pos c2, if_pos (by decide)]
  rw [prs_s (show (0 : Nat) < tr by omega) hF]
  congr 1
  show (if ch 0 = nI 41 then _ else (if ch (ptE ch 0) = nI 40 then (skp ch (ptE ch 0 + 1), 0, 0 + 1, fun _ => nI 0, fun _ => nI 0, upn (fun _ => 0) 0 (ptT ch 0), upn (fun _ => 0) 0 0) else _)) = _
  rw [if_neg z41, g2, if_pos c2, g3, s3]
  rfl
/-- an item more -/
theorem tx_s {tq m n kd sz t : Nat} {tx K L : Nat → Int32} (h : txI tx tq (m + 1) (psI tq n K L t)) (hn : n < 80) (hk : kd ≤ 3) (hz : 1 ≤ sz ∧ sz ≤ 99) (hz2 : (kd = 1 ∨ kd = 3) → sz ≤ 30) : txI (tnF sz (tq + 1) (upd tx tq (nI (ltS kd)))) (tnN sz (tq + 1)) m (psI (tnN sz (tq + 1)) (n + 1) (apF n (nI kd) K) (apF n (nI sz) L) t) := by
  intro ty tr k1 k2 k3 k4
  have hb := tnN_b sz (tq + 1)
  have e0 : ty tq = nI (ltS kd) := by rw [k3 tq (by omega), tnF_lo (by omega), pk_us]
  rw [h ty tr (by omega) k2 (fun j hj => by rw [k3 j (by omega), tnF_lo (by omega), pk_un (by omega)]) (by rw [e0]; exact ltS_nbd kd)]
  obtain ⟨m1, m2, m3, m4, m5⟩ := nm_law (tr := tr) (a := tq + 1) (v := sz) (ty := ty) rfl hz k1 (fun j h1 h2 => by rw [k3 j h2]; exact tnF_hi h1 h2) k4.2
  have c0 : chA tr ty tq = nI (ltS kd) := by rw [chA_in (by omega)]; exact e0
  have s1 : skp (chA tr ty) (tq + 1) = tq + 1 := skp_x (by omega) m2
  have s2 : skp (chA tr ty) (tnN sz (tq + 1)) = tnN sz (tq + 1) := skp_x k1 k4.1
  have d2 : dgB (chA tr ty (tnN sz (tq + 1))) = false := by rw [chA_in k1]; exact k4.2
  generalize chA tr ty = ch at *
  have lb := ltS_b kd
  have z41 : ¬ ch tq = nI 41 := fun q => nI_ne (a := ltS kd) (b := 41) (by omega) (by decide) (by omega) (c0 ▸ q)
  have z40 : ¬ ch tq = nI 40 := fun q => nI_ne (a := ltS kd) (b := 40) (by omega) (by decide) (by omega) (c0 ▸ q)
  have dz : dgB (ch tq) = false := by rw [c0]; exact (ltS_nbd kd).2
  have kd1 : kdS (ch tq) = nI kd := by rw [c0]; exact kdS_lt hk
  have kx : sz ≤ kmx (nI kd) := by
    unfold kmx
    split
    · rename_i q
      refine hz2 (q.imp (fun q => ?_) (fun q => ?_))
      · exact (nI_eq (by omega) (by decide)).mp q
      · exact (nI_eq (by omega) (by decide)).mp q
    · omega
  have g1 : ptG ch tq = (-1) := by rw [ptG, dz]; rfl
  have g2 : ptE ch tq = tq := by rw [ptE, dz]; rfl
  have g3 : ptT ch tq = 1 := by rw [ptT, dz]; rfl
  have fI : itF ch tq = (-1) := by
    rw [itF, kd1, if_neg (nI_m1 (by omega)), s1]
    exact nf_3 (by rw [m3]; exact ⟨hz.1, kx⟩) m4 d2
  have hF : sgF ch (psI tq n K L t) = (-1) := by
    show (if ch tq = nI 41 then _ else (if ptG ch tq = (-1) then (if ch (ptE ch tq) = nI 40 then _ else itF ch (ptE ch tq)) else _)) = _
    rw [if_neg z41, if_pos g1, g2, if_neg z40]
    exact fI
  rw [prs_s (show tq < tr by omega) hF]
  congr 1
  show (if ch tq = nI 41 then _ else (if ch (ptE ch tq) = nI 40 then _ else (itW ch (ptE ch tq), apN n (ptT ch tq), 1, apF n (kdS (ch (ptE ch tq))) K, apF n (nI (nmV ch (skp ch (ptE ch tq + 1)))) L, upn (fun _ => 0) 0 t, upn (fun _ => 0) 0 0))) = _
  rw [if_neg z41, g2, if_neg z40, g3, kd1, s1, m3]
  have eW : itW ch tq = tnN sz (tq + 1) := by rw [itW, s1, m4]; exact s2
  have eN : apN n 1 = n + 1 := by
    rw [apN, if_pos (by omega), rpN, if_pos (by omega)]
  rw [eW, eN]
  rfl
/-- closed: what was read -/
theorem tx_e {tq m n t : Nat} {tx K L : Nat → Int32} (h : txI tx tq (m + 1) (psI tq n K L t)) (ht : tq < 80) (hn : 1 ≤ n) (hnt : n * t ≤ 80) : ∃ s, rdR (tq + 1) (upd tx tq (nI 41)) = (-1, s) ∧ pzN s = n * t ∧ pzK s = clF 0 n K ∧ pzL s = clF 0 n L := by
  have hh := h (upd tx tq (nI 41)) (tq + 1) (Nat.lt_succ_self _) ht (fun j hj => pk_un (by omega)) (by rw [pk_us]; exact ⟨nI_ne (by decide) (by decide) (by decide), dgB_f (by decide) (by decide)⟩)
  have c0 : chA (tq + 1) (upd tx tq (nI 41)) tq = nI 41 := by rw [chA_in (Nat.lt_succ_self _), pk_us]
  have c1 : chA (tq + 1) (upd tx tq (nI 41)) (tq + 1) = (-1) := if_neg (Nat.lt_irrefl _)
  unfold rdR
  generalize chA (tq + 1) (upd tx tq (nI 41)) = ch at *
  rw [hh]
  have s1 : skp ch (tq + 1) = tq + 1 := skp_n (fun q => nI_m1 (k := 32) (by decide) (q.2.symm.trans c1))
  have hF : sgF ch (psI tq n K L t) = (-1) := by
    show (if ch tq = nI 41 then (if (1 : Nat) = 0 then _ else ((-1) : Int32)) else _) = _
    rw [if_pos c0, if_neg (by decide)]
  have hP : sgP ch (psI tq n K L t) = (tq + 1, clN 0 t n, 0, clF 0 n K, clF 0 n L, upn (fun _ => 0) 0 t, upn (fun _ => 0) 0 0) := by
    show (if ch tq = nI 41 then (skp ch (tq + 1), clN (upn (fun _ => 0) 0 0 0) (upn (fun _ => 0) 0 t 0) n, 0, clF (upn (fun _ => 0) 0 0 0) n K, clF (upn (fun _ => 0) 0 0 0) n L, upn (fun _ => 0) 0 t, upn (fun _ => 0) 0 0) else _) = _
    rw [if_pos c0, s1, upn_s, upn_s]
  have he : prs ch (tq + 1) m (tq + 1, clN 0 t n, 0, clF 0 n K, clF 0 n L, upn (fun _ => 0) 0 t, upn (fun _ => 0) 0 0) = (-1, (tq + 1, clN 0 t n, 0, clF 0 n K, clF 0 n L, upn (fun _ => 0) 0 t, upn (fun _ => 0) 0 0)) := prs_e (Nat.lt_irrefl (tq + 1))
  rw [prs_s (show tq < tq + 1 by omega) hF, hP, he]
  refine ⟨_, rfl, ?_, rfl, rfl⟩
  show clN 0 t n = n * t
  rw [clN, if_pos (by omega), rpN, Nat.zero_add, Nat.sub_zero, if_pos (by omega)]
/-- an empty text -/
theorem tx_n (tx : Nat → Int32) : ∃ s, rdR 0 tx = (-1, s) ∧ pzN s = 0 := by
  unfold rdR
  have c : ∀ a, chA 0 tx a = (-1) := fun a => if_neg (Nat.not_lt_zero _)
  have s0 : skp (chA 0 tx) 0 = 0 := skp_n (fun q => nI_m1 (k := 32) (by decide) (q.2.symm.trans (c 0)))
  rw [prs_e (Nat.not_lt_zero _)]
  exact ⟨_, rfl, rfl⟩
/-- the items of the web then -/
theorem clF_at {n j : Nat} {K : Nat → Int32} (hn : 1 ≤ n) : clF 0 n K j = K (j % n) := by
  rw [clF, if_pos (by omega), rpF, Nat.zero_add, Nat.sub_zero, Nat.sub_zero, Nat.zero_add]
  by_cases q : j < n
  · rw [if_pos q, Nat.mod_eq_of_lt q]
  · rw [if_neg q]
