/-! THE READING of a text over naturals: place, items so far (81: too many), depth, kinds, lengths, times and beginnings of what is open -/
abbrev Ps : Type := Nat × Nat × Nat × (Nat → Int32) × (Nat → Int32) × (Nat → Nat) × (Nat → Nat)
def pzA (s : Ps) : Nat := s.1
def pzN (s : Ps) : Nat := s.2.1
def pzD (s : Ps) : Nat := s.2.2.1
def pzK (s : Ps) : Nat → Int32 := s.2.2.2.1
def pzL (s : Ps) : Nat → Int32 := s.2.2.2.2.1
def pzT (s : Ps) : Nat → Nat := s.2.2.2.2.2.1
def pzB (s : Ps) : Nat → Nat := s.2.2.2.2.2.2
def upn (f : Nat → Nat) (k x : Nat) : Nat → Nat := fun j => if j = k then x else f j
theorem upn_s {f : Nat → Nat} {k x : Nat} : upn f k x k = x := if_pos rfl
theorem upn_n {f : Nat → Nat} {k x j : Nat} (h : j ≠ k) : upn f k x j = f j := if_neg h
def rpF (f0 c : Nat) (K : Nat → Int32) (j : Nat) : Int32 := if j < f0 + c then K j else K (f0 + (j - f0) % c)
def apN (n t : Nat) : Nat := if n < 81 then rpN n 1 t else n
def apF (n : Nat) (x : Int32) (K : Nat → Int32) (j : Nat) : Int32 := if j < n then K j else x
def clN (b t n : Nat) : Nat := if b < n then rpN b (n - b) t else n
def clF (b n : Nat) (K : Nat → Int32) (j : Nat) : Int32 := if b < n then rpF b (n - b) K j else K j
theorem rp_f {f0 c n : Nat} {K0 K P : Nat → Int32} (hc : 0 < c) (h : rpI f0 c n K0 K) (h0 : ∀ j, j < f0 + c → K0 j = P j) : ∀ j, j < n → K j = rpF f0 c P j := by
  intro j
  induction j using Nat.strongRecOn with
  | ind j ih =>
    intro hj
    by_cases e : j < f0 + c
    · rw [rpF, if_pos e]
      exact (h.1 j e).trans (h0 j e)
    · rw [h.2 j (by omega) hj, ih (j - c) (by omega) (by omega), rpF, rpF, if_neg e]
      have e3 : (j - f0) % c = (j - f0 - c) % c := Nat.mod_eq_sub_mod (by omega)
      by_cases e2 : j - c < f0 + c
      · rw [if_pos e2, e3, Nat.mod_eq_of_lt (by omega)]
        congr 1
        omega
      · rw [if_neg e2, e3]
        congr 3
        omega
theorem rp_a {n m : Nat} {x : Int32} {K0 K P : Nat → Int32} (h : rpI n 1 m (upd K0 n x) K) (h0 : ∀ j, j < n → K0 j = P j) : ∀ j, j < m → K j = apF n x P j := by
  intro j
  induction j using Nat.strongRecOn with
  | ind j ih =>
    intro hj
    unfold apF
    by_cases e : j < n
    · rw [if_pos e, h.1 j (by omega), pk_un (by omega)]
      exact h0 j e
    · rw [if_neg e]
      by_cases e2 : j = n
      · rw [h.1 j (by omega), e2, pk_us]
      · rw [h.2 j (by omega) hj, ih (j - 1) (by omega) (by omega), apF, if_neg (by omega)]
theorem rpN_81 (f0 c t : Nat) : rpN f0 c t ≤ 81 := by
  unfold rpN
  split <;> omega
theorem rpN_ge {f0 c t : Nat} (h : f0 + c ≤ 81) (ht : 1 ≤ t) : f0 + c ≤ rpN f0 c t := by
  have : c ≤ c * t := Nat.le_mul_of_pos_right c ht
  unfold rpN
  split <;> omega
theorem apN_b {n t : Nat} (h : n ≤ 81) (ht : 1 ≤ t) : apN n t ≤ 81 ∧ n ≤ apN n t := by
  unfold apN
  split
  · have := rpN_ge (f0 := n) (c := 1) (t := t) (by omega) ht
    exact ⟨rpN_81 _ _ _, by omega⟩
  · omega
theorem clN_b {b n t : Nat} (h : n ≤ 81) (ht : 1 ≤ t) : clN b t n ≤ 81 ∧ n ≤ clN b t n := by
  unfold clN
  split
  · have := rpN_ge (f0 := b) (c := n - b) (t := t) (by omega) ht
    exact ⟨rpN_81 _ _ _, by omega⟩
  · omega
/-- what stands always -/
def pzO (s : Ps) : Prop := pzN s ≤ 81 ∧ pzD s ≤ 3 ∧ (∀ j, j < pzD s → pzB s j ≤ pzN s ∧ 1 ≤ pzT s j ∧ pzT s j ≤ 99) ∧ ∀ j, j < pzN s → lnOK (pzL s j)
/-- an item; an opening; a closing; a part -/
def kmx (k : Int32) : Nat := if k = nI 1 ∨ k = nI 3 then 30 else 99
theorem kmx_b (k : Int32) : 1 ≤ kmx k ∧ kmx k ≤ 99 := by
  unfold kmx
  split <;> omega
def itF (ch : Nat → Int32) (e : Nat) : Int32 := if kdS (ch e) = (-1) then nI e else nmF ch (kmx (kdS (ch e))) (skp ch (e + 1))
def itW (ch : Nat → Int32) (e : Nat) : Nat := skp ch (nmE ch (skp ch (e + 1)))
def itP (ch : Nat → Int32) (s : Ps) (e t : Nat) : Ps := (itW ch e, apN (pzN s) t, pzD s, apF (pzN s) (kdS (ch e)) (pzK s), apF (pzN s) (nI (nmV ch (skp ch (e + 1)))) (pzL s), pzT s, pzB s)
def opF (s : Ps) (e : Nat) : Int32 := if pzD s < 3 then (-1) else nI e
def opP (ch : Nat → Int32) (s : Ps) (e t : Nat) : Ps := (skp ch (e + 1), pzN s, pzD s + 1, pzK s, pzL s, upn (pzT s) (pzD s) t, upn (pzB s) (pzD s) (pzN s))
def clP (ch : Nat → Int32) (s : Ps) : Ps := (skp ch (pzA s + 1), clN (pzB s (pzD s - 1)) (pzT s (pzD s - 1)) (pzN s), pzD s - 1, clF (pzB s (pzD s - 1)) (pzN s) (pzK s), clF (pzB s (pzD s - 1)) (pzN s) (pzL s), pzT s, pzB s)
def ptT (ch : Nat → Int32) (a : Nat) : Nat := if dgB (ch a) then nmV ch a else 1
def ptE (ch : Nat → Int32) (a : Nat) : Nat := if dgB (ch a) then tmE ch a else a
def ptG (ch : Nat → Int32) (a : Nat) : Int32 := if dgB (ch a) then tmF ch a else (-1)
def paF (ch : Nat → Int32) (s : Ps) : Int32 := if ptG ch (pzA s) = (-1) then (if ch (ptE ch (pzA s)) = nI 40 then opF s (ptE ch (pzA s)) else itF ch (ptE ch (pzA s))) else ptG ch (pzA s)
def paP (ch : Nat → Int32) (s : Ps) : Ps := if ch (ptE ch (pzA s)) = nI 40 then opP ch s (ptE ch (pzA s)) (ptT ch (pzA s)) else itP ch s (ptE ch (pzA s)) (ptT ch (pzA s))
/-- one turn of the reading; behind the text; the whole reading, at most m turns -/
def sgF (ch : Nat → Int32) (s : Ps) : Int32 := if ch (pzA s) = nI 41 then (if pzD s = 0 then nI (pzA s) else (-1)) else paF ch s
def sgP (ch : Nat → Int32) (s : Ps) : Ps := if ch (pzA s) = nI 41 then clP ch s else paP ch s
def edF (tq : Nat) (s : Ps) : Int32 := if 0 < pzD s then nI tq else (-1)
def prs (ch : Nat → Int32) (tq : Nat) : Nat → Ps → Int32 × Ps
  | 0, s => (edF tq s, s)
  | m + 1, s => if pzA s < tq then (if sgF ch s = (-1) then prs ch tq m (sgP ch s) else (sgF ch s, s)) else (edF tq s, s)
theorem prs_e {ch : Nat → Int32} {tq m : Nat} {s : Ps} (h : ¬ pzA s < tq) : prs ch tq m s = (edF tq s, s) := by
  cases m with
  | zero => rfl
  | succ m => rw [prs, if_neg h]
theorem prs_f {ch : Nat → Int32} {tq m : Nat} {s : Ps} (h : pzA s < tq) (hf : ¬ sgF ch s = (-1)) : prs ch tq (m + 1) s = (sgF ch s, s) := by
  rw [prs, if_pos h, if_neg hf]
theorem prs_s {ch : Nat → Int32} {tq m : Nat} {s : Ps} (h : pzA s < tq) (hf : sgF ch s = (-1)) : prs ch tq (m + 1) s = prs ch tq m (sgP ch s) := by
  rw [prs, if_pos h, if_pos hf]
def ps0 (ch : Nat → Int32) : Ps := (skp ch 0, 0, 0, fun _ => nI 0, fun _ => nI 0, fun _ => 0, fun _ => 0)
theorem ps0_O (ch : Nat → Int32) : pzO (ps0 ch) := ⟨Nat.zero_le _, Nat.zero_le _, fun _ h => absurd h (Nat.not_lt_zero _), fun _ h => absurd h (Nat.not_lt_zero _)⟩
theorem nmF_ok {ch : Nat → Int32} {mx a : Nat} (ha : a < 2 ^ 31) (h : nmF ch mx a = (-1)) : 1 ≤ nmV ch a ∧ nmV ch a ≤ mx := by
  refine Decidable.byContradiction fun q => ?_
  rw [nf_1 q] at h
  exact nI_m1 ha h
theorem itF_ok {ch : Nat → Int32} {e : Nat} (he : e < 2 ^ 20) (h : itF ch e = (-1)) : ¬ kdS (ch e) = (-1) ∧ nmF ch (kmx (kdS (ch e))) (skp ch (e + 1)) = (-1) ∧ 1 ≤ nmV ch (skp ch (e + 1)) ∧ nmV ch (skp ch (e + 1)) ≤ 99 := by
  unfold itF at h
  by_cases k : kdS (ch e) = (-1)
  · rw [if_pos k] at h
    exact absurd h (nI_m1 (by omega))
  · rw [if_neg k] at h
    have h1 := skp_b ch (e + 1)
    have h2 := nmF_ok (by omega) h
    have h3 := kmx_b (kdS (ch e))
    exact ⟨k, h, h2.1, by omega⟩
theorem pzO_it {ch : Nat → Int32} {s : Ps} {e t : Nat} (h : pzO s) (ht : 1 ≤ t ∧ t ≤ 99) (he : e < 2 ^ 20) (hf : itF ch e = (-1)) : pzO (itP ch s e t) := by
  obtain ⟨h1, h2, h3, h4⟩ := h
  have hb := apN_b h1 ht.1
  have hf := itF_ok he hf
  refine ⟨hb.1, h2, fun j hj => ⟨Nat.le_trans (h3 j hj).1 hb.2, (h3 j hj).2⟩, fun j _ => ?_⟩
  show lnOK (apF (pzN s) (nI (nmV ch (skp ch (e + 1)))) (pzL s) j)
  unfold apF
  split
  · exact h4 j (by assumption)
  · exact ⟨_, hf.2.2.1, hf.2.2.2, rfl⟩
theorem pzO_op {ch : Nat → Int32} {s : Ps} {e t : Nat} (h : pzO s) (ht : 1 ≤ t ∧ t ≤ 99) (hd : pzD s < 3) : pzO (opP ch s e t) := by
  obtain ⟨h1, h2, h3, h4⟩ := h
  refine ⟨h1, hd, fun j hj => ?_, h4⟩
  have hj : j < pzD s + 1 := hj
  show upn (pzB s) (pzD s) (pzN s) j ≤ pzN s ∧ 1 ≤ upn (pzT s) (pzD s) t j ∧ upn (pzT s) (pzD s) t j ≤ 99
  by_cases q : j = pzD s
  · rw [q, upn_s, upn_s]
    exact ⟨Nat.le_refl _, ht⟩
  · rw [upn_n q, upn_n q]
    exact h3 j (by omega)
theorem pzO_cl {ch : Nat → Int32} {s : Ps} (h : pzO s) (hd : ¬ pzD s = 0) : pzO (clP ch s) := by
  obtain ⟨h1, h2, h3, h4⟩ := h
  obtain ⟨k1, k2, k3⟩ := h3 (pzD s - 1) (by omega)
  have hb := clN_b (b := pzB s (pzD s - 1)) h1 k2
  refine ⟨hb.1, ?_, fun j hj => ?_, fun j hj => ?_⟩
  · show pzD s - 1 ≤ 3
    omega
  · have hj : j < pzD s - 1 := hj
    have := h3 j (by omega)
    exact ⟨Nat.le_trans this.1 hb.2, this.2⟩
  · have hj : j < clN (pzB s (pzD s - 1)) (pzT s (pzD s - 1)) (pzN s) := hj
    show lnOK (clF (pzB s (pzD s - 1)) (pzN s) (pzL s) j)
    unfold clN at hj
    unfold clF
    by_cases q : pzB s (pzD s - 1) < pzN s
    · rw [if_pos q]
      unfold rpF
      split
      · exact h4 j (by omega)
      · have := Nat.mod_lt (j - pzB s (pzD s - 1)) (show 0 < pzN s - pzB s (pzD s - 1) by omega)
        exact h4 _ (by omega)
    · rw [if_neg q] at hj ⊢
      exact h4 j hj
theorem tmF_ok {ch : Nat → Int32} {a : Nat} (ha : a < 2 ^ 20) (h : tmF ch a = (-1)) : nmF ch 99 a = (-1) ∧ ch (skp ch (nmE ch a)) = nI 42 ∧ 1 ≤ nmV ch a ∧ nmV ch a ≤ 99 := by
  unfold tmF at h
  by_cases k : nmF ch 99 a = (-1)
  · rw [if_pos k] at h
    have h1 := skp_b ch (nmE ch a)
    have h2 := nmE_b ch a
    refine ⟨k, Decidable.byContradiction fun q => ?_, nmF_ok (by omega) k⟩
    rw [if_neg q] at h
    exact nI_m1 (by omega) h
  · rw [if_neg k] at h
    exact absurd h k
theorem ptE_b (ch : Nat → Int32) (a : Nat) : ptE ch a ≤ a + 84 ∧ a ≤ ptE ch a := by
  unfold ptE
  split
  · unfold tmE
    have h1 := skp_b ch (nmE ch a)
    have h2 := nmE_b ch a
    have h3 := skp_b ch (skp ch (nmE ch a) + 1)
    have h4 := skp_ge ch (nmE ch a)
    have h5 := skp_ge ch (skp ch (nmE ch a) + 1)
    omega
  · omega
theorem ptT_b {ch : Nat → Int32} {a : Nat} (ha : a < 2 ^ 20) (h : ptG ch a = (-1)) : 1 ≤ ptT ch a ∧ ptT ch a ≤ 99 := by
  unfold ptT
  unfold ptG at h
  split
  · rename_i q
    rw [if_pos q] at h
    exact (tmF_ok ha h).2.2
  · omega
theorem itW_b (ch : Nat → Int32) (e : Nat) : itW ch e ≤ e + 84 ∧ e + 1 ≤ itW ch e := by
  unfold itW
  have h1 := skp_b ch (e + 1)
  have h2 := skp_ge ch (e + 1)
  have h3 := nmE_b ch (skp ch (e + 1))
  have h4 := skp_b ch (nmE ch (skp ch (e + 1)))
  have h5 := skp_ge ch (nmE ch (skp ch (e + 1)))
  omega
/-- a turn goes on in the text, and not far beyond -/
theorem sgP_a (ch : Nat → Int32) (s : Ps) : pzA s + 1 ≤ pzA (sgP ch s) ∧ pzA (sgP ch s) ≤ pzA s + 200 := by
  unfold sgP
  have h0 := ptE_b ch (pzA s)
  split
  · show pzA s + 1 ≤ skp ch (pzA s + 1) ∧ skp ch (pzA s + 1) ≤ pzA s + 200
    have h1 := skp_b ch (pzA s + 1)
    have h2 := skp_ge ch (pzA s + 1)
    omega
  · unfold paP
    split
    · show pzA s + 1 ≤ skp ch (ptE ch (pzA s) + 1) ∧ skp ch (ptE ch (pzA s) + 1) ≤ pzA s + 200
      have h1 := skp_b ch (ptE ch (pzA s) + 1)
      have h2 := skp_ge ch (ptE ch (pzA s) + 1)
      omega
    · show pzA s + 1 ≤ itW ch (ptE ch (pzA s)) ∧ itW ch (ptE ch (pzA s)) ≤ pzA s + 200
      have h1 := itW_b ch (ptE ch (pzA s))
      omega
theorem sgP_c {ch : Nat → Int32} {s : Ps} (h : ch (pzA s) = nI 41) : sgP ch s = clP ch s := by rw [sgP, if_pos h]
theorem sgP_p {ch : Nat → Int32} {s : Ps} (h : ¬ ch (pzA s) = nI 41) : sgP ch s = paP ch s := by rw [sgP, if_neg h]
theorem sgF_p {ch : Nat → Int32} {s : Ps} (h : ¬ ch (pzA s) = nI 41) : sgF ch s = paF ch s := by rw [sgF, if_neg h]
theorem sgF_c {ch : Nat → Int32} {s : Ps} (h : ch (pzA s) = nI 41) (hd : ¬ pzD s = 0) : sgF ch s = (-1) := by rw [sgF, if_pos h, if_neg hd]
theorem sgF_0 {ch : Nat → Int32} {s : Ps} (h : ch (pzA s) = nI 41) (hd : pzD s = 0) : sgF ch s = nI (pzA s) := by rw [sgF, if_pos h, if_pos hd]
/-- the model asks for an opening behind the kinds, and for a closing only where something is open -/
theorem paF_0 {ch : Nat → Int32} {s : Ps} (h : ch (pzA s) = nI 41) : paF ch s = nI (pzA s) := by
  have hd : dgB (ch (pzA s)) = false := by rw [h]; decide
  unfold paF ptG ptE
  rw [hd]
  simp only [Bool.false_eq_true, if_false, if_true]
  rw [h, if_neg (by decide), itF, h, if_pos (by decide)]
/-- the class's cells: tooMany, the items so far, the openings -/
def cQ (s : Ps) (tm : Int32) (en : Nat) (kk ll : Nat → Int32) (dp : Nat) (fi ti : Nat → Int32) : Prop :=
  pzO s ∧ dp = pzD s ∧ en ≤ 80 ∧ (∀ j, j < dp → ti j = nI (pzT s j) ∧ ∃ b, fi j = nI b ∧ b ≤ en ∧ (tm = nI 0 → b = pzB s j)) ∧ ((tm = nI 0 ∧ pzN s = en ∧ ∀ j, j < en → kk j = pzK s j ∧ ll j = pzL s j) ∨ (tm = nI 1 ∧ pzN s = 81))
/-- what the class's repeat leaves -/
def rpC (f0 en t : Nat) (tm : Int32) (kk ll : Nat → Int32) (tm9 : Int32) (en9 : Nat) (gk gl : Nat → Int32) : Prop :=
  (f0 + (en - f0) * t ≤ 80 ∧ tm9 = tm ∧ en9 = f0 + (en - f0) * t ∧ rpI f0 (en - f0) en9 kk gk ∧ rpI f0 (en - f0) en9 ll gl) ∨ (80 < f0 + (en - f0) * t ∧ tm9 = nI 1 ∧ en9 = en ∧ gk = kk ∧ gl = ll)
/-- what the class's readItem leaves of the items -/
def itC (en t : Nat) (tm : Int32) (kk ll : Nat → Int32) (kd ln : Int32) (tm9 : Int32) (en9 : Nat) (gk gl : Nat → Int32) : Prop :=
  (en < 80 ∧ rpC en (en + 1) t tm (upd kk en kd) (upd ll en ln) tm9 en9 gk gl) ∨ (en = 80 ∧ rpC 80 80 t (nI 1) kk ll tm9 en9 gk gl)
theorem nI_10 : ¬ nI 1 = nI 0 := by decide
theorem rpC_b {f0 en t : Nat} {tm tm9 : Int32} {kk ll gk gl : Nat → Int32} {en9 : Nat} (h : rpC f0 en t tm kk ll tm9 en9 gk gl) (h0 : f0 ≤ en) (h1 : en ≤ 80) (ht : 1 ≤ t) : en9 ≤ 80 ∧ en ≤ en9 ∧ (tm9 = tm ∨ tm9 = nI 1) ∧ (tm9 = nI 0 → tm = nI 0) := by
  have := Nat.le_mul_of_pos_right (en - f0) ht
  rcases h with ⟨a1, a2, a3, -, -⟩ | ⟨a1, a2, a3, -, -⟩
  · exact ⟨by omega, by omega, Or.inl a2, fun q => a2.symm.trans q⟩
  · exact ⟨by omega, by omega, Or.inr a2, fun q => absurd (a2.symm.trans q) nI_10⟩
theorem itC_b {en t : Nat} {tm kd ln tm9 : Int32} {kk ll gk gl : Nat → Int32} {en9 : Nat} (h : itC en t tm kk ll kd ln tm9 en9 gk gl) (ht : 1 ≤ t) : en9 ≤ 80 ∧ en ≤ en9 ∧ (tm9 = tm ∨ tm9 = nI 1) ∧ (tm9 = nI 0 → tm = nI 0) := by
  rcases h with ⟨h0, h⟩ | ⟨h0, h⟩
  · have := rpC_b h (by omega) (by omega) ht
    exact ⟨this.1, by omega, this.2.2⟩
  · have := rpC_b h (by omega) (by omega) ht
    exact ⟨this.1, by omega, Or.inr (this.2.2.1.elim id id), fun q => absurd (this.2.2.2 q) nI_10⟩
theorem cQ_it {ch : Nat → Int32} {s : Ps} {e t : Nat} {tm : Int32} {en : Nat} {kk ll : Nat → Int32} {dp : Nat} {fi ti : Nat → Int32} (h : cQ s tm en kk ll dp fi ti) (ht : 1 ≤ t ∧ t ≤ 99) (he : e < 2 ^ 20) (hf : itF ch e = (-1)) {tm9 : Int32} {en9 : Nat} {gk gl : Nat → Int32} (hc : itC en t tm kk ll (kdS (ch e)) (nI (nmV ch (skp ch (e + 1)))) tm9 en9 gk gl) : cQ (itP ch s e t) tm9 en9 gk gl dp fi ti := by
  obtain ⟨hO, h1, h2, h3, h4⟩ := h
  obtain ⟨b1, b2, b3, b4⟩ := itC_b hc ht.1
  refine ⟨pzO_it hO ht he hf, h1, b1, fun j hj => ?_, ?_⟩
  · obtain ⟨k1, b, k2, k3, k4⟩ := h3 j hj
    exact ⟨k1, b, k2, Nat.le_trans k3 b2, fun q => k4 (b4 q)⟩
  · have eN : pzN (itP ch s e t) = apN (pzN s) t := rfl
    rw [eN]
    rcases h4 with ⟨t0, n0, w0⟩ | ⟨t1, n1⟩
    · rw [n0]
      rcases hc with ⟨c0, ⟨a1, a2, a3, a4, a5⟩ | ⟨a1, a2, a3, a4, a5⟩⟩ | ⟨c0, hc⟩
      · have e1 : en + 1 - en = 1 := by omega
        rw [e1] at a1 a3 a4 a5
        have e2 : apN en t = en9 := by
          rw [apN, if_pos (by omega), rpN, if_pos (by omega), a3]
        rw [e2]
        refine Or.inl ⟨a2.trans t0, rfl, fun j hj => ?_⟩
        show gk j = apF (pzN s) (kdS (ch e)) (pzK s) j ∧ gl j = apF (pzN s) (nI (nmV ch (skp ch (e + 1)))) (pzL s) j
        rw [n0]
        exact ⟨rp_a a4 (fun j hj => (w0 j hj).1) j hj, rp_a a5 (fun j hj => (w0 j hj).2) j hj⟩
      · have e1 : en + 1 - en = 1 := by omega
        rw [e1] at a1
        refine Or.inr ⟨a2, ?_⟩
        rw [apN, if_pos (by omega), rpN, if_neg (by omega)]
      · refine Or.inr ⟨?_, ?_⟩
        · rcases hc with ⟨-, a2, -⟩ | ⟨-, a2, -⟩ <;> exact a2
        · rw [apN, if_pos (by omega), rpN, if_neg (by omega)]
    · rw [n1]
      refine Or.inr ⟨?_, by rw [apN, if_neg (by omega)]⟩
      rcases b3 with q | q
      · exact q.trans t1
      · exact q
theorem cQ_op {ch : Nat → Int32} {s : Ps} {e t : Nat} {tm : Int32} {en : Nat} {kk ll : Nat → Int32} {dp : Nat} {fi ti : Nat → Int32} (h : cQ s tm en kk ll dp fi ti) (ht : 1 ≤ t ∧ t ≤ 99) (hd : dp < 3) : cQ (opP ch s e t) tm en kk ll (dp + 1) (upd fi dp (nI en)) (upd ti dp (nI t)) := by
  obtain ⟨hO, h1, h2, h3, h4⟩ := h
  refine ⟨pzO_op hO ht (by omega), by rw [h1]; rfl, h2, fun j hj => ?_, h4⟩
  show upd ti dp (nI t) j = nI (upn (pzT s) (pzD s) t j) ∧ ∃ b, upd fi dp (nI en) j = nI b ∧ b ≤ en ∧ (tm = nI 0 → b = upn (pzB s) (pzD s) (pzN s) j)
  rw [← h1]
  by_cases q : j = dp
  · rw [q, pk_us, pk_us, upn_s, upn_s]
    refine ⟨rfl, en, rfl, Nat.le_refl _, fun z => ?_⟩
    rcases h4 with ⟨-, n0, -⟩ | ⟨t1, -⟩
    · exact n0.symm
    · exact absurd (t1.symm.trans z) nI_10
  · rw [pk_un q, pk_un q, upn_n q, upn_n q]
    exact h3 j (by omega)
theorem cQ_cl {ch : Nat → Int32} {s : Ps} {tm : Int32} {en : Nat} {kk ll : Nat → Int32} {d1 : Nat} {fi ti : Nat → Int32} (h : cQ s tm en kk ll (d1 + 1) fi ti) {b t : Nat} (hb : fi d1 = nI b) (hb2 : b ≤ en) (htt : ti d1 = nI t) (ht : 1 ≤ t ∧ t ≤ 99) {tm9 : Int32} {en9 : Nat} {gk gl : Nat → Int32} (hc : rpC b en t tm kk ll tm9 en9 gk gl) : cQ (clP ch s) tm9 en9 gk gl d1 fi ti := by
  obtain ⟨hO, h1, h2, h3, h4⟩ := h
  obtain ⟨b1, b2, b3, b4⟩ := rpC_b hc hb2 h2 ht.1
  obtain ⟨k1, b0, k2, k3, k4⟩ := h3 d1 (by omega)
  have e0 : pzD s - 1 = d1 := by omega
  have eb : b0 = b := (nI_eq (by omega) (by omega)).mp (k2.symm.trans hb)
  subst eb
  have hT := (hO.2.2.1 d1 (by omega)).2
  have et : pzT s d1 = t := (nI_eq (by omega) (by omega)).mp (k1.symm.trans htt)
  refine ⟨pzO_cl hO (by omega), e0.symm, b1, fun j hj => ?_, ?_⟩
  · obtain ⟨m1, b9, m2, m3, m4⟩ := h3 j (by omega)
    exact ⟨m1, b9, m2, Nat.le_trans m3 b2, fun q => m4 (b4 q)⟩
  · have eN : pzN (clP ch s) = clN (pzB s d1) (pzT s d1) (pzN s) := by rw [← e0]; rfl
    rw [eN, et]
    rcases h4 with ⟨t0, n0, w0⟩ | ⟨t1, n1⟩
    · have eB := k4 t0
      rw [n0, ← eB]
      rcases hc with ⟨a1, a2, a3, a4, a5⟩ | ⟨a1, a2, a3, a4, a5⟩
      · have e2 : clN b0 t en = en9 := by
          unfold clN
          by_cases q : b0 < en
          · rw [if_pos q, rpN, if_pos (by omega), a3]
          · rw [if_neg q, a3, show en - b0 = 0 by omega, Nat.zero_mul]
            omega
        rw [e2]
        refine Or.inl ⟨a2.trans t0, rfl, fun j hj => ?_⟩
        show gk j = clF (pzB s (pzD s - 1)) (pzN s) (pzK s) j ∧ gl j = clF (pzB s (pzD s - 1)) (pzN s) (pzL s) j
        rw [e0, ← eB, n0, clF, clF]
        by_cases q : b0 < en
        · rw [if_pos q, if_pos q]
          exact ⟨rp_f (by omega) a4 (fun j hj => (w0 j (by omega)).1) j hj, rp_f (by omega) a5 (fun j hj => (w0 j (by omega)).2) j hj⟩
        · rw [if_neg q, if_neg q]
          have hj2 : j < en := by
            rw [a3, show en - b0 = 0 by omega, Nat.zero_mul] at hj
            omega
          rw [a4.1 j (by omega), a5.1 j (by omega)]
          exact w0 j hj2
      · refine Or.inr ⟨a2, ?_⟩
        unfold clN
        by_cases q : b0 < en
        · rw [if_pos q, rpN, if_neg (by omega)]
        · rw [show en - b0 = 0 by omega, Nat.zero_mul] at a1
          omega
    · rw [n1]
      refine Or.inr ⟨?_, ?_⟩
      · rcases b3 with q | q
        · exact q.trans t1
        · exact q
      · have h81 := (hO.2.2.1 d1 (by omega)).1
        have hb := clN_b (b := pzB s d1) (t := t) (n := 81) (Nat.le_refl _) ht.1
        omega
/-- the class's loop -/
def rdI (ch : Nat → Int32) (tq : Nat) (R0 : Int32 × Ps) (m : Nat) (s : Ps) (tm ft : Int32) (en : Nat) (kk ll : Nat → Int32) (dp : Nat) (fi ti : Nat → Int32) (a : Nat) : Prop :=
  (ft = (-1) ∧ cQ s tm en kk ll dp fi ti ∧ a = pzA s ∧ prs ch tq m s = R0 ∧ tq ≤ a + m) ∨ (¬ ft = (-1) ∧ ft = R0.1)
theorem rdI_l {ch : Nat → Int32} {tq : Nat} {R0 : Int32 × Ps} {m : Nat} {s : Ps} {tm ft : Int32} {en : Nat} {kk ll : Nat → Int32} {dp : Nat} {fi ti : Nat → Int32} {a : Nat} (h : rdI ch tq R0 m s tm ft en kk ll dp fi ti a) (hf : ft = (-1)) : cQ s tm en kk ll dp fi ti ∧ a = pzA s ∧ prs ch tq m s = R0 ∧ tq ≤ a + m := by
  rcases h with ⟨-, h⟩ | ⟨h, -⟩
  · exact h
  · exact absurd hf h
theorem rdI_s {ch : Nat → Int32} {tq : Nat} {R0 : Int32 × Ps} {m : Nat} {s : Ps} {a : Nat} (hA : a = pzA s) (hR : prs ch tq (m + 1) s = R0) (hm : tq ≤ a + (m + 1)) (ha : a < tq) {tm ft : Int32} {en : Nat} {kk ll : Nat → Int32} {dp : Nat} {fi ti : Nat → Int32} {a9 : Nat} (h1 : ft = sgF ch s) (h2 : sgF ch s = (-1) → cQ (sgP ch s) tm en kk ll dp fi ti ∧ skp ch a9 = pzA (sgP ch s)) : rdI ch tq R0 m (sgP ch s) tm ft en kk ll dp fi ti (skp ch a9) := by
  subst hA
  by_cases q : sgF ch s = (-1)
  · obtain ⟨h3, h4⟩ := h2 q
    have := sgP_a ch s
    exact Or.inl ⟨h1.trans q, h3, h4, (prs_s ha q).symm.trans hR, by omega⟩
  · refine Or.inr ⟨fun z => q (h1.symm.trans z), ?_⟩
    rw [← hR, prs_f ha q]
    exact h1
/-- behind the loop -/
theorem rdI_e {ch : Nat → Int32} {tq : Nat} {R0 : Int32 × Ps} {m : Nat} {s : Ps} {tm ft : Int32} {en : Nat} {kk ll : Nat → Int32} {dp : Nat} {fi ti : Nat → Int32} {a : Nat} (h : rdI ch tq R0 m s tm ft en kk ll dp fi ti a) (hf : ft = (-1)) (he : m = 0 ∨ ¬ a < tq) : cQ R0.2 tm en kk ll dp fi ti ∧ R0.1 = edF tq s ∧ dp = pzD s := by
  obtain ⟨h1, h2, h3, h4⟩ := rdI_l h hf
  have : ¬ pzA s < tq := by omega
  rw [prs_e this] at h3
  rw [← h3]
  exact ⟨h1, rfl, h1.2.1⟩
theorem rdI_f {ch : Nat → Int32} {tq : Nat} {R0 : Int32 × Ps} {m : Nat} {s : Ps} {tm ft : Int32} {en : Nat} {kk ll : Nat → Int32} {dp : Nat} {fi ti : Nat → Int32} {a : Nat} (h : rdI ch tq R0 m s tm ft en kk ll dp fi ti a) (hf : ¬ ft = (-1)) : ft = R0.1 := by
  rcases h with ⟨h, -⟩ | ⟨-, h⟩
  · exact absurd h hf
  · exact h
/-- the model's cells -/
def mQ (s : Ps) (n : Nat) (kk ll : Nat → Int32) (dp : Nat) (tt bb : Nat → Int32) : Prop :=
  pzO s ∧ n = pzN s ∧ dp = pzD s ∧ (∀ j, j < n → kk j = pzK s j ∧ ll j = pzL s j) ∧ ∀ j, j < dp → tt j = nI (pzT s j) ∧ bb j = nI (pzB s j)
theorem mQ_it {ch : Nat → Int32} {s : Ps} {e t n : Nat} {kk ll : Nat → Int32} {dp : Nat} {tt bb : Nat → Int32} (h : mQ s n kk ll dp tt bb) (ht : 1 ≤ t ∧ t ≤ 99) (he : e < 2 ^ 20) (hf : itF ch e = (-1)) {n9 : Nat} {gk gl : Nat → Int32} (h1 : n9 = apN n t) (h2 : ∀ j, j < n9 → gk j = apF n (kdS (ch e)) kk j) (h3 : ∀ j, j < n9 → gl j = apF n (nI (nmV ch (skp ch (e + 1)))) ll j) : mQ (itP ch s e t) n9 gk gl dp tt bb := by
  obtain ⟨hO, k1, k2, k3, k4⟩ := h
  refine ⟨pzO_it hO ht he hf, by rw [h1, k1]; rfl, k2, fun j hj => ?_, k4⟩
  show gk j = apF (pzN s) (kdS (ch e)) (pzK s) j ∧ gl j = apF (pzN s) (nI (nmV ch (skp ch (e + 1)))) (pzL s) j
  rw [h2 j hj, h3 j hj, ← k1]
  unfold apF
  by_cases q : j < n
  · rw [if_pos q, if_pos q, if_pos q, if_pos q]
    exact k3 j q
  · rw [if_neg q, if_neg q, if_neg q, if_neg q]
    exact ⟨rfl, rfl⟩
theorem mQ_op {ch : Nat → Int32} {s : Ps} {e t n : Nat} {kk ll : Nat → Int32} {dp : Nat} {tt bb : Nat → Int32} (h : mQ s n kk ll dp tt bb) (ht : 1 ≤ t ∧ t ≤ 99) (hd : dp < 3) : mQ (opP ch s e t) n kk ll (dp + 1) (upd tt dp (nI t)) (upd bb dp (nI n)) := by
  obtain ⟨hO, k1, k2, k3, k4⟩ := h
  refine ⟨pzO_op hO ht (by omega), k1, by rw [k2]; rfl, k3, fun j hj => ?_⟩
  show upd tt dp (nI t) j = nI (upn (pzT s) (pzD s) t j) ∧ upd bb dp (nI n) j = nI (upn (pzB s) (pzD s) (pzN s) j)
  rw [← k2, ← k1]
  by_cases q : j = dp
  · rw [q, pk_us, pk_us, upn_s, upn_s]
    exact ⟨rfl, rfl⟩
  · rw [pk_un q, pk_un q, upn_n q, upn_n q]
    exact k4 j (by omega)
theorem mQ_cl {ch : Nat → Int32} {s : Ps} {n : Nat} {kk ll : Nat → Int32} {dp : Nat} {tt bb : Nat → Int32} (h : mQ s n kk ll dp tt bb) (hd : ¬ dp = 0) {n9 : Nat} {gk gl : Nat → Int32} (hc : (pzB s (dp - 1) < n ∧ n9 = rpN (pzB s (dp - 1)) (n - pzB s (dp - 1)) (pzT s (dp - 1)) ∧ rpI (pzB s (dp - 1)) (n - pzB s (dp - 1)) n9 kk gk ∧ rpI (pzB s (dp - 1)) (n - pzB s (dp - 1)) n9 ll gl) ∨ (¬ pzB s (dp - 1) < n ∧ n9 = n ∧ gk = kk ∧ gl = ll)) : mQ (clP ch s) n9 gk gl (dp - 1) tt bb := by
  obtain ⟨hO, k1, k2, k3, k4⟩ := h
  have e0 : clP ch s = (skp ch (pzA s + 1), clN (pzB s (dp - 1)) (pzT s (dp - 1)) n, dp - 1, clF (pzB s (dp - 1)) n (pzK s), clF (pzB s (dp - 1)) n (pzL s), pzT s, pzB s) := by
    rw [k1, k2]; rfl
  have hO2 := pzO_cl (ch := ch) hO (by omega)
  rw [e0] at hO2 ⊢
  rcases hc with ⟨c1, c2, c3, c4⟩ | ⟨c1, c2, c3, c4⟩
  · refine ⟨hO2, ?_, rfl, fun j hj => ?_, fun j hj => k4 j (by omega)⟩
    · show n9 = clN (pzB s (dp - 1)) (pzT s (dp - 1)) n
      rw [clN, if_pos c1]
      exact c2
    · show gk j = clF (pzB s (dp - 1)) n (pzK s) j ∧ gl j = clF (pzB s (dp - 1)) n (pzL s) j
      rw [clF, clF, if_pos c1, if_pos c1]
      exact ⟨rp_f (by omega) c3 (fun j hj => (k3 j (by omega)).1) j hj, rp_f (by omega) c4 (fun j hj => (k3 j (by omega)).2) j hj⟩
  · subst c2 c3 c4
    refine ⟨hO2, ?_, rfl, fun j hj => ?_, fun j hj => k4 j (by omega)⟩
    · show n9 = clN (pzB s (dp - 1)) (pzT s (dp - 1)) n9
      rw [clN, if_neg c1]
    · show gk j = clF (pzB s (dp - 1)) n9 (pzK s) j ∧ gl j = clF (pzB s (dp - 1)) n9 (pzL s) j
      rw [clF, clF, if_neg c1, if_neg c1]
      exact k3 j hj
/-- the model's loop -/
def mdI (ch : Nat → Int32) (tq : Nat) (R0 : Int32 × Ps) (m : Nat) (s : Ps) (fa : Int32) (n : Nat) (kk ll : Nat → Int32) (dp : Nat) (tt bb : Nat → Int32) (a : Nat) : Prop :=
  (fa = (-1) ∧ mQ s n kk ll dp tt bb ∧ a = pzA s ∧ prs ch tq m s = R0 ∧ tq ≤ a + m) ∨ (¬ fa = (-1) ∧ fa = R0.1)
theorem mdI_l {ch : Nat → Int32} {tq : Nat} {R0 : Int32 × Ps} {m : Nat} {s : Ps} {fa : Int32} {n : Nat} {kk ll : Nat → Int32} {dp : Nat} {tt bb : Nat → Int32} {a : Nat} (h : mdI ch tq R0 m s fa n kk ll dp tt bb a) (hf : fa = (-1)) : mQ s n kk ll dp tt bb ∧ a = pzA s ∧ prs ch tq m s = R0 ∧ tq ≤ a + m := by
  rcases h with ⟨-, h⟩ | ⟨h, -⟩
  · exact h
  · exact absurd hf h
theorem mdI_s {ch : Nat → Int32} {tq : Nat} {R0 : Int32 × Ps} {m : Nat} {s : Ps} {a : Nat} (hA : a = pzA s) (hR : prs ch tq m s = R0) (hm : tq ≤ a + m) (ha : a < tq) {fa : Int32} {n : Nat} {kk ll : Nat → Int32} {dp : Nat} {tt bb : Nat → Int32} {a9 : Nat} (h1 : fa = sgF ch s) (h2 : sgF ch s = (-1) → mQ (sgP ch s) n kk ll dp tt bb ∧ a9 = pzA (sgP ch s)) : mdI ch tq R0 (m - 1) (sgP ch s) fa n kk ll dp tt bb a9 := by
  subst hA
  obtain ⟨k, rfl⟩ : ∃ k, m = k + 1 := ⟨m - 1, by omega⟩
  rw [Nat.add_sub_cancel]
  by_cases q : sgF ch s = (-1)
  · obtain ⟨h3, h4⟩ := h2 q
    have := sgP_a ch s
    exact Or.inl ⟨h1.trans q, h3, h4, (prs_s ha q).symm.trans hR, by omega⟩
  · refine Or.inr ⟨fun z => q (h1.symm.trans z), ?_⟩
    rw [← hR, prs_f ha q]
    exact h1
theorem mdI_e {ch : Nat → Int32} {tq : Nat} {R0 : Int32 × Ps} {m : Nat} {s : Ps} {fa : Int32} {n : Nat} {kk ll : Nat → Int32} {dp : Nat} {tt bb : Nat → Int32} {a : Nat} (h : mdI ch tq R0 m s fa n kk ll dp tt bb a) (hf : fa = (-1)) (he : ¬ a < tq) : mQ R0.2 n kk ll dp tt bb ∧ R0.1 = edF tq s ∧ dp = pzD s := by
  obtain ⟨h1, h2, h3, h4⟩ := mdI_l h hf
  have : ¬ pzA s < tq := by omega
  rw [prs_e this] at h3
  rw [← h3]
  exact ⟨h1, rfl, h1.2.2.1⟩
theorem mdI_f {ch : Nat → Int32} {tq : Nat} {R0 : Int32 × Ps} {m : Nat} {s : Ps} {fa : Int32} {n : Nat} {kk ll : Nat → Int32} {dp : Nat} {tt bb : Nat → Int32} {a : Nat} (h : mdI ch tq R0 m s fa n kk ll dp tt bb a) (hf : ¬ fa = (-1)) : fa = R0.1 := by
  rcases h with ⟨h, -⟩ | ⟨-, h⟩
  · exact absurd h hf
  · exact h
/-- what load answers and leaves, by what was read -/
def rdR (tq : Nat) (tx : Nat → Int32) : Int32 × Ps := prs (chA tq tx) tq 80 (ps0 (chA tq tx))
def loA (z : Sg) (tq : Nat) (tx : Nat → Int32) : Int32 × Sg :=
  if (rdR tq tx).1 = (-1) then (if 80 < gN z + pzN (rdR tq tx).2 then ((-4), z) else (nI (gN z + pzN (rdR tq tx).2), ldS z (gN z + pzN (rdR tq tx).2) (appF (gN z) (gK z) (pzK (rdR tq tx).2)) (appF (gN z) (gL z) (pzL (rdR tq tx).2)))) else ((-2000) - (rdR tq tx).1, z)
theorem lo_OK {z : Sg} (h : OKs z) {s : Ps} (hs : pzO s) (hn : gN z + pzN s ≤ 80) : OKs (ldS z (gN z + pzN s) (appF (gN z) (gK z) (pzK s)) (appF (gN z) (gL z) (pzL s))) := by
  refine ldS_OK h hn (fun i hi => ?_)
  by_cases q : i < gN z
  · rw [appF_lo q]
    exact h.2.1 i q
  · rw [show i = gN z + (i - gN z) by omega, appF_hi]
    exact hs.2.2.2 _ (by omega)
