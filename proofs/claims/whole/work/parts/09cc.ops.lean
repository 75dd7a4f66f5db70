/-! what the applicator's calls answer, over the state -/
def inB (v a b : Int32) : Bool := decide (a ≤ v ∧ v ≤ b)
theorem inB_t {v a b : Int32} (h : inR v a b) : inB v a b = true := decide_eq_true h
theorem inB_f {v a b : Int32} (h : ¬ inR v a b) : inB v a b = false := decide_eq_false h
def runA (z : Sg) (n v : Int32) : Int32 × Sg := if inB n (nI 1) (nI 100) && inB v (nI 0) (nI 1000) then (if gC z 8 = nI 1 then ((-3), z) else (nI (rnS v (nv n) z).1, (rnS v (nv n) z).2)) else ((-2), z)
def foA (z : Sg) (n v w : Int32) : Int32 := if inB n (nI 1) (nI 100) && (inB v (nI 0) (nI 1000) && inB w (nI 0) (nI 3)) then foS z (nv n) v (nv w) else (-2)
/-- products that leave the ring, station by station from the last -/
def lvS (rg : Nat → Int32) : Nat → Int32 × Int32 → Int32 × Int32
  | 0, p => p
  | k + 1, p => lvS rg k (gtA (rg k) p.1, gtB (rg k) p.2)
def rngS (z : Sg) (n : Nat) : Sg := (gN z, gK z, gL z, gS z, gV z, n, fun _ => (-1), upd (upd (gC z) 1 (lvS (gR z) (gT z) (gC z 1, gC z 2)).1) 2 (lvS (gR z) (gT z) (gC z 1, gC z 2)).2, gB z, gA z, gP z)
def srA (z : Sg) (n : Int32) : Int32 × Sg := if inB n (nI 1) (nI 10) then (nI (cntR (gR z) (gT z)), rngS z (nv n)) else ((-2), z)
def setA (z : Sg) (w x : Int32) : Int32 × Sg := if inB w (nI 0) (nI 7) && inB x (nI (st_lo (nv w))) (nI (st_hi (nv w))) then (gS z (nv w), setS z (nv w) x) else ((-2), z)
def clS (z : Sg) : Sg := (gN z, gK z, gL z, gS z, gV z, gT z, gR z, upd (upd (gC z) 7 (nI 0)) 8 (nI 0), gB z, gA z, gP z)
def latA (z : Sg) (w : Int32) : Int32 := if inB w (nI 0) (nI 5) then gA z (nv w) else (-2)
def stnA (z : Sg) (w : Int32) : Int32 := if inB w (nI 0) (nI (gT z - 1)) then gR z (nv w) else (-2)
def nuS (z : Sg) (tl : Nat) (w : Nat) : Int32 :=
  if w < 24 then (if w < 15 then (match w with
    | 0 => nI (gN z)
    | 1 => nI (cnt0 (gK z) 0 (gN z))
    | 2 => sumF (gL z) 0 (gN z)
    | 3 => gV z
    | 4 => nI (gT z)
    | 5 => nI (cntR (gR z) (gT z))
    | 6 => gC z 0
    | 7 => gC z 1
    | 8 => gC z 2
    | 9 => gC z 3
    | 10 => gC z 4
    | 11 => gC z 5
    | 12 => gC z 6
    | 13 => gC z 7
    | _ => gC z 8) else if w = 23 then nI tl else gS z (w - 15)) else gB z (w - 24)
def coA (z : Sg) (tl : Nat) (w : Int32) : Int32 := if inB w (nI 0) (nI 31) then nuS z tl (nv w) else (-2)
def itS (z : Sg) (i w : Nat) : Int32 := match w with
  | 0 => gK z i
  | 1 => gL z i
  | _ => sumF (gL z) 0 i
def itA (z : Sg) (i w : Int32) : Int32 := if i < 0 then (-2) else if inB w (nI 0) (nI 2) then (if nI (gN z) ≤ i then (-1) else itS z (nv i) (nv w)) else (-2)
def beA (z : Sg) (w n v : Int32) : Int32 := if w = nI 0 ∨ w = nI 1 ∨ w = nI 5 then (if inB n (nI 1) (nI 100) && inB v (nI 0) (nI 1000) then nI (beS z (nv w) (nv n) v (st_lo (nv w)) (st_hi (nv w) - st_lo (nv w) + 1)).1 else (-2)) else (-2)
/-! rows of the model's relation -/
theorem rM_N {z : Sg} {ar : Nat → Int32} {pt : UInt32} (h : rM z ar pt) : ar 0 = nI (gN z) := h.2.1
theorem rM_W {z : Sg} {ar : Nat → Int32} {pt : UInt32} (h : rM z ar pt) : ∀ i, i < gN z → ar (1 + i) = gK z i ∧ ar (81 + i) = gL z i := h.2.2.1
theorem rM_S {z : Sg} {ar : Nat → Int32} {pt : UInt32} (h : rM z ar pt) : ∀ j, j < 8 → ar (161 + j) = gS z j := h.2.2.2.1
theorem rM_V {z : Sg} {ar : Nat → Int32} {pt : UInt32} (h : rM z ar pt) : ar 169 = gV z := h.2.2.2.2.1
theorem rM_T {z : Sg} {ar : Nat → Int32} {pt : UInt32} (h : rM z ar pt) : ar 170 = nI (gT z) := h.2.2.2.2.2.1
theorem rM_R {z : Sg} {ar : Nat → Int32} {pt : UInt32} (h : rM z ar pt) : ∀ j, j < 10 → ar (171 + j) = gR z j := h.2.2.2.2.2.2.1
theorem rM_C {z : Sg} {ar : Nat → Int32} {pt : UInt32} (h : rM z ar pt) : ∀ j, j < 9 → ar (181 + j) = gC z j := h.2.2.2.2.2.2.2.1
theorem rM_B {z : Sg} {ar : Nat → Int32} {pt : UInt32} (h : rM z ar pt) : ∀ j, j < 8 → ar (190 + j) = gB z j := h.2.2.2.2.2.2.2.2.1
theorem rM_A {z : Sg} {ar : Nat → Int32} {pt : UInt32} (h : rM z ar pt) : ∀ j, j < 6 → ar (198 + j) = gA z j := h.2.2.2.2.2.2.2.2.2.1
theorem rM_P {z : Sg} {ar : Nat → Int32} {pt : UInt32} (h : rM z ar pt) : pt = gP z := h.2.2.2.2.2.2.2.2.2.2
theorem rM_cg {z : Sg} {ar br : Nat → Int32} {pt : UInt32} (h : rM z ar pt) (hc : ∀ j, j < 204 → br j = ar j) : rM z br pt := by
  obtain ⟨hO, h0, hw, hs, hv, hT, hr, hc', hb, hl, hp⟩ := h
  have hn := hO.1
  refine ⟨hO, (hc 0 (by decide)).trans h0, fun i hi => ?_, fun j hj => ?_, (hc 169 (by decide)).trans hv, (hc 170 (by decide)).trans hT, fun j hj => ?_, fun j hj => ?_, fun j hj => ?_, fun j hj => ?_, hp⟩
  · rw [hc _ (by omega), hc _ (by omega)]; exact hw i hi
  · rw [hc _ (by omega)]; exact hs j hj
  · rw [hc _ (by omega)]; exact hr j hj
  · rw [hc _ (by omega)]; exact hc' j hj
  · rw [hc _ (by omega)]; exact hb j hj
  · rw [hc _ (by omega)]; exact hl j hj
theorem rn_y {z : Sg} {v : Int32} {m : Nat} (h : gC z 8 = nI 0) : rnS v (m + 1) z = ((rnS v m (cyc z v)).1 + 1, (rnS v m (cyc z v)).2) := by rw [rnS, if_pos h]
theorem rn_n {z : Sg} {v : Int32} {m : Nat} (h : ¬ gC z 8 = nI 0) : rnS v m z = (0, z) := by
  cases m with
  | zero => rfl
  | succ m => rw [rnS, if_neg h]
/-- the run goes on, or ends -/
def rnI (z : Sg) (v : Int32) (n i : Nat) (zi : Sg) : Prop := (rnS v (n - i) zi).1 + i = (rnS v n z).1 ∧ (rnS v (n - i) zi).2 = (rnS v n z).2
theorem rnI_0 (z : Sg) (v : Int32) (n : Nat) : rnI z v n 0 z := ⟨rfl, rfl⟩
theorem rnI_s {z zi : Sg} {v : Int32} {n i : Nat} (h : rnI z v n i zi) (hi : i < n) (g : gC zi 8 = nI 0) : rnI z v n (i + 1) (cyc zi v) := by
  obtain ⟨h1, h2⟩ := h
  rw [show n - i = (n - (i + 1)) + 1 by omega, rn_y g] at h1 h2
  exact ⟨by rw [← h1]; simp only; omega, h2⟩
theorem rnI_e {z zi : Sg} {v : Int32} {n i : Nat} (h : rnI z v n i zi) (hi : ¬ i < n ∨ ¬ gC zi 8 = nI 0) : i = (rnS v n z).1 ∧ zi = (rnS v n z).2 := by
  obtain ⟨h1, h2⟩ := h
  have e : rnS v (n - i) zi = (0, zi) := by
    rcases hi with h | h
    · rw [show n - i = 0 by omega]; rfl
    · exact rn_n h
  rw [e] at h1 h2
  exact ⟨by omega, h2⟩
def dcr : Nat → Int32
  | 0 => (-1)
  | k + 1 => nI k
theorem dcr_s (k : Nat) : nI k + Int32.ofInt (-1) = dcr k := by
  cases k with
  | zero => rfl
  | succ k => exact ee_dec (Nat.succ_pos k)
theorem dcr_1 {k : Nat} (h : 1 ≤ k) : dcr k = nI (k - 1) := by
  cases k with
  | zero => omega
  | succ k => rfl
theorem lvS_s (rg : Nat → Int32) (k : Nat) (p : Int32 × Int32) : lvS rg (k + 1) p = lvS rg k (gtA (rg k) p.1, gtB (rg k) p.2) := rfl
theorem rngS_OK {z : Sg} (h : OKs z) {n : Nat} (h1 : 1 ≤ n) (h2 : n ≤ 10) : OKs (rngS z n) := by
  obtain ⟨a1, a2, a3, a4, a5, a6, a7, a8, a9⟩ := h
  refine ⟨a1, a2, a3, a4, ⟨h1, h2⟩, fun j _ => Or.inl rfl, fun j _ _ => rfl, ?_, a9⟩
  have e : gC (rngS z n) 8 = gC z 8 := (pk_un (f := upd (gC z) 1 (lvS (gR z) (gT z) (gC z 1, gC z 2)).1) (k := 2) (x := (lvS (gR z) (gT z) (gC z 1, gC z 2)).2) (j := 8) (by decide)).trans (pk_un (k := 1) (by decide))
  rw [e]
  exact a8
theorem clS_OK {z : Sg} (h : OKs z) : OKs (clS z) := by
  obtain ⟨a1, a2, a3, a4, a5, a6, a7, a8, a9⟩ := h
  refine ⟨a1, a2, a3, a4, a5, a6, a7, Or.inl ?_, a9⟩
  exact pk_us (f := upd (gC z) 7 (nI 0)) (k := 8)
