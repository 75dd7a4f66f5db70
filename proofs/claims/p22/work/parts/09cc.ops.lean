/-! what the applicator's calls answer, over the state -/
def inB (v a b : Int32) : Bool := decide (a ≤ v ∧ v ≤ b)
theorem inB_t {v a b : Int32} (h : inR v a b) : inB v a b = true := decide_eq_true h
theorem inB_f {v a b : Int32} (h : ¬ inR v a b) : inB v a b = false := decide_eq_false h
def runA (z : Sg) (n v : Int32) : Int32 × Sg := if inB n (nI 1) (nI 100) && inB v (nI 0) (nI 1000) then (if gC z 8 = nI 1 then ((-3), z) else (nI (rnS v (nv n) z).1, (rnS v (nv n) z).2)) else ((-2), z)
def foA (z : Sg) (n v w : Int32) : Int32 := if inB n (nI 1) (nI 100) && (inB v (nI 0) (nI 1000) && inB w (nI 0) (nI 3)) then foS z (nv n) v (nv w) else (-2)
/-- products that leave the ring, station by station from the last -/
def lvS (rg : Nat → Int32) : Nat → Int32 × Int32 → Int32 × Int32
  | 0, p => p
  | k + 1, p => lvS rg k (gtA (rg k) p.1, gtB (rg k) p.2)
def rngS (z : Sg) (n : Nat) : Sg := (gN z, gK z, gL z, gS z, gV z, n, fun _ => (-1), upd (upd (gC z) 1 (lvS (gR z) (gT z) (gC z 1, gC z 2)).1) 2 (lvS (gR z) (gT z) (gC z 1, gC z 2)).2, gB z, gA z, gP z)
def srA (z : Sg) (n : Int32) : Int32 × Sg := if inB n (nI 1) (nI 10) then (nI (cntR (gR z) (gT z)), rngS z (nv n)) else ((-2), z)
def setA (z : Sg) (w x : Int32) : Int32 × Sg := if inB w (nI 0) (nI 7) && inB x (nI (st_lo (nv w))) (nI (st_hi (nv w))) then (gS z (nv w), setS z (nv w) x) else ((-2), z)
def clS (z : Sg) : Sg := (gN z, gK z, gL z, gS z, gV z, gT z, gR z, upd (upd (gC z) 7 (nI 0)) 8 (nI 0), gB z, gA z, gP z)
def latA (z : Sg) (w : Int32) : Int32 := if inB w (nI 0) (nI 5) then gA z (nv w) else (-2)
def stnA (z : Sg) (w : Int32) : Int32 := if inB w (nI 0) (nI (gT z - 1)) then gR z (nv w) else (-2)
def nuS (z : Sg) (tl : Int32) (w : Nat) : Int32 :=
  if w < 24 then (if w < 15 then (match w with
    | 0 => nI (gN z)
    | 1 => nI (cnt0 (gK z) 0 (gN z))
    | 2 => sumF (gL z) 0 (gN z)
    | 3 => gV z
    | 4 => nI (gT z)
    | 5 => nI (cntR (gR z) (gT z))
    | 6 => gC z 0
    | 7 => gC z 1
    | 8 => gC z 2
    | 9 => gC z 3
    | 10 => gC z 4
    | 11 => gC z 5
    | 12 => gC z 6
    | 13 => gC z 7
    | _ => gC z 8) else if w = 23 then tl else gS z (w - 15)) else gB z (w - 24)
def coA (z : Sg) (tl : Int32) (w : Int32) : Int32 := if inB w (nI 0) (nI 31) then nuS z tl (nv w) else (-2)
def itS (z : Sg) (i w : Nat) : Int32 := match w with
  | 0 => gK z i
  | 1 => gL z i
  | _ => sumF (gL z) 0 i
def itA (z : Sg) (i w : Int32) : Int32 := if i < 0 then (-2) else if inB w (nI 0) (nI 2) then (if nI (gN z) ≤ i then (-1) else itS z (nv i) (nv w)) else (-2)
def beA (z : Sg) (w n v : Int32) : Int32 := if w = nI 0 ∨ w = nI 1 ∨ w = nI 5 then (if inB n (nI 1) (nI 100) && inB v (nI 0) (nI 1000) then nI (beS z (nv w) (nv n) v (st_lo (nv w)) (st_hi (nv w) - st_lo (nv w) + 1)).1 else (-2)) else (-2)
/-! rows of the model's relation -/
theorem rM_N {z : Sg} {ar : Nat → Int32} {pt : UInt32} (h : rM z ar pt) : ar 0 = nI (gN z) := h.2.1
theorem rM_W {z : Sg} {ar : Nat → Int32} {pt : UInt32} (h : rM z ar pt) : ∀ i, i < gN z → ar (1 + i) = gK z i ∧ ar (81 + i) = gL z i := h.2.2.1
theorem rM_S {z : Sg} {ar : Nat → Int32} {pt : UInt32} (h : rM z ar pt) : ∀ j, j < 8 → ar (161 + j) = gS z j := h.2.2.2.1
theorem rM_V {z : Sg} {ar : Nat → Int32} {pt : UInt32} (h : rM z ar pt) : ar 169 = gV z := h.2.2.2.2.1
theorem rM_T {z : Sg} {ar : Nat → Int32} {pt : UInt32} (h : rM z ar pt) : ar 170 = nI (gT z) := h.2.2.2.2.2.1
theorem rM_R {z : Sg} {ar : Nat → Int32} {pt : UInt32} (h : rM z ar pt) : ∀ j, j < 10 → ar (171 + j) = gR z j := h.2.2.2.2.2.2.1
theorem rM_C {z : Sg} {ar : Nat → Int32} {pt : UInt32} (h : rM z ar pt) : ∀ j, j < 9 → ar (181 + j) = gC z j := h.2.2.2.2.2.2.2.1
theorem rM_B {z : Sg} {ar : Nat → Int32} {pt : UInt32} (h : rM z ar pt) : ∀ j, j < 8 → ar (190 + j) = gB z j := h.2.2.2.2.2.2.2.2.1
theorem rM_A {z : Sg} {ar : Nat → Int32} {pt : UInt32} (h : rM z ar pt) : ∀ j, j < 6 → ar (198 + j) = gA z j := h.2.2.2.2.2.2.2.2.2.1
theorem rM_P {z : Sg} {ar : Nat → Int32} {pt : UInt32} (h : rM z ar pt) : pt = gP z := h.2.2.2.2.2.2.2.2.2.2
theorem rM_cg {z : Sg} {ar br : Nat → Int32} {pt : UInt32} (h : rM z ar pt) (hc : ∀ j, j < 204 → br j = ar j) : rM z br pt := by
  obtain ⟨hO, h0, hw, hs, hv, hT, hr, hc', hb, hl, hp⟩ := h
  have hn := hO.1
  refine ⟨hO, (hc 0 (by decide)).trans h0, fun i hi => ?_, fun j hj => ?_, (hc 169 (by decide)).trans hv, (hc 170 (by decide)).trans hT, fun j hj => ?_, fun j hj => ?_, fun j hj => ?_, fun j hj => ?_, hp⟩
  · rw [hc _ (by omega), hc _ (by omega)]; exact hw i hi
  · rw [hc _ (by omega)]; exact hs j hj
  · rw [hc _ (by omega)]; exact hr j hj
  · rw [hc _ (by omega)]; exact hc' j hj
  · rw [hc _ (by omega)]; exact hb j hj
  · rw [hc _ (by omega)]; exact hl j hj
theorem rn_y {z : Sg} {v : Int32} {m : Nat} (h : gC z 8 = nI 0) : rnS v (m + 1) z = ((rnS v m (cyc z v)).1 + 1, (rnS v m (cyc z v)).2) := by rw [rnS, if_pos h]
theorem rn_n {z : Sg} {v : Int32} {m : Nat} (h : ¬ gC z 8 = nI 0) : rnS v m z = (0, z) := by
  cases m with
  | zero => rfl
  | succ m => rw [rnS, if_neg h]
/-- the run goes on, or ends -/
def rnI (z : Sg) (v : Int32) (n i : Nat) (zi : Sg) : Prop := (rnS v (n - i) zi).1 + i = (rnS v n z).1 ∧ (rnS v (n - i) zi).2 = (rnS v n z).2
theorem rnI_0 (z : Sg) (v : Int32) (n : Nat) : rnI z v n 0 z := ⟨rfl, rfl⟩
theorem rnI_s {z zi : Sg} {v : Int32} {n i : Nat} (h : rnI z v n i zi) (hi : i < n) (g : gC zi 8 = nI 0) : rnI z v n (i + 1) (cyc zi v) := by
  obtain ⟨h1, h2⟩ := h
  rw [show n - i = (n - (i + 1)) + 1 by omega, rn_y g] at h1 h2
  exact ⟨by rw [← h1]; simp only; omega, h2⟩
theorem rnI_e {z zi : Sg} {v : Int32} {n i : Nat} (h : rnI z v n i zi) (hi : ¬ i < n ∨ ¬ gC zi 8 = nI 0) : i = (rnS v n z).1 ∧ zi = (rnS v n z).2 := by
  obtain ⟨h1, h2⟩ := h
  have e : rnS v (n - i) zi = (0, zi) := by
    rcases hi with h | h
    · rw [show n - i = 0 by omega]; rfl
    · exact rn_n h
  rw [e] at h1 h2
  exact ⟨by omega, h2⟩
def dcr : Nat → Int32
  | 0 => (-1)
  | k + 1 => nI k
theorem dcr_s (k : Nat) : nI k + Int32.ofInt (-1) = dcr k := by
  cases k with
  | zero => rfl
  | succ k => exact ee_dec (Nat.succ_pos k)
theorem dcr_1 {k : Nat} (h : 1 ≤ k) : dcr k = nI (k - 1) := by
  cases k with
  | zero => omega
  | succ k => rfl
theorem lvS_s (rg : Nat → Int32) (k : Nat) (p : Int32 × Int32) : lvS rg (k + 1) p = lvS rg k (gtA (rg k) p.1, gtB (rg k) p.2) := rfl
theorem rngS_OK {z : Sg} (h : OKs z) {n : Nat} (h1 : 1 ≤ n) (h2 : n ≤ 10) : OKs (rngS z n) := by
  obtain ⟨a1, a2, a3, a4, a5, a6, a7, a8, a9⟩ := h
  refine ⟨a1, a2, a3, a4, ⟨h1, h2⟩, fun j _ => Or.inl rfl, fun j _ _ => rfl, ?_, a9⟩
  have e : gC (rngS z n) 8 = gC z 8 := (pk_un (f := upd (gC z) 1 (lvS (gR z) (gT z) (gC z 1, gC z 2)).1) (k := 2) (x := (lvS (gR z) (gT z) (gC z 1, gC z 2)).2) (j := 8) (by decide)).trans (pk_un (k := 1) (by decide))
  rw [e]
  exact a8
theorem clS_OK {z : Sg} (h : OKs z) : OKs (clS z) := by
  obtain ⟨a1, a2, a3, a4, a5, a6, a7, a8, a9⟩ := h
  refine ⟨a1, a2, a3, a4, a5, a6, a7, Or.inl ?_, a9⟩
  exact pk_us (f := upd (gC z) 7 (nI 0)) (k := 8)
def pS (z : Sg) (p : UInt32) : Sg := (gN z, gK z, gL z, gS z, gV z, gT z, gR z, gC z, gB z, gA z, p)
def spA (z : Sg) (p : Int32) : Int32 × Sg := if inB p (nI 10) (nI 2000) then ((gP z).toInt32, pS z (FP.fdiv (FP.i2f p) 1092616192)) else ((-2), z)
def ldS (z : Sg) (n : Nat) (K L : Nat → Int32) : Sg := (n, K, L, gS z, gV z, gT z, gR z, gC z, gB z, gA z, gP z)
def unS (z : Sg) : Sg := ldS z 0 (gK z) (gL z)
theorem ldS_OK {z : Sg} (h : OKs z) {n : Nat} {K L : Nat → Int32} (hn : n ≤ 80) (hl : ∀ i, i < n → lnOK (L i)) : OKs (ldS z n K L) := ⟨hn, hl, h.2.2⟩
theorem unS_OK {z : Sg} (h : OKs z) : OKs (unS z) := ldS_OK h (Nat.zero_le _) (fun i hi => absurd hi (Nat.not_lt_zero _))
theorem pS_OK {z : Sg} (h : OKs z) {p : UInt32} (hp : pOK p) : OKs (pS z p) := ⟨h.1, h.2.1, h.2.2.1, h.2.2.2.1, h.2.2.2.2.1, h.2.2.2.2.2.1, h.2.2.2.2.2.2.1, h.2.2.2.2.2.2.2.1, hp⟩
/-- two slots: what they hold, and whether -/
abbrev Sv : Type := (Sg × Nat) × (Sg × Nat)
def flg (q : Sv) (w : Nat) : Nat := if w = 0 then q.1.2 else q.2.2
def slq (q : Sv) (w : Nat) : Sg := if w = 0 then q.1.1 else q.2.1
def stq (q : Sv) (w : Nat) (z : Sg) : Sv := if w = 0 then ((z, 1), q.2) else (q.1, (z, 1))
def svA (z : Sg) (q : Sv) (w : Int32) : Int32 × Sv := if inB w (nI 0) (nI 1) then (nI (gN z), stq q (nv w) z) else ((-2), q)
def rsA (z : Sg) (q : Sv) (w : Int32) : Int32 × Sg := if inB w (nI 0) (nI 1) then (if flg q (nv w) = 0 then ((-3), z) else (nI (gN (slq q (nv w))), slq q (nv w))) else ((-2), z)
/-- a text: how long, its characters; what typing leaves -/
def tyA (n : Nat) (f : Nat → Int32) (x : Int32) : Int32 × Nat × (Nat → Int32) := if inB x (nI 0) (nI 127) then (if n = 80 then ((-4), n, f) else (nI (n + 1), n + 1, upd f n x)) else ((-2), n, f)
theorem st_bd {w : Nat} (h : w < 8) : st_lo w ≤ st_hi w ∧ st_hi w ≤ 1000 := by
  rcases (show w = 0 ∨ w = 1 ∨ w = 2 ∨ w = 3 ∨ w = 4 ∨ w = 5 ∨ w = 6 ∨ w = 7 by omega) with rfl | rfl | rfl | rfl | rfl | rfl | rfl | rfl <;> decide
theorem nat_lt {i : Int32} {n : Nat} (h1 : ¬ i < 0) (hn : n < 2 ^ 31) (h2 : i < nI n) : ∃ k, k < n ∧ i = nI k := by
  obtain ⟨k, hk, rfl⟩ := nI_of2 (M := nI n) (n := n) (nI_toInt hn) h1 (Int32.le_of_lt h2)
  exact ⟨k, (nI_ltI (by omega) hn).mp h2, rfl⟩
theorem cnt0_y {f : Nat → Int32} {i : Nat} (h : f i = nI 0) : cnt0 f 0 (i + 1) = cnt0 f 0 i + 1 := by rw [cnt0, Nat.zero_add, if_pos h]
theorem cnt0_n {f : Nat → Int32} {i : Nat} (h : ¬ f i = nI 0) : cnt0 f 0 (i + 1) = cnt0 f 0 i := by rw [cnt0, Nat.zero_add, if_neg h]
theorem sumF_cg {f g : Nat → Int32} {a b : Nat} : ∀ n, (∀ j, j < n → f (a + j) = g (b + j)) → sumF f a n = sumF g b n
  | 0, _ => rfl
  | n + 1, h => by rw [sumF, sumF, sumF_cg n (fun j hj => h j (by omega)), h n (by omega)]
theorem cnt0_cg {f g : Nat → Int32} {a b : Nat} : ∀ n, (∀ j, j < n → f (a + j) = g (b + j)) → cnt0 f a n = cnt0 g b n
  | 0, _ => rfl
  | n + 1, h => by rw [cnt0, cnt0, cnt0_cg n (fun j hj => h j (by omega)), h n (by omega)]
theorem cntR_cg {f g : Nat → Int32} : ∀ n, (∀ j, j < n → f j = g j) → cntR f n = cntR g n
  | 0, _ => rfl
  | n + 1, h => by rw [cntR, cntR, cntR_cg n (fun j hj => h j (by omega)), h n (by omega)]
/-- how many more are good: a number -/
theorem cyc_g {z : Sg} {v : Int32} : ∃ d, d ≤ 1 ∧ gB (cyc z v) 0 = gB z 0 + nI d := by
  show ∃ d, d ≤ 1 ∧ upd (gB z) (cRs z v) (gB z (cRs z v) + nI 1) 0 = gB z 0 + nI d
  by_cases h : cRs z v = 0
  · rw [h, pk_us]; exact ⟨1, by omega, rfl⟩
  · rw [pk_un (fun q => h q.symm)]; exact ⟨0, by omega, (Int32.add_zero _).symm⟩
theorem itr_g {z : Sg} {v : Int32} : ∀ n, ∃ d, d ≤ n ∧ gB (itr z v n) 0 = gB z 0 + nI d
  | 0 => ⟨0, Nat.le_refl _, (Int32.add_zero _).symm⟩
  | n + 1 => by
    obtain ⟨a, ha, ea⟩ := itr_g (z := z) (v := v) n
    obtain ⟨b, hb, eb⟩ := cyc_g (z := itr z v n) (v := v)
    refine ⟨a + b, by omega, ?_⟩
    show gB (cyc (itr z v n) v) 0 = _
    rw [eb, ea, Int32.add_assoc, nI_add]
theorem gdS_nat (z : Sg) (w x n : Nat) (v : Int32) : ∃ d, d ≤ n ∧ gdS z w x n v = nI d := by
  obtain ⟨d, hd, e⟩ := itr_g (z := setS z w (nI x)) (v := v) n
  refine ⟨d, hd, ?_⟩
  unfold gdS
  rw [e]
  show gB z 0 + nI d - gB z 0 = nI d
  rw [Int32.add_comm, Int32.add_sub_cancel]
theorem m1_lt {d : Nat} (h : d < 2 ^ 31) : (-1 : Int32) < nI d := by
  rw [Int32.lt_iff_toInt_lt, nI_toInt h]
  show (-1 : Int) < _
  omega
section EF
variable {l : Launch} {E : ee_T} {y : MethodName} {ws : List Cond} {rm : Room} {av : List Value} {w0 : va_W} {Qf : (Nat → Prop) → Array Value → State → Outcome → State → Prop} {mc ms : Nat}
theorem CQ_ofWF {ws' : List Cond} {cc : ByteArray} {maxL : Nat} {ret : Option FieldType} (hy : plainFor y = true) (hw : ws = Cond.code y cc maxL ret :: ws') (hle : (lg_sl av).length ≤ maxL)
    (body : ∀ (p : Program) (e : Env) (s : State) (m : MethodId) (below : List Frame) (meth : Method) (c : Code) (A : Nat → Prop) (Q : State → Prop), Q = MQ below (Qf A) av.toArray s mc ms A → p.tables.exec = Jvm.exec → c.code = cc → meth.sig.returnType = ret → c.maxLocals = maxL → s.vm.findClass y.cls = some m.cls → meth.locks = false → meth.name = y.name → (∀ w ∈ ws, w.before av.toArray s = true) → ee_V E A s s.heap → (∀ q, s.heap.size ≤ q → A q) → va_P E.1 vwCl w0 s.heap → va_D A w0 → va_S A s.heap s.heap [] → ∀ ls : Array Slot, lv_has ls maxL (lv_args 0 av) → W p l e rm s m av.toArray below meth c s.heap [] 0 0 Q (F0 m 0 ls [])) : CQ l E y ws rm av w0 Qf mc ms := by
  intro sz
  refine va_MetF (cc := cc) (maxL := maxL) (ret := ret) hy hw ?_
  intro p e s m args below meth c s₁ B hml hv
  obtain ⟨rfl, hsz, hP, hV, hD0⟩ := hv
  subst hsz
  have hl := lv_entry av (n := maxL) hle
  rw [lg_entry_eq]
  exact body p e s m below meth c (va_A w0 s.heap.size) _ rfl B.exec B.bytes B.returns hml (findClass_of_methodNamed B.named) B.notSynchronized (name_of_methodNamed B.named B.method).1 (atoms_spec (ws := ws) B.pre) hV (fun q h => Or.inr h) hP hD0.self va_S.rf _ hl
end EF
