/-! SPEC: what a cycle does, over mathematical values; both sides are walked to it -/
/-- the natural number of an int that is one -/
abbrev nv (x : Int32) : Nat := x.toNatClampNeg
theorem nv_nI {k : Nat} (h : k < 2 ^ 31) : nv (nI k) = k := nI_clamp h
/-- an item's length -/
def lnOK (x : Int32) : Prop := ∃ k, 1 ≤ k ∧ k ≤ 99 ∧ x = nI k
theorem lnOK_nv {x : Int32} (h : lnOK x) : x = nI (nv x) ∧ 1 ≤ nv x ∧ nv x ≤ 99 := by
  obtain ⟨k, h1, h2, rfl⟩ := h
  rw [nv_nI (by omega)]
  exact ⟨rfl, h1, h2⟩
/-- the speed that the web takes on -/
def follow (s c g v : Int32) : Int32 :=
  let low := if s - c < 0 then 0 else s - c
  let high := if g < s + c then g else s + c
  if high < low then g else if v < low then low else if high < v then high else v
/-- the comparisons with the pitch, as fcmpl tells them -/
def fqM (pt : UInt32) (w : Int32) (tr : Nat) : Int32 := Op.cmpValue (FP.fcmp (FP.i2f (nI tr)) (FP.fsub pt (FP.i2f w))) CmpOp.l
def fqL (pt : UInt32) (w : Int32) (tr : Nat) : Int32 := Op.cmpValue (FP.fcmp (FP.i2f (nI tr)) (FP.fadd pt (FP.i2f w))) CmpOp.l
/-- how the cycle ends behind an item of kind k and length x, the travel being tr: 0 not yet, 1 marked, 2 lost -/
def fdE (sv : Nat → Int32) (pt : UInt32) (k x : Int32) (tr : Nat) : Nat :=
  if (k = nI 1 ∧ ¬ x < sv 0) ∧ ¬ fqM pt (sv 1) tr < 0 then 1 else if nI tr ≤ sv 2 then 0 else 2
/-- a feed from item tk on, m items being left: taken, travel, labels, splices, end -/
def fdS (κ lm : Nat → Int32) (sv : Nat → Int32) (pt : UInt32) : Nat → Nat → Nat → Nat → Nat → Nat × Nat × Nat × Nat × Nat
  | 0, tk, tr, lb, sc => (tk, tr, lb, sc, 3)
  | m + 1, tk, tr, lb, sc =>
    if fdE sv pt (κ tk) (lm tk) (tr + nv (lm tk)) = 0 then fdS κ lm sv pt m (tk + 1) (tr + nv (lm tk)) (cyL (κ tk) lb) (cyS (κ tk) sc)
    else (tk + 1, tr + nv (lm tk), cyL (κ tk) lb, cyS (κ tk) sc, fdE sv pt (κ tk) (lm tk) (tr + nv (lm tk)))
theorem fdE_le (sv : Nat → Int32) (pt : UInt32) (k x : Int32) (tr : Nat) : fdE sv pt k x tr ≤ 2 := by
  unfold fdE
  split
  · decide
  · split <;> decide
/-- it speaks of the items that are left alone -/
theorem fdS_congr {κ κ' lm lm' sv sv' : Nat → Int32} {pt : UInt32} (hs : ∀ j, j < 8 → sv' j = sv j) : ∀ (m tk tr lb sc : Nat), (∀ j, tk ≤ j → j < tk + m → κ' j = κ j ∧ lm' j = lm j) → fdS κ' lm' sv' pt m tk tr lb sc = fdS κ lm sv pt m tk tr lb sc
  | 0, _, _, _, _, _ => rfl
  | m + 1, tk, tr, lb, sc, h => by
    obtain ⟨h1, h2⟩ := h tk (Nat.le_refl _) (by omega)
    have ih := fdS_congr (pt := pt) hs m (tk + 1) (tr + nv (lm tk)) (cyL (κ tk) lb) (cyS (κ tk) sc) (fun j h1 h2 => h j (by omega) (by omega))
    have e : ∀ k x tr, fdE sv' pt k x tr = fdE sv pt k x tr := fun k x tr => by
      unfold fdE
      rw [hs 0 (by decide), hs 1 (by decide), hs 2 (by decide)]
    unfold fdS
    rw [h1, h2, e, ih]
/-- what a feed's numbers are: taken no more than there are, travel bounded, counts -/
theorem fdS_inv {κ lm sv : Nat → Int32} {pt : UInt32} {G : Nat} (hg : sv 2 = nI G) (hG : G ≤ 400) : ∀ (m tk tr lb sc : Nat), (∀ j, tk ≤ j → j < tk + m → lnOK (lm j)) → tr ≤ 400 → tk ≤ tr → lb ≤ tk → sc ≤ tk →
    ∃ tk' tr' lb' sc' ed, fdS κ lm sv pt m tk tr lb sc = (tk', tr', lb', sc', ed) ∧ tk ≤ tk' ∧ tk' ≤ tk + m ∧ tk' ≤ tr' ∧ tr' ≤ 499 ∧ lb' ≤ tk' ∧ sc' ≤ tk' ∧ 1 ≤ ed ∧ ed ≤ 3 ∧ (ed = 1 → 1 ≤ lb' → 2 ≤ tr')
  | 0, tk, tr, lb, sc, _, h1, h2, h3, h4 => ⟨tk, tr, lb, sc, 3, rfl, by omega, by omega, h2, by omega, h3, h4, by omega, by omega, fun q => by omega⟩
  | m + 1, tk, tr, lb, sc, hl, h1, h2, h3, h4 => by
    obtain ⟨-, l1, l2⟩ := lnOK_nv (hl tk (Nat.le_refl _) (by omega))
    have c1 : cyL (κ tk) lb ≤ tk + 1 := by unfold cyL; split <;> omega
    have c2 : cyS (κ tk) sc ≤ tk + 1 := by unfold cyS; split <;> omega
    have he := fdE_le sv pt (κ tk) (lm tk) (tr + nv (lm tk))
    unfold fdS
    by_cases q : fdE sv pt (κ tk) (lm tk) (tr + nv (lm tk)) = 0
    · rw [if_pos q]
      have ht : tr + nv (lm tk) ≤ 400 := by
        unfold fdE at q
        split at q
        · omega
        · split at q
          · rename_i hh
            rw [hg] at hh
            have := (nI_leI (by omega) (by omega)).mp hh
            omega
          · omega
      obtain ⟨tk', tr', lb', sc', ed, e1, e2, e3, e4, e5, e6, e7, e8, e9, e10⟩ := fdS_inv (κ := κ) (pt := pt) hg hG m (tk + 1) (tr + nv (lm tk)) (cyL (κ tk) lb) (cyS (κ tk) sc) (fun j q1 q2 => hl j (by omega) (by omega)) ht (by omega) c1 c2
      exact ⟨tk', tr', lb', sc', ed, e1, by omega, by omega, e4, e5, e6, e7, e8, e9, e10⟩
    · rw [if_neg q]
      refine ⟨_, _, _, _, _, rfl, by omega, by omega, by omega, by omega, c1, c2, by omega, by omega, fun e1 e2 => ?_⟩
      have hk : κ tk = nI 1 := by
        unfold fdE at e1
        split at e1
        · rename_i hh
          exact hh.1.1
        · split at e1 <;> omega
      have : cyL (κ tk) lb = lb := by
        unfold cyL
        rw [hk, if_neg (by decide)]
      omega
/-- why the product is bad: 0 it's good -/
def rsS (ed sc lb : Nat) (late : Prop) [Decidable late] (sp v tol : Int32) : Nat :=
  if ed = 3 then 1 else if ed = 2 then 2 else if 0 < sc then 3 else if lb = 0 then 4 else if 1 < lb then 5 else if late then 6 else if tol < sp - v ∨ tol < -(sp - v) then 7 else 0
theorem rsS_le (ed sc lb : Nat) (late : Prop) [Decidable late] (sp v tol : Int32) : rsS ed sc lb late sp v tol ≤ 7 := by
  unfold rsS
  repeat' split
  all_goals omega
def isFl (r : Nat) : Bool := r == 1 || r == 2 || r == 4 || r == 6
/-- the pitch that is learned -/
def lrP (pt : UInt32) (tr : Nat) (g : Int32) : UInt32 := FP.fadd pt (FP.fmul (FP.fsub (FP.i2f (nI tr)) pt) (FP.fdiv (FP.i2f g) 1090519040))
