/-! pure facts for 03b.ring.lean.txt -/
theorem nI_m1 {k : Nat} (h : k < 2 ^ 31) : nI k ≠ (-1 : Int32) := by
  intro q
  have := congrArg Int32.toInt q
  rw [nI_toInt h] at this
  simp at this
/-- how many of the first n places aren't empty -/
def cntR (f : Nat → Int32) : Nat → Nat
  | 0 => 0
  | n + 1 => if f n = (-1) then cntR f n else cntR f n + 1
theorem cntR_le (f : Nat → Int32) : ∀ n, cntR f n ≤ n
  | 0 => Nat.le_refl _
  | n + 1 => by
    have := cntR_le f n
    unfold cntR
    split <;> omega
/-- the ring of st stations, moved on, x at station 0 -/
def rgS (rg : Nat → Int32) (st : Nat) (x : Int32) : Nat → Int32 := fun j => if j < st then (if j = 0 then x else rg (j - 1)) else rg j
theorem rgS_0 (rg : Nat → Int32) (x : Int32) : rg = rgS rg 0 x := by
  funext j
  simp [rgS]
theorem rgS_s (rg : Nat → Int32) (i : Nat) (x y : Int32) (hy : y = if i = 0 then x else rg (i - 1)) : upd (rgS rg i x) i y = rgS rg (i + 1) x := by
  funext j
  by_cases h : j = i
  · subst h
    rw [pk_us, hy]
    simp [rgS]
  · rw [pk_un h]
    unfold rgS
    by_cases h2 : j < i
    · have h3 : j < i + 1 := by omega
      simp only [h2, h3, if_true]
    · have h3 : ¬ j < i + 1 := by omega
      simp only [h2, h3, if_false]
theorem rgS_at (rg : Nat → Int32) (i : Nat) (x : Int32) : rgS rg i x i = rg i := by
  unfold rgS
  rw [if_neg (by omega)]
def sv0 : Nat → Int32 := upd (upd (upd (upd (upd (upd (upd (upd (fun _ => nI 0) 0 (nI 3)) 1 (nI 5)) 2 (nI 150)) 3 (nI 400)) 4 (nI 100)) 5 (nI 10)) 6 (nI 2)) 7 (nI 3)
def inR (v a b : Int32) : Prop := a ≤ v ∧ v ≤ b
theorem inR_nat {v : Int32} {a b : Nat} (hb : b < 2 ^ 31) (ha : a ≤ b) (h : inR v (nI a) (nI b)) : ∃ w, a ≤ w ∧ w ≤ b ∧ v = nI w := by
  have h1 : ¬ v < 0 := by
    intro q
    have h2 := h.1
    rw [Int32.le_iff_toInt_le, nI_toInt (by omega)] at h2
    rw [Int32.lt_iff_toInt_lt, Int32.toInt_zero] at q
    omega
  obtain ⟨w, hw, rfl⟩ := nI_of2 (M := nI b) (n := b) (nI_toInt hb) h1 h.2
  exact ⟨w, (nI_leI (by omega) (by omega)).mp h.1, hw, rfl⟩
theorem inR_iff {w a b : Nat} (hb : b < 2 ^ 31) (ha : a ≤ b) (hw : w < 2 ^ 31) : inR (nI w) (nI a) (nI b) ↔ a ≤ w ∧ w ≤ b := by
  unfold inR
  rw [nI_leI (by omega) hw, nI_leI hw hb]
/-- a setting's number and value that stand -/
def okS (what x : Int32) : Prop := ∃ w, w ≤ 7 ∧ what = nI w ∧ inR x (nI (st_lo w)) (nI (st_hi w))
theorem okS_iff {w : Nat} {x : Int32} (hw : w ≤ 7) : okS (nI w) x ↔ inR x (nI (st_lo w)) (nI (st_hi w)) := by
  constructor
  · rintro ⟨u, h1, h2, h3⟩
    have := (nI_eq (a := w) (b := u) (by omega) (by omega)).mp h2
    subst this
    exact h3
  · exact fun h => ⟨w, hw, rfl, h⟩
