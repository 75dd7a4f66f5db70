/-! pure facts for 16.law.lean.txt -/
def lo31 (x : Int32) : Nat := x.toBitVec.toNat % 2 ^ 31
theorem lo31_lt (x : Int32) : lo31 x < 2 ^ 31 := Nat.mod_lt _ (by decide)
theorem lo31_e (x : Int32) : x &&& nI 2147483647 = nI (lo31 x) := pk_and x 31 (by decide)
def loN (x : Int32) (n : Nat) : Nat := lo31 x % n
theorem loN_lt (x : Int32) {n : Nat} (h : 1 ≤ n) : loN x n < n := Nat.mod_lt _ h
def ltS (k : Nat) : Nat := if k = 0 then 108 else if k = 1 then 103 else if k = 2 then 98 else 115
theorem lv_e {aa : Nat → Int32} {x y1 y2 : Int32} (h1 : y1 = gtA x (aa 21)) (h2 : y2 = gtB x (aa 22)) : upd (upd aa 21 y1) 22 y2 = upd (upd aa 21 (gtA x (aa 21))) 22 (gtB x (aa 22)) := by rw [h1, h2]
/-! the speed that is nearest -/
def foN (s c g v : Nat) : Nat := if (if g < s + c then g else s + c) < s - c then g else if v < s - c then s - c else if (if g < s + c then g else s + c) < v then (if g < s + c then g else s + c) else v
theorem foN_f {s c g v : Nat} (hs : s ≤ 1000) (hc : c ≤ 1000) (hg : g ≤ 1000) (hv : v ≤ 1000) : follow (nI s) (nI c) (nI g) (nI v) = nI (foN s c g v) := by
  have low : (if nI s - nI c < 0 then (0 : Int32) else nI s - nI c) = nI (s - c) := by
    by_cases h : c ≤ s
    · rw [pk_sub h, if_neg (nI_pos (by omega))]
    · rw [if_pos (pk_sneg (by omega) (by omega)), show s - c = 0 by omega, nI_0]
  have high : (if nI g < nI s + nI c then nI g else nI s + nI c) = nI (if g < s + c then g else s + c) := by
    rw [nI_add]
    by_cases h : g < s + c
    · rw [if_pos ((nI_ltI (by omega) (by omega)).mpr h), if_pos h]
    · rw [if_neg (fun q => h ((nI_ltI (by omega) (by omega)).mp q)), if_neg h]
  have hb : (if g < s + c then g else s + c) ≤ 1000 := by split <;> omega
  unfold follow foN
  simp only
  rw [low, high]
  generalize (if g < s + c then g else s + c) = hi at *
  have e1 : nI hi < nI (s - c) ↔ hi < s - c := nI_ltI (by omega) (by omega)
  have e2 : nI v < nI (s - c) ↔ v < s - c := nI_ltI (by omega) (by omega)
  have e3 : nI hi < nI v ↔ hi < v := nI_ltI (by omega) (by omega)
  by_cases h1 : hi < s - c
  · rw [if_pos (e1.mpr h1), if_pos h1]
  · rw [if_neg (fun q => h1 (e1.mp q)), if_neg h1]
    by_cases h2 : v < s - c
    · rw [if_pos (e2.mpr h2), if_pos h2]
    · rw [if_neg (fun q => h2 (e2.mp q)), if_neg h2]
      by_cases h3 : hi < v
      · rw [if_pos (e3.mpr h3), if_pos h3]
      · rw [if_neg (fun q => h3 (e3.mp q)), if_neg h3]
/-- the best of the speeds below i so far, and how far it is from v -/
def foI (s c g v i b q : Nat) : Prop := (s - c < i ∨ (b = g ∧ q = 3000)) ∧ (i ≤ s - c ∨ (s - c ≤ b ∧ b ≤ i - 1 ∧ b ≤ s + c ∧ (s - c ≤ v ∨ b = s - c) ∧ (v < s - c ∨ (v ≤ i - 1 ∧ v ≤ s + c) ∨ b = i - 1 ∨ b = s + c) ∧ (v < s - c ∨ i - 1 < v ∨ s + c < v ∨ b = v) ∧ (b < v ∨ q = b - v) ∧ (v < b ∨ q = v - b)))
theorem foI_0 (s c g v : Nat) : foI s c g v 0 g 3000 := ⟨Or.inr ⟨rfl, rfl⟩, Or.inl (Nat.zero_le _)⟩
theorem foI_s {s c g v i b q d b2 q2 : Nat} (hs : s ≤ 1000) (hc : c ≤ 1000) (hg : g ≤ 1000) (hv : v ≤ 1000) (hi : i ≤ g) (h : foI s c g v i b q) (hd : (v < i ∧ d = i - v) ∨ (i ≤ v ∧ d = v - i)) (h2 : ((i ≤ s + c ∧ s ≤ i + c) ∧ d < q ∧ b2 = i ∧ q2 = d) ∨ (¬ ((i ≤ s + c ∧ s ≤ i + c) ∧ d < q) ∧ b2 = b ∧ q2 = q)) : foI s c g v (i + 1) b2 q2 := by
  unfold foI at *
  obtain ⟨h3, h4⟩ := h
  constructor
  · omega
  · omega
theorem foI_e {s c g v i b q : Nat} (hi : i = g + 1) (h : foI s c g v i b q) : b = foN s c g v := by
  subst hi
  unfold foI at h
  obtain ⟨h3, h4⟩ := h
  unfold foN
  by_cases h0 : g < s + c
  · rw [if_pos h0]
    by_cases h1 : g < s - c
    · rw [if_pos h1]; omega
    · rw [if_neg h1]
      by_cases h2 : v < s - c
      · rw [if_pos h2]; omega
      · rw [if_neg h2]
        by_cases h5 : g < v
        · rw [if_pos h5]; omega
        · rw [if_neg h5]; omega
  · rw [if_neg h0]
    by_cases h1 : s + c < s - c
    · omega
    · rw [if_neg h1]
      by_cases h2 : v < s - c
      · rw [if_pos h2]; omega
      · rw [if_neg h2]
        by_cases h5 : s + c < v
        · rw [if_pos h5]; omega
        · rw [if_neg h5]; omega
theorem near1 {i s c : Nat} (hi : i ≤ 2000) (hs : s ≤ 2000) (hc : c ≤ 2000) : nI c < nI i - nI s ↔ s + c < i := by
  rw [Int32.lt_iff_toInt_lt, pk_sub_toInt (by omega) (by omega), nI_toInt (by omega)]
  omega
/-! the text, typed -/
theorem ty_ok {tq x : Nat} {tx : Nat → Int32} (h : tq < 80) (hx : x < 128) : tyA tq tx (nI x) = (nI (tq + 1), tq + 1, upd tx tq (nI x)) := by
  rw [tyA, inB_t ((inR_iff (by decide) (by decide) (by omega)).mpr ⟨Nat.zero_le x, by omega⟩), if_pos rfl, if_neg (by omega)]
theorem ty_eq {tq x tq9 : Nat} {tx tx9 : Nat → Int32} (h : (tq9, tx9) = (tyA tq tx (nI x)).2) (ht : tq < 80) (hx : x < 128) : tq9 = tq + 1 ∧ tx9 = upd tx tq (nI x) := by
  rw [ty_ok ht hx] at h
  exact ⟨congrArg (fun p => p.1) h, congrArg (fun p => p.2) h⟩
def tnN (v q : Nat) : Nat := if v < 10 then q + 1 else q + 1 + 1
def tnF (v q : Nat) (f : Nat → Int32) : Nat → Int32 := if v < 10 then upd f q (nI (48 + v % 10)) else upd (upd f q (nI (48 + v / 10))) (q + 1) (nI (48 + v % 10))
