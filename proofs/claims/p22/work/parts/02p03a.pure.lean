/-! pure facts for 03a.items.lean.txt -/
theorem up_s {g F : Nat → Int32} {i : Nat} {x : Int32} (h : ∀ j, j < i → g j = F j) (hx : x = F i) : ∀ j, j < i + 1 → upd g i x j = F j := by
  intro j hj
  by_cases e : j = i
  · subst e; rw [pk_us]; exact hx
  · rw [pk_un e]; exact h j (by omega)
theorem up_r {g f : Nat → Int32} {i : Nat} {x : Int32} (h : ∀ j, i ≤ j → g j = f j) : ∀ j, i + 1 ≤ j → upd g i x j = f j := fun j hj => by
  rw [pk_un (by omega)]; exact h j (by omega)
theorem lt_no {P : Nat → Prop} : ∀ j, j < 0 → P j := fun _ h => absurd h (Nat.not_lt_zero _)
/-- the sum of n values from place a on -/
def sumF (f : Nat → Int32) (a : Nat) : Nat → Int32
  | 0 => nI 0
  | n + 1 => sumF f a n + f (a + n)
/-- how many of n values from place a on are 0 -/
def cnt0 (f : Nat → Int32) (a : Nat) : Nat → Nat
  | 0 => 0
  | n + 1 => if f (a + n) = nI 0 then cnt0 f a n + 1 else cnt0 f a n
theorem cnt0_le (f : Nat → Int32) (a : Nat) : ∀ n, cnt0 f a n ≤ n
  | 0 => Nat.le_refl _
  | n + 1 => by
    have := cnt0_le f a n
    unfold cnt0
    split <;> omega
def appF (n : Nat) (f g : Nat → Int32) : Nat → Int32 := fun j => if j < n then f j else g (j - n)
theorem appF_lo {n : Nat} {f g : Nat → Int32} {j : Nat} (h : j < n) : appF n f g j = f j := if_pos h
theorem appF_hi {n : Nat} {f g : Nat → Int32} {j : Nat} : appF n f g (n + j) = g j := by
  unfold appF
  rw [if_neg (by omega), Nat.add_sub_cancel_left]
