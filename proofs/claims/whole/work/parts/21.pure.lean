/-! facts for the law -/
theorem tyA_le {n k : Nat} {f g : Nat → Int32} {x : Int32} (h : n ≤ 80) (e : (k, g) = (tyA n f x).2) : k ≤ 80 := by
  have e1 : k = (tyA n f x).2.1 := congrArg Prod.fst e
  rw [e1]
  unfold tyA
  split
  · split
    · exact h
    · show n + 1 ≤ 80
      omega
  · exact h
