/-! pure facts for 10d.class.lean.txt -/
/-- a slot of the class -/
def svC (q : Sv) (w b : Nat) (R : Sg → Prop) : Prop := b ≤ 1 ∧ flg q w = b ∧ (b ≠ 0 → R (slq q w))
theorem svA_t {z : Sg} {q : Sv} {w : Nat} (h : w ≤ 1) : svA z q (nI w) = (nI (gN z), stq q w z) := by
  rw [svA, inB_t ((inR_iff (by decide) (by decide) (by omega)).mpr ⟨Nat.zero_le w, h⟩), nv_nI (by omega)]
  rfl
theorem svA_f {z : Sg} {q : Sv} {w : Int32} (h : ¬ inR w (nI 0) (nI 1)) : svA z q w = ((-2), q) := by
  rw [svA, inB_f h]; rfl
theorem rsA_f {z : Sg} {q : Sv} {w : Int32} (h : ¬ inR w (nI 0) (nI 1)) : rsA z q w = ((-2), z) := by
  rw [rsA, inB_f h]; rfl
theorem rsA_n {z : Sg} {q : Sv} {w : Nat} (h : w ≤ 1) (h2 : flg q w = 0) : rsA z q (nI w) = ((-3), z) := by
  rw [rsA, inB_t ((inR_iff (by decide) (by decide) (by omega)).mpr ⟨Nat.zero_le w, h⟩), if_pos rfl, nv_nI (by omega), if_pos h2]
theorem rsA_y {z : Sg} {q : Sv} {w : Nat} (h : w ≤ 1) (h2 : ¬ flg q w = 0) : rsA z q (nI w) = (nI (gN (slq q w)), slq q w) := by
  rw [rsA, inB_t ((inR_iff (by decide) (by decide) (by omega)).mpr ⟨Nat.zero_le w, h⟩), if_pos rfl, nv_nI (by omega), if_neg h2]
