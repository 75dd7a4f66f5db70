/-! pure facts for 09d.model.lean.txt -/
theorem lo_a {w : Nat} (h : w = 2) : nI 10 = nI (st_lo w) := by subst h; rfl
theorem lo_b {w : Nat} (h : w = 1 ∨ w = 5 ∨ w = 6) : nI 0 = nI (st_lo w) := by rcases h with rfl | rfl | rfl <;> rfl
theorem lo_c {w : Nat} (h : w = 0 ∨ w = 3 ∨ w = 4 ∨ w = 7) : nI 1 = nI (st_lo w) := by rcases h with rfl | rfl | rfl | rfl <;> rfl
theorem cp_s {gk ar : Nat → Int32} {i : Nat} (q1 : ∀ j, j < i → gk j = ar j) : ∀ j, j < i + 1 → upd gk i (ar i) j = ar j := up_s q1 rfl
theorem cyc_7 {z : Sg} {v : Int32} {i : Nat} {ar : Nat → Int32} {pt : UInt32} (h : rM (itr z v (i + 1)) ar pt) : ar 188 = gC (itr z v (i + 1)) 7 ∧ ar 168 = gS (itr z v (i + 1)) 7 := ⟨rM_C h 7 (by decide), rM_S h 7 (by decide)⟩
