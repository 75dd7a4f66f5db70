/-! pure facts for 03.cycle.lean.txt -/
theorem bz {x : Int32} (h : x = nI 0 ∨ x = nI 1) : narrow .boolean (.int x) = .int x ∧ fits .boolean (.int x) = true := by
  rcases h with rfl | rfl
  · exact ⟨by decide, by decide⟩
  · exact ⟨by decide, by decide⟩
def cyL (k : Int32) (n : Nat) : Nat := if k = nI 0 then n + 1 else n
def cyS (k : Int32) (n : Nat) : Nat := if k = nI 3 then n + 1 else n
def cyN (t lb rs sd tk ed : Int32) (w : Nat) : Int32 := match w with
  | 0 => t | 1 => lb | 2 => rs | 3 => sd | 4 => tk | _ => ed
