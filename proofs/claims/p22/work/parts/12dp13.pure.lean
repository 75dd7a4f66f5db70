/-! pure facts for 13.reads.lean.txt -/
theorem kd_m {ch : Nat → Int32} {e : Nat} (h : ¬ kdS (ch e) = (-1)) : itF ch e = nmF ch (kmx (kdS (ch e))) (skp ch (e + 1)) := by rw [itF, if_neg h]
theorem pt_l {fa1 g : Int32} {P Q : Prop} (h : (fa1 = (-1) ∧ g = (-1) ∧ P ∧ Q) ∨ (¬ fa1 = (-1) ∧ fa1 = g)) (hf : fa1 = (-1)) : g = (-1) ∧ P ∧ Q := by
  rcases h with ⟨-, h⟩ | ⟨h, -⟩
  · exact h
  · exact absurd hf h
theorem pt_r {fa1 g : Int32} {P Q : Prop} (h : (fa1 = (-1) ∧ g = (-1) ∧ P ∧ Q) ∨ (¬ fa1 = (-1) ∧ fa1 = g)) (hf : ¬ fa1 = (-1)) : fa1 = g := by
  rcases h with ⟨h, -⟩ | ⟨-, h⟩
  · exact absurd h hf
  · exact h
theorem kd_40 : kdS (nI 40) = (-1) := by decide
