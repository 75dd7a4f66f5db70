/-! pure facts for 10c.class.lean.txt -/
theorem nI_01 : ¬ nI 0 = nI 1 := by decide
theorem run_f {n v : Int32} (h : ¬ (inR n (nI 1) (nI 100) ∧ inR v (nI 0) (nI 1000))) : (inB n (nI 1) (nI 100) && inB v (nI 0) (nI 1000)) = false := by
  by_cases h1 : inR n (nI 1) (nI 100)
  · rw [inB_t h1, inB_f (fun q => h ⟨h1, q⟩)]; rfl
  · rw [inB_f h1]; rfl
theorem fo_f1 {n v w : Int32} (h : ¬ (inR n (nI 1) (nI 100) ∧ inR v (nI 0) (nI 1000))) : (inB n (nI 1) (nI 100) && (inB v (nI 0) (nI 1000) && inB w (nI 0) (nI 3))) = false := by
  by_cases h1 : inR n (nI 1) (nI 100)
  · rw [inB_t h1, inB_f (fun q => h ⟨h1, q⟩)]; rfl
  · rw [inB_f h1]; rfl
theorem fo_f2 {n v w : Int32} (h : inR n (nI 1) (nI 100) ∧ inR v (nI 0) (nI 1000)) (h2 : ¬ inR w (nI 0) (nI 3)) : (inB n (nI 1) (nI 100) && (inB v (nI 0) (nI 1000) && inB w (nI 0) (nI 3))) = false := by
  rw [inB_t h.1, inB_t h.2, inB_f h2]; rfl
/-- the class begins the search with the least value -/
def bestC (z : Sg) (w n : Nat) (v : Int32) (m : Nat) (q4 q5 : Int32) : Prop := q4 = nI (beS z w n v (st_lo w) m).1 ∧ q5 = (beS z w n v (st_lo w) m).2
theorem bestC_s {z : Sg} {w n m : Nat} {v q4 q5 x4 x5 : Int32} (h : bestC z w n v m q4 q5) (hd : (q5 < gdS z w (st_lo w + m) n v ∧ x4 = nI (st_lo w + m) ∧ x5 = gdS z w (st_lo w + m) n v) ∨ (¬ q5 < gdS z w (st_lo w + m) n v ∧ x4 = q4 ∧ x5 = q5)) : bestC z w n v (m + 1) x4 x5 := by
  obtain ⟨h4, h5⟩ := h
  unfold bestC
  rw [beS]
  rcases hd with ⟨a, b, c⟩ | ⟨a, b, c⟩
  · rw [← h5, if_pos a]; exact ⟨b, c⟩
  · rw [← h5, if_neg a]; exact ⟨b.trans h4, c.trans h5⟩
