/-! pure facts for 22.law.lean.txt -/
theorem it_at {z : Sg} {i w : Nat} (hi : i < gN z) (hn : gN z ≤ 60) (hw : w ≤ 2) : itA z (nI i) (nI w) = itS z i w := by
  rw [itA, if_neg (nI_pos (by omega)), inB_t ((inR_iff (by decide) (by decide) (by omega)).mpr ⟨Nat.zero_le w, hw⟩), if_pos rfl, if_neg (fun q => by have := (nI_leI (by omega) (by omega)).mp q; omega), nv_nI (by omega), nv_nI (by omega)]
theorem it_no {z : Sg} {w : Nat} (hn : gN z ≤ 60) (hw : w ≤ 2) : itA z (nI (gN z)) (nI w) = (-1) := by
  rw [itA, if_neg (nI_pos (by omega)), inB_t ((inR_iff (by decide) (by decide) (by omega)).mpr ⟨Nat.zero_le w, hw⟩), if_pos rfl, if_pos (Int32.le_refl _)]
theorem it_m1 {z : Sg} {w : Int32} : itA z (-1) w = (-2) := by
  rw [itA, if_pos (by decide)]
theorem itq_3 {z : Sg} {i : Nat} (hi : i < 2 ^ 31) : itA z (nI i) (nI 3) = (-2) := by
  rw [itA, if_neg (nI_pos hi), inB_f (fun q => by have := (inR_iff (by decide) (by decide) (by decide)).mp q; omega)]
  rfl
theorem stn_at {z : Sg} {i : Nat} (hi : i < gT z) (hT : gT z ≤ 10) : stnA z (nI i) = gR z i := by
  rw [stnA, inB_t ((inR_iff (by omega) (by omega) (by omega)).mpr ⟨Nat.zero_le i, by omega⟩), if_pos rfl, nv_nI (by omega)]
theorem stn_no {z : Sg} (h1 : 1 ≤ gT z) (hT : gT z ≤ 10) : stnA z (nI (gT z)) = (-2) := by
  rw [stnA, inB_f (fun q => by have := (inR_iff (by omega) (by omega) (by omega)).mp q; omega)]
  rfl
theorem lat_at {z : Sg} {i : Nat} (hi : i < 6) : latA z (nI i) = gA z i := by
  rw [latA, inB_t ((inR_iff (by decide) (by decide) (by omega)).mpr ⟨Nat.zero_le i, by omega⟩), if_pos rfl, nv_nI (by omega)]
theorem lat_6 {z : Sg} : latA z (nI 6) = (-2) := by
  rw [latA, inB_f (fun q => by have := (inR_iff (by decide) (by decide) (by decide)).mp q; omega)]
  rfl
theorem co_32 {z : Sg} {tl : Int32} : coA z tl (nI 32) = (-2) := by
  rw [coA, inB_f (fun q => by have := (inR_iff (by decide) (by decide) (by decide)).mp q; omega)]
  rfl
theorem coN {z : Sg} {tl : Int32} {i : Nat} (h : i < 32) : coA z tl (nI i) = nuS z tl i := by
  rw [coA, inB_t ((inR_iff (by decide) (by decide) (by omega)).mpr ⟨Nat.zero_le i, by omega⟩), if_pos rfl, nv_nI (by omega)]
theorem co_6 {z : Sg} {tl : Int32} {i : Nat} (h : i < 9) : coA z tl (nI (6 + i)) = gC z i := by
  rw [coN (by omega)]
  rcases (show i = 0 ∨ i = 1 ∨ i = 2 ∨ i = 3 ∨ i = 4 ∨ i = 5 ∨ i = 6 ∨ i = 7 ∨ i = 8 by omega) with rfl | rfl | rfl | rfl | rfl | rfl | rfl | rfl | rfl <;> rfl
theorem co_15 {z : Sg} {tl : Int32} {i : Nat} (h : i < 8) : coA z tl (nI (15 + i)) = gS z i := by
  rw [coN (by omega)]
  rcases (show i = 0 ∨ i = 1 ∨ i = 2 ∨ i = 3 ∨ i = 4 ∨ i = 5 ∨ i = 6 ∨ i = 7 by omega) with rfl | rfl | rfl | rfl | rfl | rfl | rfl | rfl <;> rfl
theorem co_24 {z : Sg} {tl : Int32} {i : Nat} (h : i < 8) : coA z tl (nI (24 + i)) = gB z i := by
  rw [coN (by omega)]
  rcases (show i = 0 ∨ i = 1 ∨ i = 2 ∨ i = 3 ∨ i = 4 ∨ i = 5 ∨ i = 6 ∨ i = 7 by omega) with rfl | rfl | rfl | rfl | rfl | rfl | rfl | rfl <;> rfl
