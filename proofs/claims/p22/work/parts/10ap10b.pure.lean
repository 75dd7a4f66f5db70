/-! pure facts for 10b.class.lean.txt -/
theorem i2b_n {k : Nat} (h : k < 128) : (nI k).toInt8.toInt32 = nI k := by
  apply Int32.toInt_inj.mp
  rw [Int8.toInt_toInt32, Int32.toInt_toInt8, nI_toInt (by omega)]
  exact Int.bmod_eq_of_le (by omega) (by omega)
theorem shl23 {d : Nat} (h1 : 127 ≤ d) (h2 : d ≤ 135) : nI d <<< (nI 23 &&& 31) = nI (d * 8388608) := by
  rcases (show d = 127 ∨ d = 128 ∨ d = 129 ∨ d = 130 ∨ d = 131 ∨ d = 132 ∨ d = 133 ∨ d = 134 ∨ d = 135 by omega) with rfl | rfl | rfl | rfl | rfl | rfl | rfl | rfl | rfl <;> decide
theorem setA_t {z : Sg} {w : Nat} {x : Int32} (hw : w ≤ 7) (h : inR x (nI (st_lo w)) (nI (st_hi w))) : setA z (nI w) x = (gS z w, setS z w x) := by
  rw [setA, inB_t ((inR_iff (by decide) (by decide) (by omega)).mpr ⟨Nat.zero_le w, hw⟩), nv_nI (by omega), inB_t h]
  rfl
theorem setA_f {z : Sg} {w x : Int32} (h : ¬ okS w x) : setA z w x = ((-2), z) := by
  unfold setA
  by_cases h1 : inR w (nI 0) (nI 7)
  · obtain ⟨k, -, hk, rfl⟩ := inR_nat (by decide) (by decide) h1
    rw [inB_t h1, nv_nI (by omega), inB_f (fun q => h ((okS_iff hk).mpr q))]
    rfl
  · rw [inB_f h1]
    rfl
theorem rC_set {z : Sg} {fr en : Nat} {fk fl sv : Nat → Int32} {st : Nat} {rg rs : Nat → Int32} {pt : UInt32} {sc cy : Nat → Int32} (h : rC z fr en fk fl sv st rg rs pt sc cy) {w x : Nat} {cv : Nat → Int32} (hw : w < 8) (h1 : st_lo w ≤ x) (h2 : x ≤ st_hi w) (hcv : cv = upd sv w (nI x)) : rC (setS z w (nI x)) fr en fk fl cv st rg rs pt sc cy := by
  obtain ⟨hO, hn, hww, hs, hr⟩ := h
  refine ⟨setS_OK hO hw h1 h2, hn, hww, fun j hj => ?_, hr⟩
  show cv j = upd (gS z) w (nI x) j
  rw [hcv]
  by_cases e : j = w
  · subst e; rw [pk_us, pk_us]
  · rw [pk_un e, pk_un e]; exact hs j hj
theorem rC_un {z : Sg} {fr en : Nat} {fk fl sv : Nat → Int32} {st : Nat} {rg rs : Nat → Int32} {pt : UInt32} {sc cy : Nat → Int32} (h : rC z fr en fk fl sv st rg rs pt sc cy) : rC (unS z) 0 0 fk fl sv st rg rs pt sc cy := ⟨unS_OK h.1, ⟨Nat.le_refl 0, by omega, rfl⟩, fun i hi => absurd hi (Nat.not_lt_zero _), h.2.2.2⟩
theorem rC_sp {z : Sg} {fr en : Nat} {fk fl sv : Nat → Int32} {st : Nat} {rg rs : Nat → Int32} {pt : UInt32} {sc cy : Nat → Int32} (h : rC z fr en fk fl sv st rg rs pt sc cy) {p : UInt32} (hp : pOK p) : rC (pS z p) fr en fk fl sv st rg rs p sc cy := ⟨pS_OK h.1 hp, h.2.1, h.2.2.1, h.2.2.2.1, h.2.2.2.2.1, h.2.2.2.2.2.1, h.2.2.2.2.2.2.1, rfl, h.2.2.2.2.2.2.2.2⟩
theorem rC_cl {z : Sg} {fr en : Nat} {fk fl sv : Nat → Int32} {st : Nat} {rg rs : Nat → Int32} {pt : UInt32} {sc cy : Nat → Int32} (h : rC z fr en fk fl sv st rg rs pt sc cy) : rC (clS z) fr en fk fl sv st rg rs pt (lf [sc 0, nI 0, nI 0, sc 3, sc 4, sc 5, sc 6, sc 7, sc 8, sc 9]) cy := by
  have hO := clS_OK h.1
  obtain ⟨-, hn, hw, hs, hst, hrg, hrs, hpt, ⟨b0, b1, b2, b3⟩, hl, hm⟩ := h
  refine ⟨hO, hn, hw, hs, hst, hrg, hrs, hpt, ⟨b0, ?_, ?_, fun j hj => ?_⟩, hl, hm⟩
  · show nI 0 = upd (upd (gC z) 7 (nI 0)) 8 (nI 0) 7
    rw [pk_un (by decide), pk_us]
  · show nI 0 = upd (upd (gC z) 7 (nI 0)) 8 (nI 0) 8
    rw [pk_us]
  · show _ = upd (upd (gC z) 7 (nI 0)) 8 (nI 0) j
    rw [pk_un (by omega), pk_un (by omega), ← b3 j hj]
    rcases (show j = 0 ∨ j = 1 ∨ j = 2 ∨ j = 3 ∨ j = 4 ∨ j = 5 ∨ j = 6 by omega) with rfl | rfl | rfl | rfl | rfl | rfl | rfl <;> rfl
