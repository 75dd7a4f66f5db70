/-! pure facts for 10a.machine.lean.txt -/
theorem nuS_a {z : Sg} {tl : Int32} {w : Nat} (h : ¬ w < 24) : nuS z tl w = gB z (w - 24) := by unfold nuS; rw [if_neg h]
theorem nuS_b {z : Sg} {tl : Int32} {w : Nat} (h : w < 24) (h2 : ¬ w < 15) (h3 : w ≠ 23) : nuS z tl w = gS z (w - 15) := by unfold nuS; rw [if_pos h, if_neg h2, if_neg h3]
theorem rC_N {z : Sg} {fr en : Nat} {fk fl sv : Nat → Int32} {st : Nat} {rg rs : Nat → Int32} {pt : UInt32} {sc cy : Nat → Int32} (h : rC z fr en fk fl sv st rg rs pt sc cy) : gN z = en - fr := h.2.1.2.2
theorem rC_fe {z : Sg} {fr en : Nat} {fk fl sv : Nat → Int32} {st : Nat} {rg rs : Nat → Int32} {pt : UInt32} {sc cy : Nat → Int32} (h : rC z fr en fk fl sv st rg rs pt sc cy) : fr ≤ en ∧ en ≤ 80 := ⟨h.2.1.1, h.2.1.2.1⟩
theorem rC_W {z : Sg} {fr en : Nat} {fk fl sv : Nat → Int32} {st : Nat} {rg rs : Nat → Int32} {pt : UInt32} {sc cy : Nat → Int32} (h : rC z fr en fk fl sv st rg rs pt sc cy) : ∀ i, i < gN z → fk (fr + i) = gK z i ∧ fl (fr + i) = gL z i := h.2.2.1
theorem rC_S {z : Sg} {fr en : Nat} {fk fl sv : Nat → Int32} {st : Nat} {rg rs : Nat → Int32} {pt : UInt32} {sc cy : Nat → Int32} (h : rC z fr en fk fl sv st rg rs pt sc cy) : ∀ j, j < 8 → sv j = gS z j := h.2.2.2.1
theorem rC_T {z : Sg} {fr en : Nat} {fk fl sv : Nat → Int32} {st : Nat} {rg rs : Nat → Int32} {pt : UInt32} {sc cy : Nat → Int32} (h : rC z fr en fk fl sv st rg rs pt sc cy) : st = gT z := h.2.2.2.2.1
theorem rC_R {z : Sg} {fr en : Nat} {fk fl sv : Nat → Int32} {st : Nat} {rg rs : Nat → Int32} {pt : UInt32} {sc cy : Nat → Int32} (h : rC z fr en fk fl sv st rg rs pt sc cy) : ∀ j, j < 10 → rg j = gR z j := h.2.2.2.2.2.1
theorem rC_B {z : Sg} {fr en : Nat} {fk fl sv : Nat → Int32} {st : Nat} {rg rs : Nat → Int32} {pt : UInt32} {sc cy : Nat → Int32} (h : rC z fr en fk fl sv st rg rs pt sc cy) : ∀ j, j < 8 → rs j = gB z j := h.2.2.2.2.2.2.1
theorem rC_P {z : Sg} {fr en : Nat} {fk fl sv : Nat → Int32} {st : Nat} {rg rs : Nat → Int32} {pt : UInt32} {sc cy : Nat → Int32} (h : rC z fr en fk fl sv st rg rs pt sc cy) : pt = gP z := h.2.2.2.2.2.2.2.1
theorem rC_c {z : Sg} {fr en : Nat} {fk fl sv : Nat → Int32} {st : Nat} {rg rs : Nat → Int32} {pt : UInt32} {sc cy : Nat → Int32} (h : rC z fr en fk fl sv st rg rs pt sc cy) : sc 0 = gV z ∧ sc 1 = gC z 7 ∧ sc 2 = gC z 8 ∧ ∀ j, j < 7 → sc (3 + j) = gC z j := h.2.2.2.2.2.2.2.2.1
theorem rC_A {z : Sg} {fr en : Nat} {fk fl sv : Nat → Int32} {st : Nat} {rg rs : Nat → Int32} {pt : UInt32} {sc cy : Nat → Int32} (h : rC z fr en fk fl sv st rg rs pt sc cy) : ∀ j, j < 6 → gA z j = if cy 4 = nI 0 then (-1) else cyN (cy 0) (cy 1) (cy 6) (cy 5) (cy 3) (cy 4) j := h.2.2.2.2.2.2.2.2.2.1
theorem rC_L {z : Sg} {fr en : Nat} {fk fl sv : Nat → Int32} {st : Nat} {rg rs : Nat → Int32} {pt : UInt32} {sc cy : Nat → Int32} (h : rC z fr en fk fl sv st rg rs pt sc cy) : cy 7 = nI 0 ∨ cy 7 = nI 1 := h.2.2.2.2.2.2.2.2.2.2
theorem rC_s {z : Sg} {fr en : Nat} {fk fl sv : Nat → Int32} {st : Nat} {rg rs : Nat → Int32} {pt : UInt32} {sc cy : Nat → Int32} (h : rC z fr en fk fl sv st rg rs pt sc cy) : sc 2 = nI 0 ∨ sc 2 = nI 1 := by rw [(rC_c h).2.2.1]; exact h.1.2.2.2.2.2.2.2.1
theorem rC_cp {z : Sg} {fr en : Nat} {fk fl sv : Nat → Int32} {st : Nat} {rg rs : Nat → Int32} {pt : UInt32} {sc cy : Nat → Int32} (h : rC z fr en fk fl sv st rg rs pt sc cy) {ck cl cv cr cb : Nat → Int32} (c1 : ∀ j, j < en - fr → ck j = fk (fr + j)) (c2 : ∀ j, j < en - fr → cl j = fl (fr + j)) (c3 : ∀ j, j < 8 → cv j = sv j) (c4 : ∀ j, j < 10 → cr j = rg j) (c5 : ∀ j, j < 8 → cb j = rs j) : rC z 0 (en - fr) ck cl cv st cr cb pt sc cy := by
  obtain ⟨hO, ⟨a1, a2, a3⟩, hw, hs, hst, hrg, hrs, hpt, hc, hl⟩ := h
  refine ⟨hO, ⟨Nat.zero_le _, by omega, by omega⟩, fun i hi => ?_, fun j hj => (c3 j hj).trans (hs j hj), hst, fun j hj => (c4 j hj).trans (hrg j hj), fun j hj => (c5 j hj).trans (hrs j hj), hpt, hc, hl⟩
  rw [Nat.zero_add, c1 i (by omega), c2 i (by omega)]
  exact hw i hi
theorem rC_rng {z : Sg} {fr en : Nat} {fk fl sv : Nat → Int32} {st : Nat} {rg rs : Nat → Int32} {pt : UInt32} {sc cy : Nat → Int32} (h : rC z fr en fk fl sv st rg rs pt sc cy) {n : Nat} {gk : Nat → Int32} {c1 c2 : Int32} (h1 : 1 ≤ n) (h2 : n ≤ 10) (g1 : ∀ j, j < 10 → gk j = (-1)) (hL : (c1, c2) = lvS (gR z) (gT z) (gC z 1, gC z 2)) : rC (rngS z n) fr en fk fl sv n gk rs pt (lf [sc 0, sc 1, sc 2, sc 3, c1, c2, sc 6, sc 7, sc 8, sc 9]) cy := by
  have hO := rngS_OK h.1 h1 h2
  obtain ⟨-, hn, hw, hs, hst, hrg, hrs, hpt, ⟨b0, b1, b2, b3⟩, hl, hm⟩ := h
  have e : ∀ j, j < 9 → gC (rngS z n) j = if j = 2 then c2 else if j = 1 then c1 else gC z j := fun j hj => by
    show upd (upd (gC z) 1 (lvS (gR z) (gT z) (gC z 1, gC z 2)).1) 2 (lvS (gR z) (gT z) (gC z 1, gC z 2)).2 j = _
    rw [← hL]
    by_cases e2 : j = 2
    · subst e2; rw [pk_us]; rfl
    · rw [pk_un e2, if_neg e2]
      by_cases e1 : j = 1
      · subst e1; rw [pk_us]; rfl
      · rw [pk_un e1, if_neg e1]
  refine ⟨hO, hn, hw, hs, rfl, fun j hj => g1 j hj, hrs, hpt, ⟨b0, ?_, ?_, fun j hj => ?_⟩, hl, hm⟩
  · rw [e 7 (by decide)]; exact b1
  · rw [e 8 (by decide)]; exact b2
  · rw [e j (by omega)]
    rcases (show j = 0 ∨ j = 1 ∨ j = 2 ∨ j = 3 ∨ j = 4 ∨ j = 5 ∨ j = 6 by omega) with rfl | rfl | rfl | rfl | rfl | rfl | rfl
    · exact b3 0 (by decide)
    · rfl
    · rfl
    · exact b3 3 (by decide)
    · exact b3 4 (by decide)
    · exact b3 5 (by decide)
    · exact b3 6 (by decide)
theorem rC_lf {z : Sg} {fr en : Nat} {fk fl sv : Nat → Int32} {st : Nat} {rg rs : Nat → Int32} {pt : UInt32} {sc cy : Nat → Int32} (h : rC z fr en fk fl sv st rg rs pt sc cy) : rC z fr en fk fl sv st rg rs pt (lf [sc 0, sc 1, sc 2, sc 3, sc 4, sc 5, sc 6, sc 7, sc 8, sc 9]) (lf [cy 0, cy 1, cy 2, cy 3, cy 4, cy 5, cy 6, cy 7]) := by
  obtain ⟨hO, hn, hw, hs, hst, hrg, hrs, hpt, ⟨b0, b1, b2, b3⟩, hl, hm⟩ := h
  refine ⟨hO, hn, hw, hs, hst, hrg, hrs, hpt, ⟨b0, b1, b2, fun j hj => ?_⟩, hl, hm⟩
  have := b3 j hj
  rcases (show j = 0 ∨ j = 1 ∨ j = 2 ∨ j = 3 ∨ j = 4 ∨ j = 5 ∨ j = 6 by omega) with rfl | rfl | rfl | rfl | rfl | rfl | rfl <;> exact this
