/-! the entry: classes, arrays, nests, statics -/
set_option maxHeartbeats 4000000 in
set_option maxRecDepth 100000 in
theorem ee_start {p : Program} {s : State} {m : MethodId} {meth : Method} {c : Code} {b L : Nat} {xs : Nat → Int32} (C0 : lw_At p s m meth c b L xs) : ∃ E : ee_T, ee_V E (fun q : Nat => s.heap.size ≤ q) s s.heap := by
  obtain ⟨-, -, -, -, -, hts0, -, -, -, hgv⟩ := C0
  have hts : ∀ w ∈ wsL_law, w.before #[Value.ref b] s = true := fun w h => hts0 w (wsL_law_in w h)
  obtain ⟨c0, j0, hK0⟩ := u_known (C := RX0) (T := TX0) (N := 8) (n := 8) hts inlX0 (hts (Cond.instantiable RX0 8) (List.mem_of_getElem? (i := 67) (by decide +kernel)))
  obtain ⟨c1, j1, hK1⟩ := u_known (C := RX1) (T := TX1) (N := 4) (n := 4) hts inlX1 (hts (Cond.instantiable RX1 4) (List.mem_of_getElem? (i := 35) (by decide +kernel)))
  obtain ⟨c2, j2, hK2⟩ := u_known (C := RX2) (T := TX2) (N := 16) (n := 16) hts inlX2 (hts (Cond.instantiable RX2 16) (List.mem_of_getElem? (i := 17) (by decide +kernel)))
  obtain ⟨c3, j3, hK3⟩ := u_known (C := RX3) (T := TX3) (N := 8) (n := 8) hts inlX3 (hts (Cond.instantiable RX3 8) (List.mem_of_getElem? (i := 11) (by decide +kernel)))
  obtain ⟨c4, j4, hK4⟩ := u_known (C := RX4) (T := TX4) (N := 2) (n := 2) hts inlX4 (hts (Cond.instantiable RX4 2) (List.mem_of_getElem? (i := 63) (by decide +kernel)))
  obtain ⟨c5, j5, hK5⟩ := u_known (C := RX5) (T := TX5) (N := 1) (n := 1) hts inlX5 (hts (Cond.instantiable RX5 1) (List.mem_of_getElem? (i := 59) (by decide +kernel)))
  obtain ⟨c6, j6, hK6⟩ := u_known (C := RX6) (T := TX6) (N := 2) (n := 2) hts inlX6 (hts (Cond.instantiable RX6 2) (List.mem_of_getElem? (i := 22) (by decide +kernel)))
  obtain ⟨c7, j7, hK7⟩ := u_known (C := RX7) (T := TX7) (N := 2) (n := 2) hts inlX7 (hts (Cond.instantiable RX7 2) (List.mem_of_getElem? (i := 31) (by decide +kernel)))
  obtain ⟨c8, j8, hK8⟩ := u_known (C := RX8) (T := TX8) (N := 6) (n := 6) hts inlX8 (hts (Cond.instantiable RX8 6) (List.mem_of_getElem? (i := 1) (by decide +kernel)))
  obtain ⟨dC, dI, hKc⟩ : ∃ (dC : Nat → ClassId) (dI : Nat → Nat → Nat), ∀ (k : Nat) (q : vw_C), vwCl[k]? = some q → u_Kn s q.1 q.2.1 q.2.2 (dC k) (dI k) := by
    refine ⟨fun k => if k = 0 then c0 else if k = 1 then c1 else if k = 2 then c2 else if k = 3 then c3 else if k = 4 then c4 else if k = 5 then c5 else if k = 6 then c6 else if k = 7 then c7 else c8, fun k => if k = 0 then j0 else if k = 1 then j1 else if k = 2 then j2 else if k = 3 then j3 else if k = 4 then j4 else if k = 5 then j5 else if k = 6 then j6 else if k = 7 then j7 else j8, ?_⟩
    intro k q hq
    match k, hq with
    | 0, hq => cases hq; exact hK0
    | 1, hq => cases hq; exact hK1
    | 2, hq => cases hq; exact hK2
    | 3, hq => cases hq; exact hK3
    | 4, hq => cases hq; exact hK4
    | 5, hq => cases hq; exact hK5
    | 6, hq => cases hq; exact hK6
    | 7, hq => cases hq; exact hK7
    | 8, hq => cases hq; exact hK8
    | k + 9, hq => simp [vwCl] at hq
  obtain ⟨cI, kI, mI, fI1, fI2, fI3⟩ := Cond.arrayClass_spec (type := .int) (hts0 (Cond.arrayClass .int) (List.mem_of_getElem? (i := 78) (by decide +kernel)))
  obtain ⟨cB, kB, mB, fB1, fB2, fB3⟩ := Cond.arrayClass_spec (type := .byte) (hts0 (Cond.arrayClass .byte) (List.mem_of_getElem? (i := 58) (by decide +kernel)))
  have hs := flat_of_before _ hgv
  obtain ⟨tL, eL, hTL⟩ := va_Tof (s := s) (args := #[Value.ref b]) (tm := (.static "LabelApplicator$Settings" "LEAST" "[I")) (ty := .int) (N := 8) (f := ee_fL) (A := fun q : Nat => s.heap.size ≤ q) (by decide) (hs (Cond.arrayOf (.static "LabelApplicator$Settings" "LEAST" "[I") .int) (by decide +kernel)) (va_eqt (hs (Cond.eq (.length (.static "LabelApplicator$Settings" "LEAST" "[I")) (.int 8)) (by decide +kernel))) (fun j hj => by
    rcases (show j = 0 ∨ j = 1 ∨ j = 2 ∨ j = 3 ∨ j = 4 ∨ j = 5 ∨ j = 6 ∨ j = 7 by omega) with rfl | rfl | rfl | rfl | rfl | rfl | rfl | rfl
    · exact va_eqt (hs (Cond.eq (.elem (.static "LabelApplicator$Settings" "LEAST" "[I") (.int 0)) (.int 1)) (by decide +kernel))
    · exact va_eqt (hs (Cond.eq (.elem (.static "LabelApplicator$Settings" "LEAST" "[I") (.int 1)) (.int 0)) (by decide +kernel))
    · exact va_eqt (hs (Cond.eq (.elem (.static "LabelApplicator$Settings" "LEAST" "[I") (.int 2)) (.int 10)) (by decide +kernel))
    · exact va_eqt (hs (Cond.eq (.elem (.static "LabelApplicator$Settings" "LEAST" "[I") (.int 3)) (.int 1)) (by decide +kernel))
    · exact va_eqt (hs (Cond.eq (.elem (.static "LabelApplicator$Settings" "LEAST" "[I") (.int 4)) (.int 1)) (by decide +kernel))
    · exact va_eqt (hs (Cond.eq (.elem (.static "LabelApplicator$Settings" "LEAST" "[I") (.int 5)) (.int 0)) (by decide +kernel))
    · exact va_eqt (hs (Cond.eq (.elem (.static "LabelApplicator$Settings" "LEAST" "[I") (.int 6)) (.int 0)) (by decide +kernel))
    · exact va_eqt (hs (Cond.eq (.elem (.static "LabelApplicator$Settings" "LEAST" "[I") (.int 7)) (.int 1)) (by decide +kernel))
    ) (fun a h => Nat.not_le.mpr h)
  have hZL := va_Zof (C := RX5) (n := "LEAST") (d := "[I") (hts0 (Cond.laysStatic "LabelApplicator$Settings" "LEAST" "[I") (List.mem_of_getElem? (i := 391) (by decide +kernel))) (hts0 (Cond.initialized "LabelApplicator$Settings") (List.mem_of_getElem? (i := 24) (by decide +kernel))) eL (A := fun q : Nat => s.heap.size ≤ q) (fun a h => Nat.not_le.mpr h)
  obtain ⟨tG, eG, hTG⟩ := va_Tof (s := s) (args := #[Value.ref b]) (tm := (.static "LabelApplicator$Settings" "GREATEST" "[I")) (ty := .int) (N := 8) (f := ee_fG) (A := fun q : Nat => s.heap.size ≤ q) (by decide) (hs (Cond.arrayOf (.static "LabelApplicator$Settings" "GREATEST" "[I") .int) (by decide +kernel)) (va_eqt (hs (Cond.eq (.length (.static "LabelApplicator$Settings" "GREATEST" "[I")) (.int 8)) (by decide +kernel))) (fun j hj => by
    rcases (show j = 0 ∨ j = 1 ∨ j = 2 ∨ j = 3 ∨ j = 4 ∨ j = 5 ∨ j = 6 ∨ j = 7 by omega) with rfl | rfl | rfl | rfl | rfl | rfl | rfl | rfl
    · exact va_eqt (hs (Cond.eq (.elem (.static "LabelApplicator$Settings" "GREATEST" "[I") (.int 0)) (.int 30)) (by decide +kernel))
    · exact va_eqt (hs (Cond.eq (.elem (.static "LabelApplicator$Settings" "GREATEST" "[I") (.int 1)) (.int 50)) (by decide +kernel))
    · exact va_eqt (hs (Cond.eq (.elem (.static "LabelApplicator$Settings" "GREATEST" "[I") (.int 2)) (.int 400)) (by decide +kernel))
    · exact va_eqt (hs (Cond.eq (.elem (.static "LabelApplicator$Settings" "GREATEST" "[I") (.int 3)) (.int 1000)) (by decide +kernel))
    · exact va_eqt (hs (Cond.eq (.elem (.static "LabelApplicator$Settings" "GREATEST" "[I") (.int 4)) (.int 1000)) (by decide +kernel))
    · exact va_eqt (hs (Cond.eq (.elem (.static "LabelApplicator$Settings" "GREATEST" "[I") (.int 5)) (.int 100)) (by decide +kernel))
    · exact va_eqt (hs (Cond.eq (.elem (.static "LabelApplicator$Settings" "GREATEST" "[I") (.int 6)) (.int 8)) (by decide +kernel))
    · exact va_eqt (hs (Cond.eq (.elem (.static "LabelApplicator$Settings" "GREATEST" "[I") (.int 7)) (.int 9)) (by decide +kernel))
    ) (fun a h => Nat.not_le.mpr h)
  have hZG := va_Zof (C := RX5) (n := "GREATEST") (d := "[I") (hts0 (Cond.laysStatic "LabelApplicator$Settings" "GREATEST" "[I") (List.mem_of_getElem? (i := 397) (by decide +kernel))) (hts0 (Cond.initialized "LabelApplicator$Settings") (List.mem_of_getElem? (i := 24) (by decide +kernel))) eG (A := fun q : Nat => s.heap.size ≤ q) (fun a h => Nat.not_le.mpr h)
  refine ⟨((dC, dI), (cI, cB, cI), (tL, tG)), ⟨hKc, fun k q hk => ?_⟩, ⟨va_Nw.of rfl (hts0 (Cond.methodLinkNest RX2 34 yX0_init "LabelApplicator") (List.mem_of_getElem? (i := 147) (by decide +kernel))), va_Nw.of rfl (hts0 (Cond.methodLinkNest RX3 102 yX8_isWithin "LabelApplicator") (List.mem_of_getElem? (i := 325) (by decide +kernel))), va_Nw.of rfl (hts0 (Cond.methodLinkNest RX5 15 yX8_isWithin "LabelApplicator") (List.mem_of_getElem? (i := 385) (by decide +kernel)))⟩, ⟨hZL, hTL⟩, hZG, hTG⟩
  match k, hk with
  | 0, hk => cases hk; exact ⟨fun n z => ⟨fun k h => (by cases h), kI, fI2, mI, fI3⟩, fI1⟩
  | 1, hk => cases hk; exact ⟨fun n z => ⟨fun k h => (by cases h), kB, fB2, mB, fB3⟩, fB1⟩
  | k + 2, hk => simp [ee_ty] at hk
