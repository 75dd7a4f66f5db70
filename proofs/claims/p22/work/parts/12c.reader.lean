/-! the reader: parts -/
abbrev rmX3_readPart : Room := ({ frames := 4, cells := 0, slots := 0, locals := 91 } : Room)
theorem w1_X3_readPart : Cond.fieldLink RX3 46 "LabelApplicator$Reader" "at" "I" ∈ wsX3_readPart := List.mem_of_getElem? (i := 1) (by decide +kernel)
theorem w2_X3_readPart : Cond.fieldLink RX3 39 "LabelApplicator$Reader" "fault" "I" ∈ wsX3_readPart := List.mem_of_getElem? (i := 2) (by decide +kernel)
theorem w3_X3_readPart : Cond.fieldLink RX3 12 "LabelApplicator$Reader" "text" "LLabelApplicator$Text;" ∈ wsX3_readPart := List.mem_of_getElem? (i := 3) (by decide +kernel)
theorem w4_X3_readPart : Cond.methodLink RX3 65 yX3_digitAt ∈ wsX3_readPart := List.mem_of_getElem? (i := 4) (by decide +kernel)
theorem w7_X3_readPart : Cond.initialized RX3 ∈ wsX3_readPart := List.mem_of_getElem? (i := 7) (by decide +kernel)
theorem w9_X3_readPart : Cond.methodLink RX3 55 yX7_byteAt ∈ wsX3_readPart := List.mem_of_getElem? (i := 9) (by decide +kernel)
theorem w12_X3_readPart : Cond.initialized RX7 ∈ wsX3_readPart := List.mem_of_getElem? (i := 12) (by decide +kernel)
theorem w17_X3_readPart : Cond.initialized RX8 ∈ wsX3_readPart := List.mem_of_getElem? (i := 17) (by decide +kernel)
theorem w19_X3_readPart : Cond.methodLink RX3 68 yX3_readTimes ∈ wsX3_readPart := List.mem_of_getElem? (i := 19) (by decide +kernel)
theorem w23_X3_readPart : Cond.methodLink RX3 79 yX3_readNumber ∈ wsX3_readPart := List.mem_of_getElem? (i := 23) (by decide +kernel)
theorem w27_X3_readPart : Cond.methodLink RX3 49 yX3_skipBlanks ∈ wsX3_readPart := List.mem_of_getElem? (i := 27) (by decide +kernel)
theorem w31_X3_readPart : Cond.fieldLink RX3 52 "LabelApplicator$Text" "length" "I" ∈ wsX3_readPart := List.mem_of_getElem? (i := 31) (by decide +kernel)
theorem w32_X3_readPart : Cond.methodLink RX3 72 yX3_openParenthesis ∈ wsX3_readPart := List.mem_of_getElem? (i := 32) (by decide +kernel)
theorem w36_X3_readPart : Cond.fieldLink RX3 43 "LabelApplicator$Reader" "depth" "I" ∈ wsX3_readPart := List.mem_of_getElem? (i := 36) (by decide +kernel)
theorem w37_X3_readPart : Cond.fieldLink RX3 25 "LabelApplicator$Reader" "firstInside" "[I" ∈ wsX3_readPart := List.mem_of_getElem? (i := 37) (by decide +kernel)
theorem w38_X3_readPart : Cond.fieldLink RX3 29 "LabelApplicator$Reader" "timesInside" "[I" ∈ wsX3_readPart := List.mem_of_getElem? (i := 38) (by decide +kernel)
theorem w39_X3_readPart : Cond.fieldLink RX3 21 "LabelApplicator$Reader" "items" "LLabelApplicator$Items;" ∈ wsX3_readPart := List.mem_of_getElem? (i := 39) (by decide +kernel)
theorem w40_X3_readPart : Cond.methodLink RX3 85 yX1_size ∈ wsX3_readPart := List.mem_of_getElem? (i := 40) (by decide +kernel)
theorem w43_X3_readPart : Cond.initialized RX1 ∈ wsX3_readPart := List.mem_of_getElem? (i := 43) (by decide +kernel)
theorem w47_X3_readPart : Cond.methodLink RX3 76 yX3_readItem ∈ wsX3_readPart := List.mem_of_getElem? (i := 47) (by decide +kernel)
theorem w51_X3_readPart : Cond.fieldLink RX3 35 "LabelApplicator$Reader" "tooMany" "Z" ∈ wsX3_readPart := List.mem_of_getElem? (i := 51) (by decide +kernel)
theorem w52_X3_readPart : Cond.methodLink RX3 82 yX3_kindNamed ∈ wsX3_readPart := List.mem_of_getElem? (i := 52) (by decide +kernel)
theorem w55_X3_readPart : Cond.methodLink RX3 88 yX1_append ∈ wsX3_readPart := List.mem_of_getElem? (i := 55) (by decide +kernel)
theorem w61_X3_readPart : Cond.methodLink RX3 92 yX3_repeat ∈ wsX3_readPart := List.mem_of_getElem? (i := 61) (by decide +kernel)
theorem w65_X3_readPart : Cond.methodLink RX3 96 yX1_kindOf ∈ wsX3_readPart := List.mem_of_getElem? (i := 65) (by decide +kernel)
theorem w69_X3_readPart : Cond.methodLink RX3 99 yX1_lengthOf ∈ wsX3_readPart := List.mem_of_getElem? (i := 69) (by decide +kernel)
theorem i1_X3_readPart : ∀ w ∈ wsX10, w ∈ wsX3_readPart := fun w h => (goodIn_r _ [83, 84, 85, 86] (by decide +kernel) (by decide +kernel) w h).1
theorem i3_X3_readPart : ∀ w ∈ wsX30, w ∈ wsX3_readPart := fun w h => (goodIn_r _ [73, 74, 75, 76, 77, 78, 79, 80] (by decide +kernel) (by decide +kernel) w h).1
theorem i7_X3_readPart : ∀ w ∈ wsX70, w ∈ wsX3_readPart := fun w h => (goodIn_r _ [81, 82] (by decide +kernel) (by decide +kernel) w h).1
set_option maxHeartbeats 4000000 in
set_option maxRecDepth 100000 in
theorem kX3_readPart (l : Launch) (E : ee_T) (o2 r2 o1 r5 r6 : Nat) (tm : Int32) (dp at9 : Nat) (r3 r4 en : Nat) (rk rl : Nat → Int32) (o7 tq : Nat) (tx : Nat → Int32) (fi ti : Nat → Int32) (ss : Ps) (htq : tq ≤ 80) (hat : at9 < 81) (hAe : at9 = pzA ss) (hq : cQ ss tm en rk rl dp fi ti) : CQ l E yX3_readPart wsX3_readPart rmX3_readPart [.ref o2] [(o2, ee_o 3 [.ref o1, .ref r2, .int tm, .int (-1), .ref r5, .ref r6, .int (nI dp), .int (nI at9)]), (r2, ee_o 1 [.ref r3, .ref r4, .int (nI 0), .int (nI en)]), (r3, ee_i E 80 rk), (r4, ee_i E 80 rl), (r5, ee_i E 3 fi), (r6, ee_i E 3 ti), (o1, ee_o 7 [.ref o7, .int (nI tq)]), (o7, ee_b E 80 tx)] (QV E (fun (u : Int32 × Int32 × Nat × Nat × Nat × (Nat → Int32) × (Nat → Int32) × (Nat → Int32) × (Nat → Int32)) => u.2.1 = paF (chA tq tx) ss ∧ (paF (chA tq tx) ss = (-1) → cQ (paP (chA tq tx) ss) u.1 u.2.2.2.2.1 u.2.2.2.2.2.1 u.2.2.2.2.2.2.1 u.2.2.1 u.2.2.2.2.2.2.2.1 u.2.2.2.2.2.2.2.2 ∧ skp (chA tq tx) u.2.2.2.1 = pzA (paP (chA tq tx) ss)) ∧ u.2.2.2.2.1 ≤ 80 ∧ u.2.2.1 ≤ 3 ∧ u.2.2.2.1 ≤ 1000) (fun (u : Int32 × Int32 × Nat × Nat × Nat × (Nat → Int32) × (Nat → Int32) × (Nat → Int32) × (Nat → Int32)) => [(o2, ee_o 3 [.ref o1, .ref r2, .int u.1, .int u.2.1, .ref r5, .ref r6, .int (nI u.2.2.1), .int (nI u.2.2.2.1)]), (r2, ee_o 1 [.ref r3, .ref r4, .int (nI 0), .int (nI u.2.2.2.2.1)]), (r3, ee_i E 80 u.2.2.2.2.2.1), (r4, ee_i E 80 u.2.2.2.2.2.2.1), (r5, ee_i E 3 u.2.2.2.2.2.2.2.1), (r6, ee_i E 3 u.2.2.2.2.2.2.2.2), (o1, ee_o 7 [.ref o7, .int (nI tq)]), (o7, ee_b E 80 tx)])) 0 0 := by
  refine CQ_ofW (cc := cX3_readPart) (maxL := 2) (ret := none) (by decide) rfl (Nat.le_of_ble_eq_true rfl) ?_
  intro p e s m below meth c A Q hQ hx hb hr hml hown hlocks hnm hts hV hA hP hD hS ls hl
  have hl : lv_has ls 2 [(0, .ref o2)] := hl
  have hen := hq.2.2.1
  have hdp := hq.2.1
  have hD3 := hq.1.2.1
  have B_1 : ∀ (ea t0 : Nat) (ft7 : Int32) (H : Heap) (locs : List Loc) (ls : Array Slot), (ft7 = (-1)) → (ea = ptE (chA tq tx) at9) → (t0 = ptT (chA tq tx) at9) → (ptG (chA tq tx) at9 = (-1)) → va_P E.1 vwCl [(o2, ee_o 3 [.ref o1, .ref r2, .int tm, .int ft7, .ref r5, .ref r6, .int (nI dp), .int (nI ea)]), (r2, ee_o 1 [.ref r3, .ref r4, .int (nI 0), .int (nI en)]), (r3, ee_i E 80 rk), (r4, ee_i E 80 rl), (r5, ee_i E 3 fi), (r6, ee_i E 3 ti), (o1, ee_o 7 [.ref o7, .int (nI tq)]), (o7, ee_b E 80 tx)] H → va_D A [(o2, ee_o 3 [.ref o1, .ref r2, .int tm, .int ft7, .ref r5, .ref r6, .int (nI dp), .int (nI ea)]), (r2, ee_o 1 [.ref r3, .ref r4, .int (nI 0), .int (nI en)]), (r3, ee_i E 80 rk), (r4, ee_i E 80 rl), (r5, ee_i E 3 fi), (r6, ee_i E 3 ti), (o1, ee_o 7 [.ref o7, .int (nI tq)]), (o7, ee_b E 80 tx)] → va_S A s.heap H locs → lv_has ls 2 [(0, .ref o2), (1, .int (nI t0))] → W p l e rmX3_readPart s m [.ref o2].toArray below meth c H locs 0 0 Q (F0 m 30 ls []) := by
    intro ea t0 ft7 H locs ls jf je jt jG hP hD hS hl
    subst jf
    have jt9 := ptT_b (by omega) jG
    rw [← jt] at jt9
    have je9 := ptE_b (chA tq tx) at9
    rw [← je] at je9
    refine lv_aload_n hx hb dX3_readPart_30 rfl (lv_at hl 0 rfl) ?_
    refine va_get (ci := 3) (v := .ref o1) (C := RX3) (T := TX3) (N := 8) hx hb hts i3_X3_readPart hown hV.1 hP 0 rfl rfl 0 (by decide) (hts _ w3_X3_readPart) (fun _ h9 => h9) rfl dX3_readPart_31 ?_
    refine lv_aload_n hx hb dX3_readPart_34 rfl (lv_at hl 0 rfl) ?_
    refine va_get (ci := 3) (v := .int (nI ea)) (C := RX3) (T := TX3) (N := 8) hx hb hts i3_X3_readPart hown hV.1 hP 0 rfl rfl 7 (by decide) (hts _ w1_X3_readPart) (fun _ h9 => h9) rfl dX3_readPart_35 ?_
    refine ee_ki (wr := [(o2, ee_o 3 [.ref o1, .ref r2, .int tm, .int (-1), .ref r5, .ref r6, .int (nI dp), .int (nI ea)]), (r2, ee_o 1 [.ref r3, .ref r4, .int (nI 0), .int (nI en)]), (r3, ee_i E 80 rk), (r4, ee_i E 80 rl), (r5, ee_i E 3 fi), (r6, ee_i E 3 ti)]) (ee_rV (As := [.int (nI ea)]) (rest := []) (kX7_byteAt l E o1 o7 tq tx ea (by omega) (by omega)) hx hb hml hown hts 1 gX3_readPart_X7_byteAt rfl rfl rfl (by decide +kernel) ⟨Nat.le_of_ble_eq_true rfl, Nat.le_of_ble_eq_true rfl⟩ hV hP hD hS hA [6, 7] rfl (by decide) hl 6 rfl rfl rfl rfl (Nat.le_of_ble_eq_true rfl) dX3_readPart_38 ⟨Nat.le_of_ble_eq_true rfl, Nat.le_of_ble_eq_true rfl⟩) hP hD hS hA [6, 7] [0, 1, 2, 3, 4, 5] rfl rfl (by decide) (by decide) (fun r_2 u_3 H locs hp_4 hP hD hS => ?_)
    subst hp_4
    have hP : va_P E.1 vwCl [(o2, ee_o 3 [.ref o1, .ref r2, .int tm, .int (-1), .ref r5, .ref r6, .int (nI dp), .int (nI ea)]), (r2, ee_o 1 [.ref r3, .ref r4, .int (nI 0), .int (nI en)]), (r3, ee_i E 80 rk), (r4, ee_i E 80 rl), (r5, ee_i E 3 fi), (r6, ee_i E 3 ti), (o1, ee_o 7 [.ref o7, .int (nI tq)]), (o7, ee_b E 80 tx)] H := hP
    have hD : va_D A [(o2, ee_o 3 [.ref o1, .ref r2, .int tm, .int (-1), .ref r5, .ref r6, .int (nI dp), .int (nI ea)]), (r2, ee_o 1 [.ref r3, .ref r4, .int (nI 0), .int (nI en)]), (r3, ee_i E 80 rk), (r4, ee_i E 80 rl), (r5, ee_i E 3 fi), (r6, ee_i E 3 ti), (o1, ee_o 7 [.ref o7, .int (nI tq)]), (o7, ee_b E 80 tx)] := hD
    refine ee_to (z := chA tq tx ea) (rfl) ?_
    refine lv_bipush (v := nI 40) hx hb dX3_readPart_41 (by decide) ?_
    refine lv_icmp_ne (tgt := 54) hx hb dX3_readPart_43 (by decide) (fun g43 => ?_) (fun g43 => ?_)
    · refine lv_aload_n hx hb dX3_readPart_54 rfl (lv_at hl 0 rfl) ?_
      refine lv_iload_n hx hb dX3_readPart_55 rfl (lv_at hl 1 rfl) ?_
      refine ee_kv (wr := [(r5, ee_i E 3 fi), (r6, ee_i E 3 ti)]) (ee_rV (As := [.int (nI t0)]) (rest := []) (kX3_readItem l E o2 r2 o1 r5 r6 tm dp ea r3 r4 en rk rl o7 tq tx t0 (by omega) (by omega) (by omega) jt9) hx hb hml hown hts 1 gX3_readPart_X3_readItem rfl rfl rfl (by decide +kernel) ⟨Nat.le_of_ble_eq_true rfl, Nat.le_of_ble_eq_true rfl⟩ hV hP hD hS hA [0, 1, 2, 3, 6, 7] rfl (by decide) hl 0 rfl rfl rfl rfl (Nat.le_of_ble_eq_true rfl) dX3_readPart_56 ⟨Nat.le_of_ble_eq_true rfl, Nat.le_of_ble_eq_true rfl⟩) hP hD hS hA [0, 1, 2, 3, 6, 7] [4, 5] rfl rfl (by decide) (by decide) (fun u_6 H locs hq9 hP hD hS => ?_)
      obtain ⟨tm9, ft9, at7, en9, gk, gl⟩ := u_6
      try dsimp only at hq9
      have hP : va_P E.1 vwCl [(r5, ee_i E 3 fi), (r6, ee_i E 3 ti), (o2, ee_o 3 [.ref o1, .ref r2, .int tm9, .int ft9, .ref r5, .ref r6, .int (nI dp), .int (nI at7)]), (r2, ee_o 1 [.ref r3, .ref r4, .int (nI 0), .int (nI en9)]), (r3, ee_i E 80 gk), (r4, ee_i E 80 gl), (o1, ee_o 7 [.ref o7, .int (nI tq)]), (o7, ee_b E 80 tx)] H := hP
      have hD : va_D A [(r5, ee_i E 3 fi), (r6, ee_i E 3 ti), (o2, ee_o 3 [.ref o1, .ref r2, .int tm9, .int ft9, .ref r5, .ref r6, .int (nI dp), .int (nI at7)]), (r2, ee_o 1 [.ref r3, .ref r4, .int (nI 0), .int (nI en9)]), (r3, ee_i E 80 gk), (r4, ee_i E 80 gl), (o1, ee_o 7 [.ref o7, .int (nI tq)]), (o7, ee_b E 80 tx)] := hD
      obtain ⟨q3, q4, q5, q6⟩ := hq9
      try simp only at q3 q4 q5 q6
      have hF : ft9 = paF (chA tq tx) ss := by rw [paF, ← hAe, jG, if_pos rfl, ← je, if_neg g43]; exact q3
      have hP9 : paF (chA tq tx) ss = (-1) → cQ (paP (chA tq tx) ss) tm9 en9 gk gl dp fi ti ∧ skp (chA tq tx) at7 = pzA (paP (chA tq tx) ss) := fun q => by
          have q6 : itF (chA tq tx) ea = (-1) := q3.symm.trans (hF.trans q)
          obtain ⟨k1, k2⟩ := q4 q6
          rw [paP, ← hAe, ← je, if_neg g43, ← jt]
          exact ⟨cQ_it hq jt9 (by omega) q6 k2, congrArg (skp (chA tq tx)) k1⟩
      exact ee_fv hQ hx hb hr hlocks hS (tm9, ft9, dp, at7, en9, gk, gl, fi, ti) (⟨hF, hP9, q5, by (try dsimp only); omega, by (try dsimp only); omega⟩) (hP.sub [2, 3, 4, 5, 0, 1, 6, 7] rfl) (hD.sub [2, 3, 4, 5, 0, 1, 6, 7] (by decide) rfl) dX3_readPart_59
    · refine lv_aload_n hx hb dX3_readPart_46 rfl (lv_at hl 0 rfl) ?_
      refine lv_iload_n hx hb dX3_readPart_47 rfl (lv_at hl 1 rfl) ?_
      refine ee_kv (wr := [(r3, ee_i E 80 rk), (r4, ee_i E 80 rl), (o1, ee_o 7 [.ref o7, .int (nI tq)]), (o7, ee_b E 80 tx)]) (ee_rV (As := [.int (nI t0)]) (rest := []) (kX3_openParenthesis l E o2 r2 o1 r5 r6 tm (-1) dp ea r3 r4 en fi ti t0 (by omega) (by omega) (by omega)) hx hb hml hown hts 1 gX3_readPart_X3_openParenthesis rfl rfl rfl (by decide +kernel) ⟨Nat.le_of_ble_eq_true rfl, Nat.le_of_ble_eq_true rfl⟩ hV hP hD hS hA [0, 1, 4, 5] rfl (by decide) hl 0 rfl rfl rfl rfl (Nat.le_of_ble_eq_true rfl) dX3_readPart_48 ⟨Nat.le_of_ble_eq_true rfl, Nat.le_of_ble_eq_true rfl⟩) hP hD hS hA [0, 1, 4, 5] [2, 3, 6, 7] rfl rfl (by decide) (by decide) (fun u_8 H locs hO hP hD hS => ?_)
      obtain ⟨ft9, dp9, at7, fi9, ti9⟩ := u_8
      try dsimp only at hO
      have hP : va_P E.1 vwCl [(r3, ee_i E 80 rk), (r4, ee_i E 80 rl), (o1, ee_o 7 [.ref o7, .int (nI tq)]), (o7, ee_b E 80 tx), (o2, ee_o 3 [.ref o1, .ref r2, .int tm, .int ft9, .ref r5, .ref r6, .int (nI dp9), .int (nI at7)]), (r2, ee_o 1 [.ref r3, .ref r4, .int (nI 0), .int (nI en)]), (r5, ee_i E 3 fi9), (r6, ee_i E 3 ti9)] H := hP
      have hD : va_D A [(r3, ee_i E 80 rk), (r4, ee_i E 80 rl), (o1, ee_o 7 [.ref o7, .int (nI tq)]), (o7, ee_b E 80 tx), (o2, ee_o 3 [.ref o1, .ref r2, .int tm, .int ft9, .ref r5, .ref r6, .int (nI dp9), .int (nI at7)]), (r2, ee_o 1 [.ref r3, .ref r4, .int (nI 0), .int (nI en)]), (r5, ee_i E 3 fi9), (r6, ee_i E 3 ti9)] := hD
      refine lv_goto (tgt := 59) hx hb dX3_readPart_51 (by decide) ?_
      have hPF : paF (chA tq tx) ss = opF ss ea := by rw [paF, ← hAe, jG, if_pos rfl, ← je, if_pos g43]
      have hPP : paP (chA tq tx) ss = opP (chA tq tx) ss ea t0 := by rw [paP, ← hAe, ← je, if_pos g43, ← jt]
      exact ee_fv hQ hx hb hr hlocks hS (tm, ft9, dp9, at7, en, rk, rl, fi9, ti9) (by
          rw [hPF, hPP]
          rcases hO with ⟨o1, o2, o3, o4, o5, o6⟩ | ⟨o1, o2, o3, o4, o5, o6⟩
          · have o1 := o1; simp only at o1 o2 o3 o4 o5 o6 ⊢
            subst o2 o3 o4 o5 o6
            refine ⟨by rw [opF, if_pos (by rw [← hdp]; exact o1)], fun _ => ⟨cQ_op hq jt9 o1, rfl⟩, by (try dsimp only); omega, by (try dsimp only); omega, by (try dsimp only); omega⟩
          · simp only at o1 o2 o3 o4 o5 o6 ⊢
            subst o2 o3 o4 o5 o6
            have hn : ¬ pzD ss < 3 := by rw [← hdp]; exact o1
            refine ⟨by rw [opF, if_neg hn], fun q => absurd ((by rw [opF, if_neg hn] : opF ss at7 = nI at7).symm.trans q) (nI_m1 (by omega)), by (try dsimp only); omega, by (try dsimp only); omega, by (try dsimp only); omega⟩) (hP.sub [4, 5, 0, 1, 6, 7, 2, 3] rfl) (hD.sub [4, 5, 0, 1, 6, 7, 2, 3] (by decide) rfl) dX3_readPart_59
  refine lv_aload_n hx hb dX3_readPart_0 rfl (lv_at hl 0 rfl) ?_
  refine lv_aload_n hx hb dX3_readPart_1 rfl (lv_at hl 0 rfl) ?_
  refine va_get (ci := 3) (v := .int (nI at9)) (C := RX3) (T := TX3) (N := 8) hx hb hts i3_X3_readPart hown hV.1 hP 0 rfl rfl 7 (by decide) (hts _ w1_X3_readPart) (fun _ h9 => h9) rfl dX3_readPart_2 ?_
  refine ee_ki (wr := [(r2, ee_o 1 [.ref r3, .ref r4, .int (nI 0), .int (nI en)]), (r3, ee_i E 80 rk), (r4, ee_i E 80 rl), (r5, ee_i E 3 fi), (r6, ee_i E 3 ti)]) (ee_rV (As := [.int (nI at9)]) (rest := []) (kX3_digitAt l E o2 r2 o1 r5 r6 tm (-1) dp at9 o7 tq tx at9 (by omega) (by omega)) hx hb hml hown hts 1 gX3_readPart_X3_digitAt rfl rfl rfl (by decide +kernel) ⟨Nat.le_of_ble_eq_true rfl, Nat.le_of_ble_eq_true rfl⟩ hV hP hD hS hA [0, 6, 7] rfl (by decide) hl 0 rfl rfl rfl rfl (Nat.le_of_ble_eq_true rfl) dX3_readPart_5 ⟨Nat.le_of_ble_eq_true rfl, Nat.le_of_ble_eq_true rfl⟩) hP hD hS hA [0, 6, 7] [1, 2, 3, 4, 5] rfl rfl (by decide) (by decide) (fun r_9 u_10 H locs hp_11 hP hD hS => ?_)
  have hP : va_P E.1 vwCl [(r2, ee_o 1 [.ref r3, .ref r4, .int (nI 0), .int (nI en)]), (r3, ee_i E 80 rk), (r4, ee_i E 80 rl), (r5, ee_i E 3 fi), (r6, ee_i E 3 ti), (o2, ee_o 3 [.ref o1, .ref r2, .int tm, .int (-1), .ref r5, .ref r6, .int (nI dp), .int (nI at9)]), (o1, ee_o 7 [.ref o7, .int (nI tq)]), (o7, ee_b E 80 tx)] H := hP
  have hD : va_D A [(r2, ee_o 1 [.ref r3, .ref r4, .int (nI 0), .int (nI en)]), (r3, ee_i E 80 rk), (r4, ee_i E 80 rl), (r5, ee_i E 3 fi), (r6, ee_i E 3 ti), (o2, ee_o 3 [.ref o1, .ref r2, .int tm, .int (-1), .ref r5, .ref r6, .int (nI dp), .int (nI at9)]), (o1, ee_o 7 [.ref o7, .int (nI tq)]), (o7, ee_b E 80 tx)] := hD
  rcases hp_11 with ⟨hd1, rfl, hd1b⟩ | ⟨hd1, rfl⟩
  · refine lv_iconst (v := (-1)) hx hb dX3_readPart_8 (by decide) ?_
    refine lv_icmp_ne (tgt := 16) hx hb dX3_readPart_9 (by decide) (fun h_14 => ?_) (fun h_14 => absurd h_14 (nI_m1 (by omega)))
    refine lv_aload_n hx hb dX3_readPart_16 rfl (lv_at hl 0 rfl) ?_
    refine ee_ki (wr := [(r2, ee_o 1 [.ref r3, .ref r4, .int (nI 0), .int (nI en)]), (r3, ee_i E 80 rk), (r4, ee_i E 80 rl), (r5, ee_i E 3 fi), (r6, ee_i E 3 ti)]) (ee_rV (As := []) (rest := []) (kX3_readTimes l E o2 r2 o1 r5 r6 tm dp at9 o7 tq tx (by omega) (by omega)) hx hb hml hown hts 0 gX3_readPart_X3_readTimes rfl rfl rfl (by decide +kernel) ⟨Nat.le_of_ble_eq_true rfl, Nat.le_of_ble_eq_true rfl⟩ hV hP hD hS hA [5, 6, 7] rfl (by decide) hl 5 rfl rfl rfl rfl (Nat.le_of_ble_eq_true rfl) dX3_readPart_17 ⟨Nat.le_of_ble_eq_true rfl, Nat.le_of_ble_eq_true rfl⟩) hP hD hS hA [5, 6, 7] [0, 1, 2, 3, 4] rfl rfl (by decide) (by decide) (fun r_15 u_16 H locs hp_17 hP hD hS => ?_)
    obtain ⟨at8, ft8⟩ := u_16
    try dsimp only at hp_17
    obtain ⟨rfl, hq8⟩ := hp_17
    have hP : va_P E.1 vwCl [(r2, ee_o 1 [.ref r3, .ref r4, .int (nI 0), .int (nI en)]), (r3, ee_i E 80 rk), (r4, ee_i E 80 rl), (r5, ee_i E 3 fi), (r6, ee_i E 3 ti), (o2, ee_o 3 [.ref o1, .ref r2, .int tm, .int ft8, .ref r5, .ref r6, .int (nI dp), .int (nI at8)]), (o1, ee_o 7 [.ref o7, .int (nI tq)]), (o7, ee_b E 80 tx)] H := hP
    have hD : va_D A [(r2, ee_o 1 [.ref r3, .ref r4, .int (nI 0), .int (nI en)]), (r3, ee_i E 80 rk), (r4, ee_i E 80 rl), (r5, ee_i E 3 fi), (r6, ee_i E 3 ti), (o2, ee_o 3 [.ref o1, .ref r2, .int tm, .int ft8, .ref r5, .ref r6, .int (nI dp), .int (nI at8)]), (o1, ee_o 7 [.ref o7, .int (nI tq)]), (o7, ee_b E 80 tx)] := hD
    obtain ⟨q1, q2⟩ := hq8
    have hE8 : ptE (chA tq tx) at9 = tmE (chA tq tx) at9 := by rw [ptE, if_pos hd1]
    have hE9 := ptE_b (chA tq tx) at9
    rw [hE8] at hE9
    refine lv_istore_n (lv' := [(1, .int (nI (nmV (chA tq tx) at9))), (0, .ref o2)]) hx hb dX3_readPart_20 rfl hl (by decide) rfl (fun ls hl => ?_)
    refine lv_aload_n hx hb dX3_readPart_21 rfl (lv_at hl 1 rfl) ?_
    refine va_get (ci := 3) (v := .int ft8) (C := RX3) (T := TX3) (N := 8) hx hb hts i3_X3_readPart hown hV.1 hP 5 rfl rfl 3 (by decide) (hts _ w2_X3_readPart) (fun _ h9 => h9) rfl dX3_readPart_22 ?_
    refine lv_iconst (v := (-1)) hx hb dX3_readPart_25 (by decide) ?_
    refine lv_icmp_eq (tgt := 30) hx hb dX3_readPart_26 (by decide) (fun g26 => ?_) (fun g26 => ?_)
    · exact B_1 at8 (nmV (chA tq tx) at9) ft8 _ _ _ g26 (by rw [ptE, if_pos hd1]; exact q1) (by rw [ptT, if_pos hd1]) (by rw [ptG, if_pos hd1]; exact q2.symm.trans g26) (hP.sub [5, 0, 1, 2, 3, 4, 6, 7] rfl) (hD.sub [5, 0, 1, 2, 3, 4, 6, 7] (by decide) rfl) hS (lv_sub hl [1, 0] rfl)
    · have hF : ft8 = paF (chA tq tx) ss := by rw [paF, ← hAe, ptG, if_pos hd1, ← q2, if_neg g26]
      exact ee_fv hQ hx hb hr hlocks hS (tm, ft8, dp, at8, en, rk, rl, fi, ti) (⟨hF, fun q => absurd (hF.trans q) g26, by (try dsimp only); omega, by (try dsimp only); omega, by (try dsimp only); omega⟩) (hP.sub [5, 0, 1, 2, 3, 4, 6, 7] rfl) (hD.sub [5, 0, 1, 2, 3, 4, 6, 7] (by decide) rfl) dX3_readPart_29
  · refine lv_iconst (v := (-1)) hx hb dX3_readPart_8 (by decide) ?_
    refine lv_icmp_ne (tgt := 16) hx hb dX3_readPart_9 (by decide) (fun h_19 => absurd rfl h_19) (fun h_19 => ?_)
    refine lv_iconst (v := nI 1) hx hb dX3_readPart_12 (by decide) ?_
    refine lv_goto (tgt := 20) hx hb dX3_readPart_13 (by decide) ?_
    refine lv_istore_n (lv' := [(1, .int (nI 1)), (0, .ref o2)]) hx hb dX3_readPart_20 rfl hl (by decide) rfl (fun ls hl => ?_)
    refine lv_aload_n hx hb dX3_readPart_21 rfl (lv_at hl 1 rfl) ?_
    refine va_get (ci := 3) (v := .int (-1)) (C := RX3) (T := TX3) (N := 8) hx hb hts i3_X3_readPart hown hV.1 hP 5 rfl rfl 3 (by decide) (hts _ w2_X3_readPart) (fun _ h9 => h9) rfl dX3_readPart_22 ?_
    refine lv_iconst (v := (-1)) hx hb dX3_readPart_25 (by decide) ?_
    refine lv_icmp_eq (tgt := 30) hx hb dX3_readPart_26 (by decide) (fun g26 => ?_) (fun g26 => absurd rfl g26)
    exact B_1 at9 1 (-1) _ _ _ rfl (by rw [ptE, hd1]; rfl) (by rw [ptT, hd1]; rfl) (by rw [ptG, hd1]; rfl) (hP.sub [5, 0, 1, 2, 3, 4, 6, 7] rfl) (hD.sub [5, 0, 1, 2, 3, 4, 6, 7] (by decide) rfl) hS (lv_sub hl [1, 0] rfl)
