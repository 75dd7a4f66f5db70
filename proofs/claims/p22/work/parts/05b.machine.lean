/-! Machine: reason, counts, pitch -/
abbrev rmX2_reasonAt : Room := ({ frames := 1, cells := 0, slots := 0, locals := 21 } : Room)
theorem w1_X2_reasonAt : Cond.fieldLink RX2 35 "LabelApplicator$Machine" "cycle" "LLabelApplicator$Cycle;" ∈ wsX2_reasonAt := List.mem_of_getElem? (i := 1) (by decide +kernel)
theorem w2_X2_reasonAt : Cond.fieldLink RX2 142 "LabelApplicator$Cycle" "ending" "I" ∈ wsX2_reasonAt := List.mem_of_getElem? (i := 2) (by decide +kernel)
theorem w3_X2_reasonAt : Cond.fieldLink RX2 196 "LabelApplicator$Cycle" "splices" "I" ∈ wsX2_reasonAt := List.mem_of_getElem? (i := 3) (by decide +kernel)
theorem w4_X2_reasonAt : Cond.fieldLink RX2 199 "LabelApplicator$Cycle" "labels" "I" ∈ wsX2_reasonAt := List.mem_of_getElem? (i := 4) (by decide +kernel)
theorem w5_X2_reasonAt : Cond.fieldLink RX2 148 "LabelApplicator$Cycle" "late" "Z" ∈ wsX2_reasonAt := List.mem_of_getElem? (i := 5) (by decide +kernel)
theorem w6_X2_reasonAt : Cond.fieldLink RX2 65 "LabelApplicator$Machine" "speed" "I" ∈ wsX2_reasonAt := List.mem_of_getElem? (i := 6) (by decide +kernel)
theorem w7_X2_reasonAt : Cond.methodLink RX2 201 Lib.Math.abs.name ∈ wsX2_reasonAt := List.mem_of_getElem? (i := 7) (by decide +kernel)
theorem w8_X2_reasonAt : Cond.static Lib.Math.abs.name ∈ wsX2_reasonAt := List.mem_of_getElem? (i := 8) (by decide +kernel)
theorem w9_X2_reasonAt : Cond.initialized "java/lang/Math" ∈ wsX2_reasonAt := List.mem_of_getElem? (i := 9) (by decide +kernel)
theorem w10_X2_reasonAt : Cond.code Lib.Math.abs.name Lib.Math.abs.code 1 (some .int) ∈ wsX2_reasonAt := List.mem_of_getElem? (i := 10) (by decide +kernel)
theorem w11_X2_reasonAt : Cond.fieldLink RX2 21 "LabelApplicator$Machine" "settings" "LLabelApplicator$Settings;" ∈ wsX2_reasonAt := List.mem_of_getElem? (i := 11) (by decide +kernel)
theorem w12_X2_reasonAt : Cond.methodLink RX2 97 yX5_value ∈ wsX2_reasonAt := List.mem_of_getElem? (i := 12) (by decide +kernel)
theorem w15_X2_reasonAt : Cond.initialized RX5 ∈ wsX2_reasonAt := List.mem_of_getElem? (i := 15) (by decide +kernel)
theorem i0_X2_reasonAt : ∀ w ∈ wsX00, w ∈ wsX2_reasonAt := fun w h => (goodIn_r _ [34, 35, 36, 37, 38, 39, 40, 41] (by decide +kernel) (by decide +kernel) w h).1
theorem i2_X2_reasonAt : ∀ w ∈ wsX20, w ∈ wsX2_reasonAt := fun w h => (goodIn_r _ [18, 19, 20, 21, 22, 23, 24, 25, 26, 27, 28, 29, 30, 31, 32, 33] (by decide +kernel) (by decide +kernel) w h).1
theorem i5_X2_reasonAt : ∀ w ∈ wsX50, w ∈ wsX2_reasonAt := fun w h => (goodIn_r _ [42] (by decide +kernel) (by decide +kernel) w h).1
set_option maxHeartbeats 4000000 in
set_option maxRecDepth 100000 in
theorem kX2_reasonAt (l : Launch) (E : ee_T) (h0 h1 h4 h6 h8 h9 : Nat) (pt : UInt32) (sp ft sq c0 c1 c2 c3 c4 c5 c6 : Int32) (h5 : Nat) (sv : Nat → Int32) (tr lb sc tk ed bl : Nat) (sd rn : Int32) (v : Int32) (hed : ed ≤ 3) (hsm : sc < 1000 ∧ lb < 1000 ∧ bl < 2) (hab : sv 5 < (if 0 ≤ sp - v then sp - v else 0 - (sp - v)) ↔ sv 5 < sp - v ∨ sv 5 < -(sp - v)) : CQ l E yX2_reasonAt wsX2_reasonAt rmX2_reasonAt [.ref h0, .int v] [(h0, ee_o 2 [.ref h1, .ref h4, .ref h6, .ref h8, .ref h9, .float pt, .int sp, .int ft, .int sq, .int c0, .int c1, .int c2, .int c3, .int c4, .int c5, .int c6]), (h4, ee_o 5 [.ref h5]), (h5, ee_i E 8 sv), (h8, ee_o 0 [.int (nI tr), .int (nI lb), .int (nI sc), .int (nI tk), .int (nI ed), .int sd, .int rn, .int (nI bl)])] (QI E (fun (r : Int32) (u : Unit) => r = nI (rsS ed sc lb (bl ≠ 0) sp v (sv 5))) (fun (u : Unit) => [(h0, ee_o 2 [.ref h1, .ref h4, .ref h6, .ref h8, .ref h9, .float pt, .int sp, .int ft, .int sq, .int c0, .int c1, .int c2, .int c3, .int c4, .int c5, .int c6]), (h4, ee_o 5 [.ref h5]), (h5, ee_i E 8 sv), (h8, ee_o 0 [.int (nI tr), .int (nI lb), .int (nI sc), .int (nI tk), .int (nI ed), .int sd, .int rn, .int (nI bl)])])) 0 0 := by
  refine CQ_ofW (cc := cX2_reasonAt) (maxL := 3) (ret := (some .int)) (by decide) rfl (Nat.le_of_ble_eq_true rfl) ?_
  intro p e s m below meth c A Q hQ hx hb hr hml hown hlocks hnm hts hV hA hP hD hS ls hl
  have hl : lv_has ls 3 [(0, .ref h0), (1, .int v)] := hl
  refine lv_aload_n hx hb dX2_reasonAt_0 rfl (lv_at hl 0 rfl) ?_
  refine va_get (ci := 2) (v := .ref h8) (C := RX2) (T := TX2) (N := 16) hx hb hts i2_X2_reasonAt hown hV.1 hP 0 rfl rfl 3 (by decide) (hts _ w1_X2_reasonAt) (fun _ h9 => h9) rfl dX2_reasonAt_1 ?_
  refine va_get (ci := 0) (v := .int (nI ed)) (C := RX0) (T := TX0) (N := 8) hx hb hts i0_X2_reasonAt hown hV.1 hP 3 rfl rfl 4 (by decide) (hts _ w2_X2_reasonAt) (fun _ h9 => h9) rfl dX2_reasonAt_4 ?_
  refine lv_iconst (v := nI 3) hx hb dX2_reasonAt_7 (by decide) ?_
  refine ee_ne (tgt := 13) hx hb (by omega) (by omega) dX2_reasonAt_8 (by decide) (fun ga => ?_) (fun ga => ?_)
  · refine lv_aload_n hx hb dX2_reasonAt_13 rfl (lv_at hl 0 rfl) ?_
    refine va_get (ci := 2) (v := .ref h8) (C := RX2) (T := TX2) (N := 16) hx hb hts i2_X2_reasonAt hown hV.1 hP 0 rfl rfl 3 (by decide) (hts _ w1_X2_reasonAt) (fun _ h9 => h9) rfl dX2_reasonAt_14 ?_
    refine va_get (ci := 0) (v := .int (nI ed)) (C := RX0) (T := TX0) (N := 8) hx hb hts i0_X2_reasonAt hown hV.1 hP 3 rfl rfl 4 (by decide) (hts _ w2_X2_reasonAt) (fun _ h9 => h9) rfl dX2_reasonAt_17 ?_
    refine lv_iconst (v := nI 2) hx hb dX2_reasonAt_20 (by decide) ?_
    refine ee_ne (tgt := 26) hx hb (by omega) (by omega) dX2_reasonAt_21 (by decide) (fun gb => ?_) (fun gb => ?_)
    · refine lv_aload_n hx hb dX2_reasonAt_26 rfl (lv_at hl 0 rfl) ?_
      refine va_get (ci := 2) (v := .ref h8) (C := RX2) (T := TX2) (N := 16) hx hb hts i2_X2_reasonAt hown hV.1 hP 0 rfl rfl 3 (by decide) (hts _ w1_X2_reasonAt) (fun _ h9 => h9) rfl dX2_reasonAt_27 ?_
      refine va_get (ci := 0) (v := .int (nI sc)) (C := RX0) (T := TX0) (N := 8) hx hb hts i0_X2_reasonAt hown hV.1 hP 3 rfl rfl 2 (by decide) (hts _ w3_X2_reasonAt) (fun _ h9 => h9) rfl dX2_reasonAt_30 ?_
      refine ee_le0 (tgt := 38) hx hb (by omega) dX2_reasonAt_33 (by decide) (fun gc => ?_) (fun gc => ?_)
      · refine lv_aload_n hx hb dX2_reasonAt_38 rfl (lv_at hl 0 rfl) ?_
        refine va_get (ci := 2) (v := .ref h8) (C := RX2) (T := TX2) (N := 16) hx hb hts i2_X2_reasonAt hown hV.1 hP 0 rfl rfl 3 (by decide) (hts _ w1_X2_reasonAt) (fun _ h9 => h9) rfl dX2_reasonAt_39 ?_
        refine va_get (ci := 0) (v := .int (nI lb)) (C := RX0) (T := TX0) (N := 8) hx hb hts i0_X2_reasonAt hown hV.1 hP 3 rfl rfl 1 (by decide) (hts _ w4_X2_reasonAt) (fun _ h9 => h9) rfl dX2_reasonAt_42 ?_
        refine ee_ne0 (tgt := 50) hx hb (by omega) dX2_reasonAt_45 (by decide) (fun gd => ?_) (fun gd => ?_)
        · refine lv_aload_n hx hb dX2_reasonAt_50 rfl (lv_at hl 0 rfl) ?_
          refine va_get (ci := 2) (v := .ref h8) (C := RX2) (T := TX2) (N := 16) hx hb hts i2_X2_reasonAt hown hV.1 hP 0 rfl rfl 3 (by decide) (hts _ w1_X2_reasonAt) (fun _ h9 => h9) rfl dX2_reasonAt_51 ?_
          refine va_get (ci := 0) (v := .int (nI lb)) (C := RX0) (T := TX0) (N := 8) hx hb hts i0_X2_reasonAt hown hV.1 hP 3 rfl rfl 1 (by decide) (hts _ w4_X2_reasonAt) (fun _ h9 => h9) rfl dX2_reasonAt_54 ?_
          refine lv_iconst (v := nI 1) hx hb dX2_reasonAt_57 (by decide) ?_
          refine ee_le (tgt := 63) hx hb (by omega) (by omega) dX2_reasonAt_58 (by decide) (fun ge => ?_) (fun ge => ?_)
          · refine lv_aload_n hx hb dX2_reasonAt_63 rfl (lv_at hl 0 rfl) ?_
            refine va_get (ci := 2) (v := .ref h8) (C := RX2) (T := TX2) (N := 16) hx hb hts i2_X2_reasonAt hown hV.1 hP 0 rfl rfl 3 (by decide) (hts _ w1_X2_reasonAt) (fun _ h9 => h9) rfl dX2_reasonAt_64 ?_
            refine va_get (ci := 0) (v := .int (nI bl)) (C := RX0) (T := TX0) (N := 8) hx hb hts i0_X2_reasonAt hown hV.1 hP 3 rfl rfl 7 (by decide) (hts _ w5_X2_reasonAt) (fun _ h9 => h9) rfl dX2_reasonAt_67 ?_
            refine ee_eq0 (tgt := 76) hx hb (by omega) dX2_reasonAt_70 (by decide) (fun gf => ?_) (fun gf => ?_)
            · refine lv_aload_n hx hb dX2_reasonAt_76 rfl (lv_at hl 0 rfl) ?_
              refine va_get (ci := 2) (v := .int sp) (C := RX2) (T := TX2) (N := 16) hx hb hts i2_X2_reasonAt hown hV.1 hP 0 rfl rfl 6 (by decide) (hts _ w6_X2_reasonAt) (fun _ h9 => h9) rfl dX2_reasonAt_77 ?_
              refine lv_iload_n hx hb dX2_reasonAt_80 rfl (lv_at hl 1 rfl) ?_
              refine lv_isub hx hb dX2_reasonAt_81 ?_
              refine va_mabs hx hb (by rw [hml]; exact hl.1.symm) hown (hts _ w7_X2_reasonAt) (hts _ w8_X2_reasonAt) (hts _ w9_X2_reasonAt) (hts _ w10_X2_reasonAt) (Nat.le_of_ble_eq_true rfl) (Nat.le_of_ble_eq_true rfl) (Nat.le_of_ble_eq_true rfl) (Nat.le_of_ble_eq_true rfl) dX2_reasonAt_82 ?_
              refine lv_istore_n (lv' := [(2, .int (if 0 ≤ sp - v then sp - v else 0 - (sp - v))), (0, .ref h0), (1, .int v)]) hx hb dX2_reasonAt_85 rfl hl (by decide) rfl (fun ls hl => ?_)
              refine lv_iload_n hx hb dX2_reasonAt_86 rfl (lv_at hl 0 rfl) ?_
              refine lv_aload_n hx hb dX2_reasonAt_87 rfl (lv_at hl 1 rfl) ?_
              refine va_get (ci := 2) (v := .ref h4) (C := RX2) (T := TX2) (N := 16) hx hb hts i2_X2_reasonAt hown hV.1 hP 0 rfl rfl 1 (by decide) (hts _ w11_X2_reasonAt) (fun _ h9 => h9) rfl dX2_reasonAt_88 ?_
              refine lv_iconst (v := nI 5) hx hb dX2_reasonAt_91 (by decide) ?_
              refine ee_ki (wr := [(h0, ee_o 2 [.ref h1, .ref h4, .ref h6, .ref h8, .ref h9, .float pt, .int sp, .int ft, .int sq, .int c0, .int c1, .int c2, .int c3, .int c4, .int c5, .int c6]), (h8, ee_o 0 [.int (nI tr), .int (nI lb), .int (nI sc), .int (nI tk), .int (nI ed), .int sd, .int rn, .int (nI bl)])]) (ee_rV (As := [.int (nI 5)]) (rest := [.int (if 0 ≤ sp - v then sp - v else 0 - (sp - v))]) (kX5_value l E h4 h5 sv 5 (by omega)) hx hb hml hown hts 1 gX2_reasonAt_X5_value rfl rfl rfl (by decide +kernel) ⟨Nat.le_of_ble_eq_true rfl, Nat.le_of_ble_eq_true rfl⟩ hV hP hD hS hA [1, 2] rfl (by decide) hl 1 rfl rfl rfl rfl (Nat.le_of_ble_eq_true rfl) dX2_reasonAt_92 ⟨Nat.le_of_ble_eq_true rfl, Nat.le_of_ble_eq_true rfl⟩) hP hD hS hA [1, 2] [0, 3] rfl rfl (by decide) (by decide) (fun r_1 u_2 H locs hp_3 hP hD hS => ?_)
              subst hp_3
              have hP : va_P E.1 vwCl [(h0, ee_o 2 [.ref h1, .ref h4, .ref h6, .ref h8, .ref h9, .float pt, .int sp, .int ft, .int sq, .int c0, .int c1, .int c2, .int c3, .int c4, .int c5, .int c6]), (h8, ee_o 0 [.int (nI tr), .int (nI lb), .int (nI sc), .int (nI tk), .int (nI ed), .int sd, .int rn, .int (nI bl)]), (h4, ee_o 5 [.ref h5]), (h5, ee_i E 8 sv)] H := hP
              have hD : va_D A [(h0, ee_o 2 [.ref h1, .ref h4, .ref h6, .ref h8, .ref h9, .float pt, .int sp, .int ft, .int sq, .int c0, .int c1, .int c2, .int c3, .int c4, .int c5, .int c6]), (h8, ee_o 0 [.int (nI tr), .int (nI lb), .int (nI sc), .int (nI tk), .int (nI ed), .int sd, .int rn, .int (nI bl)]), (h4, ee_o 5 [.ref h5]), (h5, ee_i E 8 sv)] := hD
              refine lv_icmp_le (tgt := 103) hx hb dX2_reasonAt_95 (by decide) (fun gg => ?_) (fun gg => ?_)
              · refine lv_iconst (v := nI 0) hx hb dX2_reasonAt_103 (by decide) ?_
                exact ee_fi hQ hx hb hr (rfl) hlocks hS () (by rw [rsS, if_neg ga, if_neg gb, if_neg (by omega), if_neg gd, if_neg (by omega), if_neg (fun q => q gf), if_neg (fun q => Int32.not_lt.mpr gg (hab.mpr q))]) (hP.sub [0, 2, 3, 1] rfl) (hD.sub [0, 2, 3, 1] (by decide) rfl) dX2_reasonAt_104
              · refine lv_bipush (v := nI 7) hx hb dX2_reasonAt_98 (by decide) ?_
                refine lv_goto (tgt := 104) hx hb dX2_reasonAt_100 (by decide) ?_
                exact ee_fi hQ hx hb hr (rfl) hlocks hS () (by rw [rsS, if_neg ga, if_neg gb, if_neg (by omega), if_neg gd, if_neg (by omega), if_neg (fun q => q gf), if_pos (hab.mp (Int32.not_le.mp gg))]) (hP.sub [0, 2, 3, 1] rfl) (hD.sub [0, 2, 3, 1] (by decide) rfl) dX2_reasonAt_104
            · refine lv_bipush (v := nI 6) hx hb dX2_reasonAt_73 (by decide) ?_
              exact ee_fi hQ hx hb hr (rfl) hlocks hS () (by rw [rsS, if_neg ga, if_neg gb, if_neg (by omega), if_neg gd, if_neg (by omega), if_pos gf]) hP hD dX2_reasonAt_75
          · refine lv_iconst (v := nI 5) hx hb dX2_reasonAt_61 (by decide) ?_
            exact ee_fi hQ hx hb hr (rfl) hlocks hS () (by rw [rsS, if_neg ga, if_neg gb, if_neg (by omega), if_neg gd, if_pos (by omega)]) hP hD dX2_reasonAt_62
        · refine lv_iconst (v := nI 4) hx hb dX2_reasonAt_48 (by decide) ?_
          exact ee_fi hQ hx hb hr (rfl) hlocks hS () (by rw [rsS, if_neg ga, if_neg gb, if_neg (by omega), if_pos gd]) hP hD dX2_reasonAt_49
      · refine lv_iconst (v := nI 3) hx hb dX2_reasonAt_36 (by decide) ?_
        exact ee_fi hQ hx hb hr (rfl) hlocks hS () (by rw [rsS, if_neg ga, if_neg gb, if_pos (by omega)]) hP hD dX2_reasonAt_37
    · refine lv_iconst (v := nI 2) hx hb dX2_reasonAt_24 (by decide) ?_
      exact ee_fi hQ hx hb hr (rfl) hlocks hS () (by rw [rsS, if_neg ga, if_pos gb]) hP hD dX2_reasonAt_25
  · refine lv_iconst (v := nI 1) hx hb dX2_reasonAt_11 (by decide) ?_
    exact ee_fi hQ hx hb hr (rfl) hlocks hS () (by rw [rsS, if_pos ga]) hP hD dX2_reasonAt_12
abbrev rmX2_countCycle : Room := ({ frames := 0, cells := 0, slots := 0, locals := 0 } : Room)
theorem w1_X2_countCycle : Cond.fieldLink RX2 35 "LabelApplicator$Machine" "cycle" "LLabelApplicator$Cycle;" ∈ wsX2_countCycle := List.mem_of_getElem? (i := 1) (by decide +kernel)
theorem w2_X2_countCycle : Cond.fieldLink RX2 152 "LabelApplicator$Cycle" "reason" "I" ∈ wsX2_countCycle := List.mem_of_getElem? (i := 2) (by decide +kernel)
theorem w3_X2_countCycle : Cond.fieldLink RX2 76 "LabelApplicator$Machine" "came" "I" ∈ wsX2_countCycle := List.mem_of_getElem? (i := 3) (by decide +kernel)
theorem w4_X2_countCycle : Cond.fieldLink RX2 39 "LabelApplicator$Machine" "cameByReason" "[I" ∈ wsX2_countCycle := List.mem_of_getElem? (i := 4) (by decide +kernel)
theorem w5_X2_countCycle : Cond.fieldLink RX2 85 "LabelApplicator$Machine" "applied" "I" ∈ wsX2_countCycle := List.mem_of_getElem? (i := 5) (by decide +kernel)
theorem w6_X2_countCycle : Cond.fieldLink RX2 199 "LabelApplicator$Cycle" "labels" "I" ∈ wsX2_countCycle := List.mem_of_getElem? (i := 6) (by decide +kernel)
theorem w7_X2_countCycle : Cond.fieldLink RX2 88 "LabelApplicator$Machine" "rejected" "I" ∈ wsX2_countCycle := List.mem_of_getElem? (i := 7) (by decide +kernel)
theorem w8_X2_countCycle : Cond.fieldLink RX2 196 "LabelApplicator$Cycle" "splices" "I" ∈ wsX2_countCycle := List.mem_of_getElem? (i := 8) (by decide +kernel)
theorem w9_X2_countCycle : Cond.fieldLink RX2 91 "LabelApplicator$Machine" "splicedCycles" "I" ∈ wsX2_countCycle := List.mem_of_getElem? (i := 9) (by decide +kernel)
theorem w10_X2_countCycle : Cond.fieldLink RX2 148 "LabelApplicator$Cycle" "late" "Z" ∈ wsX2_countCycle := List.mem_of_getElem? (i := 10) (by decide +kernel)
theorem w11_X2_countCycle : Cond.fieldLink RX2 94 "LabelApplicator$Machine" "lateCycles" "I" ∈ wsX2_countCycle := List.mem_of_getElem? (i := 11) (by decide +kernel)
theorem i0_X2_countCycle : ∀ w ∈ wsX00, w ∈ wsX2_countCycle := fun w h => (goodIn_r _ [28, 29, 30, 31, 32, 33, 34, 35] (by decide +kernel) (by decide +kernel) w h).1
theorem i2_X2_countCycle : ∀ w ∈ wsX20, w ∈ wsX2_countCycle := fun w h => (goodIn_r _ [12, 13, 14, 15, 16, 17, 18, 19, 20, 21, 22, 23, 24, 25, 26, 27] (by decide +kernel) (by decide +kernel) w h).1
set_option maxHeartbeats 4000000 in
set_option maxRecDepth 100000 in
theorem kX2_countCycle (l : Launch) (E : ee_T) (h0 h1 h4 h6 h8 h9 : Nat) (pt : UInt32) (sp ft sq c0 c1 c2 c3 c4 c5 c6 : Int32) (tr lb sc tk ed bl k : Nat) (sd : Int32) (rs : Nat → Int32) (hk : k ≤ 7) (hsm : sc < 1000 ∧ bl < 2) : CQ l E yX2_countCycle wsX2_countCycle rmX2_countCycle [.ref h0] [(h0, ee_o 2 [.ref h1, .ref h4, .ref h6, .ref h8, .ref h9, .float pt, .int sp, .int ft, .int sq, .int c0, .int c1, .int c2, .int c3, .int c4, .int c5, .int c6]), (h8, ee_o 0 [.int (nI tr), .int (nI lb), .int (nI sc), .int (nI tk), .int (nI ed), .int sd, .int (nI k), .int (nI bl)]), (h9, ee_i E 8 rs)] (QV E (fun (u : Int32 × Int32 × Int32 × Int32) => u.1 = (if k = 0 then c3 + nI lb else c3) ∧ u.2.1 = (if k = 0 then c4 else c4 + nI lb) ∧ u.2.2.1 = (if 0 < sc then c5 + nI 1 else c5) ∧ u.2.2.2 = (if bl = 0 then c6 else c6 + nI 1)) (fun (u : Int32 × Int32 × Int32 × Int32) => [(h0, ee_o 2 [.ref h1, .ref h4, .ref h6, .ref h8, .ref h9, .float pt, .int sp, .int ft, .int sq, .int (c0 + nI 1), .int c1, .int c2, .int u.1, .int u.2.1, .int u.2.2.1, .int u.2.2.2]), (h8, ee_o 0 [.int (nI tr), .int (nI lb), .int (nI sc), .int (nI tk), .int (nI ed), .int sd, .int (nI k), .int (nI bl)]), (h9, ee_i E 8 (upd rs k (rs k + nI 1)))])) 0 0 := by
  refine CQ_ofW (cc := cX2_countCycle) (maxL := 2) (ret := none) (by decide) rfl (Nat.le_of_ble_eq_true rfl) ?_
  intro p e s m below meth c A Q hQ hx hb hr hml hown hlocks hnm hts hV hA hP hD hS ls hl
  have hl : lv_has ls 2 [(0, .ref h0)] := hl
  refine lv_aload_n hx hb dX2_countCycle_0 rfl (lv_at hl 0 rfl) ?_
  refine va_get (ci := 2) (v := .ref h8) (C := RX2) (T := TX2) (N := 16) hx hb hts i2_X2_countCycle hown hV.1 hP 0 rfl rfl 3 (by decide) (hts _ w1_X2_countCycle) (fun _ h9 => h9) rfl dX2_countCycle_1 ?_
  refine va_get (ci := 0) (v := .int (nI k)) (C := RX0) (T := TX0) (N := 8) hx hb hts i0_X2_countCycle hown hV.1 hP 1 rfl rfl 6 (by decide) (hts _ w2_X2_countCycle) (fun _ h9 => h9) rfl dX2_countCycle_4 ?_
  refine lv_istore_n (lv' := [(1, .int (nI k)), (0, .ref h0)]) hx hb dX2_countCycle_7 rfl hl (by decide) rfl (fun ls hl => ?_)
  refine lv_aload_n hx hb dX2_countCycle_8 rfl (lv_at hl 1 rfl) ?_
  refine lv_dup hx hb dX2_countCycle_9 rfl ?_
  refine va_get (ci := 2) (v := .int c0) (C := RX2) (T := TX2) (N := 16) hx hb hts i2_X2_countCycle hown hV.1 hP 0 rfl rfl 9 (by decide) (hts _ w3_X2_countCycle) (fun _ h9 => h9) rfl dX2_countCycle_10 ?_
  refine lv_iconst (v := nI 1) hx hb dX2_countCycle_13 (by decide) ?_
  refine lv_iadd hx hb dX2_countCycle_14 ?_
  refine va_put (ci := 2) (v := .int (c0 + (nI 1))) (ty := .int) (C := RX2) (T := TX2) (N := 16) hx hb hts i2_X2_countCycle tyX2 tyX2_ok nmX2 hown hV.1 hP hD hS 0 rfl rfl 9 (by decide) (hts _ w3_X2_countCycle) (fun _ h9 => h9) rfl (by decide +kernel) rfl rfl (Nat.le_of_ble_eq_true rfl) dX2_countCycle_15 (fun H locs hP hD hS => ?_)
  have hP : va_P E.1 vwCl [(h0, ee_o 2 [.ref h1, .ref h4, .ref h6, .ref h8, .ref h9, .float pt, .int sp, .int ft, .int sq, .int (c0 + (nI 1)), .int c1, .int c2, .int c3, .int c4, .int c5, .int c6]), (h8, ee_o 0 [.int (nI tr), .int (nI lb), .int (nI sc), .int (nI tk), .int (nI ed), .int sd, .int (nI k), .int (nI bl)]), (h9, ee_i E 8 rs)] H := hP
  have hD : va_D A [(h0, ee_o 2 [.ref h1, .ref h4, .ref h6, .ref h8, .ref h9, .float pt, .int sp, .int ft, .int sq, .int (c0 + (nI 1)), .int c1, .int c2, .int c3, .int c4, .int c5, .int c6]), (h8, ee_o 0 [.int (nI tr), .int (nI lb), .int (nI sc), .int (nI tk), .int (nI ed), .int sd, .int (nI k), .int (nI bl)]), (h9, ee_i E 8 rs)] := hD
  refine lv_iload_n hx hb dX2_countCycle_18 rfl (lv_at hl 0 rfl) ?_
  refine ee_lt0 (tgt := 41) hx hb (by omega) dX2_countCycle_19 (by decide) ?_
  refine lv_iload_n hx hb dX2_countCycle_22 rfl (lv_at hl 0 rfl) ?_
  refine lv_aload_n hx hb dX2_countCycle_23 rfl (lv_at hl 1 rfl) ?_
  refine va_get (ci := 2) (v := .ref h9) (C := RX2) (T := TX2) (N := 16) hx hb hts i2_X2_countCycle hown hV.1 hP 0 rfl rfl 4 (by decide) (hts _ w4_X2_countCycle) (fun _ h9 => h9) rfl dX2_countCycle_24 ?_
  refine va_alen (v := nI 8) hx hb hV.1 hP 2 0 rfl rfl rfl dX2_countCycle_27 ?_
  refine ee_ge (tgt := 41) hx hb (by omega) (by omega) dX2_countCycle_28 (by decide) (fun h_2 => absurd h_2 (by omega)) (fun h_2 => ?_)
  refine lv_aload_n hx hb dX2_countCycle_31 rfl (lv_at hl 1 rfl) ?_
  refine va_get (ci := 2) (v := .ref h9) (C := RX2) (T := TX2) (N := 16) hx hb hts i2_X2_countCycle hown hV.1 hP 0 rfl rfl 4 (by decide) (hts _ w4_X2_countCycle) (fun _ h9 => h9) rfl dX2_countCycle_32 ?_
  refine lv_iload_n hx hb dX2_countCycle_35 rfl (lv_at hl 0 rfl) ?_
  refine lv_dup2_11 hx hb dX2_countCycle_36 rfl rfl ?_
  refine ee_ild hx hb hV hP 2 rfl (j := k) (by omega) (by decide) dX2_countCycle_37 ?_
  refine lv_iconst (v := nI 1) hx hb dX2_countCycle_38 (by decide) ?_
  refine lv_iadd hx hb dX2_countCycle_39 ?_
  refine ee_ist hx hb hV hP hD hS 2 rfl (j := k) (by omega) (by decide) dX2_countCycle_40 (fun H locs hP hD hS => ?_)
  have hP : va_P E.1 vwCl [(h0, ee_o 2 [.ref h1, .ref h4, .ref h6, .ref h8, .ref h9, .float pt, .int sp, .int ft, .int sq, .int (c0 + (nI 1)), .int c1, .int c2, .int c3, .int c4, .int c5, .int c6]), (h8, ee_o 0 [.int (nI tr), .int (nI lb), .int (nI sc), .int (nI tk), .int (nI ed), .int sd, .int (nI k), .int (nI bl)]), (h9, ee_i E 8 (upd rs k ((rs k) + (nI 1))))] H := hP
  have hD : va_D A [(h0, ee_o 2 [.ref h1, .ref h4, .ref h6, .ref h8, .ref h9, .float pt, .int sp, .int ft, .int sq, .int (c0 + (nI 1)), .int c1, .int c2, .int c3, .int c4, .int c5, .int c6]), (h8, ee_o 0 [.int (nI tr), .int (nI lb), .int (nI sc), .int (nI tk), .int (nI ed), .int sd, .int (nI k), .int (nI bl)]), (h9, ee_i E 8 (upd rs k ((rs k) + (nI 1))))] := hD
  refine lv_iload_n hx hb dX2_countCycle_41 rfl (lv_at hl 0 rfl) ?_
  refine ee_ne0 (tgt := 64) hx hb (by omega) dX2_countCycle_42 (by decide) (fun ga => ?_) (fun ga => ?_)
  · refine lv_aload_n hx hb dX2_countCycle_64 rfl (lv_at hl 1 rfl) ?_
    refine lv_dup hx hb dX2_countCycle_65 rfl ?_
    refine va_get (ci := 2) (v := .int c4) (C := RX2) (T := TX2) (N := 16) hx hb hts i2_X2_countCycle hown hV.1 hP 0 rfl rfl 13 (by decide) (hts _ w7_X2_countCycle) (fun _ h9 => h9) rfl dX2_countCycle_66 ?_
    refine lv_aload_n hx hb dX2_countCycle_69 rfl (lv_at hl 1 rfl) ?_
    refine va_get (ci := 2) (v := .ref h8) (C := RX2) (T := TX2) (N := 16) hx hb hts i2_X2_countCycle hown hV.1 hP 0 rfl rfl 3 (by decide) (hts _ w1_X2_countCycle) (fun _ h9 => h9) rfl dX2_countCycle_70 ?_
    refine va_get (ci := 0) (v := .int (nI lb)) (C := RX0) (T := TX0) (N := 8) hx hb hts i0_X2_countCycle hown hV.1 hP 1 rfl rfl 1 (by decide) (hts _ w6_X2_countCycle) (fun _ h9 => h9) rfl dX2_countCycle_73 ?_
    refine lv_iadd hx hb dX2_countCycle_76 ?_
    refine va_put (ci := 2) (v := .int (c4 + (nI lb))) (ty := .int) (C := RX2) (T := TX2) (N := 16) hx hb hts i2_X2_countCycle tyX2 tyX2_ok nmX2 hown hV.1 hP hD hS 0 rfl rfl 13 (by decide) (hts _ w7_X2_countCycle) (fun _ h9 => h9) rfl (by decide +kernel) rfl rfl (Nat.le_of_ble_eq_true rfl) dX2_countCycle_77 (fun H locs hP hD hS => ?_)
    have hP : va_P E.1 vwCl [(h0, ee_o 2 [.ref h1, .ref h4, .ref h6, .ref h8, .ref h9, .float pt, .int sp, .int ft, .int sq, .int (c0 + (nI 1)), .int c1, .int c2, .int c3, .int (c4 + (nI lb)), .int c5, .int c6]), (h8, ee_o 0 [.int (nI tr), .int (nI lb), .int (nI sc), .int (nI tk), .int (nI ed), .int sd, .int (nI k), .int (nI bl)]), (h9, ee_i E 8 (upd rs k ((rs k) + (nI 1))))] H := hP
    have hD : va_D A [(h0, ee_o 2 [.ref h1, .ref h4, .ref h6, .ref h8, .ref h9, .float pt, .int sp, .int ft, .int sq, .int (c0 + (nI 1)), .int c1, .int c2, .int c3, .int (c4 + (nI lb)), .int c5, .int c6]), (h8, ee_o 0 [.int (nI tr), .int (nI lb), .int (nI sc), .int (nI tk), .int (nI ed), .int sd, .int (nI k), .int (nI bl)]), (h9, ee_i E 8 (upd rs k ((rs k) + (nI 1))))] := hD
    refine lv_aload_n hx hb dX2_countCycle_80 rfl (lv_at hl 1 rfl) ?_
    refine va_get (ci := 2) (v := .ref h8) (C := RX2) (T := TX2) (N := 16) hx hb hts i2_X2_countCycle hown hV.1 hP 0 rfl rfl 3 (by decide) (hts _ w1_X2_countCycle) (fun _ h9 => h9) rfl dX2_countCycle_81 ?_
    refine va_get (ci := 0) (v := .int (nI sc)) (C := RX0) (T := TX0) (N := 8) hx hb hts i0_X2_countCycle hown hV.1 hP 1 rfl rfl 2 (by decide) (hts _ w8_X2_countCycle) (fun _ h9 => h9) rfl dX2_countCycle_84 ?_
    refine ee_le0 (tgt := 100) hx hb (by omega) dX2_countCycle_87 (by decide) (fun gb => ?_) (fun gb => ?_)
    · refine lv_aload_n hx hb dX2_countCycle_100 rfl (lv_at hl 1 rfl) ?_
      refine va_get (ci := 2) (v := .ref h8) (C := RX2) (T := TX2) (N := 16) hx hb hts i2_X2_countCycle hown hV.1 hP 0 rfl rfl 3 (by decide) (hts _ w1_X2_countCycle) (fun _ h9 => h9) rfl dX2_countCycle_101 ?_
      refine va_get (ci := 0) (v := .int (nI bl)) (C := RX0) (T := TX0) (N := 8) hx hb hts i0_X2_countCycle hown hV.1 hP 1 rfl rfl 7 (by decide) (hts _ w10_X2_countCycle) (fun _ h9 => h9) rfl dX2_countCycle_104 ?_
      refine ee_eq0 (tgt := 120) hx hb (by omega) dX2_countCycle_107 (by decide) (fun gc => ?_) (fun gc => ?_)
      · exact ee_fv hQ hx hb hr hlocks hS (c3, c4 + (nI lb), c5, c6) (⟨by rw [if_neg ga], by rw [if_neg ga], by rw [if_neg (by omega)], by rw [if_pos gc]⟩) hP hD dX2_countCycle_120
      · refine lv_aload_n hx hb dX2_countCycle_110 rfl (lv_at hl 1 rfl) ?_
        refine lv_dup hx hb dX2_countCycle_111 rfl ?_
        refine va_get (ci := 2) (v := .int c6) (C := RX2) (T := TX2) (N := 16) hx hb hts i2_X2_countCycle hown hV.1 hP 0 rfl rfl 15 (by decide) (hts _ w11_X2_countCycle) (fun _ h9 => h9) rfl dX2_countCycle_112 ?_
        refine lv_iconst (v := nI 1) hx hb dX2_countCycle_115 (by decide) ?_
        refine lv_iadd hx hb dX2_countCycle_116 ?_
        refine va_put (ci := 2) (v := .int (c6 + (nI 1))) (ty := .int) (C := RX2) (T := TX2) (N := 16) hx hb hts i2_X2_countCycle tyX2 tyX2_ok nmX2 hown hV.1 hP hD hS 0 rfl rfl 15 (by decide) (hts _ w11_X2_countCycle) (fun _ h9 => h9) rfl (by decide +kernel) rfl rfl (Nat.le_of_ble_eq_true rfl) dX2_countCycle_117 (fun H locs hP hD hS => ?_)
        have hP : va_P E.1 vwCl [(h0, ee_o 2 [.ref h1, .ref h4, .ref h6, .ref h8, .ref h9, .float pt, .int sp, .int ft, .int sq, .int (c0 + (nI 1)), .int c1, .int c2, .int c3, .int (c4 + (nI lb)), .int c5, .int (c6 + (nI 1))]), (h8, ee_o 0 [.int (nI tr), .int (nI lb), .int (nI sc), .int (nI tk), .int (nI ed), .int sd, .int (nI k), .int (nI bl)]), (h9, ee_i E 8 (upd rs k ((rs k) + (nI 1))))] H := hP
        have hD : va_D A [(h0, ee_o 2 [.ref h1, .ref h4, .ref h6, .ref h8, .ref h9, .float pt, .int sp, .int ft, .int sq, .int (c0 + (nI 1)), .int c1, .int c2, .int c3, .int (c4 + (nI lb)), .int c5, .int (c6 + (nI 1))]), (h8, ee_o 0 [.int (nI tr), .int (nI lb), .int (nI sc), .int (nI tk), .int (nI ed), .int sd, .int (nI k), .int (nI bl)]), (h9, ee_i E 8 (upd rs k ((rs k) + (nI 1))))] := hD
        exact ee_fv hQ hx hb hr hlocks hS (c3, c4 + (nI lb), c5, c6 + (nI 1)) (⟨by rw [if_neg ga], by rw [if_neg ga], by rw [if_neg (by omega)], by rw [if_neg gc]⟩) hP hD dX2_countCycle_120
    · refine lv_aload_n hx hb dX2_countCycle_90 rfl (lv_at hl 1 rfl) ?_
      refine lv_dup hx hb dX2_countCycle_91 rfl ?_
      refine va_get (ci := 2) (v := .int c5) (C := RX2) (T := TX2) (N := 16) hx hb hts i2_X2_countCycle hown hV.1 hP 0 rfl rfl 14 (by decide) (hts _ w9_X2_countCycle) (fun _ h9 => h9) rfl dX2_countCycle_92 ?_
      refine lv_iconst (v := nI 1) hx hb dX2_countCycle_95 (by decide) ?_
      refine lv_iadd hx hb dX2_countCycle_96 ?_
      refine va_put (ci := 2) (v := .int (c5 + (nI 1))) (ty := .int) (C := RX2) (T := TX2) (N := 16) hx hb hts i2_X2_countCycle tyX2 tyX2_ok nmX2 hown hV.1 hP hD hS 0 rfl rfl 14 (by decide) (hts _ w9_X2_countCycle) (fun _ h9 => h9) rfl (by decide +kernel) rfl rfl (Nat.le_of_ble_eq_true rfl) dX2_countCycle_97 (fun H locs hP hD hS => ?_)
      have hP : va_P E.1 vwCl [(h0, ee_o 2 [.ref h1, .ref h4, .ref h6, .ref h8, .ref h9, .float pt, .int sp, .int ft, .int sq, .int (c0 + (nI 1)), .int c1, .int c2, .int c3, .int (c4 + (nI lb)), .int (c5 + (nI 1)), .int c6]), (h8, ee_o 0 [.int (nI tr), .int (nI lb), .int (nI sc), .int (nI tk), .int (nI ed), .int sd, .int (nI k), .int (nI bl)]), (h9, ee_i E 8 (upd rs k ((rs k) + (nI 1))))] H := hP
      have hD : va_D A [(h0, ee_o 2 [.ref h1, .ref h4, .ref h6, .ref h8, .ref h9, .float pt, .int sp, .int ft, .int sq, .int (c0 + (nI 1)), .int c1, .int c2, .int c3, .int (c4 + (nI lb)), .int (c5 + (nI 1)), .int c6]), (h8, ee_o 0 [.int (nI tr), .int (nI lb), .int (nI sc), .int (nI tk), .int (nI ed), .int sd, .int (nI k), .int (nI bl)]), (h9, ee_i E 8 (upd rs k ((rs k) + (nI 1))))] := hD
      refine lv_aload_n hx hb dX2_countCycle_100 rfl (lv_at hl 1 rfl) ?_
      refine va_get (ci := 2) (v := .ref h8) (C := RX2) (T := TX2) (N := 16) hx hb hts i2_X2_countCycle hown hV.1 hP 0 rfl rfl 3 (by decide) (hts _ w1_X2_countCycle) (fun _ h9 => h9) rfl dX2_countCycle_101 ?_
      refine va_get (ci := 0) (v := .int (nI bl)) (C := RX0) (T := TX0) (N := 8) hx hb hts i0_X2_countCycle hown hV.1 hP 1 rfl rfl 7 (by decide) (hts _ w10_X2_countCycle) (fun _ h9 => h9) rfl dX2_countCycle_104 ?_
      refine ee_eq0 (tgt := 120) hx hb (by omega) dX2_countCycle_107 (by decide) (fun gc => ?_) (fun gc => ?_)
      · exact ee_fv hQ hx hb hr hlocks hS (c3, c4 + (nI lb), c5 + (nI 1), c6) (⟨by rw [if_neg ga], by rw [if_neg ga], by rw [if_pos (by omega)], by rw [if_pos gc]⟩) hP hD dX2_countCycle_120
      · refine lv_aload_n hx hb dX2_countCycle_110 rfl (lv_at hl 1 rfl) ?_
        refine lv_dup hx hb dX2_countCycle_111 rfl ?_
        refine va_get (ci := 2) (v := .int c6) (C := RX2) (T := TX2) (N := 16) hx hb hts i2_X2_countCycle hown hV.1 hP 0 rfl rfl 15 (by decide) (hts _ w11_X2_countCycle) (fun _ h9 => h9) rfl dX2_countCycle_112 ?_
        refine lv_iconst (v := nI 1) hx hb dX2_countCycle_115 (by decide) ?_
        refine lv_iadd hx hb dX2_countCycle_116 ?_
        refine va_put (ci := 2) (v := .int (c6 + (nI 1))) (ty := .int) (C := RX2) (T := TX2) (N := 16) hx hb hts i2_X2_countCycle tyX2 tyX2_ok nmX2 hown hV.1 hP hD hS 0 rfl rfl 15 (by decide) (hts _ w11_X2_countCycle) (fun _ h9 => h9) rfl (by decide +kernel) rfl rfl (Nat.le_of_ble_eq_true rfl) dX2_countCycle_117 (fun H locs hP hD hS => ?_)
        have hP : va_P E.1 vwCl [(h0, ee_o 2 [.ref h1, .ref h4, .ref h6, .ref h8, .ref h9, .float pt, .int sp, .int ft, .int sq, .int (c0 + (nI 1)), .int c1, .int c2, .int c3, .int (c4 + (nI lb)), .int (c5 + (nI 1)), .int (c6 + (nI 1))]), (h8, ee_o 0 [.int (nI tr), .int (nI lb), .int (nI sc), .int (nI tk), .int (nI ed), .int sd, .int (nI k), .int (nI bl)]), (h9, ee_i E 8 (upd rs k ((rs k) + (nI 1))))] H := hP
        have hD : va_D A [(h0, ee_o 2 [.ref h1, .ref h4, .ref h6, .ref h8, .ref h9, .float pt, .int sp, .int ft, .int sq, .int (c0 + (nI 1)), .int c1, .int c2, .int c3, .int (c4 + (nI lb)), .int (c5 + (nI 1)), .int (c6 + (nI 1))]), (h8, ee_o 0 [.int (nI tr), .int (nI lb), .int (nI sc), .int (nI tk), .int (nI ed), .int sd, .int (nI k), .int (nI bl)]), (h9, ee_i E 8 (upd rs k ((rs k) + (nI 1))))] := hD
        exact ee_fv hQ hx hb hr hlocks hS (c3, c4 + (nI lb), c5 + (nI 1), c6 + (nI 1)) (⟨by rw [if_neg ga], by rw [if_neg ga], by rw [if_pos (by omega)], by rw [if_neg gc]⟩) hP hD dX2_countCycle_120
  · refine lv_aload_n hx hb dX2_countCycle_45 rfl (lv_at hl 1 rfl) ?_
    refine lv_dup hx hb dX2_countCycle_46 rfl ?_
    refine va_get (ci := 2) (v := .int c3) (C := RX2) (T := TX2) (N := 16) hx hb hts i2_X2_countCycle hown hV.1 hP 0 rfl rfl 12 (by decide) (hts _ w5_X2_countCycle) (fun _ h9 => h9) rfl dX2_countCycle_47 ?_
    refine lv_aload_n hx hb dX2_countCycle_50 rfl (lv_at hl 1 rfl) ?_
    refine va_get (ci := 2) (v := .ref h8) (C := RX2) (T := TX2) (N := 16) hx hb hts i2_X2_countCycle hown hV.1 hP 0 rfl rfl 3 (by decide) (hts _ w1_X2_countCycle) (fun _ h9 => h9) rfl dX2_countCycle_51 ?_
    refine va_get (ci := 0) (v := .int (nI lb)) (C := RX0) (T := TX0) (N := 8) hx hb hts i0_X2_countCycle hown hV.1 hP 1 rfl rfl 1 (by decide) (hts _ w6_X2_countCycle) (fun _ h9 => h9) rfl dX2_countCycle_54 ?_
    refine lv_iadd hx hb dX2_countCycle_57 ?_
    refine va_put (ci := 2) (v := .int (c3 + (nI lb))) (ty := .int) (C := RX2) (T := TX2) (N := 16) hx hb hts i2_X2_countCycle tyX2 tyX2_ok nmX2 hown hV.1 hP hD hS 0 rfl rfl 12 (by decide) (hts _ w5_X2_countCycle) (fun _ h9 => h9) rfl (by decide +kernel) rfl rfl (Nat.le_of_ble_eq_true rfl) dX2_countCycle_58 (fun H locs hP hD hS => ?_)
    have hP : va_P E.1 vwCl [(h0, ee_o 2 [.ref h1, .ref h4, .ref h6, .ref h8, .ref h9, .float pt, .int sp, .int ft, .int sq, .int (c0 + (nI 1)), .int c1, .int c2, .int (c3 + (nI lb)), .int c4, .int c5, .int c6]), (h8, ee_o 0 [.int (nI tr), .int (nI lb), .int (nI sc), .int (nI tk), .int (nI ed), .int sd, .int (nI k), .int (nI bl)]), (h9, ee_i E 8 (upd rs k ((rs k) + (nI 1))))] H := hP
    have hD : va_D A [(h0, ee_o 2 [.ref h1, .ref h4, .ref h6, .ref h8, .ref h9, .float pt, .int sp, .int ft, .int sq, .int (c0 + (nI 1)), .int c1, .int c2, .int (c3 + (nI lb)), .int c4, .int c5, .int c6]), (h8, ee_o 0 [.int (nI tr), .int (nI lb), .int (nI sc), .int (nI tk), .int (nI ed), .int sd, .int (nI k), .int (nI bl)]), (h9, ee_i E 8 (upd rs k ((rs k) + (nI 1))))] := hD
    refine lv_goto (tgt := 80) hx hb dX2_countCycle_61 (by decide) ?_
    refine lv_aload_n hx hb dX2_countCycle_80 rfl (lv_at hl 1 rfl) ?_
    refine va_get (ci := 2) (v := .ref h8) (C := RX2) (T := TX2) (N := 16) hx hb hts i2_X2_countCycle hown hV.1 hP 0 rfl rfl 3 (by decide) (hts _ w1_X2_countCycle) (fun _ h9 => h9) rfl dX2_countCycle_81 ?_
    refine va_get (ci := 0) (v := .int (nI sc)) (C := RX0) (T := TX0) (N := 8) hx hb hts i0_X2_countCycle hown hV.1 hP 1 rfl rfl 2 (by decide) (hts _ w8_X2_countCycle) (fun _ h9 => h9) rfl dX2_countCycle_84 ?_
    refine ee_le0 (tgt := 100) hx hb (by omega) dX2_countCycle_87 (by decide) (fun gb => ?_) (fun gb => ?_)
    · refine lv_aload_n hx hb dX2_countCycle_100 rfl (lv_at hl 1 rfl) ?_
      refine va_get (ci := 2) (v := .ref h8) (C := RX2) (T := TX2) (N := 16) hx hb hts i2_X2_countCycle hown hV.1 hP 0 rfl rfl 3 (by decide) (hts _ w1_X2_countCycle) (fun _ h9 => h9) rfl dX2_countCycle_101 ?_
      refine va_get (ci := 0) (v := .int (nI bl)) (C := RX0) (T := TX0) (N := 8) hx hb hts i0_X2_countCycle hown hV.1 hP 1 rfl rfl 7 (by decide) (hts _ w10_X2_countCycle) (fun _ h9 => h9) rfl dX2_countCycle_104 ?_
      refine ee_eq0 (tgt := 120) hx hb (by omega) dX2_countCycle_107 (by decide) (fun gc => ?_) (fun gc => ?_)
      · exact ee_fv hQ hx hb hr hlocks hS (c3 + (nI lb), c4, c5, c6) (⟨by rw [if_pos ga], by rw [if_pos ga], by rw [if_neg (by omega)], by rw [if_pos gc]⟩) hP hD dX2_countCycle_120
      · refine lv_aload_n hx hb dX2_countCycle_110 rfl (lv_at hl 1 rfl) ?_
        refine lv_dup hx hb dX2_countCycle_111 rfl ?_
        refine va_get (ci := 2) (v := .int c6) (C := RX2) (T := TX2) (N := 16) hx hb hts i2_X2_countCycle hown hV.1 hP 0 rfl rfl 15 (by decide) (hts _ w11_X2_countCycle) (fun _ h9 => h9) rfl dX2_countCycle_112 ?_
        refine lv_iconst (v := nI 1) hx hb dX2_countCycle_115 (by decide) ?_
        refine lv_iadd hx hb dX2_countCycle_116 ?_
        refine va_put (ci := 2) (v := .int (c6 + (nI 1))) (ty := .int) (C := RX2) (T := TX2) (N := 16) hx hb hts i2_X2_countCycle tyX2 tyX2_ok nmX2 hown hV.1 hP hD hS 0 rfl rfl 15 (by decide) (hts _ w11_X2_countCycle) (fun _ h9 => h9) rfl (by decide +kernel) rfl rfl (Nat.le_of_ble_eq_true rfl) dX2_countCycle_117 (fun H locs hP hD hS => ?_)
        have hP : va_P E.1 vwCl [(h0, ee_o 2 [.ref h1, .ref h4, .ref h6, .ref h8, .ref h9, .float pt, .int sp, .int ft, .int sq, .int (c0 + (nI 1)), .int c1, .int c2, .int (c3 + (nI lb)), .int c4, .int c5, .int (c6 + (nI 1))]), (h8, ee_o 0 [.int (nI tr), .int (nI lb), .int (nI sc), .int (nI tk), .int (nI ed), .int sd, .int (nI k), .int (nI bl)]), (h9, ee_i E 8 (upd rs k ((rs k) + (nI 1))))] H := hP
        have hD : va_D A [(h0, ee_o 2 [.ref h1, .ref h4, .ref h6, .ref h8, .ref h9, .float pt, .int sp, .int ft, .int sq, .int (c0 + (nI 1)), .int c1, .int c2, .int (c3 + (nI lb)), .int c4, .int c5, .int (c6 + (nI 1))]), (h8, ee_o 0 [.int (nI tr), .int (nI lb), .int (nI sc), .int (nI tk), .int (nI ed), .int sd, .int (nI k), .int (nI bl)]), (h9, ee_i E 8 (upd rs k ((rs k) + (nI 1))))] := hD
        exact ee_fv hQ hx hb hr hlocks hS (c3 + (nI lb), c4, c5, c6 + (nI 1)) (⟨by rw [if_pos ga], by rw [if_pos ga], by rw [if_neg (by omega)], by rw [if_neg gc]⟩) hP hD dX2_countCycle_120
    · refine lv_aload_n hx hb dX2_countCycle_90 rfl (lv_at hl 1 rfl) ?_
      refine lv_dup hx hb dX2_countCycle_91 rfl ?_
      refine va_get (ci := 2) (v := .int c5) (C := RX2) (T := TX2) (N := 16) hx hb hts i2_X2_countCycle hown hV.1 hP 0 rfl rfl 14 (by decide) (hts _ w9_X2_countCycle) (fun _ h9 => h9) rfl dX2_countCycle_92 ?_
      refine lv_iconst (v := nI 1) hx hb dX2_countCycle_95 (by decide) ?_
      refine lv_iadd hx hb dX2_countCycle_96 ?_
      refine va_put (ci := 2) (v := .int (c5 + (nI 1))) (ty := .int) (C := RX2) (T := TX2) (N := 16) hx hb hts i2_X2_countCycle tyX2 tyX2_ok nmX2 hown hV.1 hP hD hS 0 rfl rfl 14 (by decide) (hts _ w9_X2_countCycle) (fun _ h9 => h9) rfl (by decide +kernel) rfl rfl (Nat.le_of_ble_eq_true rfl) dX2_countCycle_97 (fun H locs hP hD hS => ?_)
      have hP : va_P E.1 vwCl [(h0, ee_o 2 [.ref h1, .ref h4, .ref h6, .ref h8, .ref h9, .float pt, .int sp, .int ft, .int sq, .int (c0 + (nI 1)), .int c1, .int c2, .int (c3 + (nI lb)), .int c4, .int (c5 + (nI 1)), .int c6]), (h8, ee_o 0 [.int (nI tr), .int (nI lb), .int (nI sc), .int (nI tk), .int (nI ed), .int sd, .int (nI k), .int (nI bl)]), (h9, ee_i E 8 (upd rs k ((rs k) + (nI 1))))] H := hP
      have hD : va_D A [(h0, ee_o 2 [.ref h1, .ref h4, .ref h6, .ref h8, .ref h9, .float pt, .int sp, .int ft, .int sq, .int (c0 + (nI 1)), .int c1, .int c2, .int (c3 + (nI lb)), .int c4, .int (c5 + (nI 1)), .int c6]), (h8, ee_o 0 [.int (nI tr), .int (nI lb), .int (nI sc), .int (nI tk), .int (nI ed), .int sd, .int (nI k), .int (nI bl)]), (h9, ee_i E 8 (upd rs k ((rs k) + (nI 1))))] := hD
      refine lv_aload_n hx hb dX2_countCycle_100 rfl (lv_at hl 1 rfl) ?_
      refine va_get (ci := 2) (v := .ref h8) (C := RX2) (T := TX2) (N := 16) hx hb hts i2_X2_countCycle hown hV.1 hP 0 rfl rfl 3 (by decide) (hts _ w1_X2_countCycle) (fun _ h9 => h9) rfl dX2_countCycle_101 ?_
      refine va_get (ci := 0) (v := .int (nI bl)) (C := RX0) (T := TX0) (N := 8) hx hb hts i0_X2_countCycle hown hV.1 hP 1 rfl rfl 7 (by decide) (hts _ w10_X2_countCycle) (fun _ h9 => h9) rfl dX2_countCycle_104 ?_
      refine ee_eq0 (tgt := 120) hx hb (by omega) dX2_countCycle_107 (by decide) (fun gc => ?_) (fun gc => ?_)
      · exact ee_fv hQ hx hb hr hlocks hS (c3 + (nI lb), c4, c5 + (nI 1), c6) (⟨by rw [if_pos ga], by rw [if_pos ga], by rw [if_pos (by omega)], by rw [if_pos gc]⟩) hP hD dX2_countCycle_120
      · refine lv_aload_n hx hb dX2_countCycle_110 rfl (lv_at hl 1 rfl) ?_
        refine lv_dup hx hb dX2_countCycle_111 rfl ?_
        refine va_get (ci := 2) (v := .int c6) (C := RX2) (T := TX2) (N := 16) hx hb hts i2_X2_countCycle hown hV.1 hP 0 rfl rfl 15 (by decide) (hts _ w11_X2_countCycle) (fun _ h9 => h9) rfl dX2_countCycle_112 ?_
        refine lv_iconst (v := nI 1) hx hb dX2_countCycle_115 (by decide) ?_
        refine lv_iadd hx hb dX2_countCycle_116 ?_
        refine va_put (ci := 2) (v := .int (c6 + (nI 1))) (ty := .int) (C := RX2) (T := TX2) (N := 16) hx hb hts i2_X2_countCycle tyX2 tyX2_ok nmX2 hown hV.1 hP hD hS 0 rfl rfl 15 (by decide) (hts _ w11_X2_countCycle) (fun _ h9 => h9) rfl (by decide +kernel) rfl rfl (Nat.le_of_ble_eq_true rfl) dX2_countCycle_117 (fun H locs hP hD hS => ?_)
        have hP : va_P E.1 vwCl [(h0, ee_o 2 [.ref h1, .ref h4, .ref h6, .ref h8, .ref h9, .float pt, .int sp, .int ft, .int sq, .int (c0 + (nI 1)), .int c1, .int c2, .int (c3 + (nI lb)), .int c4, .int (c5 + (nI 1)), .int (c6 + (nI 1))]), (h8, ee_o 0 [.int (nI tr), .int (nI lb), .int (nI sc), .int (nI tk), .int (nI ed), .int sd, .int (nI k), .int (nI bl)]), (h9, ee_i E 8 (upd rs k ((rs k) + (nI 1))))] H := hP
        have hD : va_D A [(h0, ee_o 2 [.ref h1, .ref h4, .ref h6, .ref h8, .ref h9, .float pt, .int sp, .int ft, .int sq, .int (c0 + (nI 1)), .int c1, .int c2, .int (c3 + (nI lb)), .int c4, .int (c5 + (nI 1)), .int (c6 + (nI 1))]), (h8, ee_o 0 [.int (nI tr), .int (nI lb), .int (nI sc), .int (nI tk), .int (nI ed), .int sd, .int (nI k), .int (nI bl)]), (h9, ee_i E 8 (upd rs k ((rs k) + (nI 1))))] := hD
        exact ee_fv hQ hx hb hr hlocks hS (c3 + (nI lb), c4, c5 + (nI 1), c6 + (nI 1)) (⟨by rw [if_pos ga], by rw [if_pos ga], by rw [if_pos (by omega)], by rw [if_neg gc]⟩) hP hD dX2_countCycle_120
abbrev rmX2_learnPitch : Room := ({ frames := 1, cells := 0, slots := 0, locals := 21 } : Room)
theorem w1_X2_learnPitch : Cond.fieldLink RX2 21 "LabelApplicator$Machine" "settings" "LLabelApplicator$Settings;" ∈ wsX2_learnPitch := List.mem_of_getElem? (i := 1) (by decide +kernel)
theorem w2_X2_learnPitch : Cond.constantFloat RX2 204 (1090519040) ∈ wsX2_learnPitch := List.mem_of_getElem? (i := 2) (by decide +kernel)
theorem w3_X2_learnPitch : Cond.fieldLink RX2 44 "LabelApplicator$Machine" "pitch" "F" ∈ wsX2_learnPitch := List.mem_of_getElem? (i := 3) (by decide +kernel)
theorem w4_X2_learnPitch : Cond.fieldLink RX2 35 "LabelApplicator$Machine" "cycle" "LLabelApplicator$Cycle;" ∈ wsX2_learnPitch := List.mem_of_getElem? (i := 4) (by decide +kernel)
theorem w5_X2_learnPitch : Cond.fieldLink RX2 145 "LabelApplicator$Cycle" "travel" "I" ∈ wsX2_learnPitch := List.mem_of_getElem? (i := 5) (by decide +kernel)
theorem w6_X2_learnPitch : Cond.methodLink RX2 97 yX5_value ∈ wsX2_learnPitch := List.mem_of_getElem? (i := 6) (by decide +kernel)
theorem w9_X2_learnPitch : Cond.initialized RX5 ∈ wsX2_learnPitch := List.mem_of_getElem? (i := 9) (by decide +kernel)
theorem i0_X2_learnPitch : ∀ w ∈ wsX00, w ∈ wsX2_learnPitch := fun w h => (goodIn_r _ [28, 29, 30, 31, 32, 33, 34, 35] (by decide +kernel) (by decide +kernel) w h).1
theorem i2_X2_learnPitch : ∀ w ∈ wsX20, w ∈ wsX2_learnPitch := fun w h => (goodIn_r _ [12, 13, 14, 15, 16, 17, 18, 19, 20, 21, 22, 23, 24, 25, 26, 27] (by decide +kernel) (by decide +kernel) w h).1
theorem i5_X2_learnPitch : ∀ w ∈ wsX50, w ∈ wsX2_learnPitch := fun w h => (goodIn_r _ [36] (by decide +kernel) (by decide +kernel) w h).1
set_option maxHeartbeats 4000000 in
set_option maxRecDepth 100000 in
theorem kX2_learnPitch (l : Launch) (E : ee_T) (h0 h1 h4 h6 h8 h9 : Nat) (pt : UInt32) (sp ft sq c0 c1 c2 c3 c4 c5 c6 : Int32) (h5 : Nat) (sv : Nat → Int32) (tr lb sc tk ed bl : Nat) (sd rn : Int32) (n1 : vf_n32 (FP.fdiv (FP.i2f (sv 6)) 1090519040)) (n2 : vf_n32 (FP.fsub (FP.i2f (nI tr)) pt)) (n3 : vf_n32 (FP.fmul (FP.fsub (FP.i2f (nI tr)) pt) (FP.fdiv (FP.i2f (sv 6)) 1090519040))) (n4 : vf_n32 (lrP pt tr (sv 6))) : CQ l E yX2_learnPitch wsX2_learnPitch rmX2_learnPitch [.ref h0] [(h0, ee_o 2 [.ref h1, .ref h4, .ref h6, .ref h8, .ref h9, .float pt, .int sp, .int ft, .int sq, .int c0, .int c1, .int c2, .int c3, .int c4, .int c5, .int c6]), (h4, ee_o 5 [.ref h5]), (h5, ee_i E 8 sv), (h8, ee_o 0 [.int (nI tr), .int (nI lb), .int (nI sc), .int (nI tk), .int (nI ed), .int sd, .int rn, .int (nI bl)])] (QV E (fun (u : Unit) => True) (fun (u : Unit) => [(h0, ee_o 2 [.ref h1, .ref h4, .ref h6, .ref h8, .ref h9, .float (lrP pt tr (sv 6)), .int sp, .int ft, .int sq, .int c0, .int c1, .int c2, .int c3, .int c4, .int c5, .int c6]), (h4, ee_o 5 [.ref h5]), (h5, ee_i E 8 sv), (h8, ee_o 0 [.int (nI tr), .int (nI lb), .int (nI sc), .int (nI tk), .int (nI ed), .int sd, .int rn, .int (nI bl)])])) 0 0 := by
  refine CQ_ofW (cc := cX2_learnPitch) (maxL := 2) (ret := none) (by decide) rfl (Nat.le_of_ble_eq_true rfl) ?_
  intro p e s m below meth c A Q hQ hx hb hr hml hown hlocks hnm hts hV hA hP hD hS ls hl
  have hl : lv_has ls 2 [(0, .ref h0)] := hl
  refine lv_aload_n hx hb dX2_learnPitch_0 rfl (lv_at hl 0 rfl) ?_
  refine va_get (ci := 2) (v := .ref h4) (C := RX2) (T := TX2) (N := 16) hx hb hts i2_X2_learnPitch hown hV.1 hP 0 rfl rfl 1 (by decide) (hts _ w1_X2_learnPitch) (fun _ h9 => h9) rfl dX2_learnPitch_1 ?_
  refine lv_bipush (v := nI 6) hx hb dX2_learnPitch_4 (by decide) ?_
  refine ee_ki (wr := [(h0, ee_o 2 [.ref h1, .ref h4, .ref h6, .ref h8, .ref h9, .float pt, .int sp, .int ft, .int sq, .int c0, .int c1, .int c2, .int c3, .int c4, .int c5, .int c6]), (h8, ee_o 0 [.int (nI tr), .int (nI lb), .int (nI sc), .int (nI tk), .int (nI ed), .int sd, .int rn, .int (nI bl)])]) (ee_rV (As := [.int (nI 6)]) (rest := []) (kX5_value l E h4 h5 sv 6 (by omega)) hx hb hml hown hts 1 gX2_learnPitch_X5_value rfl rfl rfl (by decide +kernel) ⟨Nat.le_of_ble_eq_true rfl, Nat.le_of_ble_eq_true rfl⟩ hV hP hD hS hA [1, 2] rfl (by decide) hl 1 rfl rfl rfl rfl (Nat.le_of_ble_eq_true rfl) dX2_learnPitch_6 ⟨Nat.le_of_ble_eq_true rfl, Nat.le_of_ble_eq_true rfl⟩) hP hD hS hA [1, 2] [0, 3] rfl rfl (by decide) (by decide) (fun r_1 u_2 H locs hp_3 hP hD hS => ?_)
  subst hp_3
  have hP : va_P E.1 vwCl [(h0, ee_o 2 [.ref h1, .ref h4, .ref h6, .ref h8, .ref h9, .float pt, .int sp, .int ft, .int sq, .int c0, .int c1, .int c2, .int c3, .int c4, .int c5, .int c6]), (h8, ee_o 0 [.int (nI tr), .int (nI lb), .int (nI sc), .int (nI tk), .int (nI ed), .int sd, .int rn, .int (nI bl)]), (h4, ee_o 5 [.ref h5]), (h5, ee_i E 8 sv)] H := hP
  have hD : va_D A [(h0, ee_o 2 [.ref h1, .ref h4, .ref h6, .ref h8, .ref h9, .float pt, .int sp, .int ft, .int sq, .int c0, .int c1, .int c2, .int c3, .int c4, .int c5, .int c6]), (h8, ee_o 0 [.int (nI tr), .int (nI lb), .int (nI sc), .int (nI tk), .int (nI ed), .int sd, .int rn, .int (nI bl)]), (h4, ee_o 5 [.ref h5]), (h5, ee_i E 8 sv)] := hD
  refine lv_i2f hx hb dX2_learnPitch_9 ?_
  refine lv_ldcf hx hb hown (hts _ w2_X2_learnPitch) dX2_learnPitch_10 ?_
  refine lv_fdiv hx hb dX2_learnPitch_12 (n1) ?_
  refine lv_fstore_n (lv' := [(1, .float (FP.fdiv (FP.i2f (sv 6)) (1090519040 : UInt32))), (0, .ref h0)]) hx hb dX2_learnPitch_13 rfl hl (by decide) rfl (fun ls hl => ?_)
  refine lv_aload_n hx hb dX2_learnPitch_14 rfl (lv_at hl 1 rfl) ?_
  refine lv_aload_n hx hb dX2_learnPitch_15 rfl (lv_at hl 1 rfl) ?_
  refine va_get (ci := 2) (v := .float pt) (C := RX2) (T := TX2) (N := 16) hx hb hts i2_X2_learnPitch hown hV.1 hP 0 rfl rfl 5 (by decide) (hts _ w3_X2_learnPitch) (fun _ h9 => h9) rfl dX2_learnPitch_16 ?_
  refine lv_aload_n hx hb dX2_learnPitch_19 rfl (lv_at hl 1 rfl) ?_
  refine va_get (ci := 2) (v := .ref h8) (C := RX2) (T := TX2) (N := 16) hx hb hts i2_X2_learnPitch hown hV.1 hP 0 rfl rfl 3 (by decide) (hts _ w4_X2_learnPitch) (fun _ h9 => h9) rfl dX2_learnPitch_20 ?_
  refine va_get (ci := 0) (v := .int (nI tr)) (C := RX0) (T := TX0) (N := 8) hx hb hts i0_X2_learnPitch hown hV.1 hP 1 rfl rfl 0 (by decide) (hts _ w5_X2_learnPitch) (fun _ h9 => h9) rfl dX2_learnPitch_23 ?_
  refine lv_i2f hx hb dX2_learnPitch_26 ?_
  refine lv_aload_n hx hb dX2_learnPitch_27 rfl (lv_at hl 1 rfl) ?_
  refine va_get (ci := 2) (v := .float pt) (C := RX2) (T := TX2) (N := 16) hx hb hts i2_X2_learnPitch hown hV.1 hP 0 rfl rfl 5 (by decide) (hts _ w3_X2_learnPitch) (fun _ h9 => h9) rfl dX2_learnPitch_28 ?_
  refine lv_fsub hx hb dX2_learnPitch_31 (n2) ?_
  refine lv_fload_n hx hb dX2_learnPitch_32 rfl (lv_at hl 0 rfl) ?_
  refine lv_fmul hx hb dX2_learnPitch_33 (n3) ?_
  refine lv_fadd hx hb dX2_learnPitch_34 (n4) ?_
  refine va_put (ci := 2) (v := .float (FP.fadd pt (FP.fmul (FP.fsub (FP.i2f (nI tr)) pt) (FP.fdiv (FP.i2f (sv 6)) (1090519040 : UInt32))))) (ty := .float) (C := RX2) (T := TX2) (N := 16) hx hb hts i2_X2_learnPitch tyX2 tyX2_ok nmX2 hown hV.1 hP hD hS 0 rfl rfl 5 (by decide) (hts _ w3_X2_learnPitch) (fun _ h9 => h9) rfl (by decide +kernel) rfl rfl (Nat.le_of_ble_eq_true rfl) dX2_learnPitch_35 (fun H locs hP hD hS => ?_)
  have hP : va_P E.1 vwCl [(h0, ee_o 2 [.ref h1, .ref h4, .ref h6, .ref h8, .ref h9, .float (FP.fadd pt (FP.fmul (FP.fsub (FP.i2f (nI tr)) pt) (FP.fdiv (FP.i2f (sv 6)) (1090519040 : UInt32)))), .int sp, .int ft, .int sq, .int c0, .int c1, .int c2, .int c3, .int c4, .int c5, .int c6]), (h8, ee_o 0 [.int (nI tr), .int (nI lb), .int (nI sc), .int (nI tk), .int (nI ed), .int sd, .int rn, .int (nI bl)]), (h4, ee_o 5 [.ref h5]), (h5, ee_i E 8 sv)] H := hP
  have hD : va_D A [(h0, ee_o 2 [.ref h1, .ref h4, .ref h6, .ref h8, .ref h9, .float (FP.fadd pt (FP.fmul (FP.fsub (FP.i2f (nI tr)) pt) (FP.fdiv (FP.i2f (sv 6)) (1090519040 : UInt32)))), .int sp, .int ft, .int sq, .int c0, .int c1, .int c2, .int c3, .int c4, .int c5, .int c6]), (h8, ee_o 0 [.int (nI tr), .int (nI lb), .int (nI sc), .int (nI tk), .int (nI ed), .int sd, .int rn, .int (nI bl)]), (h4, ee_o 5 [.ref h5]), (h5, ee_i E 8 sv)] := hD
  exact ee_fv hQ hx hb hr hlocks hS () (trivial) (hP.sub [0, 2, 3, 1] rfl) (hD.sub [0, 2, 3, 1] (by decide) rfl) dX2_learnPitch_38
