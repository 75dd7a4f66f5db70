/-! the model: numbers, slots, the best setting, the text -/
abbrev rmX9_number : Room := ({ frames := 1, cells := 0, slots := 0, locals := 23 } : Room)
theorem w1_X9_number : Cond.fieldLink RX9 7 "LabelApplicatorModel" "m" "[I" ∈ wsX9_number := List.mem_of_getElem? (i := 1) (by decide +kernel)
theorem w2_X9_number : Cond.fieldLink RX9 47 "LabelApplicatorModel" "textLength" "I" ∈ wsX9_number := List.mem_of_getElem? (i := 2) (by decide +kernel)
theorem w3_X9_number : Cond.methodLink RX9 171 yX9_labelsOnWeb ∈ wsX9_number := List.mem_of_getElem? (i := 3) (by decide +kernel)
theorem w6_X9_number : Cond.initialized RX9 ∈ wsX9_number := List.mem_of_getElem? (i := 6) (by decide +kernel)
theorem w8_X9_number : Cond.methodLink RX9 97 yX9_lengthBefore ∈ wsX9_number := List.mem_of_getElem? (i := 8) (by decide +kernel)
theorem w12_X9_number : Cond.methodLink RX9 174 yX9_productsInRing ∈ wsX9_number := List.mem_of_getElem? (i := 12) (by decide +kernel)
theorem i9_X9_number : ∀ w ∈ wsX90, w ∈ wsX9_number := fun w h => (goodIn_r _ [16, 17, 18, 19, 20, 21, 22, 23, 24, 25, 26, 27, 28, 29, 30, 31, 32, 33, 34, 35, 36, 37, 38, 39] (by decide +kernel) (by decide +kernel) w h).1
set_option maxHeartbeats 4000000 in
set_option maxRecDepth 100000 in
theorem kX9_number (l : Launch) (E : ee_T) (w0 w1 w2 w3 w4 w5 w6 w7 w8 w9 : Nat) (pt pa p1 p2 : UInt32) (tl ta fa it dp tv tn tb th te : Int32) (hh : Int64) (ar : Nat → Int32) (z : Sg) (w : Nat) (hR : rM z ar pt) (hw : w < 32) : CQ l E yX9_number wsX9_number rmX9_number [.ref w0, .int (nI w)] [(w0, ee_o 9 [.ref w1, .ref w2, .ref w3, .ref w4, .float pt, .float pa, .float p1, .float p2, .ref w5, .int tl, .int ta, .int fa, .ref w6, .ref w7, .int it, .ref w8, .ref w9, .int dp, .int tv, .int tn, .int tb, .int th, .int te, .long hh]), (w1, ee_i E 204 ar)] (QI E (fun (r : Int32) (u : Unit) => r = nuS z tl w) (fun (u : Unit) => [(w0, ee_o 9 [.ref w1, .ref w2, .ref w3, .ref w4, .float pt, .float pa, .float p1, .float p2, .ref w5, .int tl, .int ta, .int fa, .ref w6, .ref w7, .int it, .ref w8, .ref w9, .int dp, .int tv, .int tn, .int tb, .int th, .int te, .long hh]), (w1, ee_i E 204 ar)])) 0 0 := by
  refine CQ_ofW (cc := cX9_number) (maxL := 2) (ret := (some .int)) (by decide) rfl (Nat.le_of_ble_eq_true rfl) ?_
  intro p e s m below meth c A Q hQ hx hb hr hml hown hlocks hnm hts hV hA hP hD hS ls hl
  have hl : lv_has ls 2 [(0, .ref w0), (1, .int (nI w))] := hl
  refine lv_iload_n hx hb dX9_number_0 rfl (lv_at hl 1 rfl) ?_
  rcases (show w = 0 ∨ w = 1 ∨ w = 2 ∨ w = 3 ∨ w = 4 ∨ w = 5 ∨ w = 6 ∨ w = 7 ∨ w = 8 ∨ w = 9 ∨ w = 10 ∨ w = 11 ∨ w = 12 ∨ w = 13 ∨ w = 14 ∨ w = 15 ∨ w = 16 ∨ w = 17 ∨ w = 18 ∨ w = 19 ∨ w = 20 ∨ w = 21 ∨ w = 22 ∨ w = 23 ∨ w = 24 ∨ w = 25 ∨ w = 26 ∨ w = 27 ∨ w = 28 ∨ w = 29 ∨ w = 30 ∨ w = 31 by omega) with rfl | rfl | rfl | rfl | rfl | rfl | rfl | rfl | rfl | rfl | rfl | rfl | rfl | rfl | rfl | rfl | rfl | rfl | rfl | rfl | rfl | rfl | rfl | rfl | rfl | rfl | rfl | rfl | rfl | rfl | rfl | rfl
  · refine lv_tableIn (off := 111) (tgt := 112) hx hb dX9_number_1 (by decide) (by decide) (by decide) (by decide) ?_
    refine lv_aload_n hx hb dX9_number_112 rfl (lv_at hl 0 rfl) ?_
    refine va_get (ci := 9) (v := .ref w1) (C := RX9) (T := TX9) (N := 24) hx hb hts i9_X9_number hown hV.1 hP 0 rfl rfl 0 (by decide) (hts _ w1_X9_number) (fun _ h9 => h9) rfl dX9_number_113 ?_
    refine lv_iconst (v := nI 0) hx hb dX9_number_116 (by decide) ?_
    refine ee_ild hx hb hV hP 1 rfl (j := 0) (by omega) (by decide) dX9_number_117 ?_
    refine ee_to (z := nI (gN z)) (rM_N hR) ?_
    exact ee_fi hQ hx hb hr (rfl) hlocks hS () (rfl) hP hD dX9_number_118
  · refine lv_tableIn (off := 118) (tgt := 119) hx hb dX9_number_1 (by decide) (by decide) (by decide) (by decide) ?_
    refine lv_aload_n hx hb dX9_number_119 rfl (lv_at hl 0 rfl) ?_
    refine ee_ki (wr := []) (ee_rV (As := []) (rest := []) (kX9_labelsOnWeb l E w0 w1 w2 w3 w4 w5 w6 w7 w8 w9 pt pa p1 p2 tl ta fa it dp tv tn tb th te hh ar z hR) hx hb hml hown hts 0 gX9_number_X9_labelsOnWeb rfl rfl rfl (by decide +kernel) ⟨Nat.le_of_ble_eq_true rfl, Nat.le_of_ble_eq_true rfl⟩ hV hP hD hS hA [0, 1] rfl (by decide) hl 0 rfl rfl rfl rfl (Nat.le_of_ble_eq_true rfl) dX9_number_120 ⟨Nat.le_of_ble_eq_true rfl, Nat.le_of_ble_eq_true rfl⟩) hP hD hS hA [0, 1] [] rfl rfl (by decide) (by decide) (fun r_1 u_2 H locs hp_3 hP hD hS => ?_)
    subst hp_3
    have hP : va_P E.1 vwCl [(w0, ee_o 9 [.ref w1, .ref w2, .ref w3, .ref w4, .float pt, .float pa, .float p1, .float p2, .ref w5, .int tl, .int ta, .int fa, .ref w6, .ref w7, .int it, .ref w8, .ref w9, .int dp, .int tv, .int tn, .int tb, .int th, .int te, .long hh]), (w1, ee_i E 204 ar)] H := hP
    have hD : va_D A [(w0, ee_o 9 [.ref w1, .ref w2, .ref w3, .ref w4, .float pt, .float pa, .float p1, .float p2, .ref w5, .int tl, .int ta, .int fa, .ref w6, .ref w7, .int it, .ref w8, .ref w9, .int dp, .int tv, .int tn, .int tb, .int th, .int te, .long hh]), (w1, ee_i E 204 ar)] := hD
    exact ee_fi hQ hx hb hr (rfl) hlocks hS () (rfl) hP hD dX9_number_123
  · refine lv_tableIn (off := 123) (tgt := 124) hx hb dX9_number_1 (by decide) (by decide) (by decide) (by decide) ?_
    refine lv_aload_n hx hb dX9_number_124 rfl (lv_at hl 0 rfl) ?_
    refine lv_aload_n hx hb dX9_number_125 rfl (lv_at hl 0 rfl) ?_
    refine va_get (ci := 9) (v := .ref w1) (C := RX9) (T := TX9) (N := 24) hx hb hts i9_X9_number hown hV.1 hP 0 rfl rfl 0 (by decide) (hts _ w1_X9_number) (fun _ h9 => h9) rfl dX9_number_126 ?_
    refine lv_iconst (v := nI 0) hx hb dX9_number_129 (by decide) ?_
    refine ee_ild hx hb hV hP 1 rfl (j := 0) (by omega) (by decide) dX9_number_130 ?_
    refine ee_to (z := nI (gN z)) (rM_N hR) ?_
    refine ee_ki (wr := []) (ee_rV (As := [.int (nI (gN z))]) (rest := []) (kX9_lengthBefore l E w0 w1 w2 w3 w4 w5 w6 w7 w8 w9 pt pa p1 p2 tl ta fa it dp tv tn tb th te hh ar (gN z) hR.1.1) hx hb hml hown hts 1 gX9_number_X9_lengthBefore rfl rfl rfl (by decide +kernel) ⟨Nat.le_of_ble_eq_true rfl, Nat.le_of_ble_eq_true rfl⟩ hV hP hD hS hA [0, 1] rfl (by decide) hl 0 rfl rfl rfl rfl (Nat.le_of_ble_eq_true rfl) dX9_number_131 ⟨Nat.le_of_ble_eq_true rfl, Nat.le_of_ble_eq_true rfl⟩) hP hD hS hA [0, 1] [] rfl rfl (by decide) (by decide) (fun r_4 u_5 H locs hp_6 hP hD hS => ?_)
    subst hp_6
    have hP : va_P E.1 vwCl [(w0, ee_o 9 [.ref w1, .ref w2, .ref w3, .ref w4, .float pt, .float pa, .float p1, .float p2, .ref w5, .int tl, .int ta, .int fa, .ref w6, .ref w7, .int it, .ref w8, .ref w9, .int dp, .int tv, .int tn, .int tb, .int th, .int te, .long hh]), (w1, ee_i E 204 ar)] H := hP
    have hD : va_D A [(w0, ee_o 9 [.ref w1, .ref w2, .ref w3, .ref w4, .float pt, .float pa, .float p1, .float p2, .ref w5, .int tl, .int ta, .int fa, .ref w6, .ref w7, .int it, .ref w8, .ref w9, .int dp, .int tv, .int tn, .int tb, .int th, .int te, .long hh]), (w1, ee_i E 204 ar)] := hD
    exact ee_fi hQ hx hb hr (rfl) hlocks hS () (sumF_cg (gN z) (fun j hj => by rw [Nat.zero_add]; exact (rM_W hR j hj).2)) hP hD dX9_number_134
  · refine lv_tableIn (off := 134) (tgt := 135) hx hb dX9_number_1 (by decide) (by decide) (by decide) (by decide) ?_
    refine lv_aload_n hx hb dX9_number_135 rfl (lv_at hl 0 rfl) ?_
    refine va_get (ci := 9) (v := .ref w1) (C := RX9) (T := TX9) (N := 24) hx hb hts i9_X9_number hown hV.1 hP 0 rfl rfl 0 (by decide) (hts _ w1_X9_number) (fun _ h9 => h9) rfl dX9_number_136 ?_
    refine lv_sipush (v := nI 169) hx hb dX9_number_139 (by decide) ?_
    refine ee_ild hx hb hV hP 1 rfl (j := 169) (by omega) (by decide) dX9_number_142 ?_
    refine ee_to (z := gV z) (rM_V hR) ?_
    exact ee_fi hQ hx hb hr (rfl) hlocks hS () (rfl) hP hD dX9_number_143
  · refine lv_tableIn (off := 143) (tgt := 144) hx hb dX9_number_1 (by decide) (by decide) (by decide) (by decide) ?_
    refine lv_aload_n hx hb dX9_number_144 rfl (lv_at hl 0 rfl) ?_
    refine va_get (ci := 9) (v := .ref w1) (C := RX9) (T := TX9) (N := 24) hx hb hts i9_X9_number hown hV.1 hP 0 rfl rfl 0 (by decide) (hts _ w1_X9_number) (fun _ h9 => h9) rfl dX9_number_145 ?_
    refine lv_sipush (v := nI 170) hx hb dX9_number_148 (by decide) ?_
    refine ee_ild hx hb hV hP 1 rfl (j := 170) (by omega) (by decide) dX9_number_151 ?_
    refine ee_to (z := nI (gT z)) (rM_T hR) ?_
    exact ee_fi hQ hx hb hr (rfl) hlocks hS () (rfl) hP hD dX9_number_152
  · refine lv_tableIn (off := 152) (tgt := 153) hx hb dX9_number_1 (by decide) (by decide) (by decide) (by decide) ?_
    refine lv_aload_n hx hb dX9_number_153 rfl (lv_at hl 0 rfl) ?_
    refine ee_ki (wr := []) (ee_rV (As := []) (rest := []) (kX9_productsInRing l E w0 w1 w2 w3 w4 w5 w6 w7 w8 w9 pt pa p1 p2 tl ta fa it dp tv tn tb th te hh ar z hR) hx hb hml hown hts 0 gX9_number_X9_productsInRing rfl rfl rfl (by decide +kernel) ⟨Nat.le_of_ble_eq_true rfl, Nat.le_of_ble_eq_true rfl⟩ hV hP hD hS hA [0, 1] rfl (by decide) hl 0 rfl rfl rfl rfl (Nat.le_of_ble_eq_true rfl) dX9_number_154 ⟨Nat.le_of_ble_eq_true rfl, Nat.le_of_ble_eq_true rfl⟩) hP hD hS hA [0, 1] [] rfl rfl (by decide) (by decide) (fun r_7 u_8 H locs hp_9 hP hD hS => ?_)
    subst hp_9
    have hP : va_P E.1 vwCl [(w0, ee_o 9 [.ref w1, .ref w2, .ref w3, .ref w4, .float pt, .float pa, .float p1, .float p2, .ref w5, .int tl, .int ta, .int fa, .ref w6, .ref w7, .int it, .ref w8, .ref w9, .int dp, .int tv, .int tn, .int tb, .int th, .int te, .long hh]), (w1, ee_i E 204 ar)] H := hP
    have hD : va_D A [(w0, ee_o 9 [.ref w1, .ref w2, .ref w3, .ref w4, .float pt, .float pa, .float p1, .float p2, .ref w5, .int tl, .int ta, .int fa, .ref w6, .ref w7, .int it, .ref w8, .ref w9, .int dp, .int tv, .int tn, .int tb, .int th, .int te, .long hh]), (w1, ee_i E 204 ar)] := hD
    exact ee_fi hQ hx hb hr (rfl) hlocks hS () (rfl) hP hD dX9_number_157
  · refine lv_tableIn (off := 162) (tgt := 163) hx hb dX9_number_1 (by decide) (by decide) (by decide) (by decide) ?_
    refine lv_iload_n hx hb dX9_number_163 rfl (lv_at hl 1 rfl) ?_
    refine lv_bipush (v := nI 15) hx hb dX9_number_164 (by decide) ?_
    refine ee_ge (tgt := 185) hx hb (by omega) (by omega) dX9_number_166 (by decide) (fun h_10 => absurd h_10 (by decide)) (fun h_10 => ?_)
    refine lv_aload_n hx hb dX9_number_169 rfl (lv_at hl 0 rfl) ?_
    refine va_get (ci := 9) (v := .ref w1) (C := RX9) (T := TX9) (N := 24) hx hb hts i9_X9_number hown hV.1 hP 0 rfl rfl 0 (by decide) (hts _ w1_X9_number) (fun _ h9 => h9) rfl dX9_number_170 ?_
    refine lv_sipush (v := nI 181) hx hb dX9_number_173 (by decide) ?_
    refine lv_iload_n hx hb dX9_number_176 rfl (lv_at hl 1 rfl) ?_
    refine ee_iadd hx hb dX9_number_177 ?_
    refine lv_bipush (v := nI 6) hx hb dX9_number_178 (by decide) ?_
    refine ee_isub hx hb (by omega) dX9_number_180 ?_
    refine ee_ild hx hb hV hP 1 rfl (j := (187 - 6)) (by omega) (by decide) dX9_number_181 ?_
    refine ee_to (z := gC z 0) (rM_C hR 0 (by decide)) ?_
    refine lv_goto (tgt := 220) hx hb dX9_number_182 (by decide) ?_
    exact ee_fi hQ hx hb hr (rfl) hlocks hS () (rfl) hP hD dX9_number_220
  · refine lv_tableIn (off := 162) (tgt := 163) hx hb dX9_number_1 (by decide) (by decide) (by decide) (by decide) ?_
    refine lv_iload_n hx hb dX9_number_163 rfl (lv_at hl 1 rfl) ?_
    refine lv_bipush (v := nI 15) hx hb dX9_number_164 (by decide) ?_
    refine ee_ge (tgt := 185) hx hb (by omega) (by omega) dX9_number_166 (by decide) (fun h_11 => absurd h_11 (by decide)) (fun h_11 => ?_)
    refine lv_aload_n hx hb dX9_number_169 rfl (lv_at hl 0 rfl) ?_
    refine va_get (ci := 9) (v := .ref w1) (C := RX9) (T := TX9) (N := 24) hx hb hts i9_X9_number hown hV.1 hP 0 rfl rfl 0 (by decide) (hts _ w1_X9_number) (fun _ h9 => h9) rfl dX9_number_170 ?_
    refine lv_sipush (v := nI 181) hx hb dX9_number_173 (by decide) ?_
    refine lv_iload_n hx hb dX9_number_176 rfl (lv_at hl 1 rfl) ?_
    refine ee_iadd hx hb dX9_number_177 ?_
    refine lv_bipush (v := nI 6) hx hb dX9_number_178 (by decide) ?_
    refine ee_isub hx hb (by omega) dX9_number_180 ?_
    refine ee_ild hx hb hV hP 1 rfl (j := (188 - 6)) (by omega) (by decide) dX9_number_181 ?_
    refine ee_to (z := gC z 1) (rM_C hR 1 (by decide)) ?_
    refine lv_goto (tgt := 220) hx hb dX9_number_182 (by decide) ?_
    exact ee_fi hQ hx hb hr (rfl) hlocks hS () (rfl) hP hD dX9_number_220
  · refine lv_tableIn (off := 162) (tgt := 163) hx hb dX9_number_1 (by decide) (by decide) (by decide) (by decide) ?_
    refine lv_iload_n hx hb dX9_number_163 rfl (lv_at hl 1 rfl) ?_
    refine lv_bipush (v := nI 15) hx hb dX9_number_164 (by decide) ?_
    refine ee_ge (tgt := 185) hx hb (by omega) (by omega) dX9_number_166 (by decide) (fun h_12 => absurd h_12 (by decide)) (fun h_12 => ?_)
    refine lv_aload_n hx hb dX9_number_169 rfl (lv_at hl 0 rfl) ?_
    refine va_get (ci := 9) (v := .ref w1) (C := RX9) (T := TX9) (N := 24) hx hb hts i9_X9_number hown hV.1 hP 0 rfl rfl 0 (by decide) (hts _ w1_X9_number) (fun _ h9 => h9) rfl dX9_number_170 ?_
    refine lv_sipush (v := nI 181) hx hb dX9_number_173 (by decide) ?_
    refine lv_iload_n hx hb dX9_number_176 rfl (lv_at hl 1 rfl) ?_
    refine ee_iadd hx hb dX9_number_177 ?_
    refine lv_bipush (v := nI 6) hx hb dX9_number_178 (by decide) ?_
    refine ee_isub hx hb (by omega) dX9_number_180 ?_
    refine ee_ild hx hb hV hP 1 rfl (j := (189 - 6)) (by omega) (by decide) dX9_number_181 ?_
    refine ee_to (z := gC z 2) (rM_C hR 2 (by decide)) ?_
    refine lv_goto (tgt := 220) hx hb dX9_number_182 (by decide) ?_
    exact ee_fi hQ hx hb hr (rfl) hlocks hS () (rfl) hP hD dX9_number_220
  · refine lv_tableIn (off := 162) (tgt := 163) hx hb dX9_number_1 (by decide) (by decide) (by decide) (by decide) ?_
    refine lv_iload_n hx hb dX9_number_163 rfl (lv_at hl 1 rfl) ?_
    refine lv_bipush (v := nI 15) hx hb dX9_number_164 (by decide) ?_
    refine ee_ge (tgt := 185) hx hb (by omega) (by omega) dX9_number_166 (by decide) (fun h_13 => absurd h_13 (by decide)) (fun h_13 => ?_)
    refine lv_aload_n hx hb dX9_number_169 rfl (lv_at hl 0 rfl) ?_
    refine va_get (ci := 9) (v := .ref w1) (C := RX9) (T := TX9) (N := 24) hx hb hts i9_X9_number hown hV.1 hP 0 rfl rfl 0 (by decide) (hts _ w1_X9_number) (fun _ h9 => h9) rfl dX9_number_170 ?_
    refine lv_sipush (v := nI 181) hx hb dX9_number_173 (by decide) ?_
    refine lv_iload_n hx hb dX9_number_176 rfl (lv_at hl 1 rfl) ?_
    refine ee_iadd hx hb dX9_number_177 ?_
    refine lv_bipush (v := nI 6) hx hb dX9_number_178 (by decide) ?_
    refine ee_isub hx hb (by omega) dX9_number_180 ?_
    refine ee_ild hx hb hV hP 1 rfl (j := (190 - 6)) (by omega) (by decide) dX9_number_181 ?_
    refine ee_to (z := gC z 3) (rM_C hR 3 (by decide)) ?_
    refine lv_goto (tgt := 220) hx hb dX9_number_182 (by decide) ?_
    exact ee_fi hQ hx hb hr (rfl) hlocks hS () (rfl) hP hD dX9_number_220
  · refine lv_tableIn (off := 162) (tgt := 163) hx hb dX9_number_1 (by decide) (by decide) (by decide) (by decide) ?_
    refine lv_iload_n hx hb dX9_number_163 rfl (lv_at hl 1 rfl) ?_
    refine lv_bipush (v := nI 15) hx hb dX9_number_164 (by decide) ?_
    refine ee_ge (tgt := 185) hx hb (by omega) (by omega) dX9_number_166 (by decide) (fun h_14 => absurd h_14 (by decide)) (fun h_14 => ?_)
    refine lv_aload_n hx hb dX9_number_169 rfl (lv_at hl 0 rfl) ?_
    refine va_get (ci := 9) (v := .ref w1) (C := RX9) (T := TX9) (N := 24) hx hb hts i9_X9_number hown hV.1 hP 0 rfl rfl 0 (by decide) (hts _ w1_X9_number) (fun _ h9 => h9) rfl dX9_number_170 ?_
    refine lv_sipush (v := nI 181) hx hb dX9_number_173 (by decide) ?_
    refine lv_iload_n hx hb dX9_number_176 rfl (lv_at hl 1 rfl) ?_
    refine ee_iadd hx hb dX9_number_177 ?_
    refine lv_bipush (v := nI 6) hx hb dX9_number_178 (by decide) ?_
    refine ee_isub hx hb (by omega) dX9_number_180 ?_
    refine ee_ild hx hb hV hP 1 rfl (j := (191 - 6)) (by omega) (by decide) dX9_number_181 ?_
    refine ee_to (z := gC z 4) (rM_C hR 4 (by decide)) ?_
    refine lv_goto (tgt := 220) hx hb dX9_number_182 (by decide) ?_
    exact ee_fi hQ hx hb hr (rfl) hlocks hS () (rfl) hP hD dX9_number_220
  · refine lv_tableIn (off := 162) (tgt := 163) hx hb dX9_number_1 (by decide) (by decide) (by decide) (by decide) ?_
    refine lv_iload_n hx hb dX9_number_163 rfl (lv_at hl 1 rfl) ?_
    refine lv_bipush (v := nI 15) hx hb dX9_number_164 (by decide) ?_
    refine ee_ge (tgt := 185) hx hb (by omega) (by omega) dX9_number_166 (by decide) (fun h_15 => absurd h_15 (by decide)) (fun h_15 => ?_)
    refine lv_aload_n hx hb dX9_number_169 rfl (lv_at hl 0 rfl) ?_
    refine va_get (ci := 9) (v := .ref w1) (C := RX9) (T := TX9) (N := 24) hx hb hts i9_X9_number hown hV.1 hP 0 rfl rfl 0 (by decide) (hts _ w1_X9_number) (fun _ h9 => h9) rfl dX9_number_170 ?_
    refine lv_sipush (v := nI 181) hx hb dX9_number_173 (by decide) ?_
    refine lv_iload_n hx hb dX9_number_176 rfl (lv_at hl 1 rfl) ?_
    refine ee_iadd hx hb dX9_number_177 ?_
    refine lv_bipush (v := nI 6) hx hb dX9_number_178 (by decide) ?_
    refine ee_isub hx hb (by omega) dX9_number_180 ?_
    refine ee_ild hx hb hV hP 1 rfl (j := (192 - 6)) (by omega) (by decide) dX9_number_181 ?_
    refine ee_to (z := gC z 5) (rM_C hR 5 (by decide)) ?_
    refine lv_goto (tgt := 220) hx hb dX9_number_182 (by decide) ?_
    exact ee_fi hQ hx hb hr (rfl) hlocks hS () (rfl) hP hD dX9_number_220
  · refine lv_tableIn (off := 162) (tgt := 163) hx hb dX9_number_1 (by decide) (by decide) (by decide) (by decide) ?_
    refine lv_iload_n hx hb dX9_number_163 rfl (lv_at hl 1 rfl) ?_
    refine lv_bipush (v := nI 15) hx hb dX9_number_164 (by decide) ?_
    refine ee_ge (tgt := 185) hx hb (by omega) (by omega) dX9_number_166 (by decide) (fun h_16 => absurd h_16 (by decide)) (fun h_16 => ?_)
    refine lv_aload_n hx hb dX9_number_169 rfl (lv_at hl 0 rfl) ?_
    refine va_get (ci := 9) (v := .ref w1) (C := RX9) (T := TX9) (N := 24) hx hb hts i9_X9_number hown hV.1 hP 0 rfl rfl 0 (by decide) (hts _ w1_X9_number) (fun _ h9 => h9) rfl dX9_number_170 ?_
    refine lv_sipush (v := nI 181) hx hb dX9_number_173 (by decide) ?_
    refine lv_iload_n hx hb dX9_number_176 rfl (lv_at hl 1 rfl) ?_
    refine ee_iadd hx hb dX9_number_177 ?_
    refine lv_bipush (v := nI 6) hx hb dX9_number_178 (by decide) ?_
    refine ee_isub hx hb (by omega) dX9_number_180 ?_
    refine ee_ild hx hb hV hP 1 rfl (j := (193 - 6)) (by omega) (by decide) dX9_number_181 ?_
    refine ee_to (z := gC z 6) (rM_C hR 6 (by decide)) ?_
    refine lv_goto (tgt := 220) hx hb dX9_number_182 (by decide) ?_
    exact ee_fi hQ hx hb hr (rfl) hlocks hS () (rfl) hP hD dX9_number_220
  · refine lv_tableIn (off := 162) (tgt := 163) hx hb dX9_number_1 (by decide) (by decide) (by decide) (by decide) ?_
    refine lv_iload_n hx hb dX9_number_163 rfl (lv_at hl 1 rfl) ?_
    refine lv_bipush (v := nI 15) hx hb dX9_number_164 (by decide) ?_
    refine ee_ge (tgt := 185) hx hb (by omega) (by omega) dX9_number_166 (by decide) (fun h_17 => absurd h_17 (by decide)) (fun h_17 => ?_)
    refine lv_aload_n hx hb dX9_number_169 rfl (lv_at hl 0 rfl) ?_
    refine va_get (ci := 9) (v := .ref w1) (C := RX9) (T := TX9) (N := 24) hx hb hts i9_X9_number hown hV.1 hP 0 rfl rfl 0 (by decide) (hts _ w1_X9_number) (fun _ h9 => h9) rfl dX9_number_170 ?_
    refine lv_sipush (v := nI 181) hx hb dX9_number_173 (by decide) ?_
    refine lv_iload_n hx hb dX9_number_176 rfl (lv_at hl 1 rfl) ?_
    refine ee_iadd hx hb dX9_number_177 ?_
    refine lv_bipush (v := nI 6) hx hb dX9_number_178 (by decide) ?_
    refine ee_isub hx hb (by omega) dX9_number_180 ?_
    refine ee_ild hx hb hV hP 1 rfl (j := (194 - 6)) (by omega) (by decide) dX9_number_181 ?_
    refine ee_to (z := gC z 7) (rM_C hR 7 (by decide)) ?_
    refine lv_goto (tgt := 220) hx hb dX9_number_182 (by decide) ?_
    exact ee_fi hQ hx hb hr (rfl) hlocks hS () (rfl) hP hD dX9_number_220
  · refine lv_tableIn (off := 162) (tgt := 163) hx hb dX9_number_1 (by decide) (by decide) (by decide) (by decide) ?_
    refine lv_iload_n hx hb dX9_number_163 rfl (lv_at hl 1 rfl) ?_
    refine lv_bipush (v := nI 15) hx hb dX9_number_164 (by decide) ?_
    refine ee_ge (tgt := 185) hx hb (by omega) (by omega) dX9_number_166 (by decide) (fun h_18 => absurd h_18 (by decide)) (fun h_18 => ?_)
    refine lv_aload_n hx hb dX9_number_169 rfl (lv_at hl 0 rfl) ?_
    refine va_get (ci := 9) (v := .ref w1) (C := RX9) (T := TX9) (N := 24) hx hb hts i9_X9_number hown hV.1 hP 0 rfl rfl 0 (by decide) (hts _ w1_X9_number) (fun _ h9 => h9) rfl dX9_number_170 ?_
    refine lv_sipush (v := nI 181) hx hb dX9_number_173 (by decide) ?_
    refine lv_iload_n hx hb dX9_number_176 rfl (lv_at hl 1 rfl) ?_
    refine ee_iadd hx hb dX9_number_177 ?_
    refine lv_bipush (v := nI 6) hx hb dX9_number_178 (by decide) ?_
    refine ee_isub hx hb (by omega) dX9_number_180 ?_
    refine ee_ild hx hb hV hP 1 rfl (j := (195 - 6)) (by omega) (by decide) dX9_number_181 ?_
    refine ee_to (z := gC z 8) (rM_C hR 8 (by decide)) ?_
    refine lv_goto (tgt := 220) hx hb dX9_number_182 (by decide) ?_
    exact ee_fi hQ hx hb hr (rfl) hlocks hS () (rfl) hP hD dX9_number_220
  · refine lv_tableIn (off := 162) (tgt := 163) hx hb dX9_number_1 (by decide) (by decide) (by decide) (by decide) ?_
    refine lv_iload_n hx hb dX9_number_163 rfl (lv_at hl 1 rfl) ?_
    refine lv_bipush (v := nI 15) hx hb dX9_number_164 (by decide) ?_
    refine ee_ge (tgt := 185) hx hb (by omega) (by omega) dX9_number_166 (by decide) (fun h_19 => ?_) (fun h_19 => absurd h_19 (by decide))
    refine lv_iload_n hx hb dX9_number_185 rfl (lv_at hl 1 rfl) ?_
    refine lv_bipush (v := nI 23) hx hb dX9_number_186 (by decide) ?_
    refine ee_ge (tgt := 207) hx hb (by omega) (by omega) dX9_number_188 (by decide) (fun h_20 => absurd h_20 (by decide)) (fun h_20 => ?_)
    refine lv_aload_n hx hb dX9_number_191 rfl (lv_at hl 0 rfl) ?_
    refine va_get (ci := 9) (v := .ref w1) (C := RX9) (T := TX9) (N := 24) hx hb hts i9_X9_number hown hV.1 hP 0 rfl rfl 0 (by decide) (hts _ w1_X9_number) (fun _ h9 => h9) rfl dX9_number_192 ?_
    refine lv_sipush (v := nI 161) hx hb dX9_number_195 (by decide) ?_
    refine lv_iload_n hx hb dX9_number_198 rfl (lv_at hl 1 rfl) ?_
    refine ee_iadd hx hb dX9_number_199 ?_
    refine lv_bipush (v := nI 15) hx hb dX9_number_200 (by decide) ?_
    refine ee_isub hx hb (by omega) dX9_number_202 ?_
    refine ee_ild hx hb hV hP 1 rfl (j := (176 - 15)) (by omega) (by decide) dX9_number_203 ?_
    refine ee_to (z := gS z 0) (rM_S hR 0 (by decide)) ?_
    refine lv_goto (tgt := 220) hx hb dX9_number_204 (by decide) ?_
    exact ee_fi hQ hx hb hr (rfl) hlocks hS () (rfl) hP hD dX9_number_220
  · refine lv_tableIn (off := 162) (tgt := 163) hx hb dX9_number_1 (by decide) (by decide) (by decide) (by decide) ?_
    refine lv_iload_n hx hb dX9_number_163 rfl (lv_at hl 1 rfl) ?_
    refine lv_bipush (v := nI 15) hx hb dX9_number_164 (by decide) ?_
    refine ee_ge (tgt := 185) hx hb (by omega) (by omega) dX9_number_166 (by decide) (fun h_21 => ?_) (fun h_21 => absurd h_21 (by decide))
    refine lv_iload_n hx hb dX9_number_185 rfl (lv_at hl 1 rfl) ?_
    refine lv_bipush (v := nI 23) hx hb dX9_number_186 (by decide) ?_
    refine ee_ge (tgt := 207) hx hb (by omega) (by omega) dX9_number_188 (by decide) (fun h_22 => absurd h_22 (by decide)) (fun h_22 => ?_)
    refine lv_aload_n hx hb dX9_number_191 rfl (lv_at hl 0 rfl) ?_
    refine va_get (ci := 9) (v := .ref w1) (C := RX9) (T := TX9) (N := 24) hx hb hts i9_X9_number hown hV.1 hP 0 rfl rfl 0 (by decide) (hts _ w1_X9_number) (fun _ h9 => h9) rfl dX9_number_192 ?_
    refine lv_sipush (v := nI 161) hx hb dX9_number_195 (by decide) ?_
    refine lv_iload_n hx hb dX9_number_198 rfl (lv_at hl 1 rfl) ?_
    refine ee_iadd hx hb dX9_number_199 ?_
    refine lv_bipush (v := nI 15) hx hb dX9_number_200 (by decide) ?_
    refine ee_isub hx hb (by omega) dX9_number_202 ?_
    refine ee_ild hx hb hV hP 1 rfl (j := (177 - 15)) (by omega) (by decide) dX9_number_203 ?_
    refine ee_to (z := gS z 1) (rM_S hR 1 (by decide)) ?_
    refine lv_goto (tgt := 220) hx hb dX9_number_204 (by decide) ?_
    exact ee_fi hQ hx hb hr (rfl) hlocks hS () (rfl) hP hD dX9_number_220
  · refine lv_tableIn (off := 162) (tgt := 163) hx hb dX9_number_1 (by decide) (by decide) (by decide) (by decide) ?_
    refine lv_iload_n hx hb dX9_number_163 rfl (lv_at hl 1 rfl) ?_
    refine lv_bipush (v := nI 15) hx hb dX9_number_164 (by decide) ?_
    refine ee_ge (tgt := 185) hx hb (by omega) (by omega) dX9_number_166 (by decide) (fun h_23 => ?_) (fun h_23 => absurd h_23 (by decide))
    refine lv_iload_n hx hb dX9_number_185 rfl (lv_at hl 1 rfl) ?_
    refine lv_bipush (v := nI 23) hx hb dX9_number_186 (by decide) ?_
    refine ee_ge (tgt := 207) hx hb (by omega) (by omega) dX9_number_188 (by decide) (fun h_24 => absurd h_24 (by decide)) (fun h_24 => ?_)
    refine lv_aload_n hx hb dX9_number_191 rfl (lv_at hl 0 rfl) ?_
    refine va_get (ci := 9) (v := .ref w1) (C := RX9) (T := TX9) (N := 24) hx hb hts i9_X9_number hown hV.1 hP 0 rfl rfl 0 (by decide) (hts _ w1_X9_number) (fun _ h9 => h9) rfl dX9_number_192 ?_
    refine lv_sipush (v := nI 161) hx hb dX9_number_195 (by decide) ?_
    refine lv_iload_n hx hb dX9_number_198 rfl (lv_at hl 1 rfl) ?_
    refine ee_iadd hx hb dX9_number_199 ?_
    refine lv_bipush (v := nI 15) hx hb dX9_number_200 (by decide) ?_
    refine ee_isub hx hb (by omega) dX9_number_202 ?_
    refine ee_ild hx hb hV hP 1 rfl (j := (178 - 15)) (by omega) (by decide) dX9_number_203 ?_
    refine ee_to (z := gS z 2) (rM_S hR 2 (by decide)) ?_
    refine lv_goto (tgt := 220) hx hb dX9_number_204 (by decide) ?_
    exact ee_fi hQ hx hb hr (rfl) hlocks hS () (rfl) hP hD dX9_number_220
  · refine lv_tableIn (off := 162) (tgt := 163) hx hb dX9_number_1 (by decide) (by decide) (by decide) (by decide) ?_
    refine lv_iload_n hx hb dX9_number_163 rfl (lv_at hl 1 rfl) ?_
    refine lv_bipush (v := nI 15) hx hb dX9_number_164 (by decide) ?_
    refine ee_ge (tgt := 185) hx hb (by omega) (by omega) dX9_number_166 (by decide) (fun h_25 => ?_) (fun h_25 => absurd h_25 (by decide))
    refine lv_iload_n hx hb dX9_number_185 rfl (lv_at hl 1 rfl) ?_
    refine lv_bipush (v := nI 23) hx hb dX9_number_186 (by decide) ?_
    refine ee_ge (tgt := 207) hx hb (by omega) (by omega) dX9_number_188 (by decide) (fun h_26 => absurd h_26 (by decide)) (fun h_26 => ?_)
    refine lv_aload_n hx hb dX9_number_191 rfl (lv_at hl 0 rfl) ?_
    refine va_get (ci := 9) (v := .ref w1) (C := RX9) (T := TX9) (N := 24) hx hb hts i9_X9_number hown hV.1 hP 0 rfl rfl 0 (by decide) (hts _ w1_X9_number) (fun _ h9 => h9) rfl dX9_number_192 ?_
    refine lv_sipush (v := nI 161) hx hb dX9_number_195 (by decide) ?_
    refine lv_iload_n hx hb dX9_number_198 rfl (lv_at hl 1 rfl) ?_
    refine ee_iadd hx hb dX9_number_199 ?_
    refine lv_bipush (v := nI 15) hx hb dX9_number_200 (by decide) ?_
    refine ee_isub hx hb (by omega) dX9_number_202 ?_
    refine ee_ild hx hb hV hP 1 rfl (j := (179 - 15)) (by omega) (by decide) dX9_number_203 ?_
    refine ee_to (z := gS z 3) (rM_S hR 3 (by decide)) ?_
    refine lv_goto (tgt := 220) hx hb dX9_number_204 (by decide) ?_
    exact ee_fi hQ hx hb hr (rfl) hlocks hS () (rfl) hP hD dX9_number_220
  · refine lv_tableIn (off := 162) (tgt := 163) hx hb dX9_number_1 (by decide) (by decide) (by decide) (by decide) ?_
    refine lv_iload_n hx hb dX9_number_163 rfl (lv_at hl 1 rfl) ?_
    refine lv_bipush (v := nI 15) hx hb dX9_number_164 (by decide) ?_
    refine ee_ge (tgt := 185) hx hb (by omega) (by omega) dX9_number_166 (by decide) (fun h_27 => ?_) (fun h_27 => absurd h_27 (by decide))
    refine lv_iload_n hx hb dX9_number_185 rfl (lv_at hl 1 rfl) ?_
    refine lv_bipush (v := nI 23) hx hb dX9_number_186 (by decide) ?_
    refine ee_ge (tgt := 207) hx hb (by omega) (by omega) dX9_number_188 (by decide) (fun h_28 => absurd h_28 (by decide)) (fun h_28 => ?_)
    refine lv_aload_n hx hb dX9_number_191 rfl (lv_at hl 0 rfl) ?_
    refine va_get (ci := 9) (v := .ref w1) (C := RX9) (T := TX9) (N := 24) hx hb hts i9_X9_number hown hV.1 hP 0 rfl rfl 0 (by decide) (hts _ w1_X9_number) (fun _ h9 => h9) rfl dX9_number_192 ?_
    refine lv_sipush (v := nI 161) hx hb dX9_number_195 (by decide) ?_
    refine lv_iload_n hx hb dX9_number_198 rfl (lv_at hl 1 rfl) ?_
    refine ee_iadd hx hb dX9_number_199 ?_
    refine lv_bipush (v := nI 15) hx hb dX9_number_200 (by decide) ?_
    refine ee_isub hx hb (by omega) dX9_number_202 ?_
    refine ee_ild hx hb hV hP 1 rfl (j := (180 - 15)) (by omega) (by decide) dX9_number_203 ?_
    refine ee_to (z := gS z 4) (rM_S hR 4 (by decide)) ?_
    refine lv_goto (tgt := 220) hx hb dX9_number_204 (by decide) ?_
    exact ee_fi hQ hx hb hr (rfl) hlocks hS () (rfl) hP hD dX9_number_220
  · refine lv_tableIn (off := 162) (tgt := 163) hx hb dX9_number_1 (by decide) (by decide) (by decide) (by decide) ?_
    refine lv_iload_n hx hb dX9_number_163 rfl (lv_at hl 1 rfl) ?_
    refine lv_bipush (v := nI 15) hx hb dX9_number_164 (by decide) ?_
    refine ee_ge (tgt := 185) hx hb (by omega) (by omega) dX9_number_166 (by decide) (fun h_29 => ?_) (fun h_29 => absurd h_29 (by decide))
    refine lv_iload_n hx hb dX9_number_185 rfl (lv_at hl 1 rfl) ?_
    refine lv_bipush (v := nI 23) hx hb dX9_number_186 (by decide) ?_
    refine ee_ge (tgt := 207) hx hb (by omega) (by omega) dX9_number_188 (by decide) (fun h_30 => absurd h_30 (by decide)) (fun h_30 => ?_)
    refine lv_aload_n hx hb dX9_number_191 rfl (lv_at hl 0 rfl) ?_
    refine va_get (ci := 9) (v := .ref w1) (C := RX9) (T := TX9) (N := 24) hx hb hts i9_X9_number hown hV.1 hP 0 rfl rfl 0 (by decide) (hts _ w1_X9_number) (fun _ h9 => h9) rfl dX9_number_192 ?_
    refine lv_sipush (v := nI 161) hx hb dX9_number_195 (by decide) ?_
    refine lv_iload_n hx hb dX9_number_198 rfl (lv_at hl 1 rfl) ?_
    refine ee_iadd hx hb dX9_number_199 ?_
    refine lv_bipush (v := nI 15) hx hb dX9_number_200 (by decide) ?_
    refine ee_isub hx hb (by omega) dX9_number_202 ?_
    refine ee_ild hx hb hV hP 1 rfl (j := (181 - 15)) (by omega) (by decide) dX9_number_203 ?_
    refine ee_to (z := gS z 5) (rM_S hR 5 (by decide)) ?_
    refine lv_goto (tgt := 220) hx hb dX9_number_204 (by decide) ?_
    exact ee_fi hQ hx hb hr (rfl) hlocks hS () (rfl) hP hD dX9_number_220
  · refine lv_tableIn (off := 162) (tgt := 163) hx hb dX9_number_1 (by decide) (by decide) (by decide) (by decide) ?_
    refine lv_iload_n hx hb dX9_number_163 rfl (lv_at hl 1 rfl) ?_
    refine lv_bipush (v := nI 15) hx hb dX9_number_164 (by decide) ?_
    refine ee_ge (tgt := 185) hx hb (by omega) (by omega) dX9_number_166 (by decide) (fun h_31 => ?_) (fun h_31 => absurd h_31 (by decide))
    refine lv_iload_n hx hb dX9_number_185 rfl (lv_at hl 1 rfl) ?_
    refine lv_bipush (v := nI 23) hx hb dX9_number_186 (by decide) ?_
    refine ee_ge (tgt := 207) hx hb (by omega) (by omega) dX9_number_188 (by decide) (fun h_32 => absurd h_32 (by decide)) (fun h_32 => ?_)
    refine lv_aload_n hx hb dX9_number_191 rfl (lv_at hl 0 rfl) ?_
    refine va_get (ci := 9) (v := .ref w1) (C := RX9) (T := TX9) (N := 24) hx hb hts i9_X9_number hown hV.1 hP 0 rfl rfl 0 (by decide) (hts _ w1_X9_number) (fun _ h9 => h9) rfl dX9_number_192 ?_
    refine lv_sipush (v := nI 161) hx hb dX9_number_195 (by decide) ?_
    refine lv_iload_n hx hb dX9_number_198 rfl (lv_at hl 1 rfl) ?_
    refine ee_iadd hx hb dX9_number_199 ?_
    refine lv_bipush (v := nI 15) hx hb dX9_number_200 (by decide) ?_
    refine ee_isub hx hb (by omega) dX9_number_202 ?_
    refine ee_ild hx hb hV hP 1 rfl (j := (182 - 15)) (by omega) (by decide) dX9_number_203 ?_
    refine ee_to (z := gS z 6) (rM_S hR 6 (by decide)) ?_
    refine lv_goto (tgt := 220) hx hb dX9_number_204 (by decide) ?_
    exact ee_fi hQ hx hb hr (rfl) hlocks hS () (rfl) hP hD dX9_number_220
  · refine lv_tableIn (off := 162) (tgt := 163) hx hb dX9_number_1 (by decide) (by decide) (by decide) (by decide) ?_
    refine lv_iload_n hx hb dX9_number_163 rfl (lv_at hl 1 rfl) ?_
    refine lv_bipush (v := nI 15) hx hb dX9_number_164 (by decide) ?_
    refine ee_ge (tgt := 185) hx hb (by omega) (by omega) dX9_number_166 (by decide) (fun h_33 => ?_) (fun h_33 => absurd h_33 (by decide))
    refine lv_iload_n hx hb dX9_number_185 rfl (lv_at hl 1 rfl) ?_
    refine lv_bipush (v := nI 23) hx hb dX9_number_186 (by decide) ?_
    refine ee_ge (tgt := 207) hx hb (by omega) (by omega) dX9_number_188 (by decide) (fun h_34 => absurd h_34 (by decide)) (fun h_34 => ?_)
    refine lv_aload_n hx hb dX9_number_191 rfl (lv_at hl 0 rfl) ?_
    refine va_get (ci := 9) (v := .ref w1) (C := RX9) (T := TX9) (N := 24) hx hb hts i9_X9_number hown hV.1 hP 0 rfl rfl 0 (by decide) (hts _ w1_X9_number) (fun _ h9 => h9) rfl dX9_number_192 ?_
    refine lv_sipush (v := nI 161) hx hb dX9_number_195 (by decide) ?_
    refine lv_iload_n hx hb dX9_number_198 rfl (lv_at hl 1 rfl) ?_
    refine ee_iadd hx hb dX9_number_199 ?_
    refine lv_bipush (v := nI 15) hx hb dX9_number_200 (by decide) ?_
    refine ee_isub hx hb (by omega) dX9_number_202 ?_
    refine ee_ild hx hb hV hP 1 rfl (j := (183 - 15)) (by omega) (by decide) dX9_number_203 ?_
    refine ee_to (z := gS z 7) (rM_S hR 7 (by decide)) ?_
    refine lv_goto (tgt := 220) hx hb dX9_number_204 (by decide) ?_
    exact ee_fi hQ hx hb hr (rfl) hlocks hS () (rfl) hP hD dX9_number_220
  · refine lv_tableIn (off := 157) (tgt := 158) hx hb dX9_number_1 (by decide) (by decide) (by decide) (by decide) ?_
    refine lv_aload_n hx hb dX9_number_158 rfl (lv_at hl 0 rfl) ?_
    refine va_get (ci := 9) (v := .int tl) (C := RX9) (T := TX9) (N := 24) hx hb hts i9_X9_number hown hV.1 hP 0 rfl rfl 9 (by decide) (hts _ w2_X9_number) (fun _ h9 => h9) rfl dX9_number_159 ?_
    exact ee_fi hQ hx hb hr (rfl) hlocks hS () (rfl) hP hD dX9_number_162
  · refine lv_tableOut (tgt := 163) hx hb dX9_number_1 (by decide) (by decide) ?_
    refine lv_iload_n hx hb dX9_number_163 rfl (lv_at hl 1 rfl) ?_
    refine lv_bipush (v := nI 15) hx hb dX9_number_164 (by decide) ?_
    refine ee_ge (tgt := 185) hx hb (by omega) (by omega) dX9_number_166 (by decide) (fun h_35 => ?_) (fun h_35 => absurd h_35 (by decide))
    refine lv_iload_n hx hb dX9_number_185 rfl (lv_at hl 1 rfl) ?_
    refine lv_bipush (v := nI 23) hx hb dX9_number_186 (by decide) ?_
    refine ee_ge (tgt := 207) hx hb (by omega) (by omega) dX9_number_188 (by decide) (fun h_36 => ?_) (fun h_36 => absurd h_36 (by decide))
    refine lv_aload_n hx hb dX9_number_207 rfl (lv_at hl 0 rfl) ?_
    refine va_get (ci := 9) (v := .ref w1) (C := RX9) (T := TX9) (N := 24) hx hb hts i9_X9_number hown hV.1 hP 0 rfl rfl 0 (by decide) (hts _ w1_X9_number) (fun _ h9 => h9) rfl dX9_number_208 ?_
    refine lv_sipush (v := nI 190) hx hb dX9_number_211 (by decide) ?_
    refine lv_iload_n hx hb dX9_number_214 rfl (lv_at hl 1 rfl) ?_
    refine ee_iadd hx hb dX9_number_215 ?_
    refine lv_bipush (v := nI 24) hx hb dX9_number_216 (by decide) ?_
    refine ee_isub hx hb (by omega) dX9_number_218 ?_
    refine ee_ild hx hb hV hP 1 rfl (j := (214 - 24)) (by omega) (by decide) dX9_number_219 ?_
    refine ee_to (z := gB z 0) (rM_B hR 0 (by decide)) ?_
    exact ee_fi hQ hx hb hr (rfl) hlocks hS () (rfl) hP hD dX9_number_220
  · refine lv_tableOut (tgt := 163) hx hb dX9_number_1 (by decide) (by decide) ?_
    refine lv_iload_n hx hb dX9_number_163 rfl (lv_at hl 1 rfl) ?_
    refine lv_bipush (v := nI 15) hx hb dX9_number_164 (by decide) ?_
    refine ee_ge (tgt := 185) hx hb (by omega) (by omega) dX9_number_166 (by decide) (fun h_37 => ?_) (fun h_37 => absurd h_37 (by decide))
    refine lv_iload_n hx hb dX9_number_185 rfl (lv_at hl 1 rfl) ?_
    refine lv_bipush (v := nI 23) hx hb dX9_number_186 (by decide) ?_
    refine ee_ge (tgt := 207) hx hb (by omega) (by omega) dX9_number_188 (by decide) (fun h_38 => ?_) (fun h_38 => absurd h_38 (by decide))
    refine lv_aload_n hx hb dX9_number_207 rfl (lv_at hl 0 rfl) ?_
    refine va_get (ci := 9) (v := .ref w1) (C := RX9) (T := TX9) (N := 24) hx hb hts i9_X9_number hown hV.1 hP 0 rfl rfl 0 (by decide) (hts _ w1_X9_number) (fun _ h9 => h9) rfl dX9_number_208 ?_
    refine lv_sipush (v := nI 190) hx hb dX9_number_211 (by decide) ?_
    refine lv_iload_n hx hb dX9_number_214 rfl (lv_at hl 1 rfl) ?_
    refine ee_iadd hx hb dX9_number_215 ?_
    refine lv_bipush (v := nI 24) hx hb dX9_number_216 (by decide) ?_
    refine ee_isub hx hb (by omega) dX9_number_218 ?_
    refine ee_ild hx hb hV hP 1 rfl (j := (215 - 24)) (by omega) (by decide) dX9_number_219 ?_
    refine ee_to (z := gB z 1) (rM_B hR 1 (by decide)) ?_
    exact ee_fi hQ hx hb hr (rfl) hlocks hS () (rfl) hP hD dX9_number_220
  · refine lv_tableOut (tgt := 163) hx hb dX9_number_1 (by decide) (by decide) ?_
    refine lv_iload_n hx hb dX9_number_163 rfl (lv_at hl 1 rfl) ?_
    refine lv_bipush (v := nI 15) hx hb dX9_number_164 (by decide) ?_
    refine ee_ge (tgt := 185) hx hb (by omega) (by omega) dX9_number_166 (by decide) (fun h_39 => ?_) (fun h_39 => absurd h_39 (by decide))
    refine lv_iload_n hx hb dX9_number_185 rfl (lv_at hl 1 rfl) ?_
    refine lv_bipush (v := nI 23) hx hb dX9_number_186 (by decide) ?_
    refine ee_ge (tgt := 207) hx hb (by omega) (by omega) dX9_number_188 (by decide) (fun h_40 => ?_) (fun h_40 => absurd h_40 (by decide))
    refine lv_aload_n hx hb dX9_number_207 rfl (lv_at hl 0 rfl) ?_
    refine va_get (ci := 9) (v := .ref w1) (C := RX9) (T := TX9) (N := 24) hx hb hts i9_X9_number hown hV.1 hP 0 rfl rfl 0 (by decide) (hts _ w1_X9_number) (fun _ h9 => h9) rfl dX9_number_208 ?_
    refine lv_sipush (v := nI 190) hx hb dX9_number_211 (by decide) ?_
    refine lv_iload_n hx hb dX9_number_214 rfl (lv_at hl 1 rfl) ?_
    refine ee_iadd hx hb dX9_number_215 ?_
    refine lv_bipush (v := nI 24) hx hb dX9_number_216 (by decide) ?_
    refine ee_isub hx hb (by omega) dX9_number_218 ?_
    refine ee_ild hx hb hV hP 1 rfl (j := (216 - 24)) (by omega) (by decide) dX9_number_219 ?_
    refine ee_to (z := gB z 2) (rM_B hR 2 (by decide)) ?_
    exact ee_fi hQ hx hb hr (rfl) hlocks hS () (rfl) hP hD dX9_number_220
  · refine lv_tableOut (tgt := 163) hx hb dX9_number_1 (by decide) (by decide) ?_
    refine lv_iload_n hx hb dX9_number_163 rfl (lv_at hl 1 rfl) ?_
    refine lv_bipush (v := nI 15) hx hb dX9_number_164 (by decide) ?_
    refine ee_ge (tgt := 185) hx hb (by omega) (by omega) dX9_number_166 (by decide) (fun h_41 => ?_) (fun h_41 => absurd h_41 (by decide))
    refine lv_iload_n hx hb dX9_number_185 rfl (lv_at hl 1 rfl) ?_
    refine lv_bipush (v := nI 23) hx hb dX9_number_186 (by decide) ?_
    refine ee_ge (tgt := 207) hx hb (by omega) (by omega) dX9_number_188 (by decide) (fun h_42 => ?_) (fun h_42 => absurd h_42 (by decide))
    refine lv_aload_n hx hb dX9_number_207 rfl (lv_at hl 0 rfl) ?_
    refine va_get (ci := 9) (v := .ref w1) (C := RX9) (T := TX9) (N := 24) hx hb hts i9_X9_number hown hV.1 hP 0 rfl rfl 0 (by decide) (hts _ w1_X9_number) (fun _ h9 => h9) rfl dX9_number_208 ?_
    refine lv_sipush (v := nI 190) hx hb dX9_number_211 (by decide) ?_
    refine lv_iload_n hx hb dX9_number_214 rfl (lv_at hl 1 rfl) ?_
    refine ee_iadd hx hb dX9_number_215 ?_
    refine lv_bipush (v := nI 24) hx hb dX9_number_216 (by decide) ?_
    refine ee_isub hx hb (by omega) dX9_number_218 ?_
    refine ee_ild hx hb hV hP 1 rfl (j := (217 - 24)) (by omega) (by decide) dX9_number_219 ?_
    refine ee_to (z := gB z 3) (rM_B hR 3 (by decide)) ?_
    exact ee_fi hQ hx hb hr (rfl) hlocks hS () (rfl) hP hD dX9_number_220
  · refine lv_tableOut (tgt := 163) hx hb dX9_number_1 (by decide) (by decide) ?_
    refine lv_iload_n hx hb dX9_number_163 rfl (lv_at hl 1 rfl) ?_
    refine lv_bipush (v := nI 15) hx hb dX9_number_164 (by decide) ?_
    refine ee_ge (tgt := 185) hx hb (by omega) (by omega) dX9_number_166 (by decide) (fun h_43 => ?_) (fun h_43 => absurd h_43 (by decide))
    refine lv_iload_n hx hb dX9_number_185 rfl (lv_at hl 1 rfl) ?_
    refine lv_bipush (v := nI 23) hx hb dX9_number_186 (by decide) ?_
    refine ee_ge (tgt := 207) hx hb (by omega) (by omega) dX9_number_188 (by decide) (fun h_44 => ?_) (fun h_44 => absurd h_44 (by decide))
    refine lv_aload_n hx hb dX9_number_207 rfl (lv_at hl 0 rfl) ?_
    refine va_get (ci := 9) (v := .ref w1) (C := RX9) (T := TX9) (N := 24) hx hb hts i9_X9_number hown hV.1 hP 0 rfl rfl 0 (by decide) (hts _ w1_X9_number) (fun _ h9 => h9) rfl dX9_number_208 ?_
    refine lv_sipush (v := nI 190) hx hb dX9_number_211 (by decide) ?_
    refine lv_iload_n hx hb dX9_number_214 rfl (lv_at hl 1 rfl) ?_
    refine ee_iadd hx hb dX9_number_215 ?_
    refine lv_bipush (v := nI 24) hx hb dX9_number_216 (by decide) ?_
    refine ee_isub hx hb (by omega) dX9_number_218 ?_
    refine ee_ild hx hb hV hP 1 rfl (j := (218 - 24)) (by omega) (by decide) dX9_number_219 ?_
    refine ee_to (z := gB z 4) (rM_B hR 4 (by decide)) ?_
    exact ee_fi hQ hx hb hr (rfl) hlocks hS () (rfl) hP hD dX9_number_220
  · refine lv_tableOut (tgt := 163) hx hb dX9_number_1 (by decide) (by decide) ?_
    refine lv_iload_n hx hb dX9_number_163 rfl (lv_at hl 1 rfl) ?_
    refine lv_bipush (v := nI 15) hx hb dX9_number_164 (by decide) ?_
    refine ee_ge (tgt := 185) hx hb (by omega) (by omega) dX9_number_166 (by decide) (fun h_45 => ?_) (fun h_45 => absurd h_45 (by decide))
    refine lv_iload_n hx hb dX9_number_185 rfl (lv_at hl 1 rfl) ?_
    refine lv_bipush (v := nI 23) hx hb dX9_number_186 (by decide) ?_
    refine ee_ge (tgt := 207) hx hb (by omega) (by omega) dX9_number_188 (by decide) (fun h_46 => ?_) (fun h_46 => absurd h_46 (by decide))
    refine lv_aload_n hx hb dX9_number_207 rfl (lv_at hl 0 rfl) ?_
    refine va_get (ci := 9) (v := .ref w1) (C := RX9) (T := TX9) (N := 24) hx hb hts i9_X9_number hown hV.1 hP 0 rfl rfl 0 (by decide) (hts _ w1_X9_number) (fun _ h9 => h9) rfl dX9_number_208 ?_
    refine lv_sipush (v := nI 190) hx hb dX9_number_211 (by decide) ?_
    refine lv_iload_n hx hb dX9_number_214 rfl (lv_at hl 1 rfl) ?_
    refine ee_iadd hx hb dX9_number_215 ?_
    refine lv_bipush (v := nI 24) hx hb dX9_number_216 (by decide) ?_
    refine ee_isub hx hb (by omega) dX9_number_218 ?_
    refine ee_ild hx hb hV hP 1 rfl (j := (219 - 24)) (by omega) (by decide) dX9_number_219 ?_
    refine ee_to (z := gB z 5) (rM_B hR 5 (by decide)) ?_
    exact ee_fi hQ hx hb hr (rfl) hlocks hS () (rfl) hP hD dX9_number_220
  · refine lv_tableOut (tgt := 163) hx hb dX9_number_1 (by decide) (by decide) ?_
    refine lv_iload_n hx hb dX9_number_163 rfl (lv_at hl 1 rfl) ?_
    refine lv_bipush (v := nI 15) hx hb dX9_number_164 (by decide) ?_
    refine ee_ge (tgt := 185) hx hb (by omega) (by omega) dX9_number_166 (by decide) (fun h_47 => ?_) (fun h_47 => absurd h_47 (by decide))
    refine lv_iload_n hx hb dX9_number_185 rfl (lv_at hl 1 rfl) ?_
    refine lv_bipush (v := nI 23) hx hb dX9_number_186 (by decide) ?_
    refine ee_ge (tgt := 207) hx hb (by omega) (by omega) dX9_number_188 (by decide) (fun h_48 => ?_) (fun h_48 => absurd h_48 (by decide))
    refine lv_aload_n hx hb dX9_number_207 rfl (lv_at hl 0 rfl) ?_
    refine va_get (ci := 9) (v := .ref w1) (C := RX9) (T := TX9) (N := 24) hx hb hts i9_X9_number hown hV.1 hP 0 rfl rfl 0 (by decide) (hts _ w1_X9_number) (fun _ h9 => h9) rfl dX9_number_208 ?_
    refine lv_sipush (v := nI 190) hx hb dX9_number_211 (by decide) ?_
    refine lv_iload_n hx hb dX9_number_214 rfl (lv_at hl 1 rfl) ?_
    refine ee_iadd hx hb dX9_number_215 ?_
    refine lv_bipush (v := nI 24) hx hb dX9_number_216 (by decide) ?_
    refine ee_isub hx hb (by omega) dX9_number_218 ?_
    refine ee_ild hx hb hV hP 1 rfl (j := (220 - 24)) (by omega) (by decide) dX9_number_219 ?_
    refine ee_to (z := gB z 6) (rM_B hR 6 (by decide)) ?_
    exact ee_fi hQ hx hb hr (rfl) hlocks hS () (rfl) hP hD dX9_number_220
  · refine lv_tableOut (tgt := 163) hx hb dX9_number_1 (by decide) (by decide) ?_
    refine lv_iload_n hx hb dX9_number_163 rfl (lv_at hl 1 rfl) ?_
    refine lv_bipush (v := nI 15) hx hb dX9_number_164 (by decide) ?_
    refine ee_ge (tgt := 185) hx hb (by omega) (by omega) dX9_number_166 (by decide) (fun h_49 => ?_) (fun h_49 => absurd h_49 (by decide))
    refine lv_iload_n hx hb dX9_number_185 rfl (lv_at hl 1 rfl) ?_
    refine lv_bipush (v := nI 23) hx hb dX9_number_186 (by decide) ?_
    refine ee_ge (tgt := 207) hx hb (by omega) (by omega) dX9_number_188 (by decide) (fun h_50 => ?_) (fun h_50 => absurd h_50 (by decide))
    refine lv_aload_n hx hb dX9_number_207 rfl (lv_at hl 0 rfl) ?_
    refine va_get (ci := 9) (v := .ref w1) (C := RX9) (T := TX9) (N := 24) hx hb hts i9_X9_number hown hV.1 hP 0 rfl rfl 0 (by decide) (hts _ w1_X9_number) (fun _ h9 => h9) rfl dX9_number_208 ?_
    refine lv_sipush (v := nI 190) hx hb dX9_number_211 (by decide) ?_
    refine lv_iload_n hx hb dX9_number_214 rfl (lv_at hl 1 rfl) ?_
    refine ee_iadd hx hb dX9_number_215 ?_
    refine lv_bipush (v := nI 24) hx hb dX9_number_216 (by decide) ?_
    refine ee_isub hx hb (by omega) dX9_number_218 ?_
    refine ee_ild hx hb hV hP 1 rfl (j := (221 - 24)) (by omega) (by decide) dX9_number_219 ?_
    refine ee_to (z := gB z 7) (rM_B hR 7 (by decide)) ?_
    exact ee_fi hQ hx hb hr (rfl) hlocks hS () (rfl) hP hD dX9_number_220
abbrev rmX9_count : Room := ({ frames := 2, cells := 0, slots := 0, locals := 44 } : Room)
theorem w1_X9_count : Cond.methodLink RX9 43 yX9_in ∈ wsX9_count := List.mem_of_getElem? (i := 1) (by decide +kernel)
theorem w3_X9_count : Cond.initialized RX9 ∈ wsX9_count := List.mem_of_getElem? (i := 3) (by decide +kernel)
theorem w5_X9_count : Cond.methodLink RX9 177 yX9_number ∈ wsX9_count := List.mem_of_getElem? (i := 5) (by decide +kernel)
theorem w9_X9_count : Cond.fieldLink RX9 7 "LabelApplicatorModel" "m" "[I" ∈ wsX9_count := List.mem_of_getElem? (i := 9) (by decide +kernel)
theorem w10_X9_count : Cond.fieldLink RX9 47 "LabelApplicatorModel" "textLength" "I" ∈ wsX9_count := List.mem_of_getElem? (i := 10) (by decide +kernel)
theorem w11_X9_count : Cond.methodLink RX9 171 yX9_labelsOnWeb ∈ wsX9_count := List.mem_of_getElem? (i := 11) (by decide +kernel)
theorem w15_X9_count : Cond.methodLink RX9 97 yX9_lengthBefore ∈ wsX9_count := List.mem_of_getElem? (i := 15) (by decide +kernel)
theorem w19_X9_count : Cond.methodLink RX9 174 yX9_productsInRing ∈ wsX9_count := List.mem_of_getElem? (i := 19) (by decide +kernel)
theorem i9_X9_count : ∀ w ∈ wsX90, w ∈ wsX9_count := fun w h => (goodIn_r _ [23, 24, 25, 26, 27, 28, 29, 30, 31, 32, 33, 34, 35, 36, 37, 38, 39, 40, 41, 42, 43, 44, 45, 46] (by decide +kernel) (by decide +kernel) w h).1
set_option maxHeartbeats 4000000 in
set_option maxRecDepth 100000 in
theorem kX9_count (l : Launch) (E : ee_T) (w0 w1 w2 w3 w4 w5 w6 w7 w8 w9 : Nat) (pt pa p1 p2 : UInt32) (tl ta fa it dp tv tn tb th te : Int32) (hh : Int64) (ar : Nat → Int32) (z : Sg) (x : Int32) (hR : rM z ar pt) : CQ l E yX9_count wsX9_count rmX9_count [.ref w0, .int x] [(w0, ee_o 9 [.ref w1, .ref w2, .ref w3, .ref w4, .float pt, .float pa, .float p1, .float p2, .ref w5, .int tl, .int ta, .int fa, .ref w6, .ref w7, .int it, .ref w8, .ref w9, .int dp, .int tv, .int tn, .int tb, .int th, .int te, .long hh]), (w1, ee_i E 204 ar)] (QI E (fun (r : Int32) (u : Unit) => r = coA z tl x) (fun (u : Unit) => [(w0, ee_o 9 [.ref w1, .ref w2, .ref w3, .ref w4, .float pt, .float pa, .float p1, .float p2, .ref w5, .int tl, .int ta, .int fa, .ref w6, .ref w7, .int it, .ref w8, .ref w9, .int dp, .int tv, .int tn, .int tb, .int th, .int te, .long hh]), (w1, ee_i E 204 ar)])) 0 0 := by
  refine CQ_ofW (cc := cX9_count) (maxL := 2) (ret := (some .int)) (by decide) rfl (Nat.le_of_ble_eq_true rfl) ?_
  intro p e s m below meth c A Q hQ hx hb hr hml hown hlocks hnm hts hV hA hP hD hS ls hl
  have hl : lv_has ls 2 [(0, .ref w0), (1, .int x)] := hl
  refine lv_iload_n hx hb dX9_count_0 rfl (lv_at hl 1 rfl) ?_
  refine lv_iconst (v := nI 0) hx hb dX9_count_1 (by decide) ?_
  refine lv_bipush (v := nI 31) hx hb dX9_count_2 (by decide) ?_
  refine ee_ki (wr := [(w0, ee_o 9 [.ref w1, .ref w2, .ref w3, .ref w4, .float pt, .float pa, .float p1, .float p2, .ref w5, .int tl, .int ta, .int fa, .ref w6, .ref w7, .int it, .ref w8, .ref w9, .int dp, .int tv, .int tn, .int tb, .int th, .int te, .long hh]), (w1, ee_i E 204 ar)]) (ee_rS (As := [.int x, .int (nI 0), .int (nI 31)]) (rest := []) (kX9_in l E x (nI 0) (nI 31)) hx hb hml hown hts 3 gX9_count_X9_in rfl rfl rfl (by decide +kernel) ⟨Nat.le_of_ble_eq_true rfl, Nat.le_of_ble_eq_true rfl⟩ hV hP hD hS hA [] rfl (by decide) hl rfl rfl (Nat.le_of_ble_eq_true rfl) dX9_count_4 ⟨Nat.le_of_ble_eq_true rfl, Nat.le_of_ble_eq_true rfl⟩) hP hD hS hA [] [0, 1] rfl rfl (by decide) (by decide) (fun r_1 u_2 H locs hp_3 hP hD hS => ?_)
  have hP : va_P E.1 vwCl [(w0, ee_o 9 [.ref w1, .ref w2, .ref w3, .ref w4, .float pt, .float pa, .float p1, .float p2, .ref w5, .int tl, .int ta, .int fa, .ref w6, .ref w7, .int it, .ref w8, .ref w9, .int dp, .int tv, .int tn, .int tb, .int th, .int te, .long hh]), (w1, ee_i E 204 ar)] H := hP
  have hD : va_D A [(w0, ee_o 9 [.ref w1, .ref w2, .ref w3, .ref w4, .float pt, .float pa, .float p1, .float p2, .ref w5, .int tl, .int ta, .int fa, .ref w6, .ref w7, .int it, .ref w8, .ref w9, .int dp, .int tv, .int tn, .int tb, .int th, .int te, .long hh]), (w1, ee_i E 204 ar)] := hD
  rcases hp_3 with ⟨rfl, hc1⟩ | ⟨rfl, hc2⟩
  · obtain ⟨xx, x_1, x_2, rfl⟩ := inR_nat (by decide) (by decide) hc1
    refine ee_eq0 (tgt := 18) hx hb (by omega) dX9_count_7 (by decide) (fun h_6 => absurd h_6 (by decide)) (fun h_6 => ?_)
    refine lv_aload_n hx hb dX9_count_10 rfl (lv_at hl 0 rfl) ?_
    refine lv_iload_n hx hb dX9_count_11 rfl (lv_at hl 1 rfl) ?_
    refine ee_ki (wr := []) (ee_rV (As := [.int (nI xx)]) (rest := []) (kX9_number l E w0 w1 w2 w3 w4 w5 w6 w7 w8 w9 pt pa p1 p2 tl ta fa it dp tv tn tb th te hh ar z xx hR (by omega)) hx hb hml hown hts 1 gX9_count_X9_number rfl rfl rfl (by decide +kernel) ⟨Nat.le_of_ble_eq_true rfl, Nat.le_of_ble_eq_true rfl⟩ hV hP hD hS hA [0, 1] rfl (by decide) hl 0 rfl rfl rfl rfl (Nat.le_of_ble_eq_true rfl) dX9_count_12 ⟨Nat.le_of_ble_eq_true rfl, Nat.le_of_ble_eq_true rfl⟩) hP hD hS hA [0, 1] [] rfl rfl (by decide) (by decide) (fun r_7 u_8 H locs hp_9 hP hD hS => ?_)
    subst hp_9
    have hP : va_P E.1 vwCl [(w0, ee_o 9 [.ref w1, .ref w2, .ref w3, .ref w4, .float pt, .float pa, .float p1, .float p2, .ref w5, .int tl, .int ta, .int fa, .ref w6, .ref w7, .int it, .ref w8, .ref w9, .int dp, .int tv, .int tn, .int tb, .int th, .int te, .long hh]), (w1, ee_i E 204 ar)] H := hP
    have hD : va_D A [(w0, ee_o 9 [.ref w1, .ref w2, .ref w3, .ref w4, .float pt, .float pa, .float p1, .float p2, .ref w5, .int tl, .int ta, .int fa, .ref w6, .ref w7, .int it, .ref w8, .ref w9, .int dp, .int tv, .int tn, .int tb, .int th, .int te, .long hh]), (w1, ee_i E 204 ar)] := hD
    refine lv_goto (tgt := 20) hx hb dX9_count_15 (by decide) ?_
    exact ee_fi hQ hx hb hr (rfl) hlocks hS () (by rw [coA, inB_t hc1, nv_nI (by omega)]; rfl) hP hD dX9_count_20
  · refine ee_eq0 (tgt := 18) hx hb (by omega) dX9_count_7 (by decide) (fun h_10 => ?_) (fun h_10 => absurd h_10 (by decide))
    refine lv_bipush (v := (-2)) hx hb dX9_count_18 (by decide) ?_
    exact ee_fi hQ hx hb hr (rfl) hlocks hS () (by rw [coA, inB_f hc2]; rfl) hP hD dX9_count_20
abbrev rmX9_save : Room := ({ frames := 1, cells := 0, slots := 0, locals := 22 } : Room)
theorem w1_X9_save : Cond.fieldLink RX9 16 "LabelApplicatorModel" "slots" "[I" ∈ wsX9_save := List.mem_of_getElem? (i := 1) (by decide +kernel)
theorem w2_X9_save : Cond.fieldLink RX9 7 "LabelApplicatorModel" "m" "[I" ∈ wsX9_save := List.mem_of_getElem? (i := 2) (by decide +kernel)
theorem w3_X9_save : Cond.fieldLink RX9 24 "LabelApplicatorModel" "pitch" "F" ∈ wsX9_save := List.mem_of_getElem? (i := 3) (by decide +kernel)
theorem w4_X9_save : Cond.fieldLink RX9 165 "LabelApplicatorModel" "pitchFirst" "F" ∈ wsX9_save := List.mem_of_getElem? (i := 4) (by decide +kernel)
theorem w5_X9_save : Cond.fieldLink RX9 168 "LabelApplicatorModel" "pitchSecond" "F" ∈ wsX9_save := List.mem_of_getElem? (i := 5) (by decide +kernel)
theorem w6_X9_save : Cond.fieldLink RX9 19 "LabelApplicatorModel" "isSaved" "[Z" ∈ wsX9_save := List.mem_of_getElem? (i := 6) (by decide +kernel)
theorem w7_X9_save : Cond.methodLink RX9 43 yX9_in ∈ wsX9_save := List.mem_of_getElem? (i := 7) (by decide +kernel)
theorem w9_X9_save : Cond.initialized RX9 ∈ wsX9_save := List.mem_of_getElem? (i := 9) (by decide +kernel)
theorem i9_X9_save : ∀ w ∈ wsX90, w ∈ wsX9_save := fun w h => (goodIn_r _ [11, 12, 13, 14, 15, 16, 17, 18, 19, 20, 21, 22, 23, 24, 25, 26, 27, 28, 29, 30, 31, 32, 33, 34] (by decide +kernel) (by decide +kernel) w h).1
set_option maxHeartbeats 4000000 in
set_option maxRecDepth 100000 in
theorem kX9_save (l : Launch) (E : ee_T) (w0 w1 w2 w3 w4 w5 w6 w7 w8 w9 : Nat) (pt pa p1 p2 : UInt32) (tl ta fa it dp tv tn tb th te : Int32) (hh : Int64) (ar : Nat → Int32) (sl fs : Nat → Int32) (z : Sg) (q : Sv) (x : Int32) (hR : rM z ar pt) (hq : svM q sl fs p1 p2) : CQ l E yX9_save wsX9_save rmX9_save [.ref w0, .int x] [(w0, ee_o 9 [.ref w1, .ref w2, .ref w3, .ref w4, .float pt, .float pa, .float p1, .float p2, .ref w5, .int tl, .int ta, .int fa, .ref w6, .ref w7, .int it, .ref w8, .ref w9, .int dp, .int tv, .int tn, .int tb, .int th, .int te, .long hh]), (w1, ee_i E 204 ar), (w3, ee_i E 408 sl), (w4, ee_z E 2 fs)] (QI E (fun (r : Int32) (u : (Nat → Int32) × (Nat → Int32) × UInt32 × UInt32) => r = (svA z q x).1 ∧ svM (svA z q x).2 u.1 u.2.1 u.2.2.1 u.2.2.2) (fun (u : (Nat → Int32) × (Nat → Int32) × UInt32 × UInt32) => [(w0, ee_o 9 [.ref w1, .ref w2, .ref w3, .ref w4, .float pt, .float pa, .float u.2.2.1, .float u.2.2.2, .ref w5, .int tl, .int ta, .int fa, .ref w6, .ref w7, .int it, .ref w8, .ref w9, .int dp, .int tv, .int tn, .int tb, .int th, .int te, .long hh]), (w1, ee_i E 204 ar), (w3, ee_i E 408 u.1), (w4, ee_z E 2 u.2.1)])) 0 0 := by
  refine CQ_ofW (cc := cX9_save) (maxL := 3) (ret := (some .int)) (by decide) rfl (Nat.le_of_ble_eq_true rfl) ?_
  intro p e s m below meth c A Q hQ hx hb hr hml hown hlocks hnm hts hV hA hP hD hS ls hl
  have hl : lv_has ls 3 [(0, .ref w0), (1, .int x)] := hl
  refine lv_iload_n hx hb dX9_save_0 rfl (lv_at hl 1 rfl) ?_
  refine lv_iconst (v := nI 0) hx hb dX9_save_1 (by decide) ?_
  refine lv_iconst (v := nI 1) hx hb dX9_save_2 (by decide) ?_
  refine ee_ki (wr := [(w0, ee_o 9 [.ref w1, .ref w2, .ref w3, .ref w4, .float pt, .float pa, .float p1, .float p2, .ref w5, .int tl, .int ta, .int fa, .ref w6, .ref w7, .int it, .ref w8, .ref w9, .int dp, .int tv, .int tn, .int tb, .int th, .int te, .long hh]), (w1, ee_i E 204 ar), (w3, ee_i E 408 sl), (w4, ee_z E 2 fs)]) (ee_rS (As := [.int x, .int (nI 0), .int (nI 1)]) (rest := []) (kX9_in l E x (nI 0) (nI 1)) hx hb hml hown hts 3 gX9_save_X9_in rfl rfl rfl (by decide +kernel) ⟨Nat.le_of_ble_eq_true rfl, Nat.le_of_ble_eq_true rfl⟩ hV hP hD hS hA [] rfl (by decide) hl rfl rfl (Nat.le_of_ble_eq_true rfl) dX9_save_3 ⟨Nat.le_of_ble_eq_true rfl, Nat.le_of_ble_eq_true rfl⟩) hP hD hS hA [] [0, 1, 2, 3] rfl rfl (by decide) (by decide) (fun r_1 u_2 H locs hp_3 hP hD hS => ?_)
  have hP : va_P E.1 vwCl [(w0, ee_o 9 [.ref w1, .ref w2, .ref w3, .ref w4, .float pt, .float pa, .float p1, .float p2, .ref w5, .int tl, .int ta, .int fa, .ref w6, .ref w7, .int it, .ref w8, .ref w9, .int dp, .int tv, .int tn, .int tb, .int th, .int te, .long hh]), (w1, ee_i E 204 ar), (w3, ee_i E 408 sl), (w4, ee_z E 2 fs)] H := hP
  have hD : va_D A [(w0, ee_o 9 [.ref w1, .ref w2, .ref w3, .ref w4, .float pt, .float pa, .float p1, .float p2, .ref w5, .int tl, .int ta, .int fa, .ref w6, .ref w7, .int it, .ref w8, .ref w9, .int dp, .int tv, .int tn, .int tb, .int th, .int te, .long hh]), (w1, ee_i E 204 ar), (w3, ee_i E 408 sl), (w4, ee_z E 2 fs)] := hD
  rcases hp_3 with ⟨rfl, hc1⟩ | ⟨rfl, hc2⟩
  · obtain ⟨ww, x_1, x_2, rfl⟩ := inR_nat (by decide) (by decide) hc1
    refine ee_ne0 (tgt := 12) hx hb (by omega) dX9_save_6 (by decide) (fun h_6 => ?_) (fun h_6 => absurd h_6 (by decide))
    refine lv_iconst (v := nI 0) hx hb dX9_save_12 (by decide) ?_
    refine lv_istore_n (lv' := [(2, .int (nI 0)), (0, .ref w0), (1, .int (nI ww))]) hx hb dX9_save_13 rfl hl (by decide) rfl (fun ls hl => ?_)
    have B_7 : ∀ (zz : Nat) (i : Nat) (sk : Nat → Int32) (H : Heap) (locs : List Loc) (ls : Array Slot), (204 - i) < zz → (i ≤ 204) → (∀ j, j < i → sk (204 * ww + j) = ar j) → (∀ j, (j < 204 * ww ∨ 204 * ww + 204 ≤ j) → sk j = sl j) → va_P E.1 vwCl [(w0, ee_o 9 [.ref w1, .ref w2, .ref w3, .ref w4, .float pt, .float pa, .float p1, .float p2, .ref w5, .int tl, .int ta, .int fa, .ref w6, .ref w7, .int it, .ref w8, .ref w9, .int dp, .int tv, .int tn, .int tb, .int th, .int te, .long hh]), (w1, ee_i E 204 ar), (w3, ee_i E 408 sk), (w4, ee_z E 2 fs)] H → va_D A [(w0, ee_o 9 [.ref w1, .ref w2, .ref w3, .ref w4, .float pt, .float pa, .float p1, .float p2, .ref w5, .int tl, .int ta, .int fa, .ref w6, .ref w7, .int it, .ref w8, .ref w9, .int dp, .int tv, .int tn, .int tb, .int th, .int te, .long hh]), (w1, ee_i E 204 ar), (w3, ee_i E 408 sk), (w4, ee_z E 2 fs)] → va_S A s.heap H locs → lv_has ls 3 [(2, .int (nI i)), (0, .ref w0), (1, .int (nI ww))] → W p l e rmX9_save s m [.ref w0, .int (nI ww)].toArray below meth c H locs 0 0 Q (F0 m 14 ls []) := by
      intro zz
      induction zz with
      | zero => intro i sk H locs ls hzz; exact absurd hzz (Nat.not_lt_zero _)
      | succ zz ihB_7 =>
        intro i sk H locs ls hzz hin q1 q2 hP hD hS hl
        refine lv_iload_n hx hb dX9_save_14 rfl (lv_at hl 0 rfl) ?_
        refine lv_sipush (v := nI 204) hx hb dX9_save_15 (by decide) ?_
        refine ee_ge (tgt := 45) hx hb (by omega) (by omega) dX9_save_18 (by decide) (fun h_8 => ?_) (fun h_8 => ?_)
        · have q1 : ∀ j, j < 204 → sk (204 * ww + j) = ar j := fun j hj => q1 j (by omega)
          rcases (show ww = 0 ∨ ww = 1 by omega) with rfl | rfl
          · refine lv_aload_n hx hb dX9_save_45 rfl (lv_at hl 1 rfl) ?_
            refine lv_iload_n hx hb dX9_save_46 rfl (lv_at hl 2 rfl) ?_
            refine ee_ne0 (tgt := 57) hx hb (by omega) dX9_save_47 (by decide) (fun h_9 => absurd h_9 (by decide)) (fun h_9 => ?_)
            refine lv_aload_n hx hb dX9_save_50 rfl (lv_at hl 1 rfl) ?_
            refine va_get (ci := 9) (v := .float pt) (C := RX9) (T := TX9) (N := 24) hx hb hts i9_X9_save hown hV.1 hP 0 rfl rfl 4 (by decide) (hts _ w3_X9_save) (fun _ h9 => h9) rfl dX9_save_51 ?_
            refine lv_goto (tgt := 61) hx hb dX9_save_54 (by decide) ?_
            refine va_put (ci := 9) (v := .float pt) (ty := .float) (C := RX9) (T := TX9) (N := 24) hx hb hts i9_X9_save tyX9 tyX9_ok nmX9 hown hV.1 hP hD hS 0 rfl rfl 6 (by decide) (hts _ w4_X9_save) (fun _ h9 => h9) rfl (by decide +kernel) rfl rfl (Nat.le_of_ble_eq_true rfl) dX9_save_61 (fun H locs hP hD hS => ?_)
            have hP : va_P E.1 vwCl [(w0, ee_o 9 [.ref w1, .ref w2, .ref w3, .ref w4, .float pt, .float pa, .float pt, .float p2, .ref w5, .int tl, .int ta, .int fa, .ref w6, .ref w7, .int it, .ref w8, .ref w9, .int dp, .int tv, .int tn, .int tb, .int th, .int te, .long hh]), (w1, ee_i E 204 ar), (w3, ee_i E 408 sk), (w4, ee_z E 2 fs)] H := hP
            have hD : va_D A [(w0, ee_o 9 [.ref w1, .ref w2, .ref w3, .ref w4, .float pt, .float pa, .float pt, .float p2, .ref w5, .int tl, .int ta, .int fa, .ref w6, .ref w7, .int it, .ref w8, .ref w9, .int dp, .int tv, .int tn, .int tb, .int th, .int te, .long hh]), (w1, ee_i E 204 ar), (w3, ee_i E 408 sk), (w4, ee_z E 2 fs)] := hD
            refine lv_aload_n hx hb dX9_save_64 rfl (lv_at hl 1 rfl) ?_
            refine lv_iload_n hx hb dX9_save_65 rfl (lv_at hl 2 rfl) ?_
            refine lv_iconst (v := nI 1) hx hb dX9_save_66 (by decide) ?_
            refine ee_ne (tgt := 77) hx hb (by omega) (by omega) dX9_save_67 (by decide) (fun h_10 => ?_) (fun h_10 => absurd h_10 (by decide))
            refine lv_aload_n hx hb dX9_save_77 rfl (lv_at hl 1 rfl) ?_
            refine va_get (ci := 9) (v := .float p2) (C := RX9) (T := TX9) (N := 24) hx hb hts i9_X9_save hown hV.1 hP 0 rfl rfl 7 (by decide) (hts _ w5_X9_save) (fun _ h9 => h9) rfl dX9_save_78 ?_
            refine va_put (ci := 9) (v := .float p2) (ty := .float) (C := RX9) (T := TX9) (N := 24) hx hb hts i9_X9_save tyX9 tyX9_ok nmX9 hown hV.1 hP hD hS 0 rfl rfl 7 (by decide) (hts _ w5_X9_save) (fun _ h9 => h9) rfl (by decide +kernel) rfl rfl (Nat.le_of_ble_eq_true rfl) dX9_save_81 (fun H locs hP hD hS => ?_)
            have hP : va_P E.1 vwCl [(w0, ee_o 9 [.ref w1, .ref w2, .ref w3, .ref w4, .float pt, .float pa, .float pt, .float p2, .ref w5, .int tl, .int ta, .int fa, .ref w6, .ref w7, .int it, .ref w8, .ref w9, .int dp, .int tv, .int tn, .int tb, .int th, .int te, .long hh]), (w1, ee_i E 204 ar), (w3, ee_i E 408 sk), (w4, ee_z E 2 fs)] H := hP
            have hD : va_D A [(w0, ee_o 9 [.ref w1, .ref w2, .ref w3, .ref w4, .float pt, .float pa, .float pt, .float p2, .ref w5, .int tl, .int ta, .int fa, .ref w6, .ref w7, .int it, .ref w8, .ref w9, .int dp, .int tv, .int tn, .int tb, .int th, .int te, .long hh]), (w1, ee_i E 204 ar), (w3, ee_i E 408 sk), (w4, ee_z E 2 fs)] := hD
            refine lv_aload_n hx hb dX9_save_84 rfl (lv_at hl 1 rfl) ?_
            refine va_get (ci := 9) (v := .ref w4) (C := RX9) (T := TX9) (N := 24) hx hb hts i9_X9_save hown hV.1 hP 0 rfl rfl 3 (by decide) (hts _ w6_X9_save) (fun _ h9 => h9) rfl dX9_save_85 ?_
            refine lv_iload_n hx hb dX9_save_88 rfl (lv_at hl 2 rfl) ?_
            refine lv_iconst (v := nI 1) hx hb dX9_save_89 (by decide) ?_
            refine ee_zst hx hb hV hP hD hS 3 rfl (j := 0) (by decide) (by omega) (by decide) dX9_save_90 (fun H locs hP hD hS => ?_)
            have hP : va_P E.1 vwCl [(w0, ee_o 9 [.ref w1, .ref w2, .ref w3, .ref w4, .float pt, .float pa, .float pt, .float p2, .ref w5, .int tl, .int ta, .int fa, .ref w6, .ref w7, .int it, .ref w8, .ref w9, .int dp, .int tv, .int tn, .int tb, .int th, .int te, .long hh]), (w1, ee_i E 204 ar), (w3, ee_i E 408 sk), (w4, ee_z E 2 (upd fs 0 (nI 1)))] H := hP
            have hD : va_D A [(w0, ee_o 9 [.ref w1, .ref w2, .ref w3, .ref w4, .float pt, .float pa, .float pt, .float p2, .ref w5, .int tl, .int ta, .int fa, .ref w6, .ref w7, .int it, .ref w8, .ref w9, .int dp, .int tv, .int tn, .int tb, .int th, .int te, .long hh]), (w1, ee_i E 204 ar), (w3, ee_i E 408 sk), (w4, ee_z E 2 (upd fs 0 (nI 1)))] := hD
            refine lv_aload_n hx hb dX9_save_91 rfl (lv_at hl 1 rfl) ?_
            refine va_get (ci := 9) (v := .ref w1) (C := RX9) (T := TX9) (N := 24) hx hb hts i9_X9_save hown hV.1 hP 0 rfl rfl 0 (by decide) (hts _ w2_X9_save) (fun _ h9 => h9) rfl dX9_save_92 ?_
            refine lv_iconst (v := nI 0) hx hb dX9_save_95 (by decide) ?_
            refine ee_ild hx hb hV hP 1 rfl (j := 0) (by omega) (by decide) dX9_save_96 ?_
            refine ee_to (z := nI (gN z)) (rM_N hR) ?_
            exact ee_fi hQ hx hb hr (rfl) hlocks hS (sk, upd fs 0 (nI 1), pt, p2) (by rw [svA, inB_t hc1, nv_nI (by omega)]; exact ⟨rfl, sv_0 hR hq q1 q2⟩) hP hD dX9_save_97
          · refine lv_aload_n hx hb dX9_save_45 rfl (lv_at hl 1 rfl) ?_
            refine lv_iload_n hx hb dX9_save_46 rfl (lv_at hl 2 rfl) ?_
            refine ee_ne0 (tgt := 57) hx hb (by omega) dX9_save_47 (by decide) (fun h_11 => ?_) (fun h_11 => absurd h_11 (by decide))
            refine lv_aload_n hx hb dX9_save_57 rfl (lv_at hl 1 rfl) ?_
            refine va_get (ci := 9) (v := .float p1) (C := RX9) (T := TX9) (N := 24) hx hb hts i9_X9_save hown hV.1 hP 0 rfl rfl 6 (by decide) (hts _ w4_X9_save) (fun _ h9 => h9) rfl dX9_save_58 ?_
            refine va_put (ci := 9) (v := .float p1) (ty := .float) (C := RX9) (T := TX9) (N := 24) hx hb hts i9_X9_save tyX9 tyX9_ok nmX9 hown hV.1 hP hD hS 0 rfl rfl 6 (by decide) (hts _ w4_X9_save) (fun _ h9 => h9) rfl (by decide +kernel) rfl rfl (Nat.le_of_ble_eq_true rfl) dX9_save_61 (fun H locs hP hD hS => ?_)
            have hP : va_P E.1 vwCl [(w0, ee_o 9 [.ref w1, .ref w2, .ref w3, .ref w4, .float pt, .float pa, .float p1, .float p2, .ref w5, .int tl, .int ta, .int fa, .ref w6, .ref w7, .int it, .ref w8, .ref w9, .int dp, .int tv, .int tn, .int tb, .int th, .int te, .long hh]), (w1, ee_i E 204 ar), (w3, ee_i E 408 sk), (w4, ee_z E 2 fs)] H := hP
            have hD : va_D A [(w0, ee_o 9 [.ref w1, .ref w2, .ref w3, .ref w4, .float pt, .float pa, .float p1, .float p2, .ref w5, .int tl, .int ta, .int fa, .ref w6, .ref w7, .int it, .ref w8, .ref w9, .int dp, .int tv, .int tn, .int tb, .int th, .int te, .long hh]), (w1, ee_i E 204 ar), (w3, ee_i E 408 sk), (w4, ee_z E 2 fs)] := hD
            refine lv_aload_n hx hb dX9_save_64 rfl (lv_at hl 1 rfl) ?_
            refine lv_iload_n hx hb dX9_save_65 rfl (lv_at hl 2 rfl) ?_
            refine lv_iconst (v := nI 1) hx hb dX9_save_66 (by decide) ?_
            refine ee_ne (tgt := 77) hx hb (by omega) (by omega) dX9_save_67 (by decide) (fun h_12 => absurd h_12 (by decide)) (fun h_12 => ?_)
            refine lv_aload_n hx hb dX9_save_70 rfl (lv_at hl 1 rfl) ?_
            refine va_get (ci := 9) (v := .float pt) (C := RX9) (T := TX9) (N := 24) hx hb hts i9_X9_save hown hV.1 hP 0 rfl rfl 4 (by decide) (hts _ w3_X9_save) (fun _ h9 => h9) rfl dX9_save_71 ?_
            refine lv_goto (tgt := 81) hx hb dX9_save_74 (by decide) ?_
            refine va_put (ci := 9) (v := .float pt) (ty := .float) (C := RX9) (T := TX9) (N := 24) hx hb hts i9_X9_save tyX9 tyX9_ok nmX9 hown hV.1 hP hD hS 0 rfl rfl 7 (by decide) (hts _ w5_X9_save) (fun _ h9 => h9) rfl (by decide +kernel) rfl rfl (Nat.le_of_ble_eq_true rfl) dX9_save_81 (fun H locs hP hD hS => ?_)
            have hP : va_P E.1 vwCl [(w0, ee_o 9 [.ref w1, .ref w2, .ref w3, .ref w4, .float pt, .float pa, .float p1, .float pt, .ref w5, .int tl, .int ta, .int fa, .ref w6, .ref w7, .int it, .ref w8, .ref w9, .int dp, .int tv, .int tn, .int tb, .int th, .int te, .long hh]), (w1, ee_i E 204 ar), (w3, ee_i E 408 sk), (w4, ee_z E 2 fs)] H := hP
            have hD : va_D A [(w0, ee_o 9 [.ref w1, .ref w2, .ref w3, .ref w4, .float pt, .float pa, .float p1, .float pt, .ref w5, .int tl, .int ta, .int fa, .ref w6, .ref w7, .int it, .ref w8, .ref w9, .int dp, .int tv, .int tn, .int tb, .int th, .int te, .long hh]), (w1, ee_i E 204 ar), (w3, ee_i E 408 sk), (w4, ee_z E 2 fs)] := hD
            refine lv_aload_n hx hb dX9_save_84 rfl (lv_at hl 1 rfl) ?_
            refine va_get (ci := 9) (v := .ref w4) (C := RX9) (T := TX9) (N := 24) hx hb hts i9_X9_save hown hV.1 hP 0 rfl rfl 3 (by decide) (hts _ w6_X9_save) (fun _ h9 => h9) rfl dX9_save_85 ?_
            refine lv_iload_n hx hb dX9_save_88 rfl (lv_at hl 2 rfl) ?_
            refine lv_iconst (v := nI 1) hx hb dX9_save_89 (by decide) ?_
            refine ee_zst hx hb hV hP hD hS 3 rfl (j := 1) (by decide) (by omega) (by decide) dX9_save_90 (fun H locs hP hD hS => ?_)
            have hP : va_P E.1 vwCl [(w0, ee_o 9 [.ref w1, .ref w2, .ref w3, .ref w4, .float pt, .float pa, .float p1, .float pt, .ref w5, .int tl, .int ta, .int fa, .ref w6, .ref w7, .int it, .ref w8, .ref w9, .int dp, .int tv, .int tn, .int tb, .int th, .int te, .long hh]), (w1, ee_i E 204 ar), (w3, ee_i E 408 sk), (w4, ee_z E 2 (upd fs 1 (nI 1)))] H := hP
            have hD : va_D A [(w0, ee_o 9 [.ref w1, .ref w2, .ref w3, .ref w4, .float pt, .float pa, .float p1, .float pt, .ref w5, .int tl, .int ta, .int fa, .ref w6, .ref w7, .int it, .ref w8, .ref w9, .int dp, .int tv, .int tn, .int tb, .int th, .int te, .long hh]), (w1, ee_i E 204 ar), (w3, ee_i E 408 sk), (w4, ee_z E 2 (upd fs 1 (nI 1)))] := hD
            refine lv_aload_n hx hb dX9_save_91 rfl (lv_at hl 1 rfl) ?_
            refine va_get (ci := 9) (v := .ref w1) (C := RX9) (T := TX9) (N := 24) hx hb hts i9_X9_save hown hV.1 hP 0 rfl rfl 0 (by decide) (hts _ w2_X9_save) (fun _ h9 => h9) rfl dX9_save_92 ?_
            refine lv_iconst (v := nI 0) hx hb dX9_save_95 (by decide) ?_
            refine ee_ild hx hb hV hP 1 rfl (j := 0) (by omega) (by decide) dX9_save_96 ?_
            refine ee_to (z := nI (gN z)) (rM_N hR) ?_
            exact ee_fi hQ hx hb hr (rfl) hlocks hS (sk, upd fs 1 (nI 1), p1, pt) (by rw [svA, inB_t hc1, nv_nI (by omega)]; exact ⟨rfl, sv_1 hR hq q1 q2⟩) hP hD dX9_save_97
        · refine lv_aload_n hx hb dX9_save_21 rfl (lv_at hl 1 rfl) ?_
          refine va_get (ci := 9) (v := .ref w3) (C := RX9) (T := TX9) (N := 24) hx hb hts i9_X9_save hown hV.1 hP 0 rfl rfl 2 (by decide) (hts _ w1_X9_save) (fun _ h9 => h9) rfl dX9_save_22 ?_
          refine lv_sipush (v := nI 204) hx hb dX9_save_25 (by decide) ?_
          refine lv_iload_n hx hb dX9_save_28 rfl (lv_at hl 2 rfl) ?_
          refine ee_imul hx hb dX9_save_29 ?_
          refine lv_iload_n hx hb dX9_save_30 rfl (lv_at hl 0 rfl) ?_
          refine ee_iadd hx hb dX9_save_31 ?_
          refine lv_aload_n hx hb dX9_save_32 rfl (lv_at hl 1 rfl) ?_
          refine va_get (ci := 9) (v := .ref w1) (C := RX9) (T := TX9) (N := 24) hx hb hts i9_X9_save hown hV.1 hP 0 rfl rfl 0 (by decide) (hts _ w2_X9_save) (fun _ h9 => h9) rfl dX9_save_33 ?_
          refine lv_iload_n hx hb dX9_save_36 rfl (lv_at hl 0 rfl) ?_
          refine ee_ild hx hb hV hP 1 rfl (j := i) (by omega) (by decide) dX9_save_37 ?_
          refine ee_ist hx hb hV hP hD hS 2 rfl (j := ((204 * ww) + i)) (by omega) (by decide) dX9_save_38 (fun H locs hP hD hS => ?_)
          have hP : va_P E.1 vwCl [(w0, ee_o 9 [.ref w1, .ref w2, .ref w3, .ref w4, .float pt, .float pa, .float p1, .float p2, .ref w5, .int tl, .int ta, .int fa, .ref w6, .ref w7, .int it, .ref w8, .ref w9, .int dp, .int tv, .int tn, .int tb, .int th, .int te, .long hh]), (w1, ee_i E 204 ar), (w3, ee_i E 408 (upd sk ((204 * ww) + i) (ar i))), (w4, ee_z E 2 fs)] H := hP
          have hD : va_D A [(w0, ee_o 9 [.ref w1, .ref w2, .ref w3, .ref w4, .float pt, .float pa, .float p1, .float p2, .ref w5, .int tl, .int ta, .int fa, .ref w6, .ref w7, .int it, .ref w8, .ref w9, .int dp, .int tv, .int tn, .int tb, .int th, .int te, .long hh]), (w1, ee_i E 204 ar), (w3, ee_i E 408 (upd sk ((204 * ww) + i) (ar i))), (w4, ee_z E 2 fs)] := hD
          refine lv_iinc (v := nI (i + 1)) (lv' := [(2, .int (nI (i + 1))), (0, .ref w0), (1, .int (nI ww))]) hx hb dX9_save_39 hl (k := 0) rfl (ee_inc _) (by decide) rfl (fun ls hl => ?_)
          refine lv_goto (tgt := 14) hx hb dX9_save_42 (by decide) ?_
          exact ihB_7 (i + 1) (upd sk ((204 * ww) + i) (ar i)) _ _ _ (by omega) (by omega) ((sv_s (by omega) q1 q2).1) ((sv_s (by omega) q1 q2).2) hP hD hS (lv_sub hl [0, 1, 2] rfl)
    exact B_7 ((204 - 0) + 1) 0 sl _ _ _ (Nat.lt_succ_self _) (by omega) (fun j hj => absurd hj (Nat.not_lt_zero _)) (fun _ _ => rfl) hP hD hS (lv_sub hl [0, 1, 2] rfl)
  · refine ee_ne0 (tgt := 12) hx hb (by omega) dX9_save_6 (by decide) (fun h_13 => absurd h_13 (by decide)) (fun h_13 => ?_)
    refine lv_bipush (v := (-2)) hx hb dX9_save_9 (by decide) ?_
    exact ee_fi hQ hx hb hr (rfl) hlocks hS (sl, fs, p1, p2) (by rw [svA, inB_f hc2]; exact ⟨rfl, hq⟩) hP hD dX9_save_11
abbrev rmX9_restore : Room := ({ frames := 1, cells := 0, slots := 0, locals := 22 } : Room)
theorem w1_X9_restore : Cond.fieldLink RX9 19 "LabelApplicatorModel" "isSaved" "[Z" ∈ wsX9_restore := List.mem_of_getElem? (i := 1) (by decide +kernel)
theorem w2_X9_restore : Cond.fieldLink RX9 7 "LabelApplicatorModel" "m" "[I" ∈ wsX9_restore := List.mem_of_getElem? (i := 2) (by decide +kernel)
theorem w3_X9_restore : Cond.fieldLink RX9 16 "LabelApplicatorModel" "slots" "[I" ∈ wsX9_restore := List.mem_of_getElem? (i := 3) (by decide +kernel)
theorem w4_X9_restore : Cond.fieldLink RX9 165 "LabelApplicatorModel" "pitchFirst" "F" ∈ wsX9_restore := List.mem_of_getElem? (i := 4) (by decide +kernel)
theorem w5_X9_restore : Cond.fieldLink RX9 168 "LabelApplicatorModel" "pitchSecond" "F" ∈ wsX9_restore := List.mem_of_getElem? (i := 5) (by decide +kernel)
theorem w6_X9_restore : Cond.fieldLink RX9 24 "LabelApplicatorModel" "pitch" "F" ∈ wsX9_restore := List.mem_of_getElem? (i := 6) (by decide +kernel)
theorem w7_X9_restore : Cond.methodLink RX9 43 yX9_in ∈ wsX9_restore := List.mem_of_getElem? (i := 7) (by decide +kernel)
theorem w9_X9_restore : Cond.initialized RX9 ∈ wsX9_restore := List.mem_of_getElem? (i := 9) (by decide +kernel)
theorem i9_X9_restore : ∀ w ∈ wsX90, w ∈ wsX9_restore := fun w h => (goodIn_r _ [11, 12, 13, 14, 15, 16, 17, 18, 19, 20, 21, 22, 23, 24, 25, 26, 27, 28, 29, 30, 31, 32, 33, 34] (by decide +kernel) (by decide +kernel) w h).1
set_option maxHeartbeats 4000000 in
set_option maxRecDepth 100000 in
theorem kX9_restore (l : Launch) (E : ee_T) (w0 w1 w2 w3 w4 w5 w6 w7 w8 w9 : Nat) (pt pa p1 p2 : UInt32) (tl ta fa it dp tv tn tb th te : Int32) (hh : Int64) (ar : Nat → Int32) (sl fs : Nat → Int32) (z : Sg) (q : Sv) (x : Int32) (hR : rM z ar pt) (hq : svM q sl fs p1 p2) : CQ l E yX9_restore wsX9_restore rmX9_restore [.ref w0, .int x] [(w0, ee_o 9 [.ref w1, .ref w2, .ref w3, .ref w4, .float pt, .float pa, .float p1, .float p2, .ref w5, .int tl, .int ta, .int fa, .ref w6, .ref w7, .int it, .ref w8, .ref w9, .int dp, .int tv, .int tn, .int tb, .int th, .int te, .long hh]), (w1, ee_i E 204 ar), (w3, ee_i E 408 sl), (w4, ee_z E 2 fs)] (QI E (fun (r : Int32) (u : (Nat → Int32) × UInt32) => r = (rsA z q x).1 ∧ rM (rsA z q x).2 u.1 u.2) (fun (u : (Nat → Int32) × UInt32) => [(w0, ee_o 9 [.ref w1, .ref w2, .ref w3, .ref w4, .float u.2, .float pa, .float p1, .float p2, .ref w5, .int tl, .int ta, .int fa, .ref w6, .ref w7, .int it, .ref w8, .ref w9, .int dp, .int tv, .int tn, .int tb, .int th, .int te, .long hh]), (w1, ee_i E 204 u.1), (w3, ee_i E 408 sl), (w4, ee_z E 2 fs)])) 0 0 := by
  refine CQ_ofW (cc := cX9_restore) (maxL := 3) (ret := (some .int)) (by decide) rfl (Nat.le_of_ble_eq_true rfl) ?_
  intro p e s m below meth c A Q hQ hx hb hr hml hown hlocks hnm hts hV hA hP hD hS ls hl
  have hl : lv_has ls 3 [(0, .ref w0), (1, .int x)] := hl
  refine lv_iload_n hx hb dX9_restore_0 rfl (lv_at hl 1 rfl) ?_
  refine lv_iconst (v := nI 0) hx hb dX9_restore_1 (by decide) ?_
  refine lv_iconst (v := nI 1) hx hb dX9_restore_2 (by decide) ?_
  refine ee_ki (wr := [(w0, ee_o 9 [.ref w1, .ref w2, .ref w3, .ref w4, .float pt, .float pa, .float p1, .float p2, .ref w5, .int tl, .int ta, .int fa, .ref w6, .ref w7, .int it, .ref w8, .ref w9, .int dp, .int tv, .int tn, .int tb, .int th, .int te, .long hh]), (w1, ee_i E 204 ar), (w3, ee_i E 408 sl), (w4, ee_z E 2 fs)]) (ee_rS (As := [.int x, .int (nI 0), .int (nI 1)]) (rest := []) (kX9_in l E x (nI 0) (nI 1)) hx hb hml hown hts 3 gX9_restore_X9_in rfl rfl rfl (by decide +kernel) ⟨Nat.le_of_ble_eq_true rfl, Nat.le_of_ble_eq_true rfl⟩ hV hP hD hS hA [] rfl (by decide) hl rfl rfl (Nat.le_of_ble_eq_true rfl) dX9_restore_3 ⟨Nat.le_of_ble_eq_true rfl, Nat.le_of_ble_eq_true rfl⟩) hP hD hS hA [] [0, 1, 2, 3] rfl rfl (by decide) (by decide) (fun r_1 u_2 H locs hp_3 hP hD hS => ?_)
  have hP : va_P E.1 vwCl [(w0, ee_o 9 [.ref w1, .ref w2, .ref w3, .ref w4, .float pt, .float pa, .float p1, .float p2, .ref w5, .int tl, .int ta, .int fa, .ref w6, .ref w7, .int it, .ref w8, .ref w9, .int dp, .int tv, .int tn, .int tb, .int th, .int te, .long hh]), (w1, ee_i E 204 ar), (w3, ee_i E 408 sl), (w4, ee_z E 2 fs)] H := hP
  have hD : va_D A [(w0, ee_o 9 [.ref w1, .ref w2, .ref w3, .ref w4, .float pt, .float pa, .float p1, .float p2, .ref w5, .int tl, .int ta, .int fa, .ref w6, .ref w7, .int it, .ref w8, .ref w9, .int dp, .int tv, .int tn, .int tb, .int th, .int te, .long hh]), (w1, ee_i E 204 ar), (w3, ee_i E 408 sl), (w4, ee_z E 2 fs)] := hD
  rcases hp_3 with ⟨rfl, hc1⟩ | ⟨rfl, hc2⟩
  · obtain ⟨ww, x_1, x_2, rfl⟩ := inR_nat (by decide) (by decide) hc1
    obtain ⟨f1, f2, f3⟩ := hq ww x_2
    refine ee_ne0 (tgt := 12) hx hb (by omega) dX9_restore_6 (by decide) (fun h_6 => ?_) (fun h_6 => absurd h_6 (by decide))
    refine lv_aload_n hx hb dX9_restore_12 rfl (lv_at hl 0 rfl) ?_
    refine va_get (ci := 9) (v := .ref w4) (C := RX9) (T := TX9) (N := 24) hx hb hts i9_X9_restore hown hV.1 hP 0 rfl rfl 3 (by decide) (hts _ w1_X9_restore) (fun _ h9 => h9) rfl dX9_restore_13 ?_
    refine lv_iload_n hx hb dX9_restore_16 rfl (lv_at hl 1 rfl) ?_
    refine ee_zld hx hb hV hP 3 rfl (j := ww) (by omega) (by decide) dX9_restore_17 ?_
    refine ee_to (z := nI (flg q ww)) (f2) ?_
    refine ee_ne0 (tgt := 24) hx hb (by omega) dX9_restore_18 (by decide) (fun g18 => ?_) (fun g18 => ?_)
    · refine lv_iconst (v := nI 0) hx hb dX9_restore_24 (by decide) ?_
      refine lv_istore_n (lv' := [(2, .int (nI 0)), (0, .ref w0), (1, .int (nI ww))]) hx hb dX9_restore_25 rfl hl (by decide) rfl (fun ls hl => ?_)
      have B_7 : ∀ (zz : Nat) (i : Nat) (bk : Nat → Int32) (H : Heap) (locs : List Loc) (ls : Array Slot), (204 - i) < zz → (i ≤ 204) → (∀ j, j < i → bk j = sl (204 * ww + j)) → va_P E.1 vwCl [(w0, ee_o 9 [.ref w1, .ref w2, .ref w3, .ref w4, .float pt, .float pa, .float p1, .float p2, .ref w5, .int tl, .int ta, .int fa, .ref w6, .ref w7, .int it, .ref w8, .ref w9, .int dp, .int tv, .int tn, .int tb, .int th, .int te, .long hh]), (w1, ee_i E 204 bk), (w3, ee_i E 408 sl), (w4, ee_z E 2 fs)] H → va_D A [(w0, ee_o 9 [.ref w1, .ref w2, .ref w3, .ref w4, .float pt, .float pa, .float p1, .float p2, .ref w5, .int tl, .int ta, .int fa, .ref w6, .ref w7, .int it, .ref w8, .ref w9, .int dp, .int tv, .int tn, .int tb, .int th, .int te, .long hh]), (w1, ee_i E 204 bk), (w3, ee_i E 408 sl), (w4, ee_z E 2 fs)] → va_S A s.heap H locs → lv_has ls 3 [(2, .int (nI i)), (0, .ref w0), (1, .int (nI ww))] → W p l e rmX9_restore s m [.ref w0, .int (nI ww)].toArray below meth c H locs 0 0 Q (F0 m 26 ls []) := by
        intro zz
        induction zz with
        | zero => intro i bk H locs ls hzz; exact absurd hzz (Nat.not_lt_zero _)
        | succ zz ihB_7 =>
          intro i bk H locs ls hzz hin q1 hP hD hS hl
          refine lv_iload_n hx hb dX9_restore_26 rfl (lv_at hl 0 rfl) ?_
          refine lv_sipush (v := nI 204) hx hb dX9_restore_27 (by decide) ?_
          refine ee_ge (tgt := 57) hx hb (by omega) (by omega) dX9_restore_30 (by decide) (fun h_8 => ?_) (fun h_8 => ?_)
          · have hSl : rM (slq q ww) bk (if ww = 0 then p1 else p2) := rM_cg (f3 g18) (fun j hj => q1 j (by omega))
            rcases (show ww = 0 ∨ ww = 1 by omega) with rfl | rfl
            · refine lv_aload_n hx hb dX9_restore_57 rfl (lv_at hl 1 rfl) ?_
              refine lv_iload_n hx hb dX9_restore_58 rfl (lv_at hl 2 rfl) ?_
              refine ee_ne0 (tgt := 69) hx hb (by omega) dX9_restore_59 (by decide) (fun h_9 => absurd h_9 (by decide)) (fun h_9 => ?_)
              refine lv_aload_n hx hb dX9_restore_62 rfl (lv_at hl 1 rfl) ?_
              refine va_get (ci := 9) (v := .float p1) (C := RX9) (T := TX9) (N := 24) hx hb hts i9_X9_restore hown hV.1 hP 0 rfl rfl 6 (by decide) (hts _ w4_X9_restore) (fun _ h9 => h9) rfl dX9_restore_63 ?_
              refine lv_goto (tgt := 73) hx hb dX9_restore_66 (by decide) ?_
              refine va_put (ci := 9) (v := .float p1) (ty := .float) (C := RX9) (T := TX9) (N := 24) hx hb hts i9_X9_restore tyX9 tyX9_ok nmX9 hown hV.1 hP hD hS 0 rfl rfl 4 (by decide) (hts _ w6_X9_restore) (fun _ h9 => h9) rfl (by decide +kernel) rfl rfl (Nat.le_of_ble_eq_true rfl) dX9_restore_73 (fun H locs hP hD hS => ?_)
              have hP : va_P E.1 vwCl [(w0, ee_o 9 [.ref w1, .ref w2, .ref w3, .ref w4, .float p1, .float pa, .float p1, .float p2, .ref w5, .int tl, .int ta, .int fa, .ref w6, .ref w7, .int it, .ref w8, .ref w9, .int dp, .int tv, .int tn, .int tb, .int th, .int te, .long hh]), (w1, ee_i E 204 bk), (w3, ee_i E 408 sl), (w4, ee_z E 2 fs)] H := hP
              have hD : va_D A [(w0, ee_o 9 [.ref w1, .ref w2, .ref w3, .ref w4, .float p1, .float pa, .float p1, .float p2, .ref w5, .int tl, .int ta, .int fa, .ref w6, .ref w7, .int it, .ref w8, .ref w9, .int dp, .int tv, .int tn, .int tb, .int th, .int te, .long hh]), (w1, ee_i E 204 bk), (w3, ee_i E 408 sl), (w4, ee_z E 2 fs)] := hD
              refine lv_aload_n hx hb dX9_restore_76 rfl (lv_at hl 1 rfl) ?_
              refine va_get (ci := 9) (v := .ref w1) (C := RX9) (T := TX9) (N := 24) hx hb hts i9_X9_restore hown hV.1 hP 0 rfl rfl 0 (by decide) (hts _ w2_X9_restore) (fun _ h9 => h9) rfl dX9_restore_77 ?_
              refine lv_iconst (v := nI 0) hx hb dX9_restore_80 (by decide) ?_
              refine ee_ild hx hb hV hP 1 rfl (j := 0) (by omega) (by decide) dX9_restore_81 ?_
              refine ee_to (z := nI (gN (slq q 0))) (rM_N hSl) ?_
              exact ee_fi hQ hx hb hr (rfl) hlocks hS (bk, p1) (by rw [rsA, inB_t hc1, if_pos rfl, nv_nI (by omega), if_neg g18]; exact ⟨rfl, hSl⟩) hP hD dX9_restore_82
            · refine lv_aload_n hx hb dX9_restore_57 rfl (lv_at hl 1 rfl) ?_
              refine lv_iload_n hx hb dX9_restore_58 rfl (lv_at hl 2 rfl) ?_
              refine ee_ne0 (tgt := 69) hx hb (by omega) dX9_restore_59 (by decide) (fun h_10 => ?_) (fun h_10 => absurd h_10 (by decide))
              refine lv_aload_n hx hb dX9_restore_69 rfl (lv_at hl 1 rfl) ?_
              refine va_get (ci := 9) (v := .float p2) (C := RX9) (T := TX9) (N := 24) hx hb hts i9_X9_restore hown hV.1 hP 0 rfl rfl 7 (by decide) (hts _ w5_X9_restore) (fun _ h9 => h9) rfl dX9_restore_70 ?_
              refine va_put (ci := 9) (v := .float p2) (ty := .float) (C := RX9) (T := TX9) (N := 24) hx hb hts i9_X9_restore tyX9 tyX9_ok nmX9 hown hV.1 hP hD hS 0 rfl rfl 4 (by decide) (hts _ w6_X9_restore) (fun _ h9 => h9) rfl (by decide +kernel) rfl rfl (Nat.le_of_ble_eq_true rfl) dX9_restore_73 (fun H locs hP hD hS => ?_)
              have hP : va_P E.1 vwCl [(w0, ee_o 9 [.ref w1, .ref w2, .ref w3, .ref w4, .float p2, .float pa, .float p1, .float p2, .ref w5, .int tl, .int ta, .int fa, .ref w6, .ref w7, .int it, .ref w8, .ref w9, .int dp, .int tv, .int tn, .int tb, .int th, .int te, .long hh]), (w1, ee_i E 204 bk), (w3, ee_i E 408 sl), (w4, ee_z E 2 fs)] H := hP
              have hD : va_D A [(w0, ee_o 9 [.ref w1, .ref w2, .ref w3, .ref w4, .float p2, .float pa, .float p1, .float p2, .ref w5, .int tl, .int ta, .int fa, .ref w6, .ref w7, .int it, .ref w8, .ref w9, .int dp, .int tv, .int tn, .int tb, .int th, .int te, .long hh]), (w1, ee_i E 204 bk), (w3, ee_i E 408 sl), (w4, ee_z E 2 fs)] := hD
              refine lv_aload_n hx hb dX9_restore_76 rfl (lv_at hl 1 rfl) ?_
              refine va_get (ci := 9) (v := .ref w1) (C := RX9) (T := TX9) (N := 24) hx hb hts i9_X9_restore hown hV.1 hP 0 rfl rfl 0 (by decide) (hts _ w2_X9_restore) (fun _ h9 => h9) rfl dX9_restore_77 ?_
              refine lv_iconst (v := nI 0) hx hb dX9_restore_80 (by decide) ?_
              refine ee_ild hx hb hV hP 1 rfl (j := 0) (by omega) (by decide) dX9_restore_81 ?_
              refine ee_to (z := nI (gN (slq q 1))) (rM_N hSl) ?_
              exact ee_fi hQ hx hb hr (rfl) hlocks hS (bk, p2) (by rw [rsA, inB_t hc1, if_pos rfl, nv_nI (by omega), if_neg g18]; exact ⟨rfl, hSl⟩) hP hD dX9_restore_82
          · refine lv_aload_n hx hb dX9_restore_33 rfl (lv_at hl 1 rfl) ?_
            refine va_get (ci := 9) (v := .ref w1) (C := RX9) (T := TX9) (N := 24) hx hb hts i9_X9_restore hown hV.1 hP 0 rfl rfl 0 (by decide) (hts _ w2_X9_restore) (fun _ h9 => h9) rfl dX9_restore_34 ?_
            refine lv_iload_n hx hb dX9_restore_37 rfl (lv_at hl 0 rfl) ?_
            refine lv_aload_n hx hb dX9_restore_38 rfl (lv_at hl 1 rfl) ?_
            refine va_get (ci := 9) (v := .ref w3) (C := RX9) (T := TX9) (N := 24) hx hb hts i9_X9_restore hown hV.1 hP 0 rfl rfl 2 (by decide) (hts _ w3_X9_restore) (fun _ h9 => h9) rfl dX9_restore_39 ?_
            refine lv_sipush (v := nI 204) hx hb dX9_restore_42 (by decide) ?_
            refine lv_iload_n hx hb dX9_restore_45 rfl (lv_at hl 2 rfl) ?_
            refine ee_imul hx hb dX9_restore_46 ?_
            refine lv_iload_n hx hb dX9_restore_47 rfl (lv_at hl 0 rfl) ?_
            refine ee_iadd hx hb dX9_restore_48 ?_
            refine ee_ild hx hb hV hP 2 rfl (j := ((204 * ww) + i)) (by omega) (by decide) dX9_restore_49 ?_
            refine ee_ist hx hb hV hP hD hS 1 rfl (j := i) (by omega) (by decide) dX9_restore_50 (fun H locs hP hD hS => ?_)
            have hP : va_P E.1 vwCl [(w0, ee_o 9 [.ref w1, .ref w2, .ref w3, .ref w4, .float pt, .float pa, .float p1, .float p2, .ref w5, .int tl, .int ta, .int fa, .ref w6, .ref w7, .int it, .ref w8, .ref w9, .int dp, .int tv, .int tn, .int tb, .int th, .int te, .long hh]), (w1, ee_i E 204 (upd bk i (sl ((204 * ww) + i)))), (w3, ee_i E 408 sl), (w4, ee_z E 2 fs)] H := hP
            have hD : va_D A [(w0, ee_o 9 [.ref w1, .ref w2, .ref w3, .ref w4, .float pt, .float pa, .float p1, .float p2, .ref w5, .int tl, .int ta, .int fa, .ref w6, .ref w7, .int it, .ref w8, .ref w9, .int dp, .int tv, .int tn, .int tb, .int th, .int te, .long hh]), (w1, ee_i E 204 (upd bk i (sl ((204 * ww) + i)))), (w3, ee_i E 408 sl), (w4, ee_z E 2 fs)] := hD
            refine lv_iinc (v := nI (i + 1)) (lv' := [(2, .int (nI (i + 1))), (0, .ref w0), (1, .int (nI ww))]) hx hb dX9_restore_51 hl (k := 0) rfl (ee_inc _) (by decide) rfl (fun ls hl => ?_)
            refine lv_goto (tgt := 26) hx hb dX9_restore_54 (by decide) ?_
            exact ihB_7 (i + 1) (upd bk i (sl ((204 * ww) + i))) _ _ _ (by omega) (by omega) (up_s (F := fun j => sl (204 * ww + j)) q1 rfl) hP hD hS (lv_sub hl [0, 1, 2] rfl)
      exact B_7 ((204 - 0) + 1) 0 ar _ _ _ (Nat.lt_succ_self _) (by omega) (fun j hj => absurd hj (Nat.not_lt_zero _)) hP hD hS (lv_sub hl [0, 1, 2] rfl)
    · refine lv_bipush (v := (-3)) hx hb dX9_restore_21 (by decide) ?_
      exact ee_fi hQ hx hb hr (rfl) hlocks hS (ar, pt) (by rw [rsA, inB_t hc1, if_pos rfl, nv_nI (by omega), if_pos (by omega)]; exact ⟨rfl, hR⟩) hP hD dX9_restore_23
  · refine ee_ne0 (tgt := 12) hx hb (by omega) dX9_restore_6 (by decide) (fun h_11 => absurd h_11 (by decide)) (fun h_11 => ?_)
    refine lv_bipush (v := (-2)) hx hb dX9_restore_9 (by decide) ?_
    exact ee_fi hQ hx hb hr (rfl) hlocks hS (ar, pt) (by rw [rsA, inB_f hc2]; exact ⟨rfl, hR⟩) hP hD dX9_restore_11
abbrev rmX9_best : Room := ({ frames := 5, cells := 0, slots := 0, locals := 117 } : Room)
theorem w1_X9_best : Cond.fieldLink RX9 7 "LabelApplicatorModel" "m" "[I" ∈ wsX9_best := List.mem_of_getElem? (i := 1) (by decide +kernel)
theorem w2_X9_best : Cond.methodLink RX9 43 yX9_in ∈ wsX9_best := List.mem_of_getElem? (i := 2) (by decide +kernel)
theorem w4_X9_best : Cond.initialized RX9 ∈ wsX9_best := List.mem_of_getElem? (i := 4) (by decide +kernel)
theorem w6_X9_best : Cond.methodLink RX9 100 yX9_least ∈ wsX9_best := List.mem_of_getElem? (i := 6) (by decide +kernel)
theorem w9_X9_best : Cond.methodLink RX9 103 yX9_most ∈ wsX9_best := List.mem_of_getElem? (i := 9) (by decide +kernel)
theorem w12_X9_best : Cond.methodLink RX9 162 yX9_ahead ∈ wsX9_best := List.mem_of_getElem? (i := 12) (by decide +kernel)
theorem w16_X9_best : Cond.methodLink RX9 152 yX9_keepsAside ∈ wsX9_best := List.mem_of_getElem? (i := 16) (by decide +kernel)
theorem w20_X9_best : Cond.fieldLink RX9 13 "LabelApplicatorModel" "aside" "[I" ∈ wsX9_best := List.mem_of_getElem? (i := 20) (by decide +kernel)
theorem w21_X9_best : Cond.fieldLink RX9 24 "LabelApplicatorModel" "pitch" "F" ∈ wsX9_best := List.mem_of_getElem? (i := 21) (by decide +kernel)
theorem w22_X9_best : Cond.fieldLink RX9 149 "LabelApplicatorModel" "pitchAside" "F" ∈ wsX9_best := List.mem_of_getElem? (i := 22) (by decide +kernel)
theorem w23_X9_best : Cond.methodLink RX9 155 yX9_looksAhead ∈ wsX9_best := List.mem_of_getElem? (i := 23) (by decide +kernel)
theorem w27_X9_best : Cond.methodLink RX9 146 yX9_cycles ∈ wsX9_best := List.mem_of_getElem? (i := 27) (by decide +kernel)
theorem w31_X9_best : Cond.fieldLink RX9 129 "LabelApplicatorModel" "end" "I" ∈ wsX9_best := List.mem_of_getElem? (i := 31) (by decide +kernel)
theorem w32_X9_best : Cond.fieldLink RX9 116 "LabelApplicatorModel" "travel" "I" ∈ wsX9_best := List.mem_of_getElem? (i := 32) (by decide +kernel)
theorem w33_X9_best : Cond.constantFloat RX9 142 (1090519040) ∈ wsX9_best := List.mem_of_getElem? (i := 33) (by decide +kernel)
theorem w34_X9_best : Cond.fieldLink RX9 122 "LabelApplicatorModel" "labels" "I" ∈ wsX9_best := List.mem_of_getElem? (i := 34) (by decide +kernel)
theorem w35_X9_best : Cond.fieldLink RX9 125 "LabelApplicatorModel" "hasSplice" "Z" ∈ wsX9_best := List.mem_of_getElem? (i := 35) (by decide +kernel)
theorem w36_X9_best : Cond.fieldLink RX9 119 "LabelApplicatorModel" "taken" "I" ∈ wsX9_best := List.mem_of_getElem? (i := 36) (by decide +kernel)
theorem w37_X9_best : Cond.methodLink RX9 132 yX9_follows ∈ wsX9_best := List.mem_of_getElem? (i := 37) (by decide +kernel)
theorem w41_X9_best : Cond.methodLink RX9 135 yX9_feeds ∈ wsX9_best := List.mem_of_getElem? (i := 41) (by decide +kernel)
theorem w45_X9_best : Cond.methodLink RX9 138 yX9_reasonAt ∈ wsX9_best := List.mem_of_getElem? (i := 45) (by decide +kernel)
theorem w49_X9_best : Cond.methodLink RX9 143 yX9_turns ∈ wsX9_best := List.mem_of_getElem? (i := 49) (by decide +kernel)
theorem w53_X9_best : Cond.methodLink RX9 113 yX9_leaves ∈ wsX9_best := List.mem_of_getElem? (i := 53) (by decide +kernel)
theorem w57_X9_best : Cond.methodLink RX9 159 yX9_returns ∈ wsX9_best := List.mem_of_getElem? (i := 57) (by decide +kernel)
theorem i9_X9_best : ∀ w ∈ wsX90, w ∈ wsX9_best := fun w h => (goodIn_r _ [61, 62, 63, 64, 65, 66, 67, 68, 69, 70, 71, 72, 73, 74, 75, 76, 77, 78, 79, 80, 81, 82, 83, 84] (by decide +kernel) (by decide +kernel) w h).1
set_option maxHeartbeats 4000000 in
set_option maxRecDepth 100000 in
theorem kX9_best (l : Launch) (E : ee_T) (w0 w1 w2 w3 w4 w5 w6 w7 w8 w9 : Nat) (pt pa p1 p2 : UInt32) (tl ta fa it dp tv tn tb th te : Int32) (hh : Int64) (ar : Nat → Int32) (aa : Nat → Int32) (z : Sg) (x n v : Int32) (hR : rM z ar pt) : CQ l E yX9_best wsX9_best rmX9_best [.ref w0, .int x, .int n, .int v] [(w0, ee_o 9 [.ref w1, .ref w2, .ref w3, .ref w4, .float pt, .float pa, .float p1, .float p2, .ref w5, .int tl, .int ta, .int fa, .ref w6, .ref w7, .int it, .ref w8, .ref w9, .int dp, .int tv, .int tn, .int tb, .int th, .int te, .long hh]), (w1, ee_i E 204 ar), (w2, ee_i E 204 aa)] (QI E (fun (r : Int32) (u : (Nat → Int32) × (Nat → Int32) × UInt32 × Int32 × Int32 × Int32 × Int32 × Int32) => r = beA z x n v ∧ ∀ j, j < 204 → u.1 j = ar j) (fun (u : (Nat → Int32) × (Nat → Int32) × UInt32 × Int32 × Int32 × Int32 × Int32 × Int32) => [(w0, ee_o 9 [.ref w1, .ref w2, .ref w3, .ref w4, .float pt, .float u.2.2.1, .float p1, .float p2, .ref w5, .int tl, .int ta, .int fa, .ref w6, .ref w7, .int it, .ref w8, .ref w9, .int dp, .int u.2.2.2.1, .int u.2.2.2.2.1, .int u.2.2.2.2.2.1, .int u.2.2.2.2.2.2.1, .int u.2.2.2.2.2.2.2, .long hh]), (w1, ee_i E 204 u.1), (w2, ee_i E 204 u.2.1)])) 0 0 := by
  refine CQ_ofW (cc := cX9_best) (maxL := 9) (ret := (some .int)) (by decide) rfl (Nat.le_of_ble_eq_true rfl) ?_
  intro p e s m below meth c A Q hQ hx hb hr hml hown hlocks hnm hts hV hA hP hD hS ls hl
  have hl : lv_has ls 9 [(0, .ref w0), (1, .int x), (2, .int n), (3, .int v)] := hl
  have B_1 : ∀  (H : Heap) (locs : List Loc) (ls : Array Slot), (x = nI 0 ∨ x = nI 1 ∨ x = nI 5) → va_P E.1 vwCl [(w0, ee_o 9 [.ref w1, .ref w2, .ref w3, .ref w4, .float pt, .float pa, .float p1, .float p2, .ref w5, .int tl, .int ta, .int fa, .ref w6, .ref w7, .int it, .ref w8, .ref w9, .int dp, .int tv, .int tn, .int tb, .int th, .int te, .long hh]), (w1, ee_i E 204 ar), (w2, ee_i E 204 aa)] H → va_D A [(w0, ee_o 9 [.ref w1, .ref w2, .ref w3, .ref w4, .float pt, .float pa, .float p1, .float p2, .ref w5, .int tl, .int ta, .int fa, .ref w6, .ref w7, .int it, .ref w8, .ref w9, .int dp, .int tv, .int tn, .int tb, .int th, .int te, .long hh]), (w1, ee_i E 204 ar), (w2, ee_i E 204 aa)] → va_S A s.heap H locs → lv_has ls 9 [(0, .ref w0), (1, .int x), (2, .int n), (3, .int v)] → W p l e rmX9_best s m [.ref w0, .int x, .int n, .int v].toArray below meth c H locs 0 0 Q (F0 m 14 ls []) := by
    intro  H locs ls hx3 hP hD hS hl
    refine lv_iload_n hx hb dX9_best_14 rfl (lv_at hl 2 rfl) ?_
    refine lv_iconst (v := nI 1) hx hb dX9_best_15 (by decide) ?_
    refine lv_bipush (v := nI 100) hx hb dX9_best_16 (by decide) ?_
    refine ee_ki (wr := [(w0, ee_o 9 [.ref w1, .ref w2, .ref w3, .ref w4, .float pt, .float pa, .float p1, .float p2, .ref w5, .int tl, .int ta, .int fa, .ref w6, .ref w7, .int it, .ref w8, .ref w9, .int dp, .int tv, .int tn, .int tb, .int th, .int te, .long hh]), (w1, ee_i E 204 ar), (w2, ee_i E 204 aa)]) (ee_rS (As := [.int n, .int (nI 1), .int (nI 100)]) (rest := []) (kX9_in l E n (nI 1) (nI 100)) hx hb hml hown hts 3 gX9_best_X9_in rfl rfl rfl (by decide +kernel) ⟨Nat.le_of_ble_eq_true rfl, Nat.le_of_ble_eq_true rfl⟩ hV hP hD hS hA [] rfl (by decide) hl rfl rfl (Nat.le_of_ble_eq_true rfl) dX9_best_18 ⟨Nat.le_of_ble_eq_true rfl, Nat.le_of_ble_eq_true rfl⟩) hP hD hS hA [] [0, 1, 2] rfl rfl (by decide) (by decide) (fun r_2 u_3 H locs hp_4 hP hD hS => ?_)
    have hP : va_P E.1 vwCl [(w0, ee_o 9 [.ref w1, .ref w2, .ref w3, .ref w4, .float pt, .float pa, .float p1, .float p2, .ref w5, .int tl, .int ta, .int fa, .ref w6, .ref w7, .int it, .ref w8, .ref w9, .int dp, .int tv, .int tn, .int tb, .int th, .int te, .long hh]), (w1, ee_i E 204 ar), (w2, ee_i E 204 aa)] H := hP
    have hD : va_D A [(w0, ee_o 9 [.ref w1, .ref w2, .ref w3, .ref w4, .float pt, .float pa, .float p1, .float p2, .ref w5, .int tl, .int ta, .int fa, .ref w6, .ref w7, .int it, .ref w8, .ref w9, .int dp, .int tv, .int tn, .int tb, .int th, .int te, .long hh]), (w1, ee_i E 204 ar), (w2, ee_i E 204 aa)] := hD
    rcases hp_4 with ⟨rfl, hc1⟩ | ⟨rfl, hc2⟩
    · refine ee_eq0 (tgt := 35) hx hb (by omega) dX9_best_21 (by decide) (fun h_7 => absurd h_7 (by decide)) (fun h_7 => ?_)
      refine lv_iload_n hx hb dX9_best_24 rfl (lv_at hl 3 rfl) ?_
      refine lv_iconst (v := nI 0) hx hb dX9_best_25 (by decide) ?_
      refine lv_sipush (v := nI 1000) hx hb dX9_best_26 (by decide) ?_
      refine ee_ki (wr := [(w0, ee_o 9 [.ref w1, .ref w2, .ref w3, .ref w4, .float pt, .float pa, .float p1, .float p2, .ref w5, .int tl, .int ta, .int fa, .ref w6, .ref w7, .int it, .ref w8, .ref w9, .int dp, .int tv, .int tn, .int tb, .int th, .int te, .long hh]), (w1, ee_i E 204 ar), (w2, ee_i E 204 aa)]) (ee_rS (As := [.int v, .int (nI 0), .int (nI 1000)]) (rest := []) (kX9_in l E v (nI 0) (nI 1000)) hx hb hml hown hts 3 gX9_best_X9_in rfl rfl rfl (by decide +kernel) ⟨Nat.le_of_ble_eq_true rfl, Nat.le_of_ble_eq_true rfl⟩ hV hP hD hS hA [] rfl (by decide) hl rfl rfl (Nat.le_of_ble_eq_true rfl) dX9_best_29 ⟨Nat.le_of_ble_eq_true rfl, Nat.le_of_ble_eq_true rfl⟩) hP hD hS hA [] [0, 1, 2] rfl rfl (by decide) (by decide) (fun r_8 u_9 H locs hp_10 hP hD hS => ?_)
      have hP : va_P E.1 vwCl [(w0, ee_o 9 [.ref w1, .ref w2, .ref w3, .ref w4, .float pt, .float pa, .float p1, .float p2, .ref w5, .int tl, .int ta, .int fa, .ref w6, .ref w7, .int it, .ref w8, .ref w9, .int dp, .int tv, .int tn, .int tb, .int th, .int te, .long hh]), (w1, ee_i E 204 ar), (w2, ee_i E 204 aa)] H := hP
      have hD : va_D A [(w0, ee_o 9 [.ref w1, .ref w2, .ref w3, .ref w4, .float pt, .float pa, .float p1, .float p2, .ref w5, .int tl, .int ta, .int fa, .ref w6, .ref w7, .int it, .ref w8, .ref w9, .int dp, .int tv, .int tn, .int tb, .int th, .int te, .long hh]), (w1, ee_i E 204 ar), (w2, ee_i E 204 aa)] := hD
      rcases hp_10 with ⟨rfl, hc3⟩ | ⟨rfl, hc4⟩
      · obtain ⟨nn, n_1, n_2, rfl⟩ := inR_nat (by decide) (by decide) hc1
        obtain ⟨vv, v_1, v_2, rfl⟩ := inR_nat (by decide) (by decide) hc3
        obtain ⟨ww, hw5, rfl⟩ := bx_n hx3
        have hsb := st_bd (w := ww) (by omega)
        refine ee_ne0 (tgt := 38) hx hb (by omega) dX9_best_32 (by decide) (fun h_13 => ?_) (fun h_13 => absurd h_13 (by decide))
        refine lv_iconst (v := (-1)) hx hb dX9_best_38 (by decide) ?_
        refine lv_istore (lv' := [(4, .int (-1)), (0, .ref w0), (1, .int (nI ww)), (2, .int (nI nn)), (3, .int (nI vv))]) hx hb dX9_best_39 hl (by decide) rfl (fun ls hl => ?_)
        refine lv_iconst (v := (-1)) hx hb dX9_best_41 (by decide) ?_
        refine lv_istore (lv' := [(5, .int (-1)), (4, .int (-1)), (0, .ref w0), (1, .int (nI ww)), (2, .int (nI nn)), (3, .int (nI vv))]) hx hb dX9_best_42 hl (by decide) rfl (fun ls hl => ?_)
        refine lv_aload_n hx hb dX9_best_44 rfl (lv_at hl 2 rfl) ?_
        refine va_get (ci := 9) (v := .ref w1) (C := RX9) (T := TX9) (N := 24) hx hb hts i9_X9_best hown hV.1 hP 0 rfl rfl 0 (by decide) (hts _ w1_X9_best) (fun _ h9 => h9) rfl dX9_best_45 ?_
        refine lv_sipush (v := nI 161) hx hb dX9_best_48 (by decide) ?_
        refine lv_iload_n hx hb dX9_best_51 rfl (lv_at hl 3 rfl) ?_
        refine ee_iadd hx hb dX9_best_52 ?_
        refine ee_ild hx hb hV hP 1 rfl (j := (161 + ww)) (by omega) (by decide) dX9_best_53 ?_
        refine lv_istore (lv' := [(6, .int (ar (161 + ww))), (5, .int (-1)), (4, .int (-1)), (0, .ref w0), (1, .int (nI ww)), (2, .int (nI nn)), (3, .int (nI vv))]) hx hb dX9_best_54 hl (by decide) rfl (fun ls hl => ?_)
        refine lv_iload_n hx hb dX9_best_56 rfl (lv_at hl 4 rfl) ?_
        refine ee_ki (wr := [(w0, ee_o 9 [.ref w1, .ref w2, .ref w3, .ref w4, .float pt, .float pa, .float p1, .float p2, .ref w5, .int tl, .int ta, .int fa, .ref w6, .ref w7, .int it, .ref w8, .ref w9, .int dp, .int tv, .int tn, .int tb, .int th, .int te, .long hh]), (w1, ee_i E 204 ar), (w2, ee_i E 204 aa)]) (ee_rS (As := [.int (nI ww)]) (rest := []) (kX9_least l E ww (by omega)) hx hb hml hown hts 1 gX9_best_X9_least rfl rfl rfl (by decide +kernel) ⟨Nat.le_of_ble_eq_true rfl, Nat.le_of_ble_eq_true rfl⟩ hV hP hD hS hA [] rfl (by decide) hl rfl rfl (Nat.le_of_ble_eq_true rfl) dX9_best_57 ⟨Nat.le_of_ble_eq_true rfl, Nat.le_of_ble_eq_true rfl⟩) hP hD hS hA [] [0, 1, 2] rfl rfl (by decide) (by decide) (fun r_14 u_15 H locs hp_16 hP hD hS => ?_)
        subst hp_16
        have hP : va_P E.1 vwCl [(w0, ee_o 9 [.ref w1, .ref w2, .ref w3, .ref w4, .float pt, .float pa, .float p1, .float p2, .ref w5, .int tl, .int ta, .int fa, .ref w6, .ref w7, .int it, .ref w8, .ref w9, .int dp, .int tv, .int tn, .int tb, .int th, .int te, .long hh]), (w1, ee_i E 204 ar), (w2, ee_i E 204 aa)] H := hP
        have hD : va_D A [(w0, ee_o 9 [.ref w1, .ref w2, .ref w3, .ref w4, .float pt, .float pa, .float p1, .float p2, .ref w5, .int tl, .int ta, .int fa, .ref w6, .ref w7, .int it, .ref w8, .ref w9, .int dp, .int tv, .int tn, .int tb, .int th, .int te, .long hh]), (w1, ee_i E 204 ar), (w2, ee_i E 204 aa)] := hD
        refine lv_istore (lv' := [(7, .int (nI (st_lo ww))), (6, .int (ar (161 + ww))), (5, .int (-1)), (4, .int (-1)), (0, .ref w0), (1, .int (nI ww)), (2, .int (nI nn)), (3, .int (nI vv))]) hx hb dX9_best_60 hl (by decide) rfl (fun ls hl => ?_)
        have B_17 : ∀ (zz : Nat) (m0 : Nat) (q4 q5 : Int32) (bk ak : Nat → Int32) (pq : UInt32) (xv xn xb xh xe : Int32) (H : Heap) (locs : List Loc) (ls : Array Slot), (st_hi ww + 1 - (st_lo ww + m0)) < zz → (m0 ≤ st_hi ww - st_lo ww + 1) → (bestI z ww nn (nI vv) m0 q4 q5) → (∀ j, j < 204 → j ≠ 161 + ww → bk j = ar j) → va_P E.1 vwCl [(w0, ee_o 9 [.ref w1, .ref w2, .ref w3, .ref w4, .float pt, .float pq, .float p1, .float p2, .ref w5, .int tl, .int ta, .int fa, .ref w6, .ref w7, .int it, .ref w8, .ref w9, .int dp, .int xv, .int xn, .int xb, .int xh, .int xe, .long hh]), (w1, ee_i E 204 bk), (w2, ee_i E 204 ak)] H → va_D A [(w0, ee_o 9 [.ref w1, .ref w2, .ref w3, .ref w4, .float pt, .float pq, .float p1, .float p2, .ref w5, .int tl, .int ta, .int fa, .ref w6, .ref w7, .int it, .ref w8, .ref w9, .int dp, .int xv, .int xn, .int xb, .int xh, .int xe, .long hh]), (w1, ee_i E 204 bk), (w2, ee_i E 204 ak)] → va_S A s.heap H locs → lv_has ls 9 [(7, .int (nI (st_lo ww + m0))), (6, .int (ar (161 + ww))), (5, .int q5), (4, .int q4), (0, .ref w0), (1, .int (nI ww)), (2, .int (nI nn)), (3, .int (nI vv))] → W p l e rmX9_best s m [.ref w0, .int (nI ww), .int (nI nn), .int (nI vv)].toArray below meth c H locs 0 0 Q (F0 m 62 ls []) := by
          intro zz
          induction zz with
          | zero => intro m0 q4 q5 bk ak pq xv xn xb xh xe H locs ls hzz; exact absurd hzz (Nat.not_lt_zero _)
          | succ zz ihB_17 =>
            intro m0 q4 q5 bk ak pq xv xn xb xh xe H locs ls hzz hm hB hbk hP hD hS hl
            refine lv_iload hx hb dX9_best_62 (lv_at hl 0 rfl) ?_
            refine lv_iload_n hx hb dX9_best_64 rfl (lv_at hl 5 rfl) ?_
            refine ee_ki (wr := [(w0, ee_o 9 [.ref w1, .ref w2, .ref w3, .ref w4, .float pt, .float pq, .float p1, .float p2, .ref w5, .int tl, .int ta, .int fa, .ref w6, .ref w7, .int it, .ref w8, .ref w9, .int dp, .int xv, .int xn, .int xb, .int xh, .int xe, .long hh]), (w1, ee_i E 204 bk), (w2, ee_i E 204 ak)]) (ee_rS (As := [.int (nI ww)]) (rest := [.int (nI (st_lo ww + m0))]) (kX9_most l E ww (by omega)) hx hb hml hown hts 1 gX9_best_X9_most rfl rfl rfl (by decide +kernel) ⟨Nat.le_of_ble_eq_true rfl, Nat.le_of_ble_eq_true rfl⟩ hV hP hD hS hA [] rfl (by decide) hl rfl rfl (Nat.le_of_ble_eq_true rfl) dX9_best_65 ⟨Nat.le_of_ble_eq_true rfl, Nat.le_of_ble_eq_true rfl⟩) hP hD hS hA [] [0, 1, 2] rfl rfl (by decide) (by decide) (fun r_18 u_19 H locs hp_20 hP hD hS => ?_)
            subst hp_20
            have hP : va_P E.1 vwCl [(w0, ee_o 9 [.ref w1, .ref w2, .ref w3, .ref w4, .float pt, .float pq, .float p1, .float p2, .ref w5, .int tl, .int ta, .int fa, .ref w6, .ref w7, .int it, .ref w8, .ref w9, .int dp, .int xv, .int xn, .int xb, .int xh, .int xe, .long hh]), (w1, ee_i E 204 bk), (w2, ee_i E 204 ak)] H := hP
            have hD : va_D A [(w0, ee_o 9 [.ref w1, .ref w2, .ref w3, .ref w4, .float pt, .float pq, .float p1, .float p2, .ref w5, .int tl, .int ta, .int fa, .ref w6, .ref w7, .int it, .ref w8, .ref w9, .int dp, .int xv, .int xn, .int xb, .int xh, .int xe, .long hh]), (w1, ee_i E 204 bk), (w2, ee_i E 204 ak)] := hD
            refine ee_gt (tgt := 130) hx hb (by omega) (by omega) dX9_best_68 (by decide) (fun h_21 => ?_) (fun h_21 => ?_)
            · refine lv_aload_n hx hb dX9_best_130 rfl (lv_at hl 4 rfl) ?_
              refine va_get (ci := 9) (v := .ref w1) (C := RX9) (T := TX9) (N := 24) hx hb hts i9_X9_best hown hV.1 hP 0 rfl rfl 0 (by decide) (hts _ w1_X9_best) (fun _ h9 => h9) rfl dX9_best_131 ?_
              refine lv_sipush (v := nI 161) hx hb dX9_best_134 (by decide) ?_
              refine lv_iload_n hx hb dX9_best_137 rfl (lv_at hl 5 rfl) ?_
              refine ee_iadd hx hb dX9_best_138 ?_
              refine lv_iload hx hb dX9_best_139 (lv_at hl 1 rfl) ?_
              refine ee_ist hx hb hV hP hD hS 1 rfl (j := (161 + ww)) (by omega) (by decide) dX9_best_141 (fun H locs hP hD hS => ?_)
              have hP : va_P E.1 vwCl [(w0, ee_o 9 [.ref w1, .ref w2, .ref w3, .ref w4, .float pt, .float pq, .float p1, .float p2, .ref w5, .int tl, .int ta, .int fa, .ref w6, .ref w7, .int it, .ref w8, .ref w9, .int dp, .int xv, .int xn, .int xb, .int xh, .int xe, .long hh]), (w1, ee_i E 204 (upd bk (161 + ww) (ar (161 + ww)))), (w2, ee_i E 204 ak)] H := hP
              have hD : va_D A [(w0, ee_o 9 [.ref w1, .ref w2, .ref w3, .ref w4, .float pt, .float pq, .float p1, .float p2, .ref w5, .int tl, .int ta, .int fa, .ref w6, .ref w7, .int it, .ref w8, .ref w9, .int dp, .int xv, .int xn, .int xb, .int xh, .int xe, .long hh]), (w1, ee_i E 204 (upd bk (161 + ww) (ar (161 + ww)))), (w2, ee_i E 204 ak)] := hD
              refine lv_iload hx hb dX9_best_142 (lv_at hl 3 rfl) ?_
              have hq4 := best_e hB (by omega)
              subst hq4
              exact ee_fi hQ hx hb hr (rfl) hlocks hS (upd bk (161 + ww) (ar (161 + ww)), ak, pq, xv, xn, xb, xh, xe) (⟨by rw [beA, if_pos hx3, inB_t hc1, inB_t hc3, nv_nI (by omega), nv_nI (by omega)]; rfl, be_e hbk⟩) hP hD dX9_best_144
            · refine lv_aload_n hx hb dX9_best_71 rfl (lv_at hl 4 rfl) ?_
              refine va_get (ci := 9) (v := .ref w1) (C := RX9) (T := TX9) (N := 24) hx hb hts i9_X9_best hown hV.1 hP 0 rfl rfl 0 (by decide) (hts _ w1_X9_best) (fun _ h9 => h9) rfl dX9_best_72 ?_
              refine lv_sipush (v := nI 161) hx hb dX9_best_75 (by decide) ?_
              refine lv_iload_n hx hb dX9_best_78 rfl (lv_at hl 5 rfl) ?_
              refine ee_iadd hx hb dX9_best_79 ?_
              refine lv_iload hx hb dX9_best_80 (lv_at hl 0 rfl) ?_
              refine ee_ist hx hb hV hP hD hS 1 rfl (j := (161 + ww)) (by omega) (by decide) dX9_best_82 (fun H locs hP hD hS => ?_)
              have hP : va_P E.1 vwCl [(w0, ee_o 9 [.ref w1, .ref w2, .ref w3, .ref w4, .float pt, .float pq, .float p1, .float p2, .ref w5, .int tl, .int ta, .int fa, .ref w6, .ref w7, .int it, .ref w8, .ref w9, .int dp, .int xv, .int xn, .int xb, .int xh, .int xe, .long hh]), (w1, ee_i E 204 (upd bk (161 + ww) (nI (st_lo ww + m0)))), (w2, ee_i E 204 ak)] H := hP
              have hD : va_D A [(w0, ee_o 9 [.ref w1, .ref w2, .ref w3, .ref w4, .float pt, .float pq, .float p1, .float p2, .ref w5, .int tl, .int ta, .int fa, .ref w6, .ref w7, .int it, .ref w8, .ref w9, .int dp, .int xv, .int xn, .int xb, .int xh, .int xe, .long hh]), (w1, ee_i E 204 (upd bk (161 + ww) (nI (st_lo ww + m0)))), (w2, ee_i E 204 ak)] := hD
              refine lv_aload_n hx hb dX9_best_83 rfl (lv_at hl 4 rfl) ?_
              refine lv_iload_n hx hb dX9_best_84 rfl (lv_at hl 6 rfl) ?_
              refine lv_iload_n hx hb dX9_best_85 rfl (lv_at hl 7 rfl) ?_
              refine lv_iconst (v := nI 0) hx hb dX9_best_86 (by decide) ?_
              refine ee_ki (wr := []) (ee_rV (As := [.int (nI nn), .int (nI vv), .int (nI 0)]) (rest := []) (kX9_ahead l E w0 w1 w2 w3 w4 w5 w6 w7 w8 w9 pt pq p1 p2 tl ta fa it dp xv xn xb xh xe hh (upd bk (161 + ww) (nI (st_lo ww + m0))) ak (setS z ww (nI (st_lo ww + m0))) nn vv 0 (rM_set hR (by omega) (by omega) (by omega) hbk) (by omega) (by omega) (by omega)) hx hb hml hown hts 3 gX9_best_X9_ahead rfl rfl rfl (by decide +kernel) ⟨Nat.le_of_ble_eq_true rfl, Nat.le_of_ble_eq_true rfl⟩ hV hP hD hS hA [0, 1, 2] rfl (by decide) hl 0 rfl rfl rfl rfl (Nat.le_of_ble_eq_true rfl) dX9_best_87 ⟨Nat.le_of_ble_eq_true rfl, Nat.le_of_ble_eq_true rfl⟩) hP hD hS hA [0, 1, 2] [] rfl rfl (by decide) (by decide) (fun r_22 u_23 H locs hp_24 hP hD hS => ?_)
              obtain ⟨gk9, ak9, xv9, xn9, xb9, xh9, xe9⟩ := u_23
              try dsimp only at hp_24
              obtain ⟨rfl, hk3⟩ := hp_24
              have hP : va_P E.1 vwCl [(w0, ee_o 9 [.ref w1, .ref w2, .ref w3, .ref w4, .float pt, .float pt, .float p1, .float p2, .ref w5, .int tl, .int ta, .int fa, .ref w6, .ref w7, .int it, .ref w8, .ref w9, .int dp, .int xv9, .int xn9, .int xb9, .int xh9, .int xe9, .long hh]), (w1, ee_i E 204 gk9), (w2, ee_i E 204 ak9)] H := hP
              have hD : va_D A [(w0, ee_o 9 [.ref w1, .ref w2, .ref w3, .ref w4, .float pt, .float pt, .float p1, .float p2, .ref w5, .int tl, .int ta, .int fa, .ref w6, .ref w7, .int it, .ref w8, .ref w9, .int dp, .int xv9, .int xn9, .int xb9, .int xh9, .int xe9, .long hh]), (w1, ee_i E 204 gk9), (w2, ee_i E 204 ak9)] := hD
              refine ee_to (z := gdS z ww (st_lo ww + m0) nn (nI vv)) (rfl) ?_
              refine lv_istore (lv' := [(8, .int (gdS z ww (st_lo ww + m0) nn (nI vv))), (7, .int (nI (st_lo ww + m0))), (6, .int (ar (161 + ww))), (5, .int q5), (4, .int q4), (0, .ref w0), (1, .int (nI ww)), (2, .int (nI nn)), (3, .int (nI vv))]) hx hb dX9_best_90 hl (by decide) rfl (fun ls hl => ?_)
              refine lv_iload hx hb dX9_best_92 (lv_at hl 0 rfl) ?_
              refine lv_iload hx hb dX9_best_94 (lv_at hl 3 rfl) ?_
              refine lv_icmp_le (tgt := 104) hx hb dX9_best_96 (by decide) (fun g96 => ?_) (fun g96 => ?_)
              · refine lv_iload hx hb dX9_best_104 (lv_at hl 4 rfl) ?_
                refine lv_istore (lv' := [(4, .int q4), (8, .int (gdS z ww (st_lo ww + m0) nn (nI vv))), (7, .int (nI (st_lo ww + m0))), (6, .int (ar (161 + ww))), (5, .int q5), (0, .ref w0), (1, .int (nI ww)), (2, .int (nI nn)), (3, .int (nI vv))]) hx hb dX9_best_106 hl (by decide) rfl (fun ls hl => ?_)
                refine lv_iload hx hb dX9_best_108 (lv_at hl 1 rfl) ?_
                refine lv_iload hx hb dX9_best_110 (lv_at hl 4 rfl) ?_
                refine lv_icmp_le (tgt := 120) hx hb dX9_best_112 (by decide) (fun h_26 => ?_) (fun h_26 => absurd g96 h_26)
                refine lv_iload hx hb dX9_best_120 (lv_at hl 4 rfl) ?_
                refine lv_istore (lv' := [(5, .int q5), (4, .int q4), (8, .int (gdS z ww (st_lo ww + m0) nn (nI vv))), (7, .int (nI (st_lo ww + m0))), (6, .int (ar (161 + ww))), (0, .ref w0), (1, .int (nI ww)), (2, .int (nI nn)), (3, .int (nI vv))]) hx hb dX9_best_122 hl (by decide) rfl (fun ls hl => ?_)
                refine lv_iinc (v := nI (st_lo ww + m0 + 1)) (lv' := [(7, .int (nI (st_lo ww + m0 + 1))), (5, .int q5), (4, .int q4), (8, .int (gdS z ww (st_lo ww + m0) nn (nI vv))), (6, .int (ar (161 + ww))), (0, .ref w0), (1, .int (nI ww)), (2, .int (nI nn)), (3, .int (nI vv))]) hx hb dX9_best_124 hl (k := 3) rfl (ee_inc _) (by decide) rfl (fun ls hl => ?_)
                refine lv_goto (tgt := 62) hx hb dX9_best_127 (by decide) ?_
                exact ihB_17 (m0 + 1) q4 q5 gk9 ak9 pt xv9 xn9 xb9 xh9 xe9 _ _ _ (by omega) (by omega) (best_s (by omega) hB (Or.inr ⟨Int32.not_lt.mpr g96, rfl, rfl⟩)) (be_k hbk hk3) hP hD hS (lv_sub hl [0, 4, 1, 2, 5, 6, 7, 8] rfl)
              · refine lv_iload hx hb dX9_best_99 (lv_at hl 1 rfl) ?_
                refine lv_goto (tgt := 106) hx hb dX9_best_101 (by decide) ?_
                refine lv_istore (lv' := [(4, .int (nI (st_lo ww + m0))), (8, .int (gdS z ww (st_lo ww + m0) nn (nI vv))), (7, .int (nI (st_lo ww + m0))), (6, .int (ar (161 + ww))), (5, .int q5), (0, .ref w0), (1, .int (nI ww)), (2, .int (nI nn)), (3, .int (nI vv))]) hx hb dX9_best_106 hl (by decide) rfl (fun ls hl => ?_)
                refine lv_iload hx hb dX9_best_108 (lv_at hl 1 rfl) ?_
                refine lv_iload hx hb dX9_best_110 (lv_at hl 4 rfl) ?_
                refine lv_icmp_le (tgt := 120) hx hb dX9_best_112 (by decide) (fun h_27 => absurd h_27 g96) (fun h_27 => ?_)
                refine lv_iload hx hb dX9_best_115 (lv_at hl 1 rfl) ?_
                refine lv_goto (tgt := 122) hx hb dX9_best_117 (by decide) ?_
                refine lv_istore (lv' := [(5, .int (gdS z ww (st_lo ww + m0) nn (nI vv))), (4, .int (nI (st_lo ww + m0))), (8, .int (gdS z ww (st_lo ww + m0) nn (nI vv))), (7, .int (nI (st_lo ww + m0))), (6, .int (ar (161 + ww))), (0, .ref w0), (1, .int (nI ww)), (2, .int (nI nn)), (3, .int (nI vv))]) hx hb dX9_best_122 hl (by decide) rfl (fun ls hl => ?_)
                refine lv_iinc (v := nI (st_lo ww + m0 + 1)) (lv' := [(7, .int (nI (st_lo ww + m0 + 1))), (5, .int (gdS z ww (st_lo ww + m0) nn (nI vv))), (4, .int (nI (st_lo ww + m0))), (8, .int (gdS z ww (st_lo ww + m0) nn (nI vv))), (6, .int (ar (161 + ww))), (0, .ref w0), (1, .int (nI ww)), (2, .int (nI nn)), (3, .int (nI vv))]) hx hb dX9_best_124 hl (k := 3) rfl (ee_inc _) (by decide) rfl (fun ls hl => ?_)
                refine lv_goto (tgt := 62) hx hb dX9_best_127 (by decide) ?_
                exact ihB_17 (m0 + 1) (nI (st_lo ww + m0)) (gdS z ww (st_lo ww + m0) nn (nI vv)) gk9 ak9 pt xv9 xn9 xb9 xh9 xe9 _ _ _ (by omega) (by omega) (best_s (by omega) hB (Or.inl ⟨Int32.not_le.mp g96, rfl, rfl⟩)) (be_k hbk hk3) hP hD hS (lv_sub hl [0, 4, 1, 2, 5, 6, 7, 8] rfl)
        exact B_17 ((st_hi ww + 1 - (st_lo ww + 0)) + 1) 0 (-1) (-1) ar aa pa tv tn tb th te _ _ _ (Nat.lt_succ_self _) (by omega) (Or.inl ⟨rfl, rfl, rfl⟩) (fun _ _ _ => rfl) hP hD hS (lv_sub hl [0, 1, 2, 3, 4, 5, 6, 7] rfl)
      · refine ee_ne0 (tgt := 38) hx hb (by omega) dX9_best_32 (by decide) (fun h_28 => absurd h_28 (by decide)) (fun h_28 => ?_)
        refine lv_bipush (v := (-2)) hx hb dX9_best_35 (by decide) ?_
        exact ee_fi hQ hx hb hr (rfl) hlocks hS (ar, aa, pa, tv, tn, tb, th, te) (⟨by rw [beA, if_pos hx3, inB_t hc1, inB_f hc4]; rfl, fun _ _ => rfl⟩) hP hD dX9_best_37
    · refine ee_eq0 (tgt := 35) hx hb (by omega) dX9_best_21 (by decide) (fun h_29 => ?_) (fun h_29 => absurd h_29 (by decide))
      refine lv_bipush (v := (-2)) hx hb dX9_best_35 (by decide) ?_
      exact ee_fi hQ hx hb hr (rfl) hlocks hS (ar, aa, pa, tv, tn, tb, th, te) (⟨by rw [beA, if_pos hx3, inB_f hc2]; rfl, fun _ _ => rfl⟩) hP hD dX9_best_37
  refine lv_iload_n hx hb dX9_best_0 rfl (lv_at hl 1 rfl) ?_
  refine ee_z_eq (tgt := 14) hx hb dX9_best_1 (by decide) (fun g1 => ?_) (fun g1 => ?_)
  · exact B_1  _ _ _ (Or.inl g1) hP hD hS (lv_sub hl [0, 1, 2, 3] rfl)
  · refine lv_iload_n hx hb dX9_best_4 rfl (lv_at hl 1 rfl) ?_
    refine lv_iconst (v := nI 1) hx hb dX9_best_5 (by decide) ?_
    refine lv_icmp_eq (tgt := 14) hx hb dX9_best_6 (by decide) (fun g6 => ?_) (fun g6 => ?_)
    · exact B_1  _ _ _ (Or.inr (Or.inl g6)) hP hD hS (lv_sub hl [0, 1, 2, 3] rfl)
    · refine lv_iload_n hx hb dX9_best_9 rfl (lv_at hl 1 rfl) ?_
      refine lv_iconst (v := nI 5) hx hb dX9_best_10 (by decide) ?_
      refine lv_icmp_ne (tgt := 35) hx hb dX9_best_11 (by decide) (fun g11 => ?_) (fun g11 => ?_)
      · refine lv_bipush (v := (-2)) hx hb dX9_best_35 (by decide) ?_
        exact ee_fi hQ hx hb hr (rfl) hlocks hS (ar, aa, pa, tv, tn, tb, th, te) (⟨by rw [beA, if_neg (fun q => q.elim g1 (fun q => q.elim g6 g11))], fun _ _ => rfl⟩) hP hD dX9_best_37
      · exact B_1  _ _ _ (Or.inr (Or.inr g11)) hP hD hS (lv_sub hl [0, 1, 2, 3] rfl)
abbrev rmX9_type : Room := ({ frames := 1, cells := 0, slots := 0, locals := 22 } : Room)
theorem w1_X9_type : Cond.fieldLink RX9 47 "LabelApplicatorModel" "textLength" "I" ∈ wsX9_type := List.mem_of_getElem? (i := 1) (by decide +kernel)
theorem w2_X9_type : Cond.fieldLink RX9 28 "LabelApplicatorModel" "text" "[I" ∈ wsX9_type := List.mem_of_getElem? (i := 2) (by decide +kernel)
theorem w3_X9_type : Cond.methodLink RX9 43 yX9_in ∈ wsX9_type := List.mem_of_getElem? (i := 3) (by decide +kernel)
theorem w5_X9_type : Cond.initialized RX9 ∈ wsX9_type := List.mem_of_getElem? (i := 5) (by decide +kernel)
theorem i9_X9_type : ∀ w ∈ wsX90, w ∈ wsX9_type := fun w h => (goodIn_r _ [7, 8, 9, 10, 11, 12, 13, 14, 15, 16, 17, 18, 19, 20, 21, 22, 23, 24, 25, 26, 27, 28, 29, 30] (by decide +kernel) (by decide +kernel) w h).1
set_option maxHeartbeats 4000000 in
set_option maxRecDepth 100000 in
theorem kX9_type (l : Launch) (E : ee_T) (w0 w1 w2 w3 w4 w5 w6 w7 w8 w9 : Nat) (pt pa p1 p2 : UInt32) (ta fa it dp tv tn tb th te : Int32) (hh : Int64) (tx : Nat → Int32) (tq : Nat) (x : Int32) (htq : tq ≤ 80) : CQ l E yX9_type wsX9_type rmX9_type [.ref w0, .int x] [(w0, ee_o 9 [.ref w1, .ref w2, .ref w3, .ref w4, .float pt, .float pa, .float p1, .float p2, .ref w5, .int (nI tq), .int ta, .int fa, .ref w6, .ref w7, .int it, .ref w8, .ref w9, .int dp, .int tv, .int tn, .int tb, .int th, .int te, .long hh]), (w5, ee_i E 80 tx)] (QI E (fun (r : Int32) (u : Nat × (Nat → Int32)) => r = (tyA tq tx x).1 ∧ (u.1, u.2) = (tyA tq tx x).2) (fun (u : Nat × (Nat → Int32)) => [(w0, ee_o 9 [.ref w1, .ref w2, .ref w3, .ref w4, .float pt, .float pa, .float p1, .float p2, .ref w5, .int (nI u.1), .int ta, .int fa, .ref w6, .ref w7, .int it, .ref w8, .ref w9, .int dp, .int tv, .int tn, .int tb, .int th, .int te, .long hh]), (w5, ee_i E 80 u.2)])) 0 0 := by
  refine CQ_ofW (cc := cX9_type) (maxL := 2) (ret := (some .int)) (by decide) rfl (Nat.le_of_ble_eq_true rfl) ?_
  intro p e s m below meth c A Q hQ hx hb hr hml hown hlocks hnm hts hV hA hP hD hS ls hl
  have hl : lv_has ls 2 [(0, .ref w0), (1, .int x)] := hl
  refine lv_iload_n hx hb dX9_type_0 rfl (lv_at hl 1 rfl) ?_
  refine lv_iconst (v := nI 0) hx hb dX9_type_1 (by decide) ?_
  refine lv_bipush (v := nI 127) hx hb dX9_type_2 (by decide) ?_
  refine ee_ki (wr := [(w0, ee_o 9 [.ref w1, .ref w2, .ref w3, .ref w4, .float pt, .float pa, .float p1, .float p2, .ref w5, .int (nI tq), .int ta, .int fa, .ref w6, .ref w7, .int it, .ref w8, .ref w9, .int dp, .int tv, .int tn, .int tb, .int th, .int te, .long hh]), (w5, ee_i E 80 tx)]) (ee_rS (As := [.int x, .int (nI 0), .int (nI 127)]) (rest := []) (kX9_in l E x (nI 0) (nI 127)) hx hb hml hown hts 3 gX9_type_X9_in rfl rfl rfl (by decide +kernel) ⟨Nat.le_of_ble_eq_true rfl, Nat.le_of_ble_eq_true rfl⟩ hV hP hD hS hA [] rfl (by decide) hl rfl rfl (Nat.le_of_ble_eq_true rfl) dX9_type_4 ⟨Nat.le_of_ble_eq_true rfl, Nat.le_of_ble_eq_true rfl⟩) hP hD hS hA [] [0, 1] rfl rfl (by decide) (by decide) (fun r_1 u_2 H locs hp_3 hP hD hS => ?_)
  have hP : va_P E.1 vwCl [(w0, ee_o 9 [.ref w1, .ref w2, .ref w3, .ref w4, .float pt, .float pa, .float p1, .float p2, .ref w5, .int (nI tq), .int ta, .int fa, .ref w6, .ref w7, .int it, .ref w8, .ref w9, .int dp, .int tv, .int tn, .int tb, .int th, .int te, .long hh]), (w5, ee_i E 80 tx)] H := hP
  have hD : va_D A [(w0, ee_o 9 [.ref w1, .ref w2, .ref w3, .ref w4, .float pt, .float pa, .float p1, .float p2, .ref w5, .int (nI tq), .int ta, .int fa, .ref w6, .ref w7, .int it, .ref w8, .ref w9, .int dp, .int tv, .int tn, .int tb, .int th, .int te, .long hh]), (w5, ee_i E 80 tx)] := hD
  rcases hp_3 with ⟨rfl, hc1⟩ | ⟨rfl, hc2⟩
  · refine ee_ne0 (tgt := 13) hx hb (by omega) dX9_type_7 (by decide) (fun h_6 => ?_) (fun h_6 => absurd h_6 (by decide))
    refine lv_aload_n hx hb dX9_type_13 rfl (lv_at hl 0 rfl) ?_
    refine va_get (ci := 9) (v := .int (nI tq)) (C := RX9) (T := TX9) (N := 24) hx hb hts i9_X9_type hown hV.1 hP 0 rfl rfl 9 (by decide) (hts _ w1_X9_type) (fun _ h9 => h9) rfl dX9_type_14 ?_
    refine lv_bipush (v := nI 80) hx hb dX9_type_17 (by decide) ?_
    refine ee_ne (tgt := 25) hx hb (by omega) (by omega) dX9_type_19 (by decide) (fun g19 => ?_) (fun g19 => ?_)
    · refine lv_aload_n hx hb dX9_type_25 rfl (lv_at hl 0 rfl) ?_
      refine va_get (ci := 9) (v := .ref w5) (C := RX9) (T := TX9) (N := 24) hx hb hts i9_X9_type hown hV.1 hP 0 rfl rfl 8 (by decide) (hts _ w2_X9_type) (fun _ h9 => h9) rfl dX9_type_26 ?_
      refine lv_aload_n hx hb dX9_type_29 rfl (lv_at hl 0 rfl) ?_
      refine va_get (ci := 9) (v := .int (nI tq)) (C := RX9) (T := TX9) (N := 24) hx hb hts i9_X9_type hown hV.1 hP 0 rfl rfl 9 (by decide) (hts _ w1_X9_type) (fun _ h9 => h9) rfl dX9_type_30 ?_
      refine lv_iload_n hx hb dX9_type_33 rfl (lv_at hl 1 rfl) ?_
      refine ee_ist hx hb hV hP hD hS 1 rfl (j := tq) (by omega) (by decide) dX9_type_34 (fun H locs hP hD hS => ?_)
      have hP : va_P E.1 vwCl [(w0, ee_o 9 [.ref w1, .ref w2, .ref w3, .ref w4, .float pt, .float pa, .float p1, .float p2, .ref w5, .int (nI tq), .int ta, .int fa, .ref w6, .ref w7, .int it, .ref w8, .ref w9, .int dp, .int tv, .int tn, .int tb, .int th, .int te, .long hh]), (w5, ee_i E 80 (upd tx tq x))] H := hP
      have hD : va_D A [(w0, ee_o 9 [.ref w1, .ref w2, .ref w3, .ref w4, .float pt, .float pa, .float p1, .float p2, .ref w5, .int (nI tq), .int ta, .int fa, .ref w6, .ref w7, .int it, .ref w8, .ref w9, .int dp, .int tv, .int tn, .int tb, .int th, .int te, .long hh]), (w5, ee_i E 80 (upd tx tq x))] := hD
      refine lv_aload_n hx hb dX9_type_35 rfl (lv_at hl 0 rfl) ?_
      refine lv_dup hx hb dX9_type_36 rfl ?_
      refine va_get (ci := 9) (v := .int (nI tq)) (C := RX9) (T := TX9) (N := 24) hx hb hts i9_X9_type hown hV.1 hP 0 rfl rfl 9 (by decide) (hts _ w1_X9_type) (fun _ h9 => h9) rfl dX9_type_37 ?_
      refine lv_iconst (v := nI 1) hx hb dX9_type_40 (by decide) ?_
      refine ee_iadd hx hb dX9_type_41 ?_
      refine va_put (ci := 9) (v := .int (nI (tq + 1))) (ty := .int) (C := RX9) (T := TX9) (N := 24) hx hb hts i9_X9_type tyX9 tyX9_ok nmX9 hown hV.1 hP hD hS 0 rfl rfl 9 (by decide) (hts _ w1_X9_type) (fun _ h9 => h9) rfl (by decide +kernel) rfl rfl (Nat.le_of_ble_eq_true rfl) dX9_type_42 (fun H locs hP hD hS => ?_)
      have hP : va_P E.1 vwCl [(w0, ee_o 9 [.ref w1, .ref w2, .ref w3, .ref w4, .float pt, .float pa, .float p1, .float p2, .ref w5, .int (nI (tq + 1)), .int ta, .int fa, .ref w6, .ref w7, .int it, .ref w8, .ref w9, .int dp, .int tv, .int tn, .int tb, .int th, .int te, .long hh]), (w5, ee_i E 80 (upd tx tq x))] H := hP
      have hD : va_D A [(w0, ee_o 9 [.ref w1, .ref w2, .ref w3, .ref w4, .float pt, .float pa, .float p1, .float p2, .ref w5, .int (nI (tq + 1)), .int ta, .int fa, .ref w6, .ref w7, .int it, .ref w8, .ref w9, .int dp, .int tv, .int tn, .int tb, .int th, .int te, .long hh]), (w5, ee_i E 80 (upd tx tq x))] := hD
      refine lv_aload_n hx hb dX9_type_45 rfl (lv_at hl 0 rfl) ?_
      refine va_get (ci := 9) (v := .int (nI (tq + 1))) (C := RX9) (T := TX9) (N := 24) hx hb hts i9_X9_type hown hV.1 hP 0 rfl rfl 9 (by decide) (hts _ w1_X9_type) (fun _ h9 => h9) rfl dX9_type_46 ?_
      exact ee_fi hQ hx hb hr (rfl) hlocks hS (tq + 1, upd tx tq x) (by rw [tyA, inB_t hc1, if_pos rfl, if_neg g19]; exact ⟨rfl, rfl⟩) hP hD dX9_type_49
    · refine lv_bipush (v := (-4)) hx hb dX9_type_22 (by decide) ?_
      exact ee_fi hQ hx hb hr (rfl) hlocks hS (tq, tx) (by rw [tyA, inB_t hc1, if_pos rfl, if_pos g19]; exact ⟨rfl, rfl⟩) hP hD dX9_type_24
  · refine ee_ne0 (tgt := 13) hx hb (by omega) dX9_type_7 (by decide) (fun h_7 => absurd h_7 (by decide)) (fun h_7 => ?_)
    refine lv_bipush (v := (-2)) hx hb dX9_type_10 (by decide) ?_
    exact ee_fi hQ hx hb hr (rfl) hlocks hS (tq, tx) (by rw [tyA, inB_f hc2]; exact ⟨rfl, rfl⟩) hP hD dX9_type_12
abbrev rmX9_clear : Room := ({ frames := 0, cells := 0, slots := 0, locals := 0 } : Room)
theorem w1_X9_clear : Cond.fieldLink RX9 47 "LabelApplicatorModel" "textLength" "I" ∈ wsX9_clear := List.mem_of_getElem? (i := 1) (by decide +kernel)
theorem i9_X9_clear : ∀ w ∈ wsX90, w ∈ wsX9_clear := fun w h => (goodIn_r _ [2, 3, 4, 5, 6, 7, 8, 9, 10, 11, 12, 13, 14, 15, 16, 17, 18, 19, 20, 21, 22, 23, 24, 25] (by decide +kernel) (by decide +kernel) w h).1
set_option maxHeartbeats 4000000 in
set_option maxRecDepth 100000 in
theorem kX9_clear (l : Launch) (E : ee_T) (w0 w1 w2 w3 w4 w5 w6 w7 w8 w9 : Nat) (pt pa p1 p2 : UInt32) (ta fa it dp tv tn tb th te : Int32) (hh : Int64) (tq : Nat)  : CQ l E yX9_clear wsX9_clear rmX9_clear [.ref w0] [(w0, ee_o 9 [.ref w1, .ref w2, .ref w3, .ref w4, .float pt, .float pa, .float p1, .float p2, .ref w5, .int (nI tq), .int ta, .int fa, .ref w6, .ref w7, .int it, .ref w8, .ref w9, .int dp, .int tv, .int tn, .int tb, .int th, .int te, .long hh])] (QI E (fun (r : Int32) (u : Unit) => r = nI tq) (fun (u : Unit) => [(w0, ee_o 9 [.ref w1, .ref w2, .ref w3, .ref w4, .float pt, .float pa, .float p1, .float p2, .ref w5, .int (nI 0), .int ta, .int fa, .ref w6, .ref w7, .int it, .ref w8, .ref w9, .int dp, .int tv, .int tn, .int tb, .int th, .int te, .long hh])])) 0 0 := by
  refine CQ_ofW (cc := cX9_clear) (maxL := 2) (ret := (some .int)) (by decide) rfl (Nat.le_of_ble_eq_true rfl) ?_
  intro p e s m below meth c A Q hQ hx hb hr hml hown hlocks hnm hts hV hA hP hD hS ls hl
  have hl : lv_has ls 2 [(0, .ref w0)] := hl
  refine lv_aload_n hx hb dX9_clear_0 rfl (lv_at hl 0 rfl) ?_
  refine va_get (ci := 9) (v := .int (nI tq)) (C := RX9) (T := TX9) (N := 24) hx hb hts i9_X9_clear hown hV.1 hP 0 rfl rfl 9 (by decide) (hts _ w1_X9_clear) (fun _ h9 => h9) rfl dX9_clear_1 ?_
  refine lv_istore_n (lv' := [(1, .int (nI tq)), (0, .ref w0)]) hx hb dX9_clear_4 rfl hl (by decide) rfl (fun ls hl => ?_)
  refine lv_aload_n hx hb dX9_clear_5 rfl (lv_at hl 1 rfl) ?_
  refine lv_iconst (v := nI 0) hx hb dX9_clear_6 (by decide) ?_
  refine va_put (ci := 9) (v := .int (nI 0)) (ty := .int) (C := RX9) (T := TX9) (N := 24) hx hb hts i9_X9_clear tyX9 tyX9_ok nmX9 hown hV.1 hP hD hS 0 rfl rfl 9 (by decide) (hts _ w1_X9_clear) (fun _ h9 => h9) rfl (by decide +kernel) rfl rfl (Nat.le_of_ble_eq_true rfl) dX9_clear_7 (fun H locs hP hD hS => ?_)
  have hP : va_P E.1 vwCl [(w0, ee_o 9 [.ref w1, .ref w2, .ref w3, .ref w4, .float pt, .float pa, .float p1, .float p2, .ref w5, .int (nI 0), .int ta, .int fa, .ref w6, .ref w7, .int it, .ref w8, .ref w9, .int dp, .int tv, .int tn, .int tb, .int th, .int te, .long hh])] H := hP
  have hD : va_D A [(w0, ee_o 9 [.ref w1, .ref w2, .ref w3, .ref w4, .float pt, .float pa, .float p1, .float p2, .ref w5, .int (nI 0), .int ta, .int fa, .ref w6, .ref w7, .int it, .ref w8, .ref w9, .int dp, .int tv, .int tn, .int tb, .int th, .int te, .long hh])] := hD
  refine lv_iload_n hx hb dX9_clear_10 rfl (lv_at hl 0 rfl) ?_
  exact ee_fi hQ hx hb hr (rfl) hlocks hS () (rfl) hP hD dX9_clear_11
abbrev rmX9_mixes : Room := ({ frames := 0, cells := 0, slots := 0, locals := 0 } : Room)
theorem w1_X9_mixes : Cond.constantLong RX9 180 (31) ∈ wsX9_mixes := List.mem_of_getElem? (i := 1) (by decide +kernel)
theorem w2_X9_mixes : Cond.fieldLink RX9 182 "LabelApplicatorModel" "hash" "J" ∈ wsX9_mixes := List.mem_of_getElem? (i := 2) (by decide +kernel)
theorem i9_X9_mixes : ∀ w ∈ wsX90, w ∈ wsX9_mixes := fun w h => (goodIn_r _ [3, 4, 5, 6, 7, 8, 9, 10, 11, 12, 13, 14, 15, 16, 17, 18, 19, 20, 21, 22, 23, 24, 25, 26] (by decide +kernel) (by decide +kernel) w h).1
set_option maxHeartbeats 4000000 in
set_option maxRecDepth 100000 in
theorem kX9_mixes (l : Launch) (E : ee_T) (w0 w1 w2 w3 w4 w5 w6 w7 w8 w9 : Nat) (pt pa p1 p2 : UInt32) (tl ta fa it dp tv tn tb th te : Int32) (hh : Int64) (x : Int64)  : CQ l E yX9_mixes wsX9_mixes rmX9_mixes [.ref w0, .long x] [(w0, ee_o 9 [.ref w1, .ref w2, .ref w3, .ref w4, .float pt, .float pa, .float p1, .float p2, .ref w5, .int tl, .int ta, .int fa, .ref w6, .ref w7, .int it, .ref w8, .ref w9, .int dp, .int tv, .int tn, .int tb, .int th, .int te, .long hh])] (QV E (fun (u : Unit) => True) (fun (u : Unit) => [(w0, ee_o 9 [.ref w1, .ref w2, .ref w3, .ref w4, .float pt, .float pa, .float p1, .float p2, .ref w5, .int tl, .int ta, .int fa, .ref w6, .ref w7, .int it, .ref w8, .ref w9, .int dp, .int tv, .int tn, .int tb, .int th, .int te, .long (31 * hh + x)])])) 0 0 := by
  refine CQ_ofW (cc := cX9_mixes) (maxL := 3) (ret := none) (by decide) rfl (Nat.le_of_ble_eq_true rfl) ?_
  intro p e s m below meth c A Q hQ hx hb hr hml hown hlocks hnm hts hV hA hP hD hS ls hl
  have hl : lv_has ls 3 [(0, .ref w0), (1, .long x)] := hl
  refine lv_aload_n hx hb dX9_mixes_0 rfl (lv_at hl 0 rfl) ?_
  refine lv_ldc2 hx hb hown (hts _ w1_X9_mixes) dX9_mixes_1 ?_
  refine lv_aload_n hx hb dX9_mixes_4 rfl (lv_at hl 0 rfl) ?_
  refine va_get (ci := 9) (v := .long hh) (C := RX9) (T := TX9) (N := 24) hx hb hts i9_X9_mixes hown hV.1 hP 0 rfl rfl 23 (by decide) (hts _ w2_X9_mixes) (fun _ h9 => h9) rfl dX9_mixes_5 ?_
  refine lv_lmul hx hb dX9_mixes_8 ?_
  refine lv_lload_n hx hb dX9_mixes_9 rfl (lv_at hl 1 rfl) ?_
  refine lv_ladd hx hb dX9_mixes_10 ?_
  refine va_put (ci := 9) (v := .long (((31 : Int64) * hh) + x)) (ty := .long) (C := RX9) (T := TX9) (N := 24) hx hb hts i9_X9_mixes tyX9 tyX9_ok nmX9 hown hV.1 hP hD hS 0 rfl rfl 23 (by decide) (hts _ w2_X9_mixes) (fun _ h9 => h9) rfl (by decide +kernel) rfl rfl (Nat.le_of_ble_eq_true rfl) dX9_mixes_11 (fun H locs hP hD hS => ?_)
  have hP : va_P E.1 vwCl [(w0, ee_o 9 [.ref w1, .ref w2, .ref w3, .ref w4, .float pt, .float pa, .float p1, .float p2, .ref w5, .int tl, .int ta, .int fa, .ref w6, .ref w7, .int it, .ref w8, .ref w9, .int dp, .int tv, .int tn, .int tb, .int th, .int te, .long (((31 : Int64) * hh) + x)])] H := hP
  have hD : va_D A [(w0, ee_o 9 [.ref w1, .ref w2, .ref w3, .ref w4, .float pt, .float pa, .float p1, .float p2, .ref w5, .int tl, .int ta, .int fa, .ref w6, .ref w7, .int it, .ref w8, .ref w9, .int dp, .int tv, .int tn, .int tb, .int th, .int te, .long (((31 : Int64) * hh) + x)])] := hD
  exact ee_fv hQ hx hb hr hlocks hS () (trivial) hP hD dX9_mixes_14
