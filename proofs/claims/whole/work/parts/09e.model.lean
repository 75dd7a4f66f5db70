/-! the model: the small calls -/
abbrev rmJxf58ca_isNaN_12338 : Room := ({ frames := 0, cells := 0, slots := 0, locals := 0 } : Room)
set_option maxHeartbeats 4000000 in
set_option maxRecDepth 100000 in
theorem kJxf58ca_isNaN_12338 (l : Launch) (E : ee_T) (x : UInt32) (hx0 : Op.cmpValue (FP.fcmp x x) CmpOp.l = 0) : CQ l E yJxf58ca_isNaN_12338 wsJxf58ca_isNaN_12338 rmJxf58ca_isNaN_12338 [.float x] [] (QI E (fun (r : Int32) (u : Unit) => r = nI 0) (fun (u : Unit) => [])) 0 0 := by
  refine CQ_ofWF (cc := cJxf58ca_isNaN_12338) (maxL := 1) (ret := (some .boolean)) (by decide +kernel) rfl (Nat.le_of_ble_eq_true rfl) ?_
  intro p e s m below meth c A Q hQ hx hb hr hml hown hlocks hnm hts hV hA hP hD hS ls hl
  have hl : lv_has ls 1 [(0, .float x)] := hl
  refine lv_fload_n hx hb dJxf58ca_isNaN_12338_0 rfl (lv_at hl 0 rfl) ?_
  refine lv_fload_n hx hb dJxf58ca_isNaN_12338_1 rfl (lv_at hl 0 rfl) ?_
  refine lv_fcmp hx hb dJxf58ca_isNaN_12338_2 ?_
  refine ee_to (z := nI 0) (hx0) ?_
  refine ee_eq0 (tgt := 10) hx hb (by omega) dJxf58ca_isNaN_12338_3 (by decide) (fun h_1 => ?_) (fun h_1 => absurd h_1 (by decide))
  refine lv_iconst (v := nI 0) hx hb dJxf58ca_isNaN_12338_10 (by decide) ?_
  exact ee_fi hQ hx hb hr (by decide) hlocks hS () (rfl) hP hD dJxf58ca_isNaN_12338_11
abbrev rmJxf58ca_floatToIntBits_5c35a : Room := ({ frames := 1, cells := 0, slots := 0, locals := 21 } : Room)
theorem w1_Jxf58ca_floatToIntBits_5c35a : Cond.methodLink RJxf58ca 74 ⟨"java/lang/Float", "floatToRawIntBits", "(F)I"⟩ ∈ wsJxf58ca_floatToIntBits_5c35a := List.mem_of_getElem? (i := 1) (by decide +kernel)
theorem w2_Jxf58ca_floatToIntBits_5c35a : Cond.native ⟨"java/lang/Float", "floatToRawIntBits", "(F)I"⟩ ∈ wsJxf58ca_floatToIntBits_5c35a := List.mem_of_getElem? (i := 2) (by decide +kernel)
theorem w3_Jxf58ca_floatToIntBits_5c35a : Cond.static ⟨"java/lang/Float", "floatToRawIntBits", "(F)I"⟩ ∈ wsJxf58ca_floatToIntBits_5c35a := List.mem_of_getElem? (i := 3) (by decide +kernel)
theorem w4_Jxf58ca_floatToIntBits_5c35a : Cond.initialized "java/lang/Float" ∈ wsJxf58ca_floatToIntBits_5c35a := List.mem_of_getElem? (i := 4) (by decide +kernel)
theorem w5_Jxf58ca_floatToIntBits_5c35a : Cond.constant RJxf58ca 77 (2143289344) ∈ wsJxf58ca_floatToIntBits_5c35a := List.mem_of_getElem? (i := 5) (by decide +kernel)
theorem w6_Jxf58ca_floatToIntBits_5c35a : Cond.methodLink RJxf58ca 59 yJxf58ca_isNaN_12338 ∈ wsJxf58ca_floatToIntBits_5c35a := List.mem_of_getElem? (i := 6) (by decide +kernel)
theorem w8_Jxf58ca_floatToIntBits_5c35a : Cond.initialized RJxf58ca ∈ wsJxf58ca_floatToIntBits_5c35a := List.mem_of_getElem? (i := 8) (by decide +kernel)
set_option maxHeartbeats 4000000 in
set_option maxRecDepth 100000 in
theorem kJxf58ca_floatToIntBits_5c35a (l : Launch) (E : ee_T) (x : UInt32) (hx0 : Op.cmpValue (FP.fcmp x x) CmpOp.l = 0) : CQ l E yJxf58ca_floatToIntBits_5c35a wsJxf58ca_floatToIntBits_5c35a rmJxf58ca_floatToIntBits_5c35a [.float x] [] (QI E (fun (r : Int32) (u : Unit) => r = UInt32.toInt32 x) (fun (u : Unit) => [])) 0 0 := by
  refine CQ_ofWF (cc := cJxf58ca_floatToIntBits_5c35a) (maxL := 1) (ret := (some .int)) (by decide +kernel) rfl (Nat.le_of_ble_eq_true rfl) ?_
  intro p e s m below meth c A Q hQ hx hb hr hml hown hlocks hnm hts hV hA hP hD hS ls hl
  have hl : lv_has ls 1 [(0, .float x)] := hl
  refine lv_fload_n hx hb dJxf58ca_floatToIntBits_5c35a_0 rfl (lv_at hl 0 rfl) ?_
  refine ee_ki (wr := []) (ee_rS (As := [.float x]) (rest := []) (kJxf58ca_isNaN_12338 l E x hx0) hx hb hml hown hts 1 gJxf58ca_floatToIntBits_5c35a_Jxf58ca_isNaN_12338 rfl rfl rfl (by decide +kernel) ⟨Nat.le_of_ble_eq_true rfl, Nat.le_of_ble_eq_true rfl⟩ hV hP hD hS hA [] rfl (by decide) hl rfl rfl (Nat.le_of_ble_eq_true rfl) dJxf58ca_floatToIntBits_5c35a_1 ⟨Nat.le_of_ble_eq_true rfl, Nat.le_of_ble_eq_true rfl⟩) hP hD hS hA [] [] rfl rfl (by decide) (by decide) (fun r_1 u_2 H locs hp_3 hP hD hS => ?_)
  subst hp_3
  have hP : va_P E.1 vwCl [] H := hP
  have hD : va_D A [] := hD
  refine ee_ne0 (tgt := 12) hx hb (by omega) dJxf58ca_floatToIntBits_5c35a_4 (by decide) (fun h_4 => absurd h_4 (by decide)) (fun h_4 => ?_)
  refine lv_fload_n hx hb dJxf58ca_floatToIntBits_5c35a_7 rfl (lv_at hl 0 rfl) ?_
  refine vn_f2i hx hb (by rw [hml]; exact hl.1.symm) hown (hts _ w1_Jxf58ca_floatToIntBits_5c35a) (hts _ w2_Jxf58ca_floatToIntBits_5c35a) (hts _ w3_Jxf58ca_floatToIntBits_5c35a) (hts _ w4_Jxf58ca_floatToIntBits_5c35a) (Nat.le_of_ble_eq_true rfl) (Nat.le_of_ble_eq_true rfl) dJxf58ca_floatToIntBits_5c35a_8 ?_
  exact ee_fi hQ hx hb hr (rfl) hlocks hS () (rfl) hP hD dJxf58ca_floatToIntBits_5c35a_11
abbrev rmX9_pitch : Room := ({ frames := 2, cells := 0, slots := 0, locals := 41 } : Room)
theorem w1_X9_pitch : Cond.fieldLink RX9 24 "LabelApplicatorModel" "pitch" "F" ∈ wsX9_pitch := List.mem_of_getElem? (i := 1) (by decide +kernel)
theorem w2_X9_pitch : Cond.methodLink RX9 106 yJxf58ca_floatToIntBits_5c35a ∈ wsX9_pitch := List.mem_of_getElem? (i := 2) (by decide +kernel)
theorem w4_X9_pitch : Cond.initialized RJxf58ca ∈ wsX9_pitch := List.mem_of_getElem? (i := 4) (by decide +kernel)
theorem w6_X9_pitch : Cond.methodLink RJxf58ca 74 ⟨"java/lang/Float", "floatToRawIntBits", "(F)I"⟩ ∈ wsX9_pitch := List.mem_of_getElem? (i := 6) (by decide +kernel)
theorem w7_X9_pitch : Cond.native ⟨"java/lang/Float", "floatToRawIntBits", "(F)I"⟩ ∈ wsX9_pitch := List.mem_of_getElem? (i := 7) (by decide +kernel)
theorem w8_X9_pitch : Cond.static ⟨"java/lang/Float", "floatToRawIntBits", "(F)I"⟩ ∈ wsX9_pitch := List.mem_of_getElem? (i := 8) (by decide +kernel)
theorem w9_X9_pitch : Cond.initialized "java/lang/Float" ∈ wsX9_pitch := List.mem_of_getElem? (i := 9) (by decide +kernel)
theorem i9_X9_pitch : ∀ w ∈ wsX90, w ∈ wsX9_pitch := fun w h => (goodIn_r _ [14, 15, 16, 17, 18, 19, 20, 21, 22, 23, 24, 25, 26, 27, 28, 29, 30, 31, 32, 33, 34, 35, 36, 37] (by decide +kernel) (by decide +kernel) w h).1
set_option maxHeartbeats 4000000 in
set_option maxRecDepth 100000 in
theorem kX9_pitch (l : Launch) (E : ee_T) (w0 w1 w2 w3 w4 w5 w6 w7 w8 w9 : Nat) (pt pa p1 p2 : UInt32) (tl ta fa it dp tv tn tb th te : Int32) (hh : Int64) (ar : Nat → Int32) (z : Sg) (hR : rM z ar pt) : CQ l E yX9_pitch wsX9_pitch rmX9_pitch [.ref w0] [(w0, ee_o 9 [.ref w1, .ref w2, .ref w3, .ref w4, .float pt, .float pa, .float p1, .float p2, .ref w5, .int tl, .int ta, .int fa, .ref w6, .ref w7, .int it, .ref w8, .ref w9, .int dp, .int tv, .int tn, .int tb, .int th, .int te, .long hh]), (w1, ee_i E 204 ar)] (QI E (fun (r : Int32) (u : Unit) => r = UInt32.toInt32 (gP z)) (fun (u : Unit) => [(w0, ee_o 9 [.ref w1, .ref w2, .ref w3, .ref w4, .float pt, .float pa, .float p1, .float p2, .ref w5, .int tl, .int ta, .int fa, .ref w6, .ref w7, .int it, .ref w8, .ref w9, .int dp, .int tv, .int tn, .int tb, .int th, .int te, .long hh]), (w1, ee_i E 204 ar)])) 0 0 := by
  refine CQ_ofW (cc := cX9_pitch) (maxL := 1) (ret := (some .int)) (by decide) rfl (Nat.le_of_ble_eq_true rfl) ?_
  intro p e s m below meth c A Q hQ hx hb hr hml hown hlocks hnm hts hV hA hP hD hS ls hl
  have hl : lv_has ls 1 [(0, .ref w0)] := hl
  refine lv_aload_n hx hb dX9_pitch_0 rfl (lv_at hl 0 rfl) ?_
  refine va_get (ci := 9) (v := .float pt) (C := RX9) (T := TX9) (N := 24) hx hb hts i9_X9_pitch hown hV.1 hP 0 rfl rfl 4 (by decide) (hts _ w1_X9_pitch) (fun _ h9 => h9) rfl dX9_pitch_1 ?_
  refine ee_ki (wr := [(w0, ee_o 9 [.ref w1, .ref w2, .ref w3, .ref w4, .float pt, .float pa, .float p1, .float p2, .ref w5, .int tl, .int ta, .int fa, .ref w6, .ref w7, .int it, .ref w8, .ref w9, .int dp, .int tv, .int tn, .int tb, .int th, .int te, .long hh]), (w1, ee_i E 204 ar)]) (ee_rS (As := [.float pt]) (rest := []) (kJxf58ca_floatToIntBits_5c35a l E pt (by rw [rM_P hR]; exact fb_self hR.1.2.2.2.2.2.2.2.2)) hx hb hml hown hts 1 gX9_pitch_Jxf58ca_floatToIntBits_5c35a rfl rfl rfl (by decide +kernel) ⟨Nat.le_of_ble_eq_true rfl, Nat.le_of_ble_eq_true rfl⟩ hV hP hD hS hA [] rfl (by decide) hl rfl rfl (Nat.le_of_ble_eq_true rfl) dX9_pitch_4 ⟨Nat.le_of_ble_eq_true rfl, Nat.le_of_ble_eq_true rfl⟩) hP hD hS hA [] [0, 1] rfl rfl (by decide) (by decide) (fun r_1 u_2 H locs hp_3 hP hD hS => ?_)
  subst hp_3
  have hP : va_P E.1 vwCl [(w0, ee_o 9 [.ref w1, .ref w2, .ref w3, .ref w4, .float pt, .float pa, .float p1, .float p2, .ref w5, .int tl, .int ta, .int fa, .ref w6, .ref w7, .int it, .ref w8, .ref w9, .int dp, .int tv, .int tn, .int tb, .int th, .int te, .long hh]), (w1, ee_i E 204 ar)] H := hP
  have hD : va_D A [(w0, ee_o 9 [.ref w1, .ref w2, .ref w3, .ref w4, .float pt, .float pa, .float p1, .float p2, .ref w5, .int tl, .int ta, .int fa, .ref w6, .ref w7, .int it, .ref w8, .ref w9, .int dp, .int tv, .int tn, .int tb, .int th, .int te, .long hh]), (w1, ee_i E 204 ar)] := hD
  exact ee_fi hQ hx hb hr (rfl) hlocks hS () (by rw [rM_P hR]) hP hD dX9_pitch_7
abbrev rmX9_setPitch : Room := ({ frames := 2, cells := 0, slots := 0, locals := 41 } : Room)
theorem w1_X9_setPitch : Cond.fieldLink RX9 24 "LabelApplicatorModel" "pitch" "F" ∈ wsX9_setPitch := List.mem_of_getElem? (i := 1) (by decide +kernel)
theorem w2_X9_setPitch : Cond.constantFloat RX9 112 (1092616192) ∈ wsX9_setPitch := List.mem_of_getElem? (i := 2) (by decide +kernel)
theorem w3_X9_setPitch : Cond.methodLink RX9 43 yX9_in ∈ wsX9_setPitch := List.mem_of_getElem? (i := 3) (by decide +kernel)
theorem w5_X9_setPitch : Cond.initialized RX9 ∈ wsX9_setPitch := List.mem_of_getElem? (i := 5) (by decide +kernel)
theorem w7_X9_setPitch : Cond.methodLink RX9 106 yJxf58ca_floatToIntBits_5c35a ∈ wsX9_setPitch := List.mem_of_getElem? (i := 7) (by decide +kernel)
theorem w9_X9_setPitch : Cond.initialized RJxf58ca ∈ wsX9_setPitch := List.mem_of_getElem? (i := 9) (by decide +kernel)
theorem w11_X9_setPitch : Cond.methodLink RJxf58ca 74 ⟨"java/lang/Float", "floatToRawIntBits", "(F)I"⟩ ∈ wsX9_setPitch := List.mem_of_getElem? (i := 11) (by decide +kernel)
theorem w12_X9_setPitch : Cond.native ⟨"java/lang/Float", "floatToRawIntBits", "(F)I"⟩ ∈ wsX9_setPitch := List.mem_of_getElem? (i := 12) (by decide +kernel)
theorem w13_X9_setPitch : Cond.static ⟨"java/lang/Float", "floatToRawIntBits", "(F)I"⟩ ∈ wsX9_setPitch := List.mem_of_getElem? (i := 13) (by decide +kernel)
theorem w14_X9_setPitch : Cond.initialized "java/lang/Float" ∈ wsX9_setPitch := List.mem_of_getElem? (i := 14) (by decide +kernel)
theorem i9_X9_setPitch : ∀ w ∈ wsX90, w ∈ wsX9_setPitch := fun w h => (goodIn_r _ [19, 20, 21, 22, 23, 24, 25, 26, 27, 28, 29, 30, 31, 32, 33, 34, 35, 36, 37, 38, 39, 40, 41, 42] (by decide +kernel) (by decide +kernel) w h).1
set_option maxHeartbeats 4000000 in
set_option maxRecDepth 100000 in
theorem kX9_setPitch (l : Launch) (E : ee_T) (w0 w1 w2 w3 w4 w5 w6 w7 w8 w9 : Nat) (pt pa p1 p2 : UInt32) (tl ta fa it dp tv tn tb th te : Int32) (hh : Int64) (ar : Nat → Int32) (z : Sg) (x : Int32) (hR : rM z ar pt) : CQ l E yX9_setPitch wsX9_setPitch rmX9_setPitch [.ref w0, .int x] [(w0, ee_o 9 [.ref w1, .ref w2, .ref w3, .ref w4, .float pt, .float pa, .float p1, .float p2, .ref w5, .int tl, .int ta, .int fa, .ref w6, .ref w7, .int it, .ref w8, .ref w9, .int dp, .int tv, .int tn, .int tb, .int th, .int te, .long hh]), (w1, ee_i E 204 ar)] (QI E (fun (r : Int32) (u : UInt32) => r = (spA z x).1 ∧ rM (spA z x).2 ar u) (fun (u : UInt32) => [(w0, ee_o 9 [.ref w1, .ref w2, .ref w3, .ref w4, .float u, .float pa, .float p1, .float p2, .ref w5, .int tl, .int ta, .int fa, .ref w6, .ref w7, .int it, .ref w8, .ref w9, .int dp, .int tv, .int tn, .int tb, .int th, .int te, .long hh]), (w1, ee_i E 204 ar)])) 0 0 := by
  refine CQ_ofW (cc := cX9_setPitch) (maxL := 3) (ret := (some .int)) (by decide) rfl (Nat.le_of_ble_eq_true rfl) ?_
  intro p e s m below meth c A Q hQ hx hb hr hml hown hlocks hnm hts hV hA hP hD hS ls hl
  have hl : lv_has ls 3 [(0, .ref w0), (1, .int x)] := hl
  refine lv_iload_n hx hb dX9_setPitch_0 rfl (lv_at hl 1 rfl) ?_
  refine lv_bipush (v := nI 10) hx hb dX9_setPitch_1 (by decide) ?_
  refine lv_sipush (v := nI 2000) hx hb dX9_setPitch_3 (by decide) ?_
  refine ee_ki (wr := [(w0, ee_o 9 [.ref w1, .ref w2, .ref w3, .ref w4, .float pt, .float pa, .float p1, .float p2, .ref w5, .int tl, .int ta, .int fa, .ref w6, .ref w7, .int it, .ref w8, .ref w9, .int dp, .int tv, .int tn, .int tb, .int th, .int te, .long hh]), (w1, ee_i E 204 ar)]) (ee_rS (As := [.int x, .int (nI 10), .int (nI 2000)]) (rest := []) (kX9_in l E x (nI 10) (nI 2000)) hx hb hml hown hts 3 gX9_setPitch_X9_in rfl rfl rfl (by decide +kernel) ⟨Nat.le_of_ble_eq_true rfl, Nat.le_of_ble_eq_true rfl⟩ hV hP hD hS hA [] rfl (by decide) hl rfl rfl (Nat.le_of_ble_eq_true rfl) dX9_setPitch_6 ⟨Nat.le_of_ble_eq_true rfl, Nat.le_of_ble_eq_true rfl⟩) hP hD hS hA [] [0, 1] rfl rfl (by decide) (by decide) (fun r_1 u_2 H locs hp_3 hP hD hS => ?_)
  have hP : va_P E.1 vwCl [(w0, ee_o 9 [.ref w1, .ref w2, .ref w3, .ref w4, .float pt, .float pa, .float p1, .float p2, .ref w5, .int tl, .int ta, .int fa, .ref w6, .ref w7, .int it, .ref w8, .ref w9, .int dp, .int tv, .int tn, .int tb, .int th, .int te, .long hh]), (w1, ee_i E 204 ar)] H := hP
  have hD : va_D A [(w0, ee_o 9 [.ref w1, .ref w2, .ref w3, .ref w4, .float pt, .float pa, .float p1, .float p2, .ref w5, .int tl, .int ta, .int fa, .ref w6, .ref w7, .int it, .ref w8, .ref w9, .int dp, .int tv, .int tn, .int tb, .int th, .int te, .long hh]), (w1, ee_i E 204 ar)] := hD
  rcases hp_3 with ⟨rfl, hc1⟩ | ⟨rfl, hc2⟩
  · obtain ⟨xx, x_1, x_2, rfl⟩ := inR_nat (by decide) (by decide) hc1
    refine ee_ne0 (tgt := 15) hx hb (by omega) dX9_setPitch_9 (by decide) (fun h_6 => ?_) (fun h_6 => absurd h_6 (by decide))
    refine lv_aload_n hx hb dX9_setPitch_15 rfl (lv_at hl 0 rfl) ?_
    refine va_get (ci := 9) (v := .float pt) (C := RX9) (T := TX9) (N := 24) hx hb hts i9_X9_setPitch hown hV.1 hP 0 rfl rfl 4 (by decide) (hts _ w1_X9_setPitch) (fun _ h9 => h9) rfl dX9_setPitch_16 ?_
    refine ee_ki (wr := [(w0, ee_o 9 [.ref w1, .ref w2, .ref w3, .ref w4, .float pt, .float pa, .float p1, .float p2, .ref w5, .int tl, .int ta, .int fa, .ref w6, .ref w7, .int it, .ref w8, .ref w9, .int dp, .int tv, .int tn, .int tb, .int th, .int te, .long hh]), (w1, ee_i E 204 ar)]) (ee_rS (As := [.float pt]) (rest := []) (kJxf58ca_floatToIntBits_5c35a l E pt (by rw [rM_P hR]; exact fb_self hR.1.2.2.2.2.2.2.2.2)) hx hb hml hown hts 1 gX9_setPitch_Jxf58ca_floatToIntBits_5c35a rfl rfl rfl (by decide +kernel) ⟨Nat.le_of_ble_eq_true rfl, Nat.le_of_ble_eq_true rfl⟩ hV hP hD hS hA [] rfl (by decide) hl rfl rfl (Nat.le_of_ble_eq_true rfl) dX9_setPitch_19 ⟨Nat.le_of_ble_eq_true rfl, Nat.le_of_ble_eq_true rfl⟩) hP hD hS hA [] [0, 1] rfl rfl (by decide) (by decide) (fun r_7 u_8 H locs hp_9 hP hD hS => ?_)
    subst hp_9
    have hP : va_P E.1 vwCl [(w0, ee_o 9 [.ref w1, .ref w2, .ref w3, .ref w4, .float pt, .float pa, .float p1, .float p2, .ref w5, .int tl, .int ta, .int fa, .ref w6, .ref w7, .int it, .ref w8, .ref w9, .int dp, .int tv, .int tn, .int tb, .int th, .int te, .long hh]), (w1, ee_i E 204 ar)] H := hP
    have hD : va_D A [(w0, ee_o 9 [.ref w1, .ref w2, .ref w3, .ref w4, .float pt, .float pa, .float p1, .float p2, .ref w5, .int tl, .int ta, .int fa, .ref w6, .ref w7, .int it, .ref w8, .ref w9, .int dp, .int tv, .int tn, .int tb, .int th, .int te, .long hh]), (w1, ee_i E 204 ar)] := hD
    refine lv_istore_n (lv' := [(2, .int (UInt32.toInt32 pt)), (0, .ref w0), (1, .int (nI xx))]) hx hb dX9_setPitch_22 rfl hl (by decide) rfl (fun ls hl => ?_)
    refine lv_aload_n hx hb dX9_setPitch_23 rfl (lv_at hl 1 rfl) ?_
    refine lv_iload_n hx hb dX9_setPitch_24 rfl (lv_at hl 2 rfl) ?_
    refine lv_i2f hx hb dX9_setPitch_25 ?_
    refine lv_ldcf hx hb hown (hts _ w2_X9_setPitch) dX9_setPitch_26 ?_
    refine lv_fdiv hx hb dX9_setPitch_28 ((fl_tenths x_1 x_2).2) ?_
    refine va_put (ci := 9) (v := .float (FP.fdiv (FP.i2f (nI xx)) (1092616192 : UInt32))) (ty := .float) (C := RX9) (T := TX9) (N := 24) hx hb hts i9_X9_setPitch tyX9 tyX9_ok nmX9 hown hV.1 hP hD hS 0 rfl rfl 4 (by decide) (hts _ w1_X9_setPitch) (fun _ h9 => h9) rfl (by decide +kernel) rfl rfl (Nat.le_of_ble_eq_true rfl) dX9_setPitch_29 (fun H locs hP hD hS => ?_)
    have hP : va_P E.1 vwCl [(w0, ee_o 9 [.ref w1, .ref w2, .ref w3, .ref w4, .float (FP.fdiv (FP.i2f (nI xx)) (1092616192 : UInt32)), .float pa, .float p1, .float p2, .ref w5, .int tl, .int ta, .int fa, .ref w6, .ref w7, .int it, .ref w8, .ref w9, .int dp, .int tv, .int tn, .int tb, .int th, .int te, .long hh]), (w1, ee_i E 204 ar)] H := hP
    have hD : va_D A [(w0, ee_o 9 [.ref w1, .ref w2, .ref w3, .ref w4, .float (FP.fdiv (FP.i2f (nI xx)) (1092616192 : UInt32)), .float pa, .float p1, .float p2, .ref w5, .int tl, .int ta, .int fa, .ref w6, .ref w7, .int it, .ref w8, .ref w9, .int dp, .int tv, .int tn, .int tb, .int th, .int te, .long hh]), (w1, ee_i E 204 ar)] := hD
    refine lv_iload_n hx hb dX9_setPitch_32 rfl (lv_at hl 0 rfl) ?_
    exact ee_fi hQ hx hb hr (rfl) hlocks hS (FP.fdiv (FP.i2f (nI xx)) 1092616192) (by rw [spA, inB_t hc1, rM_P hR]; exact ⟨rfl, rM_sp hR (fl_tenths x_1 x_2).1⟩) hP hD dX9_setPitch_33
  · refine ee_ne0 (tgt := 15) hx hb (by omega) dX9_setPitch_9 (by decide) (fun h_10 => absurd h_10 (by decide)) (fun h_10 => ?_)
    refine lv_bipush (v := (-2)) hx hb dX9_setPitch_12 (by decide) ?_
    exact ee_fi hQ hx hb hr (rfl) hlocks hS pt (by rw [spA, inB_f hc2]; exact ⟨rfl, hR⟩) hP hD dX9_setPitch_14
abbrev rmX9_setRing : Room := ({ frames := 1, cells := 0, slots := 0, locals := 22 } : Room)
theorem w1_X9_setRing : Cond.fieldLink RX9 7 "LabelApplicatorModel" "m" "[I" ∈ wsX9_setRing := List.mem_of_getElem? (i := 1) (by decide +kernel)
theorem w2_X9_setRing : Cond.methodLink RX9 43 yX9_in ∈ wsX9_setRing := List.mem_of_getElem? (i := 2) (by decide +kernel)
theorem w4_X9_setRing : Cond.initialized RX9 ∈ wsX9_setRing := List.mem_of_getElem? (i := 4) (by decide +kernel)
theorem w6_X9_setRing : Cond.methodLink RX9 113 yX9_leaves ∈ wsX9_setRing := List.mem_of_getElem? (i := 6) (by decide +kernel)
theorem i9_X9_setRing : ∀ w ∈ wsX90, w ∈ wsX9_setRing := fun w h => (goodIn_r _ [10, 11, 12, 13, 14, 15, 16, 17, 18, 19, 20, 21, 22, 23, 24, 25, 26, 27, 28, 29, 30, 31, 32, 33] (by decide +kernel) (by decide +kernel) w h).1
set_option maxHeartbeats 4000000 in
set_option maxRecDepth 100000 in
theorem kX9_setRing (l : Launch) (E : ee_T) (w0 w1 w2 w3 w4 w5 w6 w7 w8 w9 : Nat) (pt pa p1 p2 : UInt32) (tl ta fa it dp tv tn tb th te : Int32) (hh : Int64) (ar : Nat → Int32) (z : Sg) (x : Int32) (hR : rM z ar pt) : CQ l E yX9_setRing wsX9_setRing rmX9_setRing [.ref w0, .int x] [(w0, ee_o 9 [.ref w1, .ref w2, .ref w3, .ref w4, .float pt, .float pa, .float p1, .float p2, .ref w5, .int tl, .int ta, .int fa, .ref w6, .ref w7, .int it, .ref w8, .ref w9, .int dp, .int tv, .int tn, .int tb, .int th, .int te, .long hh]), (w1, ee_i E 204 ar)] (QI E (fun (r : Int32) (u : Nat → Int32) => r = (srA z x).1 ∧ rM (srA z x).2 u pt) (fun (u : Nat → Int32) => [(w0, ee_o 9 [.ref w1, .ref w2, .ref w3, .ref w4, .float pt, .float pa, .float p1, .float p2, .ref w5, .int tl, .int ta, .int fa, .ref w6, .ref w7, .int it, .ref w8, .ref w9, .int dp, .int tv, .int tn, .int tb, .int th, .int te, .long hh]), (w1, ee_i E 204 u)])) 0 0 := by
  refine CQ_ofW (cc := cX9_setRing) (maxL := 4) (ret := (some .int)) (by decide) rfl (Nat.le_of_ble_eq_true rfl) ?_
  intro p e s m below meth c A Q hQ hx hb hr hml hown hlocks hnm hts hV hA hP hD hS ls hl
  have hl : lv_has ls 4 [(0, .ref w0), (1, .int x)] := hl
  refine lv_iload_n hx hb dX9_setRing_0 rfl (lv_at hl 1 rfl) ?_
  refine lv_iconst (v := nI 1) hx hb dX9_setRing_1 (by decide) ?_
  refine lv_bipush (v := nI 10) hx hb dX9_setRing_2 (by decide) ?_
  refine ee_ki (wr := [(w0, ee_o 9 [.ref w1, .ref w2, .ref w3, .ref w4, .float pt, .float pa, .float p1, .float p2, .ref w5, .int tl, .int ta, .int fa, .ref w6, .ref w7, .int it, .ref w8, .ref w9, .int dp, .int tv, .int tn, .int tb, .int th, .int te, .long hh]), (w1, ee_i E 204 ar)]) (ee_rS (As := [.int x, .int (nI 1), .int (nI 10)]) (rest := []) (kX9_in l E x (nI 1) (nI 10)) hx hb hml hown hts 3 gX9_setRing_X9_in rfl rfl rfl (by decide +kernel) ⟨Nat.le_of_ble_eq_true rfl, Nat.le_of_ble_eq_true rfl⟩ hV hP hD hS hA [] rfl (by decide) hl rfl rfl (Nat.le_of_ble_eq_true rfl) dX9_setRing_4 ⟨Nat.le_of_ble_eq_true rfl, Nat.le_of_ble_eq_true rfl⟩) hP hD hS hA [] [0, 1] rfl rfl (by decide) (by decide) (fun r_1 u_2 H locs hp_3 hP hD hS => ?_)
  have hP : va_P E.1 vwCl [(w0, ee_o 9 [.ref w1, .ref w2, .ref w3, .ref w4, .float pt, .float pa, .float p1, .float p2, .ref w5, .int tl, .int ta, .int fa, .ref w6, .ref w7, .int it, .ref w8, .ref w9, .int dp, .int tv, .int tn, .int tb, .int th, .int te, .long hh]), (w1, ee_i E 204 ar)] H := hP
  have hD : va_D A [(w0, ee_o 9 [.ref w1, .ref w2, .ref w3, .ref w4, .float pt, .float pa, .float p1, .float p2, .ref w5, .int tl, .int ta, .int fa, .ref w6, .ref w7, .int it, .ref w8, .ref w9, .int dp, .int tv, .int tn, .int tb, .int th, .int te, .long hh]), (w1, ee_i E 204 ar)] := hD
  rcases hp_3 with ⟨rfl, hc1⟩ | ⟨rfl, hc2⟩
  · obtain ⟨xx, x_1, x_2, rfl⟩ := inR_nat (by decide) (by decide) hc1
    have hT := hR.1.2.2.2.2.1
    refine ee_ne0 (tgt := 13) hx hb (by omega) dX9_setRing_7 (by decide) (fun h_6 => ?_) (fun h_6 => absurd h_6 (by decide))
    refine lv_iconst (v := nI 0) hx hb dX9_setRing_13 (by decide) ?_
    refine lv_istore_n (lv' := [(2, .int (nI 0)), (0, .ref w0), (1, .int (nI xx))]) hx hb dX9_setRing_14 rfl hl (by decide) rfl (fun ls hl => ?_)
    refine lv_aload_n hx hb dX9_setRing_15 rfl (lv_at hl 1 rfl) ?_
    refine va_get (ci := 9) (v := .ref w1) (C := RX9) (T := TX9) (N := 24) hx hb hts i9_X9_setRing hown hV.1 hP 0 rfl rfl 0 (by decide) (hts _ w1_X9_setRing) (fun _ h9 => h9) rfl dX9_setRing_16 ?_
    refine lv_sipush (v := nI 170) hx hb dX9_setRing_19 (by decide) ?_
    refine ee_ild hx hb hV hP 1 rfl (j := 170) (by omega) (by decide) dX9_setRing_22 ?_
    refine ee_to (z := nI (gT z)) (rM_T hR) ?_
    refine lv_iconst (v := nI 1) hx hb dX9_setRing_23 (by decide) ?_
    refine ee_isub hx hb (by omega) dX9_setRing_24 ?_
    refine ee_to (z := dcr (gT z)) ((dcr_1 hT.1).symm) ?_
    refine lv_istore_n (lv' := [(3, .int (dcr (gT z))), (2, .int (nI 0)), (0, .ref w0), (1, .int (nI xx))]) hx hb dX9_setRing_25 rfl hl (by decide) rfl (fun ls hl => ?_)
    have B_7 : ∀ (zz : Nat) (k c0 : Nat) (bk : Nat → Int32) (H : Heap) (locs : List Loc) (ls : Array Slot), k < zz → (k ≤ gT z) → (rgI z ar bk k c0) → va_P E.1 vwCl [(w0, ee_o 9 [.ref w1, .ref w2, .ref w3, .ref w4, .float pt, .float pa, .float p1, .float p2, .ref w5, .int tl, .int ta, .int fa, .ref w6, .ref w7, .int it, .ref w8, .ref w9, .int dp, .int tv, .int tn, .int tb, .int th, .int te, .long hh]), (w1, ee_i E 204 bk)] H → va_D A [(w0, ee_o 9 [.ref w1, .ref w2, .ref w3, .ref w4, .float pt, .float pa, .float p1, .float p2, .ref w5, .int tl, .int ta, .int fa, .ref w6, .ref w7, .int it, .ref w8, .ref w9, .int dp, .int tv, .int tn, .int tb, .int th, .int te, .long hh]), (w1, ee_i E 204 bk)] → va_S A s.heap H locs → lv_has ls 4 [(3, .int (dcr k)), (2, .int (nI c0)), (0, .ref w0), (1, .int (nI xx))] → W p l e rmX9_setRing s m [.ref w0, .int (nI xx)].toArray below meth c H locs 0 0 Q (F0 m 26 ls []) := by
      intro zz
      induction zz with
      | zero => intro k c0 bk H locs ls hzz; exact absurd hzz (Nat.not_lt_zero _)
      | succ zz ihB_7 =>
        intro k c0 bk H locs ls hzz hk hI hP hD hS hl
        refine lv_iload_n hx hb dX9_setRing_26 rfl (lv_at hl 0 rfl) ?_
        rcases k with _ | k
        · refine ee_to (z := (-1)) rfl ?_
          refine lv_if_lt (tgt := 83) hx hb dX9_setRing_27 (by decide) (fun h_8 => ?_) (fun h_8 => absurd (by decide : ((-1) : Int32) < 0) h_8)
          refine lv_aload_n hx hb dX9_setRing_83 rfl (lv_at hl 2 rfl) ?_
          refine va_get (ci := 9) (v := .ref w1) (C := RX9) (T := TX9) (N := 24) hx hb hts i9_X9_setRing hown hV.1 hP 0 rfl rfl 0 (by decide) (hts _ w1_X9_setRing) (fun _ h9 => h9) rfl dX9_setRing_84 ?_
          refine lv_sipush (v := nI 170) hx hb dX9_setRing_87 (by decide) ?_
          refine lv_iload_n hx hb dX9_setRing_90 rfl (lv_at hl 3 rfl) ?_
          refine ee_ist hx hb hV hP hD hS 1 rfl (j := 170) (by omega) (by decide) dX9_setRing_91 (fun H locs hP hD hS => ?_)
          have hP : va_P E.1 vwCl [(w0, ee_o 9 [.ref w1, .ref w2, .ref w3, .ref w4, .float pt, .float pa, .float p1, .float p2, .ref w5, .int tl, .int ta, .int fa, .ref w6, .ref w7, .int it, .ref w8, .ref w9, .int dp, .int tv, .int tn, .int tb, .int th, .int te, .long hh]), (w1, ee_i E 204 (upd bk 170 (nI xx)))] H := hP
          have hD : va_D A [(w0, ee_o 9 [.ref w1, .ref w2, .ref w3, .ref w4, .float pt, .float pa, .float p1, .float p2, .ref w5, .int tl, .int ta, .int fa, .ref w6, .ref w7, .int it, .ref w8, .ref w9, .int dp, .int tv, .int tn, .int tb, .int th, .int te, .long hh]), (w1, ee_i E 204 (upd bk 170 (nI xx)))] := hD
          refine lv_iload_n hx hb dX9_setRing_92 rfl (lv_at hl 1 rfl) ?_
          obtain ⟨e1, e2⟩ := rg_e hR hI x_1 x_2
          subst e1
          exact ee_fi hQ hx hb hr (rfl) hlocks hS (upd bk 170 (nI xx)) (by rw [srA, inB_t hc1, nv_nI (by omega)]; exact ⟨rfl, e2⟩) hP hD dX9_setRing_93
        · refine ee_to (z := nI k) rfl ?_
          have hl : lv_has ls 4 [(3, .int (nI k)), (2, .int (nI c0)), (0, .ref w0), (1, .int (nI xx))] := hl
          refine ee_lt0 (tgt := 83) hx hb (by omega) dX9_setRing_27 (by decide) ?_
          refine lv_iload_n hx hb dX9_setRing_30 rfl (lv_at hl 1 rfl) ?_
          refine lv_aload_n hx hb dX9_setRing_31 rfl (lv_at hl 2 rfl) ?_
          refine va_get (ci := 9) (v := .ref w1) (C := RX9) (T := TX9) (N := 24) hx hb hts i9_X9_setRing hown hV.1 hP 0 rfl rfl 0 (by decide) (hts _ w1_X9_setRing) (fun _ h9 => h9) rfl dX9_setRing_32 ?_
          refine lv_sipush (v := nI 171) hx hb dX9_setRing_35 (by decide) ?_
          refine lv_iload_n hx hb dX9_setRing_38 rfl (lv_at hl 0 rfl) ?_
          refine ee_iadd hx hb dX9_setRing_39 ?_
          refine ee_ild hx hb hV hP 1 rfl (j := (171 + k)) (by omega) (by decide) dX9_setRing_40 ?_
          refine lv_iconst (v := (-1)) hx hb dX9_setRing_41 (by decide) ?_
          refine lv_icmp_ne (tgt := 49) hx hb dX9_setRing_42 (by decide) (fun g42 => ?_) (fun g42 => ?_)
          · refine lv_iconst (v := nI 1) hx hb dX9_setRing_49 (by decide) ?_
            refine ee_iadd hx hb dX9_setRing_50 ?_
            refine lv_istore_n (lv' := [(2, .int (nI (c0 + 1))), (3, .int (nI k)), (0, .ref w0), (1, .int (nI xx))]) hx hb dX9_setRing_51 rfl hl (by decide) rfl (fun ls hl => ?_)
            refine lv_aload_n hx hb dX9_setRing_52 rfl (lv_at hl 2 rfl) ?_
            refine lv_aload_n hx hb dX9_setRing_53 rfl (lv_at hl 2 rfl) ?_
            refine va_get (ci := 9) (v := .ref w1) (C := RX9) (T := TX9) (N := 24) hx hb hts i9_X9_setRing hown hV.1 hP 0 rfl rfl 0 (by decide) (hts _ w1_X9_setRing) (fun _ h9 => h9) rfl dX9_setRing_54 ?_
            refine lv_sipush (v := nI 171) hx hb dX9_setRing_57 (by decide) ?_
            refine lv_iload_n hx hb dX9_setRing_60 rfl (lv_at hl 1 rfl) ?_
            refine ee_iadd hx hb dX9_setRing_61 ?_
            refine ee_ild hx hb hV hP 1 rfl (j := (171 + k)) (by omega) (by decide) dX9_setRing_62 ?_
            refine ee_kv (wr := []) (ee_rV (As := [.int (bk (171 + k))]) (rest := []) (kX9_leaves l E w0 w1 w2 w3 w4 w5 w6 w7 w8 w9 pt pa p1 p2 tl ta fa it dp tv tn tb th te hh bk (bk (171 + k)) (by rw [hI.1 k (Nat.lt_succ_self k)]; exact hR.1.2.2.2.2.2.1 k (by omega))) hx hb hml hown hts 1 gX9_setRing_X9_leaves rfl rfl rfl (by decide +kernel) ⟨Nat.le_of_ble_eq_true rfl, Nat.le_of_ble_eq_true rfl⟩ hV hP hD hS hA [0, 1] rfl (by decide) hl 0 rfl rfl rfl rfl (Nat.le_of_ble_eq_true rfl) dX9_setRing_63 ⟨Nat.le_of_ble_eq_true rfl, Nat.le_of_ble_eq_true rfl⟩) hP hD hS hA [0, 1] [] rfl rfl (by decide) (by decide) (fun gk H locs hp_11 hP hD hS => ?_)
            obtain ⟨c1, c2, c3⟩ := hp_11
            have hP : va_P E.1 vwCl [(w0, ee_o 9 [.ref w1, .ref w2, .ref w3, .ref w4, .float pt, .float pa, .float p1, .float p2, .ref w5, .int tl, .int ta, .int fa, .ref w6, .ref w7, .int it, .ref w8, .ref w9, .int dp, .int tv, .int tn, .int tb, .int th, .int te, .long hh]), (w1, ee_i E 204 gk)] H := hP
            have hD : va_D A [(w0, ee_o 9 [.ref w1, .ref w2, .ref w3, .ref w4, .float pt, .float pa, .float p1, .float p2, .ref w5, .int tl, .int ta, .int fa, .ref w6, .ref w7, .int it, .ref w8, .ref w9, .int dp, .int tv, .int tn, .int tb, .int th, .int te, .long hh]), (w1, ee_i E 204 gk)] := hD
            refine lv_aload_n hx hb dX9_setRing_66 rfl (lv_at hl 2 rfl) ?_
            refine va_get (ci := 9) (v := .ref w1) (C := RX9) (T := TX9) (N := 24) hx hb hts i9_X9_setRing hown hV.1 hP 0 rfl rfl 0 (by decide) (hts _ w1_X9_setRing) (fun _ h9 => h9) rfl dX9_setRing_67 ?_
            refine lv_sipush (v := nI 171) hx hb dX9_setRing_70 (by decide) ?_
            refine lv_iload_n hx hb dX9_setRing_73 rfl (lv_at hl 1 rfl) ?_
            refine ee_iadd hx hb dX9_setRing_74 ?_
            refine lv_iconst (v := (-1)) hx hb dX9_setRing_75 (by decide) ?_
            refine ee_ist hx hb hV hP hD hS 1 rfl (j := (171 + k)) (by omega) (by decide) dX9_setRing_76 (fun H locs hP hD hS => ?_)
            have hP : va_P E.1 vwCl [(w0, ee_o 9 [.ref w1, .ref w2, .ref w3, .ref w4, .float pt, .float pa, .float p1, .float p2, .ref w5, .int tl, .int ta, .int fa, .ref w6, .ref w7, .int it, .ref w8, .ref w9, .int dp, .int tv, .int tn, .int tb, .int th, .int te, .long hh]), (w1, ee_i E 204 (upd gk (171 + k) (-1)))] H := hP
            have hD : va_D A [(w0, ee_o 9 [.ref w1, .ref w2, .ref w3, .ref w4, .float pt, .float pa, .float p1, .float p2, .ref w5, .int tl, .int ta, .int fa, .ref w6, .ref w7, .int it, .ref w8, .ref w9, .int dp, .int tv, .int tn, .int tb, .int th, .int te, .long hh]), (w1, ee_i E 204 (upd gk (171 + k) (-1)))] := hD
            refine lv_iinc (v := dcr k) (lv' := [(3, .int (dcr k)), (2, .int (nI (c0 + 1))), (0, .ref w0), (1, .int (nI xx))]) hx hb dX9_setRing_77 hl (k := 1) rfl (dcr_s _) (by decide) rfl (fun ls hl => ?_)
            refine lv_goto (tgt := 26) hx hb dX9_setRing_80 (by decide) ?_
            exact ihB_7 k (c0 + 1) (upd gk (171 + k) (-1)) _ _ _ (by omega) (by omega) (rg_s hI (by omega) c1 c2 c3 (Or.inr ⟨g42, rfl⟩)) hP hD hS (lv_sub hl [0, 1, 2, 3] rfl)
          · refine lv_iconst (v := nI 0) hx hb dX9_setRing_45 (by decide) ?_
            refine lv_goto (tgt := 50) hx hb dX9_setRing_46 (by decide) ?_
            refine ee_iadd hx hb dX9_setRing_50 ?_
            refine lv_istore_n (lv' := [(2, .int (nI c0)), (3, .int (nI k)), (0, .ref w0), (1, .int (nI xx))]) hx hb dX9_setRing_51 rfl hl (by decide) rfl (fun ls hl => ?_)
            refine lv_aload_n hx hb dX9_setRing_52 rfl (lv_at hl 2 rfl) ?_
            refine lv_aload_n hx hb dX9_setRing_53 rfl (lv_at hl 2 rfl) ?_
            refine va_get (ci := 9) (v := .ref w1) (C := RX9) (T := TX9) (N := 24) hx hb hts i9_X9_setRing hown hV.1 hP 0 rfl rfl 0 (by decide) (hts _ w1_X9_setRing) (fun _ h9 => h9) rfl dX9_setRing_54 ?_
            refine lv_sipush (v := nI 171) hx hb dX9_setRing_57 (by decide) ?_
            refine lv_iload_n hx hb dX9_setRing_60 rfl (lv_at hl 1 rfl) ?_
            refine ee_iadd hx hb dX9_setRing_61 ?_
            refine ee_ild hx hb hV hP 1 rfl (j := (171 + k)) (by omega) (by decide) dX9_setRing_62 ?_
            refine ee_kv (wr := []) (ee_rV (As := [.int (bk (171 + k))]) (rest := []) (kX9_leaves l E w0 w1 w2 w3 w4 w5 w6 w7 w8 w9 pt pa p1 p2 tl ta fa it dp tv tn tb th te hh bk (bk (171 + k)) (by rw [hI.1 k (Nat.lt_succ_self k)]; exact hR.1.2.2.2.2.2.1 k (by omega))) hx hb hml hown hts 1 gX9_setRing_X9_leaves rfl rfl rfl (by decide +kernel) ⟨Nat.le_of_ble_eq_true rfl, Nat.le_of_ble_eq_true rfl⟩ hV hP hD hS hA [0, 1] rfl (by decide) hl 0 rfl rfl rfl rfl (Nat.le_of_ble_eq_true rfl) dX9_setRing_63 ⟨Nat.le_of_ble_eq_true rfl, Nat.le_of_ble_eq_true rfl⟩) hP hD hS hA [0, 1] [] rfl rfl (by decide) (by decide) (fun gk H locs hp_14 hP hD hS => ?_)
            obtain ⟨c1, c2, c3⟩ := hp_14
            have hP : va_P E.1 vwCl [(w0, ee_o 9 [.ref w1, .ref w2, .ref w3, .ref w4, .float pt, .float pa, .float p1, .float p2, .ref w5, .int tl, .int ta, .int fa, .ref w6, .ref w7, .int it, .ref w8, .ref w9, .int dp, .int tv, .int tn, .int tb, .int th, .int te, .long hh]), (w1, ee_i E 204 gk)] H := hP
            have hD : va_D A [(w0, ee_o 9 [.ref w1, .ref w2, .ref w3, .ref w4, .float pt, .float pa, .float p1, .float p2, .ref w5, .int tl, .int ta, .int fa, .ref w6, .ref w7, .int it, .ref w8, .ref w9, .int dp, .int tv, .int tn, .int tb, .int th, .int te, .long hh]), (w1, ee_i E 204 gk)] := hD
            refine lv_aload_n hx hb dX9_setRing_66 rfl (lv_at hl 2 rfl) ?_
            refine va_get (ci := 9) (v := .ref w1) (C := RX9) (T := TX9) (N := 24) hx hb hts i9_X9_setRing hown hV.1 hP 0 rfl rfl 0 (by decide) (hts _ w1_X9_setRing) (fun _ h9 => h9) rfl dX9_setRing_67 ?_
            refine lv_sipush (v := nI 171) hx hb dX9_setRing_70 (by decide) ?_
            refine lv_iload_n hx hb dX9_setRing_73 rfl (lv_at hl 1 rfl) ?_
            refine ee_iadd hx hb dX9_setRing_74 ?_
            refine lv_iconst (v := (-1)) hx hb dX9_setRing_75 (by decide) ?_
            refine ee_ist hx hb hV hP hD hS 1 rfl (j := (171 + k)) (by omega) (by decide) dX9_setRing_76 (fun H locs hP hD hS => ?_)
            have hP : va_P E.1 vwCl [(w0, ee_o 9 [.ref w1, .ref w2, .ref w3, .ref w4, .float pt, .float pa, .float p1, .float p2, .ref w5, .int tl, .int ta, .int fa, .ref w6, .ref w7, .int it, .ref w8, .ref w9, .int dp, .int tv, .int tn, .int tb, .int th, .int te, .long hh]), (w1, ee_i E 204 (upd gk (171 + k) (-1)))] H := hP
            have hD : va_D A [(w0, ee_o 9 [.ref w1, .ref w2, .ref w3, .ref w4, .float pt, .float pa, .float p1, .float p2, .ref w5, .int tl, .int ta, .int fa, .ref w6, .ref w7, .int it, .ref w8, .ref w9, .int dp, .int tv, .int tn, .int tb, .int th, .int te, .long hh]), (w1, ee_i E 204 (upd gk (171 + k) (-1)))] := hD
            refine lv_iinc (v := dcr k) (lv' := [(3, .int (dcr k)), (2, .int (nI c0)), (0, .ref w0), (1, .int (nI xx))]) hx hb dX9_setRing_77 hl (k := 1) rfl (dcr_s _) (by decide) rfl (fun ls hl => ?_)
            refine lv_goto (tgt := 26) hx hb dX9_setRing_80 (by decide) ?_
            exact ihB_7 k c0 (upd gk (171 + k) (-1)) _ _ _ (by omega) (by omega) (rg_s hI (by omega) c1 c2 c3 (Or.inl ⟨g42, rfl⟩)) hP hD hS (lv_sub hl [0, 1, 2, 3] rfl)
    exact B_7 ((gT z) + 1) (gT z) 0 ar _ _ _ (Nat.lt_succ_self _) (by omega) (rg_0 hR) hP hD hS (lv_sub hl [0, 1, 2, 3] rfl)
  · refine ee_ne0 (tgt := 13) hx hb (by omega) dX9_setRing_7 (by decide) (fun h_16 => absurd h_16 (by decide)) (fun h_16 => ?_)
    refine lv_bipush (v := (-2)) hx hb dX9_setRing_10 (by decide) ?_
    exact ee_fi hQ hx hb hr (rfl) hlocks hS ar (by rw [srA, inB_f hc2]; exact ⟨rfl, hR⟩) hP hD dX9_setRing_12
abbrev rmX9_clearFaults : Room := ({ frames := 0, cells := 0, slots := 0, locals := 0 } : Room)
theorem w1_X9_clearFaults : Cond.fieldLink RX9 7 "LabelApplicatorModel" "m" "[I" ∈ wsX9_clearFaults := List.mem_of_getElem? (i := 1) (by decide +kernel)
theorem i9_X9_clearFaults : ∀ w ∈ wsX90, w ∈ wsX9_clearFaults := fun w h => (goodIn_r _ [2, 3, 4, 5, 6, 7, 8, 9, 10, 11, 12, 13, 14, 15, 16, 17, 18, 19, 20, 21, 22, 23, 24, 25] (by decide +kernel) (by decide +kernel) w h).1
set_option maxHeartbeats 4000000 in
set_option maxRecDepth 100000 in
theorem kX9_clearFaults (l : Launch) (E : ee_T) (w0 w1 w2 w3 w4 w5 w6 w7 w8 w9 : Nat) (pt pa p1 p2 : UInt32) (tl ta fa it dp tv tn tb th te : Int32) (hh : Int64) (ar : Nat → Int32) (z : Sg) (hR : rM z ar pt) : CQ l E yX9_clearFaults wsX9_clearFaults rmX9_clearFaults [.ref w0] [(w0, ee_o 9 [.ref w1, .ref w2, .ref w3, .ref w4, .float pt, .float pa, .float p1, .float p2, .ref w5, .int tl, .int ta, .int fa, .ref w6, .ref w7, .int it, .ref w8, .ref w9, .int dp, .int tv, .int tn, .int tb, .int th, .int te, .long hh]), (w1, ee_i E 204 ar)] (QI E (fun (r : Int32) (u : Nat → Int32) => r = gC z 7 ∧ rM (clS z) u pt) (fun (u : Nat → Int32) => [(w0, ee_o 9 [.ref w1, .ref w2, .ref w3, .ref w4, .float pt, .float pa, .float p1, .float p2, .ref w5, .int tl, .int ta, .int fa, .ref w6, .ref w7, .int it, .ref w8, .ref w9, .int dp, .int tv, .int tn, .int tb, .int th, .int te, .long hh]), (w1, ee_i E 204 u)])) 0 0 := by
  refine CQ_ofW (cc := cX9_clearFaults) (maxL := 2) (ret := (some .int)) (by decide) rfl (Nat.le_of_ble_eq_true rfl) ?_
  intro p e s m below meth c A Q hQ hx hb hr hml hown hlocks hnm hts hV hA hP hD hS ls hl
  have hl : lv_has ls 2 [(0, .ref w0)] := hl
  refine lv_aload_n hx hb dX9_clearFaults_0 rfl (lv_at hl 0 rfl) ?_
  refine va_get (ci := 9) (v := .ref w1) (C := RX9) (T := TX9) (N := 24) hx hb hts i9_X9_clearFaults hown hV.1 hP 0 rfl rfl 0 (by decide) (hts _ w1_X9_clearFaults) (fun _ h9 => h9) rfl dX9_clearFaults_1 ?_
  refine lv_sipush (v := nI 188) hx hb dX9_clearFaults_4 (by decide) ?_
  refine ee_ild hx hb hV hP 1 rfl (j := 188) (by omega) (by decide) dX9_clearFaults_7 ?_
  refine ee_to (z := gC z 7) (rM_C hR 7 (by decide)) ?_
  refine lv_istore_n (lv' := [(1, .int (gC z 7)), (0, .ref w0)]) hx hb dX9_clearFaults_8 rfl hl (by decide) rfl (fun ls hl => ?_)
  refine lv_aload_n hx hb dX9_clearFaults_9 rfl (lv_at hl 1 rfl) ?_
  refine va_get (ci := 9) (v := .ref w1) (C := RX9) (T := TX9) (N := 24) hx hb hts i9_X9_clearFaults hown hV.1 hP 0 rfl rfl 0 (by decide) (hts _ w1_X9_clearFaults) (fun _ h9 => h9) rfl dX9_clearFaults_10 ?_
  refine lv_sipush (v := nI 188) hx hb dX9_clearFaults_13 (by decide) ?_
  refine lv_iconst (v := nI 0) hx hb dX9_clearFaults_16 (by decide) ?_
  refine ee_ist hx hb hV hP hD hS 1 rfl (j := 188) (by omega) (by decide) dX9_clearFaults_17 (fun H locs hP hD hS => ?_)
  have hP : va_P E.1 vwCl [(w0, ee_o 9 [.ref w1, .ref w2, .ref w3, .ref w4, .float pt, .float pa, .float p1, .float p2, .ref w5, .int tl, .int ta, .int fa, .ref w6, .ref w7, .int it, .ref w8, .ref w9, .int dp, .int tv, .int tn, .int tb, .int th, .int te, .long hh]), (w1, ee_i E 204 (upd ar 188 (nI 0)))] H := hP
  have hD : va_D A [(w0, ee_o 9 [.ref w1, .ref w2, .ref w3, .ref w4, .float pt, .float pa, .float p1, .float p2, .ref w5, .int tl, .int ta, .int fa, .ref w6, .ref w7, .int it, .ref w8, .ref w9, .int dp, .int tv, .int tn, .int tb, .int th, .int te, .long hh]), (w1, ee_i E 204 (upd ar 188 (nI 0)))] := hD
  refine lv_aload_n hx hb dX9_clearFaults_18 rfl (lv_at hl 1 rfl) ?_
  refine va_get (ci := 9) (v := .ref w1) (C := RX9) (T := TX9) (N := 24) hx hb hts i9_X9_clearFaults hown hV.1 hP 0 rfl rfl 0 (by decide) (hts _ w1_X9_clearFaults) (fun _ h9 => h9) rfl dX9_clearFaults_19 ?_
  refine lv_sipush (v := nI 189) hx hb dX9_clearFaults_22 (by decide) ?_
  refine lv_iconst (v := nI 0) hx hb dX9_clearFaults_25 (by decide) ?_
  refine ee_ist hx hb hV hP hD hS 1 rfl (j := 189) (by omega) (by decide) dX9_clearFaults_26 (fun H locs hP hD hS => ?_)
  have hP : va_P E.1 vwCl [(w0, ee_o 9 [.ref w1, .ref w2, .ref w3, .ref w4, .float pt, .float pa, .float p1, .float p2, .ref w5, .int tl, .int ta, .int fa, .ref w6, .ref w7, .int it, .ref w8, .ref w9, .int dp, .int tv, .int tn, .int tb, .int th, .int te, .long hh]), (w1, ee_i E 204 (upd (upd ar 188 (nI 0)) 189 (nI 0)))] H := hP
  have hD : va_D A [(w0, ee_o 9 [.ref w1, .ref w2, .ref w3, .ref w4, .float pt, .float pa, .float p1, .float p2, .ref w5, .int tl, .int ta, .int fa, .ref w6, .ref w7, .int it, .ref w8, .ref w9, .int dp, .int tv, .int tn, .int tb, .int th, .int te, .long hh]), (w1, ee_i E 204 (upd (upd ar 188 (nI 0)) 189 (nI 0)))] := hD
  refine lv_iload_n hx hb dX9_clearFaults_27 rfl (lv_at hl 0 rfl) ?_
  exact ee_fi hQ hx hb hr (rfl) hlocks hS (upd (upd ar 188 (nI 0)) 189 (nI 0)) (⟨rfl, rM_cl hR⟩) hP hD dX9_clearFaults_28
abbrev rmX9_latest : Room := ({ frames := 1, cells := 0, slots := 0, locals := 22 } : Room)
theorem w1_X9_latest : Cond.fieldLink RX9 7 "LabelApplicatorModel" "m" "[I" ∈ wsX9_latest := List.mem_of_getElem? (i := 1) (by decide +kernel)
theorem w2_X9_latest : Cond.methodLink RX9 43 yX9_in ∈ wsX9_latest := List.mem_of_getElem? (i := 2) (by decide +kernel)
theorem w4_X9_latest : Cond.initialized RX9 ∈ wsX9_latest := List.mem_of_getElem? (i := 4) (by decide +kernel)
theorem i9_X9_latest : ∀ w ∈ wsX90, w ∈ wsX9_latest := fun w h => (goodIn_r _ [6, 7, 8, 9, 10, 11, 12, 13, 14, 15, 16, 17, 18, 19, 20, 21, 22, 23, 24, 25, 26, 27, 28, 29] (by decide +kernel) (by decide +kernel) w h).1
set_option maxHeartbeats 4000000 in
set_option maxRecDepth 100000 in
theorem kX9_latest (l : Launch) (E : ee_T) (w0 w1 w2 w3 w4 w5 w6 w7 w8 w9 : Nat) (pt pa p1 p2 : UInt32) (tl ta fa it dp tv tn tb th te : Int32) (hh : Int64) (ar : Nat → Int32) (z : Sg) (x : Int32) (hR : rM z ar pt) : CQ l E yX9_latest wsX9_latest rmX9_latest [.ref w0, .int x] [(w0, ee_o 9 [.ref w1, .ref w2, .ref w3, .ref w4, .float pt, .float pa, .float p1, .float p2, .ref w5, .int tl, .int ta, .int fa, .ref w6, .ref w7, .int it, .ref w8, .ref w9, .int dp, .int tv, .int tn, .int tb, .int th, .int te, .long hh]), (w1, ee_i E 204 ar)] (QI E (fun (r : Int32) (u : Unit) => r = latA z x) (fun (u : Unit) => [(w0, ee_o 9 [.ref w1, .ref w2, .ref w3, .ref w4, .float pt, .float pa, .float p1, .float p2, .ref w5, .int tl, .int ta, .int fa, .ref w6, .ref w7, .int it, .ref w8, .ref w9, .int dp, .int tv, .int tn, .int tb, .int th, .int te, .long hh]), (w1, ee_i E 204 ar)])) 0 0 := by
  refine CQ_ofW (cc := cX9_latest) (maxL := 2) (ret := (some .int)) (by decide) rfl (Nat.le_of_ble_eq_true rfl) ?_
  intro p e s m below meth c A Q hQ hx hb hr hml hown hlocks hnm hts hV hA hP hD hS ls hl
  have hl : lv_has ls 2 [(0, .ref w0), (1, .int x)] := hl
  refine lv_iload_n hx hb dX9_latest_0 rfl (lv_at hl 1 rfl) ?_
  refine lv_iconst (v := nI 0) hx hb dX9_latest_1 (by decide) ?_
  refine lv_iconst (v := nI 5) hx hb dX9_latest_2 (by decide) ?_
  refine ee_ki (wr := [(w0, ee_o 9 [.ref w1, .ref w2, .ref w3, .ref w4, .float pt, .float pa, .float p1, .float p2, .ref w5, .int tl, .int ta, .int fa, .ref w6, .ref w7, .int it, .ref w8, .ref w9, .int dp, .int tv, .int tn, .int tb, .int th, .int te, .long hh]), (w1, ee_i E 204 ar)]) (ee_rS (As := [.int x, .int (nI 0), .int (nI 5)]) (rest := []) (kX9_in l E x (nI 0) (nI 5)) hx hb hml hown hts 3 gX9_latest_X9_in rfl rfl rfl (by decide +kernel) ⟨Nat.le_of_ble_eq_true rfl, Nat.le_of_ble_eq_true rfl⟩ hV hP hD hS hA [] rfl (by decide) hl rfl rfl (Nat.le_of_ble_eq_true rfl) dX9_latest_3 ⟨Nat.le_of_ble_eq_true rfl, Nat.le_of_ble_eq_true rfl⟩) hP hD hS hA [] [0, 1] rfl rfl (by decide) (by decide) (fun r_1 u_2 H locs hp_3 hP hD hS => ?_)
  have hP : va_P E.1 vwCl [(w0, ee_o 9 [.ref w1, .ref w2, .ref w3, .ref w4, .float pt, .float pa, .float p1, .float p2, .ref w5, .int tl, .int ta, .int fa, .ref w6, .ref w7, .int it, .ref w8, .ref w9, .int dp, .int tv, .int tn, .int tb, .int th, .int te, .long hh]), (w1, ee_i E 204 ar)] H := hP
  have hD : va_D A [(w0, ee_o 9 [.ref w1, .ref w2, .ref w3, .ref w4, .float pt, .float pa, .float p1, .float p2, .ref w5, .int tl, .int ta, .int fa, .ref w6, .ref w7, .int it, .ref w8, .ref w9, .int dp, .int tv, .int tn, .int tb, .int th, .int te, .long hh]), (w1, ee_i E 204 ar)] := hD
  rcases hp_3 with ⟨rfl, hc1⟩ | ⟨rfl, hc2⟩
  · obtain ⟨xx, x_1, x_2, rfl⟩ := inR_nat (by decide) (by decide) hc1
    refine ee_eq0 (tgt := 22) hx hb (by omega) dX9_latest_6 (by decide) (fun h_6 => absurd h_6 (by decide)) (fun h_6 => ?_)
    refine lv_aload_n hx hb dX9_latest_9 rfl (lv_at hl 0 rfl) ?_
    refine va_get (ci := 9) (v := .ref w1) (C := RX9) (T := TX9) (N := 24) hx hb hts i9_X9_latest hown hV.1 hP 0 rfl rfl 0 (by decide) (hts _ w1_X9_latest) (fun _ h9 => h9) rfl dX9_latest_10 ?_
    refine lv_sipush (v := nI 198) hx hb dX9_latest_13 (by decide) ?_
    refine lv_iload_n hx hb dX9_latest_16 rfl (lv_at hl 1 rfl) ?_
    refine ee_iadd hx hb dX9_latest_17 ?_
    refine ee_ild hx hb hV hP 1 rfl (j := (198 + xx)) (by omega) (by decide) dX9_latest_18 ?_
    refine ee_to (z := gA z xx) (rM_A hR xx (by omega)) ?_
    refine lv_goto (tgt := 24) hx hb dX9_latest_19 (by decide) ?_
    exact ee_fi hQ hx hb hr (rfl) hlocks hS () (by rw [latA, inB_t hc1, nv_nI (by omega)]; rfl) hP hD dX9_latest_24
  · refine ee_eq0 (tgt := 22) hx hb (by omega) dX9_latest_6 (by decide) (fun h_7 => ?_) (fun h_7 => absurd h_7 (by decide))
    refine lv_bipush (v := (-2)) hx hb dX9_latest_22 (by decide) ?_
    exact ee_fi hQ hx hb hr (rfl) hlocks hS () (by rw [latA, inB_f hc2]; rfl) hP hD dX9_latest_24
abbrev rmX9_station : Room := ({ frames := 1, cells := 0, slots := 0, locals := 22 } : Room)
theorem w1_X9_station : Cond.fieldLink RX9 7 "LabelApplicatorModel" "m" "[I" ∈ wsX9_station := List.mem_of_getElem? (i := 1) (by decide +kernel)
theorem w2_X9_station : Cond.methodLink RX9 43 yX9_in ∈ wsX9_station := List.mem_of_getElem? (i := 2) (by decide +kernel)
theorem w4_X9_station : Cond.initialized RX9 ∈ wsX9_station := List.mem_of_getElem? (i := 4) (by decide +kernel)
theorem i9_X9_station : ∀ w ∈ wsX90, w ∈ wsX9_station := fun w h => (goodIn_r _ [6, 7, 8, 9, 10, 11, 12, 13, 14, 15, 16, 17, 18, 19, 20, 21, 22, 23, 24, 25, 26, 27, 28, 29] (by decide +kernel) (by decide +kernel) w h).1
set_option maxHeartbeats 4000000 in
set_option maxRecDepth 100000 in
theorem kX9_station (l : Launch) (E : ee_T) (w0 w1 w2 w3 w4 w5 w6 w7 w8 w9 : Nat) (pt pa p1 p2 : UInt32) (tl ta fa it dp tv tn tb th te : Int32) (hh : Int64) (ar : Nat → Int32) (z : Sg) (x : Int32) (hR : rM z ar pt) : CQ l E yX9_station wsX9_station rmX9_station [.ref w0, .int x] [(w0, ee_o 9 [.ref w1, .ref w2, .ref w3, .ref w4, .float pt, .float pa, .float p1, .float p2, .ref w5, .int tl, .int ta, .int fa, .ref w6, .ref w7, .int it, .ref w8, .ref w9, .int dp, .int tv, .int tn, .int tb, .int th, .int te, .long hh]), (w1, ee_i E 204 ar)] (QI E (fun (r : Int32) (u : Unit) => r = stnA z x) (fun (u : Unit) => [(w0, ee_o 9 [.ref w1, .ref w2, .ref w3, .ref w4, .float pt, .float pa, .float p1, .float p2, .ref w5, .int tl, .int ta, .int fa, .ref w6, .ref w7, .int it, .ref w8, .ref w9, .int dp, .int tv, .int tn, .int tb, .int th, .int te, .long hh]), (w1, ee_i E 204 ar)])) 0 0 := by
  refine CQ_ofW (cc := cX9_station) (maxL := 2) (ret := (some .int)) (by decide) rfl (Nat.le_of_ble_eq_true rfl) ?_
  intro p e s m below meth c A Q hQ hx hb hr hml hown hlocks hnm hts hV hA hP hD hS ls hl
  have hl : lv_has ls 2 [(0, .ref w0), (1, .int x)] := hl
  have hT := hR.1.2.2.2.2.1
  refine lv_iload_n hx hb dX9_station_0 rfl (lv_at hl 1 rfl) ?_
  refine lv_iconst (v := nI 0) hx hb dX9_station_1 (by decide) ?_
  refine lv_aload_n hx hb dX9_station_2 rfl (lv_at hl 0 rfl) ?_
  refine va_get (ci := 9) (v := .ref w1) (C := RX9) (T := TX9) (N := 24) hx hb hts i9_X9_station hown hV.1 hP 0 rfl rfl 0 (by decide) (hts _ w1_X9_station) (fun _ h9 => h9) rfl dX9_station_3 ?_
  refine lv_sipush (v := nI 170) hx hb dX9_station_6 (by decide) ?_
  refine ee_ild hx hb hV hP 1 rfl (j := 170) (by omega) (by decide) dX9_station_9 ?_
  refine ee_to (z := nI (gT z)) (rM_T hR) ?_
  refine lv_iconst (v := nI 1) hx hb dX9_station_10 (by decide) ?_
  refine ee_isub hx hb (by omega) dX9_station_11 ?_
  refine ee_ki (wr := [(w0, ee_o 9 [.ref w1, .ref w2, .ref w3, .ref w4, .float pt, .float pa, .float p1, .float p2, .ref w5, .int tl, .int ta, .int fa, .ref w6, .ref w7, .int it, .ref w8, .ref w9, .int dp, .int tv, .int tn, .int tb, .int th, .int te, .long hh]), (w1, ee_i E 204 ar)]) (ee_rS (As := [.int x, .int (nI 0), .int (nI (gT z - 1))]) (rest := []) (kX9_in l E x (nI 0) (nI (gT z - 1))) hx hb hml hown hts 3 gX9_station_X9_in rfl rfl rfl (by decide +kernel) ⟨Nat.le_of_ble_eq_true rfl, Nat.le_of_ble_eq_true rfl⟩ hV hP hD hS hA [] rfl (by decide) hl rfl rfl (Nat.le_of_ble_eq_true rfl) dX9_station_12 ⟨Nat.le_of_ble_eq_true rfl, Nat.le_of_ble_eq_true rfl⟩) hP hD hS hA [] [0, 1] rfl rfl (by decide) (by decide) (fun r_1 u_2 H locs hp_3 hP hD hS => ?_)
  have hP : va_P E.1 vwCl [(w0, ee_o 9 [.ref w1, .ref w2, .ref w3, .ref w4, .float pt, .float pa, .float p1, .float p2, .ref w5, .int tl, .int ta, .int fa, .ref w6, .ref w7, .int it, .ref w8, .ref w9, .int dp, .int tv, .int tn, .int tb, .int th, .int te, .long hh]), (w1, ee_i E 204 ar)] H := hP
  have hD : va_D A [(w0, ee_o 9 [.ref w1, .ref w2, .ref w3, .ref w4, .float pt, .float pa, .float p1, .float p2, .ref w5, .int tl, .int ta, .int fa, .ref w6, .ref w7, .int it, .ref w8, .ref w9, .int dp, .int tv, .int tn, .int tb, .int th, .int te, .long hh]), (w1, ee_i E 204 ar)] := hD
  rcases hp_3 with ⟨rfl, hc1⟩ | ⟨rfl, hc2⟩
  · obtain ⟨xx, x_1, x_2, rfl⟩ := inR_nat (by omega) (by omega) hc1
    refine ee_eq0 (tgt := 31) hx hb (by omega) dX9_station_15 (by decide) (fun h_6 => absurd h_6 (by decide)) (fun h_6 => ?_)
    refine lv_aload_n hx hb dX9_station_18 rfl (lv_at hl 0 rfl) ?_
    refine va_get (ci := 9) (v := .ref w1) (C := RX9) (T := TX9) (N := 24) hx hb hts i9_X9_station hown hV.1 hP 0 rfl rfl 0 (by decide) (hts _ w1_X9_station) (fun _ h9 => h9) rfl dX9_station_19 ?_
    refine lv_sipush (v := nI 171) hx hb dX9_station_22 (by decide) ?_
    refine lv_iload_n hx hb dX9_station_25 rfl (lv_at hl 1 rfl) ?_
    refine ee_iadd hx hb dX9_station_26 ?_
    refine ee_ild hx hb hV hP 1 rfl (j := (171 + xx)) (by omega) (by decide) dX9_station_27 ?_
    refine ee_to (z := gR z xx) (rM_R hR xx (by omega)) ?_
    refine lv_goto (tgt := 33) hx hb dX9_station_28 (by decide) ?_
    exact ee_fi hQ hx hb hr (rfl) hlocks hS () (by rw [stnA, inB_t hc1, nv_nI (by omega)]; rfl) hP hD dX9_station_33
  · refine ee_eq0 (tgt := 31) hx hb (by omega) dX9_station_15 (by decide) (fun h_7 => ?_) (fun h_7 => absurd h_7 (by decide))
    refine lv_bipush (v := (-2)) hx hb dX9_station_31 (by decide) ?_
    exact ee_fi hQ hx hb hr (rfl) hlocks hS () (by rw [stnA, inB_f hc2]; rfl) hP hD dX9_station_33
abbrev rmX9_labelsOnWeb : Room := ({ frames := 0, cells := 0, slots := 0, locals := 0 } : Room)
theorem w1_X9_labelsOnWeb : Cond.fieldLink RX9 7 "LabelApplicatorModel" "m" "[I" ∈ wsX9_labelsOnWeb := List.mem_of_getElem? (i := 1) (by decide +kernel)
theorem i9_X9_labelsOnWeb : ∀ w ∈ wsX90, w ∈ wsX9_labelsOnWeb := fun w h => (goodIn_r _ [2, 3, 4, 5, 6, 7, 8, 9, 10, 11, 12, 13, 14, 15, 16, 17, 18, 19, 20, 21, 22, 23, 24, 25] (by decide +kernel) (by decide +kernel) w h).1
set_option maxHeartbeats 4000000 in
set_option maxRecDepth 100000 in
theorem kX9_labelsOnWeb (l : Launch) (E : ee_T) (w0 w1 w2 w3 w4 w5 w6 w7 w8 w9 : Nat) (pt pa p1 p2 : UInt32) (tl ta fa it dp tv tn tb th te : Int32) (hh : Int64) (ar : Nat → Int32) (z : Sg) (hR : rM z ar pt) : CQ l E yX9_labelsOnWeb wsX9_labelsOnWeb rmX9_labelsOnWeb [.ref w0] [(w0, ee_o 9 [.ref w1, .ref w2, .ref w3, .ref w4, .float pt, .float pa, .float p1, .float p2, .ref w5, .int tl, .int ta, .int fa, .ref w6, .ref w7, .int it, .ref w8, .ref w9, .int dp, .int tv, .int tn, .int tb, .int th, .int te, .long hh]), (w1, ee_i E 204 ar)] (QI E (fun (r : Int32) (u : Unit) => r = nI (cnt0 (gK z) 0 (gN z))) (fun (u : Unit) => [(w0, ee_o 9 [.ref w1, .ref w2, .ref w3, .ref w4, .float pt, .float pa, .float p1, .float p2, .ref w5, .int tl, .int ta, .int fa, .ref w6, .ref w7, .int it, .ref w8, .ref w9, .int dp, .int tv, .int tn, .int tb, .int th, .int te, .long hh]), (w1, ee_i E 204 ar)])) 0 0 := by
  refine CQ_ofW (cc := cX9_labelsOnWeb) (maxL := 3) (ret := (some .int)) (by decide) rfl (Nat.le_of_ble_eq_true rfl) ?_
  intro p e s m below meth c A Q hQ hx hb hr hml hown hlocks hnm hts hV hA hP hD hS ls hl
  have hl : lv_has ls 3 [(0, .ref w0)] := hl
  have hN := hR.1.1
  refine lv_iconst (v := nI 0) hx hb dX9_labelsOnWeb_0 (by decide) ?_
  refine lv_istore_n (lv' := [(1, .int (nI 0)), (0, .ref w0)]) hx hb dX9_labelsOnWeb_1 rfl hl (by decide) rfl (fun ls hl => ?_)
  refine lv_iconst (v := nI 0) hx hb dX9_labelsOnWeb_2 (by decide) ?_
  refine lv_istore_n (lv' := [(2, .int (nI 0)), (1, .int (nI 0)), (0, .ref w0)]) hx hb dX9_labelsOnWeb_3 rfl hl (by decide) rfl (fun ls hl => ?_)
  have B_1 : ∀ (zz : Nat) (i c0 : Nat) (H : Heap) (locs : List Loc) (ls : Array Slot), (gN z - i) < zz → (i ≤ gN z) → (c0 = cnt0 (gK z) 0 i) → va_P E.1 vwCl [(w0, ee_o 9 [.ref w1, .ref w2, .ref w3, .ref w4, .float pt, .float pa, .float p1, .float p2, .ref w5, .int tl, .int ta, .int fa, .ref w6, .ref w7, .int it, .ref w8, .ref w9, .int dp, .int tv, .int tn, .int tb, .int th, .int te, .long hh]), (w1, ee_i E 204 ar)] H → va_D A [(w0, ee_o 9 [.ref w1, .ref w2, .ref w3, .ref w4, .float pt, .float pa, .float p1, .float p2, .ref w5, .int tl, .int ta, .int fa, .ref w6, .ref w7, .int it, .ref w8, .ref w9, .int dp, .int tv, .int tn, .int tb, .int th, .int te, .long hh]), (w1, ee_i E 204 ar)] → va_S A s.heap H locs → lv_has ls 3 [(2, .int (nI i)), (1, .int (nI c0)), (0, .ref w0)] → W p l e rmX9_labelsOnWeb s m [.ref w0].toArray below meth c H locs 0 0 Q (F0 m 4 ls []) := by
    intro zz
    induction zz with
    | zero => intro i c0 H locs ls hzz; exact absurd hzz (Nat.not_lt_zero _)
    | succ zz ihB_1 =>
      intro i c0 H locs ls hzz hin hq hP hD hS hl
      refine lv_iload_n hx hb dX9_labelsOnWeb_4 rfl (lv_at hl 0 rfl) ?_
      refine lv_aload_n hx hb dX9_labelsOnWeb_5 rfl (lv_at hl 2 rfl) ?_
      refine va_get (ci := 9) (v := .ref w1) (C := RX9) (T := TX9) (N := 24) hx hb hts i9_X9_labelsOnWeb hown hV.1 hP 0 rfl rfl 0 (by decide) (hts _ w1_X9_labelsOnWeb) (fun _ h9 => h9) rfl dX9_labelsOnWeb_6 ?_
      refine lv_iconst (v := nI 0) hx hb dX9_labelsOnWeb_9 (by decide) ?_
      refine ee_ild hx hb hV hP 1 rfl (j := 0) (by omega) (by decide) dX9_labelsOnWeb_10 ?_
      refine ee_to (z := nI (gN z)) (rM_N hR) ?_
      refine ee_ge (tgt := 39) hx hb (by omega) (by omega) dX9_labelsOnWeb_11 (by decide) (fun h_2 => ?_) (fun h_2 => ?_)
      · refine lv_iload_n hx hb dX9_labelsOnWeb_39 rfl (lv_at hl 1 rfl) ?_
        obtain rfl : i = gN z := by omega
        exact ee_fi hQ hx hb hr (rfl) hlocks hS () (by rw [hq]) hP hD dX9_labelsOnWeb_40
      · refine lv_iload_n hx hb dX9_labelsOnWeb_14 rfl (lv_at hl 1 rfl) ?_
        refine lv_aload_n hx hb dX9_labelsOnWeb_15 rfl (lv_at hl 2 rfl) ?_
        refine va_get (ci := 9) (v := .ref w1) (C := RX9) (T := TX9) (N := 24) hx hb hts i9_X9_labelsOnWeb hown hV.1 hP 0 rfl rfl 0 (by decide) (hts _ w1_X9_labelsOnWeb) (fun _ h9 => h9) rfl dX9_labelsOnWeb_16 ?_
        refine lv_iconst (v := nI 1) hx hb dX9_labelsOnWeb_19 (by decide) ?_
        refine lv_iload_n hx hb dX9_labelsOnWeb_20 rfl (lv_at hl 0 rfl) ?_
        refine ee_iadd hx hb dX9_labelsOnWeb_21 ?_
        refine ee_ild hx hb hV hP 1 rfl (j := (1 + i)) (by omega) (by decide) dX9_labelsOnWeb_22 ?_
        refine ee_to (z := gK z i) ((rM_W hR i (by omega)).1) ?_
        have hle := cnt0_le (gK z) 0 i
        refine ee_z_ne (tgt := 30) hx hb dX9_labelsOnWeb_23 (by decide) (fun g23 => ?_) (fun g23 => ?_)
        · refine lv_iconst (v := nI 0) hx hb dX9_labelsOnWeb_30 (by decide) ?_
          refine ee_iadd hx hb dX9_labelsOnWeb_31 ?_
          refine lv_istore_n (lv' := [(1, .int (nI c0)), (2, .int (nI i)), (0, .ref w0)]) hx hb dX9_labelsOnWeb_32 rfl hl (by decide) rfl (fun ls hl => ?_)
          refine lv_iinc (v := nI (i + 1)) (lv' := [(2, .int (nI (i + 1))), (1, .int (nI c0)), (0, .ref w0)]) hx hb dX9_labelsOnWeb_33 hl (k := 1) rfl (ee_inc _) (by decide) rfl (fun ls hl => ?_)
          refine lv_goto (tgt := 4) hx hb dX9_labelsOnWeb_36 (by decide) ?_
          exact ihB_1 (i + 1) c0 _ _ _ (by omega) (by omega) (by rw [cnt0_n g23, hq]) hP hD hS (lv_sub hl [0, 1, 2] rfl)
        · refine lv_iconst (v := nI 1) hx hb dX9_labelsOnWeb_26 (by decide) ?_
          refine lv_goto (tgt := 31) hx hb dX9_labelsOnWeb_27 (by decide) ?_
          refine ee_iadd hx hb dX9_labelsOnWeb_31 ?_
          refine lv_istore_n (lv' := [(1, .int (nI (c0 + 1))), (2, .int (nI i)), (0, .ref w0)]) hx hb dX9_labelsOnWeb_32 rfl hl (by decide) rfl (fun ls hl => ?_)
          refine lv_iinc (v := nI (i + 1)) (lv' := [(2, .int (nI (i + 1))), (1, .int (nI (c0 + 1))), (0, .ref w0)]) hx hb dX9_labelsOnWeb_33 hl (k := 1) rfl (ee_inc _) (by decide) rfl (fun ls hl => ?_)
          refine lv_goto (tgt := 4) hx hb dX9_labelsOnWeb_36 (by decide) ?_
          exact ihB_1 (i + 1) (c0 + 1) _ _ _ (by omega) (by omega) (by rw [cnt0_y g23, hq]) hP hD hS (lv_sub hl [0, 1, 2] rfl)
  exact B_1 ((gN z - 0) + 1) 0 0 _ _ _ (Nat.lt_succ_self _) (by omega) rfl hP hD hS (lv_sub hl [0, 1, 2] rfl)
abbrev rmX9_productsInRing : Room := ({ frames := 0, cells := 0, slots := 0, locals := 0 } : Room)
theorem w1_X9_productsInRing : Cond.fieldLink RX9 7 "LabelApplicatorModel" "m" "[I" ∈ wsX9_productsInRing := List.mem_of_getElem? (i := 1) (by decide +kernel)
theorem i9_X9_productsInRing : ∀ w ∈ wsX90, w ∈ wsX9_productsInRing := fun w h => (goodIn_r _ [2, 3, 4, 5, 6, 7, 8, 9, 10, 11, 12, 13, 14, 15, 16, 17, 18, 19, 20, 21, 22, 23, 24, 25] (by decide +kernel) (by decide +kernel) w h).1
set_option maxHeartbeats 4000000 in
set_option maxRecDepth 100000 in
theorem kX9_productsInRing (l : Launch) (E : ee_T) (w0 w1 w2 w3 w4 w5 w6 w7 w8 w9 : Nat) (pt pa p1 p2 : UInt32) (tl ta fa it dp tv tn tb th te : Int32) (hh : Int64) (ar : Nat → Int32) (z : Sg) (hR : rM z ar pt) : CQ l E yX9_productsInRing wsX9_productsInRing rmX9_productsInRing [.ref w0] [(w0, ee_o 9 [.ref w1, .ref w2, .ref w3, .ref w4, .float pt, .float pa, .float p1, .float p2, .ref w5, .int tl, .int ta, .int fa, .ref w6, .ref w7, .int it, .ref w8, .ref w9, .int dp, .int tv, .int tn, .int tb, .int th, .int te, .long hh]), (w1, ee_i E 204 ar)] (QI E (fun (r : Int32) (u : Unit) => r = nI (cntR (gR z) (gT z))) (fun (u : Unit) => [(w0, ee_o 9 [.ref w1, .ref w2, .ref w3, .ref w4, .float pt, .float pa, .float p1, .float p2, .ref w5, .int tl, .int ta, .int fa, .ref w6, .ref w7, .int it, .ref w8, .ref w9, .int dp, .int tv, .int tn, .int tb, .int th, .int te, .long hh]), (w1, ee_i E 204 ar)])) 0 0 := by
  refine CQ_ofW (cc := cX9_productsInRing) (maxL := 3) (ret := (some .int)) (by decide) rfl (Nat.le_of_ble_eq_true rfl) ?_
  intro p e s m below meth c A Q hQ hx hb hr hml hown hlocks hnm hts hV hA hP hD hS ls hl
  have hl : lv_has ls 3 [(0, .ref w0)] := hl
  have hT := hR.1.2.2.2.2.1
  refine lv_iconst (v := nI 0) hx hb dX9_productsInRing_0 (by decide) ?_
  refine lv_istore_n (lv' := [(1, .int (nI 0)), (0, .ref w0)]) hx hb dX9_productsInRing_1 rfl hl (by decide) rfl (fun ls hl => ?_)
  refine lv_iconst (v := nI 0) hx hb dX9_productsInRing_2 (by decide) ?_
  refine lv_istore_n (lv' := [(2, .int (nI 0)), (1, .int (nI 0)), (0, .ref w0)]) hx hb dX9_productsInRing_3 rfl hl (by decide) rfl (fun ls hl => ?_)
  have B_1 : ∀ (zz : Nat) (i c0 : Nat) (H : Heap) (locs : List Loc) (ls : Array Slot), (gT z - i) < zz → (i ≤ gT z) → (c0 = cntR (gR z) i) → va_P E.1 vwCl [(w0, ee_o 9 [.ref w1, .ref w2, .ref w3, .ref w4, .float pt, .float pa, .float p1, .float p2, .ref w5, .int tl, .int ta, .int fa, .ref w6, .ref w7, .int it, .ref w8, .ref w9, .int dp, .int tv, .int tn, .int tb, .int th, .int te, .long hh]), (w1, ee_i E 204 ar)] H → va_D A [(w0, ee_o 9 [.ref w1, .ref w2, .ref w3, .ref w4, .float pt, .float pa, .float p1, .float p2, .ref w5, .int tl, .int ta, .int fa, .ref w6, .ref w7, .int it, .ref w8, .ref w9, .int dp, .int tv, .int tn, .int tb, .int th, .int te, .long hh]), (w1, ee_i E 204 ar)] → va_S A s.heap H locs → lv_has ls 3 [(2, .int (nI i)), (1, .int (nI c0)), (0, .ref w0)] → W p l e rmX9_productsInRing s m [.ref w0].toArray below meth c H locs 0 0 Q (F0 m 4 ls []) := by
    intro zz
    induction zz with
    | zero => intro i c0 H locs ls hzz; exact absurd hzz (Nat.not_lt_zero _)
    | succ zz ihB_1 =>
      intro i c0 H locs ls hzz hin hq hP hD hS hl
      refine lv_iload_n hx hb dX9_productsInRing_4 rfl (lv_at hl 0 rfl) ?_
      refine lv_aload_n hx hb dX9_productsInRing_5 rfl (lv_at hl 2 rfl) ?_
      refine va_get (ci := 9) (v := .ref w1) (C := RX9) (T := TX9) (N := 24) hx hb hts i9_X9_productsInRing hown hV.1 hP 0 rfl rfl 0 (by decide) (hts _ w1_X9_productsInRing) (fun _ h9 => h9) rfl dX9_productsInRing_6 ?_
      refine lv_sipush (v := nI 170) hx hb dX9_productsInRing_9 (by decide) ?_
      refine ee_ild hx hb hV hP 1 rfl (j := 170) (by omega) (by decide) dX9_productsInRing_12 ?_
      refine ee_to (z := nI (gT z)) (rM_T hR) ?_
      refine ee_ge (tgt := 44) hx hb (by omega) (by omega) dX9_productsInRing_13 (by decide) (fun h_2 => ?_) (fun h_2 => ?_)
      · refine lv_iload_n hx hb dX9_productsInRing_44 rfl (lv_at hl 1 rfl) ?_
        obtain rfl : i = gT z := by omega
        exact ee_fi hQ hx hb hr (rfl) hlocks hS () (by rw [hq]) hP hD dX9_productsInRing_45
      · refine lv_iload_n hx hb dX9_productsInRing_16 rfl (lv_at hl 1 rfl) ?_
        refine lv_aload_n hx hb dX9_productsInRing_17 rfl (lv_at hl 2 rfl) ?_
        refine va_get (ci := 9) (v := .ref w1) (C := RX9) (T := TX9) (N := 24) hx hb hts i9_X9_productsInRing hown hV.1 hP 0 rfl rfl 0 (by decide) (hts _ w1_X9_productsInRing) (fun _ h9 => h9) rfl dX9_productsInRing_18 ?_
        refine lv_sipush (v := nI 171) hx hb dX9_productsInRing_21 (by decide) ?_
        refine lv_iload_n hx hb dX9_productsInRing_24 rfl (lv_at hl 0 rfl) ?_
        refine ee_iadd hx hb dX9_productsInRing_25 ?_
        refine ee_ild hx hb hV hP 1 rfl (j := (171 + i)) (by omega) (by decide) dX9_productsInRing_26 ?_
        refine ee_to (z := gR z i) (rM_R hR i (by omega)) ?_
        have hle := cntR_le (gR z) i
        refine lv_iconst (v := (-1)) hx hb dX9_productsInRing_27 (by decide) ?_
        refine lv_icmp_ne (tgt := 35) hx hb dX9_productsInRing_28 (by decide) (fun g28 => ?_) (fun g28 => ?_)
        · refine lv_iconst (v := nI 1) hx hb dX9_productsInRing_35 (by decide) ?_
          refine ee_iadd hx hb dX9_productsInRing_36 ?_
          refine lv_istore_n (lv' := [(1, .int (nI (c0 + 1))), (2, .int (nI i)), (0, .ref w0)]) hx hb dX9_productsInRing_37 rfl hl (by decide) rfl (fun ls hl => ?_)
          refine lv_iinc (v := nI (i + 1)) (lv' := [(2, .int (nI (i + 1))), (1, .int (nI (c0 + 1))), (0, .ref w0)]) hx hb dX9_productsInRing_38 hl (k := 1) rfl (ee_inc _) (by decide) rfl (fun ls hl => ?_)
          refine lv_goto (tgt := 4) hx hb dX9_productsInRing_41 (by decide) ?_
          exact ihB_1 (i + 1) (c0 + 1) _ _ _ (by omega) (by omega) (by rw [cntR, if_neg g28, hq]) hP hD hS (lv_sub hl [0, 1, 2] rfl)
        · refine lv_iconst (v := nI 0) hx hb dX9_productsInRing_31 (by decide) ?_
          refine lv_goto (tgt := 36) hx hb dX9_productsInRing_32 (by decide) ?_
          refine ee_iadd hx hb dX9_productsInRing_36 ?_
          refine lv_istore_n (lv' := [(1, .int (nI c0)), (2, .int (nI i)), (0, .ref w0)]) hx hb dX9_productsInRing_37 rfl hl (by decide) rfl (fun ls hl => ?_)
          refine lv_iinc (v := nI (i + 1)) (lv' := [(2, .int (nI (i + 1))), (1, .int (nI c0)), (0, .ref w0)]) hx hb dX9_productsInRing_38 hl (k := 1) rfl (ee_inc _) (by decide) rfl (fun ls hl => ?_)
          refine lv_goto (tgt := 4) hx hb dX9_productsInRing_41 (by decide) ?_
          exact ihB_1 (i + 1) c0 _ _ _ (by omega) (by omega) (by rw [cntR, if_pos g28, hq]) hP hD hS (lv_sub hl [0, 1, 2] rfl)
  exact B_1 ((gT z - 0) + 1) 0 0 _ _ _ (Nat.lt_succ_self _) (by omega) rfl hP hD hS (lv_sub hl [0, 1, 2] rfl)
abbrev rmX9_unload : Room := ({ frames := 0, cells := 0, slots := 0, locals := 0 } : Room)
theorem w1_X9_unload : Cond.fieldLink RX9 7 "LabelApplicatorModel" "m" "[I" ∈ wsX9_unload := List.mem_of_getElem? (i := 1) (by decide +kernel)
theorem i9_X9_unload : ∀ w ∈ wsX90, w ∈ wsX9_unload := fun w h => (goodIn_r _ [2, 3, 4, 5, 6, 7, 8, 9, 10, 11, 12, 13, 14, 15, 16, 17, 18, 19, 20, 21, 22, 23, 24, 25] (by decide +kernel) (by decide +kernel) w h).1
set_option maxHeartbeats 4000000 in
set_option maxRecDepth 100000 in
theorem kX9_unload (l : Launch) (E : ee_T) (w0 w1 w2 w3 w4 w5 w6 w7 w8 w9 : Nat) (pt pa p1 p2 : UInt32) (tl ta fa it dp tv tn tb th te : Int32) (hh : Int64) (ar : Nat → Int32) (z : Sg) (hR : rM z ar pt) : CQ l E yX9_unload wsX9_unload rmX9_unload [.ref w0] [(w0, ee_o 9 [.ref w1, .ref w2, .ref w3, .ref w4, .float pt, .float pa, .float p1, .float p2, .ref w5, .int tl, .int ta, .int fa, .ref w6, .ref w7, .int it, .ref w8, .ref w9, .int dp, .int tv, .int tn, .int tb, .int th, .int te, .long hh]), (w1, ee_i E 204 ar)] (QI E (fun (r : Int32) (u : Nat → Int32) => r = nI (gN z) ∧ rM (unS z) u pt) (fun (u : Nat → Int32) => [(w0, ee_o 9 [.ref w1, .ref w2, .ref w3, .ref w4, .float pt, .float pa, .float p1, .float p2, .ref w5, .int tl, .int ta, .int fa, .ref w6, .ref w7, .int it, .ref w8, .ref w9, .int dp, .int tv, .int tn, .int tb, .int th, .int te, .long hh]), (w1, ee_i E 204 u)])) 0 0 := by
  refine CQ_ofW (cc := cX9_unload) (maxL := 2) (ret := (some .int)) (by decide) rfl (Nat.le_of_ble_eq_true rfl) ?_
  intro p e s m below meth c A Q hQ hx hb hr hml hown hlocks hnm hts hV hA hP hD hS ls hl
  have hl : lv_has ls 2 [(0, .ref w0)] := hl
  refine lv_aload_n hx hb dX9_unload_0 rfl (lv_at hl 0 rfl) ?_
  refine va_get (ci := 9) (v := .ref w1) (C := RX9) (T := TX9) (N := 24) hx hb hts i9_X9_unload hown hV.1 hP 0 rfl rfl 0 (by decide) (hts _ w1_X9_unload) (fun _ h9 => h9) rfl dX9_unload_1 ?_
  refine lv_iconst (v := nI 0) hx hb dX9_unload_4 (by decide) ?_
  refine ee_ild hx hb hV hP 1 rfl (j := 0) (by omega) (by decide) dX9_unload_5 ?_
  refine ee_to (z := nI (gN z)) (rM_N hR) ?_
  refine lv_istore_n (lv' := [(1, .int (nI (gN z))), (0, .ref w0)]) hx hb dX9_unload_6 rfl hl (by decide) rfl (fun ls hl => ?_)
  refine lv_aload_n hx hb dX9_unload_7 rfl (lv_at hl 1 rfl) ?_
  refine va_get (ci := 9) (v := .ref w1) (C := RX9) (T := TX9) (N := 24) hx hb hts i9_X9_unload hown hV.1 hP 0 rfl rfl 0 (by decide) (hts _ w1_X9_unload) (fun _ h9 => h9) rfl dX9_unload_8 ?_
  refine lv_iconst (v := nI 0) hx hb dX9_unload_11 (by decide) ?_
  refine lv_iconst (v := nI 0) hx hb dX9_unload_12 (by decide) ?_
  refine ee_ist hx hb hV hP hD hS 1 rfl (j := 0) (by omega) (by decide) dX9_unload_13 (fun H locs hP hD hS => ?_)
  have hP : va_P E.1 vwCl [(w0, ee_o 9 [.ref w1, .ref w2, .ref w3, .ref w4, .float pt, .float pa, .float p1, .float p2, .ref w5, .int tl, .int ta, .int fa, .ref w6, .ref w7, .int it, .ref w8, .ref w9, .int dp, .int tv, .int tn, .int tb, .int th, .int te, .long hh]), (w1, ee_i E 204 (upd ar 0 (nI 0)))] H := hP
  have hD : va_D A [(w0, ee_o 9 [.ref w1, .ref w2, .ref w3, .ref w4, .float pt, .float pa, .float p1, .float p2, .ref w5, .int tl, .int ta, .int fa, .ref w6, .ref w7, .int it, .ref w8, .ref w9, .int dp, .int tv, .int tn, .int tb, .int th, .int te, .long hh]), (w1, ee_i E 204 (upd ar 0 (nI 0)))] := hD
  refine lv_iload_n hx hb dX9_unload_14 rfl (lv_at hl 0 rfl) ?_
  exact ee_fi hQ hx hb hr (rfl) hlocks hS (upd ar 0 (nI 0)) (⟨rfl, rM_un hR⟩) hP hD dX9_unload_15
abbrev rmX9_item : Room := ({ frames := 1, cells := 0, slots := 0, locals := 23 } : Room)
theorem w1_X9_item : Cond.fieldLink RX9 7 "LabelApplicatorModel" "m" "[I" ∈ wsX9_item := List.mem_of_getElem? (i := 1) (by decide +kernel)
theorem w2_X9_item : Cond.methodLink RX9 43 yX9_in ∈ wsX9_item := List.mem_of_getElem? (i := 2) (by decide +kernel)
theorem w4_X9_item : Cond.initialized RX9 ∈ wsX9_item := List.mem_of_getElem? (i := 4) (by decide +kernel)
theorem w6_X9_item : Cond.methodLink RX9 97 yX9_lengthBefore ∈ wsX9_item := List.mem_of_getElem? (i := 6) (by decide +kernel)
theorem i9_X9_item : ∀ w ∈ wsX90, w ∈ wsX9_item := fun w h => (goodIn_r _ [10, 11, 12, 13, 14, 15, 16, 17, 18, 19, 20, 21, 22, 23, 24, 25, 26, 27, 28, 29, 30, 31, 32, 33] (by decide +kernel) (by decide +kernel) w h).1
set_option maxHeartbeats 4000000 in
set_option maxRecDepth 100000 in
theorem kX9_item (l : Launch) (E : ee_T) (w0 w1 w2 w3 w4 w5 w6 w7 w8 w9 : Nat) (pt pa p1 p2 : UInt32) (tl ta fa it dp tv tn tb th te : Int32) (hh : Int64) (ar : Nat → Int32) (z : Sg) (x y : Int32) (hR : rM z ar pt) : CQ l E yX9_item wsX9_item rmX9_item [.ref w0, .int x, .int y] [(w0, ee_o 9 [.ref w1, .ref w2, .ref w3, .ref w4, .float pt, .float pa, .float p1, .float p2, .ref w5, .int tl, .int ta, .int fa, .ref w6, .ref w7, .int it, .ref w8, .ref w9, .int dp, .int tv, .int tn, .int tb, .int th, .int te, .long hh]), (w1, ee_i E 204 ar)] (QI E (fun (r : Int32) (u : Unit) => r = itA z x y) (fun (u : Unit) => [(w0, ee_o 9 [.ref w1, .ref w2, .ref w3, .ref w4, .float pt, .float pa, .float p1, .float p2, .ref w5, .int tl, .int ta, .int fa, .ref w6, .ref w7, .int it, .ref w8, .ref w9, .int dp, .int tv, .int tn, .int tb, .int th, .int te, .long hh]), (w1, ee_i E 204 ar)])) 0 0 := by
  refine CQ_ofW (cc := cX9_item) (maxL := 3) (ret := (some .int)) (by decide) rfl (Nat.le_of_ble_eq_true rfl) ?_
  intro p e s m below meth c A Q hQ hx hb hr hml hown hlocks hnm hts hV hA hP hD hS ls hl
  have hl : lv_has ls 3 [(0, .ref w0), (1, .int x), (2, .int y)] := hl
  have hN := hR.1.1
  refine lv_iload_n hx hb dX9_item_0 rfl (lv_at hl 1 rfl) ?_
  refine lv_if_lt (tgt := 13) hx hb dX9_item_1 (by decide) (fun g1 => ?_) (fun g1 => ?_)
  · refine lv_bipush (v := (-2)) hx hb dX9_item_13 (by decide) ?_
    exact ee_fi hQ hx hb hr (rfl) hlocks hS () (by rw [itA, if_pos g1]) hP hD dX9_item_15
  · refine lv_iload_n hx hb dX9_item_4 rfl (lv_at hl 2 rfl) ?_
    refine lv_iconst (v := nI 0) hx hb dX9_item_5 (by decide) ?_
    refine lv_iconst (v := nI 2) hx hb dX9_item_6 (by decide) ?_
    refine ee_ki (wr := [(w0, ee_o 9 [.ref w1, .ref w2, .ref w3, .ref w4, .float pt, .float pa, .float p1, .float p2, .ref w5, .int tl, .int ta, .int fa, .ref w6, .ref w7, .int it, .ref w8, .ref w9, .int dp, .int tv, .int tn, .int tb, .int th, .int te, .long hh]), (w1, ee_i E 204 ar)]) (ee_rS (As := [.int y, .int (nI 0), .int (nI 2)]) (rest := []) (kX9_in l E y (nI 0) (nI 2)) hx hb hml hown hts 3 gX9_item_X9_in rfl rfl rfl (by decide +kernel) ⟨Nat.le_of_ble_eq_true rfl, Nat.le_of_ble_eq_true rfl⟩ hV hP hD hS hA [] rfl (by decide) hl rfl rfl (Nat.le_of_ble_eq_true rfl) dX9_item_7 ⟨Nat.le_of_ble_eq_true rfl, Nat.le_of_ble_eq_true rfl⟩) hP hD hS hA [] [0, 1] rfl rfl (by decide) (by decide) (fun r_1 u_2 H locs hp_3 hP hD hS => ?_)
    have hP : va_P E.1 vwCl [(w0, ee_o 9 [.ref w1, .ref w2, .ref w3, .ref w4, .float pt, .float pa, .float p1, .float p2, .ref w5, .int tl, .int ta, .int fa, .ref w6, .ref w7, .int it, .ref w8, .ref w9, .int dp, .int tv, .int tn, .int tb, .int th, .int te, .long hh]), (w1, ee_i E 204 ar)] H := hP
    have hD : va_D A [(w0, ee_o 9 [.ref w1, .ref w2, .ref w3, .ref w4, .float pt, .float pa, .float p1, .float p2, .ref w5, .int tl, .int ta, .int fa, .ref w6, .ref w7, .int it, .ref w8, .ref w9, .int dp, .int tv, .int tn, .int tb, .int th, .int te, .long hh]), (w1, ee_i E 204 ar)] := hD
    rcases hp_3 with ⟨rfl, hc1⟩ | ⟨rfl, hc2⟩
    · obtain ⟨yy, y_1, y_2, rfl⟩ := inR_nat (by decide) (by decide) hc1
      refine ee_ne0 (tgt := 16) hx hb (by omega) dX9_item_10 (by decide) (fun h_6 => ?_) (fun h_6 => absurd h_6 (by decide))
      refine lv_iload_n hx hb dX9_item_16 rfl (lv_at hl 1 rfl) ?_
      refine lv_aload_n hx hb dX9_item_17 rfl (lv_at hl 0 rfl) ?_
      refine va_get (ci := 9) (v := .ref w1) (C := RX9) (T := TX9) (N := 24) hx hb hts i9_X9_item hown hV.1 hP 0 rfl rfl 0 (by decide) (hts _ w1_X9_item) (fun _ h9 => h9) rfl dX9_item_18 ?_
      refine lv_iconst (v := nI 0) hx hb dX9_item_21 (by decide) ?_
      refine ee_ild hx hb hV hP 1 rfl (j := 0) (by omega) (by decide) dX9_item_22 ?_
      refine ee_to (z := nI (gN z)) (rM_N hR) ?_
      refine lv_icmp_lt (tgt := 28) hx hb dX9_item_23 (by decide) (fun g23 => ?_) (fun g23 => ?_)
      · obtain ⟨ii, hii, rfl⟩ := nat_lt g1 (by omega) g23
        rcases (show yy = 0 ∨ yy = 1 ∨ yy = 2 by omega) with rfl | rfl | rfl
        · refine lv_iload_n hx hb dX9_item_28 rfl (lv_at hl 2 rfl) ?_
          refine ee_ne0 (tgt := 43) hx hb (by omega) dX9_item_29 (by decide) (fun h_7 => absurd h_7 (by decide)) (fun h_7 => ?_)
          refine lv_aload_n hx hb dX9_item_32 rfl (lv_at hl 0 rfl) ?_
          refine va_get (ci := 9) (v := .ref w1) (C := RX9) (T := TX9) (N := 24) hx hb hts i9_X9_item hown hV.1 hP 0 rfl rfl 0 (by decide) (hts _ w1_X9_item) (fun _ h9 => h9) rfl dX9_item_33 ?_
          refine lv_iconst (v := nI 1) hx hb dX9_item_36 (by decide) ?_
          refine lv_iload_n hx hb dX9_item_37 rfl (lv_at hl 1 rfl) ?_
          refine ee_iadd hx hb dX9_item_38 ?_
          refine ee_ild hx hb hV hP 1 rfl (j := (1 + ii)) (by omega) (by decide) dX9_item_39 ?_
          refine ee_to (z := gK z ii) ((rM_W hR ii hii).1) ?_
          refine lv_goto (tgt := 65) hx hb dX9_item_40 (by decide) ?_
          exact ee_fi hQ hx hb hr (rfl) hlocks hS () (by rw [itA, if_neg g1, inB_t hc1, if_pos rfl, if_neg (Int32.not_le.mpr g23), nv_nI (by omega), nv_nI (by omega)]; rfl) hP hD dX9_item_65
        · refine lv_iload_n hx hb dX9_item_28 rfl (lv_at hl 2 rfl) ?_
          refine ee_ne0 (tgt := 43) hx hb (by omega) dX9_item_29 (by decide) (fun h_8 => ?_) (fun h_8 => absurd h_8 (by decide))
          refine lv_iload_n hx hb dX9_item_43 rfl (lv_at hl 2 rfl) ?_
          refine lv_iconst (v := nI 1) hx hb dX9_item_44 (by decide) ?_
          refine ee_ne (tgt := 60) hx hb (by omega) (by omega) dX9_item_45 (by decide) (fun h_9 => absurd h_9 (by decide)) (fun h_9 => ?_)
          refine lv_aload_n hx hb dX9_item_48 rfl (lv_at hl 0 rfl) ?_
          refine va_get (ci := 9) (v := .ref w1) (C := RX9) (T := TX9) (N := 24) hx hb hts i9_X9_item hown hV.1 hP 0 rfl rfl 0 (by decide) (hts _ w1_X9_item) (fun _ h9 => h9) rfl dX9_item_49 ?_
          refine lv_bipush (v := nI 81) hx hb dX9_item_52 (by decide) ?_
          refine lv_iload_n hx hb dX9_item_54 rfl (lv_at hl 1 rfl) ?_
          refine ee_iadd hx hb dX9_item_55 ?_
          refine ee_ild hx hb hV hP 1 rfl (j := (81 + ii)) (by omega) (by decide) dX9_item_56 ?_
          refine ee_to (z := gL z ii) ((rM_W hR ii hii).2) ?_
          refine lv_goto (tgt := 65) hx hb dX9_item_57 (by decide) ?_
          exact ee_fi hQ hx hb hr (rfl) hlocks hS () (by rw [itA, if_neg g1, inB_t hc1, if_pos rfl, if_neg (Int32.not_le.mpr g23), nv_nI (by omega), nv_nI (by omega)]; rfl) hP hD dX9_item_65
        · refine lv_iload_n hx hb dX9_item_28 rfl (lv_at hl 2 rfl) ?_
          refine ee_ne0 (tgt := 43) hx hb (by omega) dX9_item_29 (by decide) (fun h_10 => ?_) (fun h_10 => absurd h_10 (by decide))
          refine lv_iload_n hx hb dX9_item_43 rfl (lv_at hl 2 rfl) ?_
          refine lv_iconst (v := nI 1) hx hb dX9_item_44 (by decide) ?_
          refine ee_ne (tgt := 60) hx hb (by omega) (by omega) dX9_item_45 (by decide) (fun h_11 => ?_) (fun h_11 => absurd h_11 (by decide))
          refine lv_aload_n hx hb dX9_item_60 rfl (lv_at hl 0 rfl) ?_
          refine lv_iload_n hx hb dX9_item_61 rfl (lv_at hl 1 rfl) ?_
          refine ee_ki (wr := []) (ee_rV (As := [.int (nI ii)]) (rest := []) (kX9_lengthBefore l E w0 w1 w2 w3 w4 w5 w6 w7 w8 w9 pt pa p1 p2 tl ta fa it dp tv tn tb th te hh ar ii (by omega)) hx hb hml hown hts 1 gX9_item_X9_lengthBefore rfl rfl rfl (by decide +kernel) ⟨Nat.le_of_ble_eq_true rfl, Nat.le_of_ble_eq_true rfl⟩ hV hP hD hS hA [0, 1] rfl (by decide) hl 0 rfl rfl rfl rfl (Nat.le_of_ble_eq_true rfl) dX9_item_62 ⟨Nat.le_of_ble_eq_true rfl, Nat.le_of_ble_eq_true rfl⟩) hP hD hS hA [0, 1] [] rfl rfl (by decide) (by decide) (fun r_12 u_13 H locs hp_14 hP hD hS => ?_)
          subst hp_14
          have hP : va_P E.1 vwCl [(w0, ee_o 9 [.ref w1, .ref w2, .ref w3, .ref w4, .float pt, .float pa, .float p1, .float p2, .ref w5, .int tl, .int ta, .int fa, .ref w6, .ref w7, .int it, .ref w8, .ref w9, .int dp, .int tv, .int tn, .int tb, .int th, .int te, .long hh]), (w1, ee_i E 204 ar)] H := hP
          have hD : va_D A [(w0, ee_o 9 [.ref w1, .ref w2, .ref w3, .ref w4, .float pt, .float pa, .float p1, .float p2, .ref w5, .int tl, .int ta, .int fa, .ref w6, .ref w7, .int it, .ref w8, .ref w9, .int dp, .int tv, .int tn, .int tb, .int th, .int te, .long hh]), (w1, ee_i E 204 ar)] := hD
          exact ee_fi hQ hx hb hr (rfl) hlocks hS () (by rw [itA, if_neg g1, inB_t hc1, if_pos rfl, if_neg (Int32.not_le.mpr g23), nv_nI (by omega), nv_nI (by omega)]; exact sumF_cg ii (fun j hj => by rw [Nat.zero_add]; exact (rM_W hR j (by omega)).2)) hP hD dX9_item_65
      · refine lv_iconst (v := (-1)) hx hb dX9_item_26 (by decide) ?_
        exact ee_fi hQ hx hb hr (rfl) hlocks hS () (by rw [itA, if_neg g1, inB_t hc1, if_pos rfl, if_pos (Int32.not_lt.mp g23)]) hP hD dX9_item_27
    · refine ee_ne0 (tgt := 16) hx hb (by omega) dX9_item_10 (by decide) (fun h_15 => absurd h_15 (by decide)) (fun h_15 => ?_)
      refine lv_bipush (v := (-2)) hx hb dX9_item_13 (by decide) ?_
      exact ee_fi hQ hx hb hr (rfl) hlocks hS () (by rw [itA, if_neg g1, inB_f hc2]; rfl) hP hD dX9_item_15
abbrev rmX9_set : Room := ({ frames := 1, cells := 0, slots := 0, locals := 22 } : Room)
theorem w1_X9_set : Cond.fieldLink RX9 7 "LabelApplicatorModel" "m" "[I" ∈ wsX9_set := List.mem_of_getElem? (i := 1) (by decide +kernel)
theorem w2_X9_set : Cond.methodLink RX9 43 yX9_in ∈ wsX9_set := List.mem_of_getElem? (i := 2) (by decide +kernel)
theorem w4_X9_set : Cond.initialized RX9 ∈ wsX9_set := List.mem_of_getElem? (i := 4) (by decide +kernel)
theorem w6_X9_set : Cond.methodLink RX9 100 yX9_least ∈ wsX9_set := List.mem_of_getElem? (i := 6) (by decide +kernel)
theorem w9_X9_set : Cond.methodLink RX9 103 yX9_most ∈ wsX9_set := List.mem_of_getElem? (i := 9) (by decide +kernel)
theorem i9_X9_set : ∀ w ∈ wsX90, w ∈ wsX9_set := fun w h => (goodIn_r _ [12, 13, 14, 15, 16, 17, 18, 19, 20, 21, 22, 23, 24, 25, 26, 27, 28, 29, 30, 31, 32, 33, 34, 35] (by decide +kernel) (by decide +kernel) w h).1
set_option maxHeartbeats 4000000 in
set_option maxRecDepth 100000 in
theorem kX9_set (l : Launch) (E : ee_T) (w0 w1 w2 w3 w4 w5 w6 w7 w8 w9 : Nat) (pt pa p1 p2 : UInt32) (tl ta fa it dp tv tn tb th te : Int32) (hh : Int64) (ar : Nat → Int32) (z : Sg) (x y : Int32) (hR : rM z ar pt) : CQ l E yX9_set wsX9_set rmX9_set [.ref w0, .int x, .int y] [(w0, ee_o 9 [.ref w1, .ref w2, .ref w3, .ref w4, .float pt, .float pa, .float p1, .float p2, .ref w5, .int tl, .int ta, .int fa, .ref w6, .ref w7, .int it, .ref w8, .ref w9, .int dp, .int tv, .int tn, .int tb, .int th, .int te, .long hh]), (w1, ee_i E 204 ar)] (QI E (fun (r : Int32) (u : Nat → Int32) => r = (setA z x y).1 ∧ rM (setA z x y).2 u pt) (fun (u : Nat → Int32) => [(w0, ee_o 9 [.ref w1, .ref w2, .ref w3, .ref w4, .float pt, .float pa, .float p1, .float p2, .ref w5, .int tl, .int ta, .int fa, .ref w6, .ref w7, .int it, .ref w8, .ref w9, .int dp, .int tv, .int tn, .int tb, .int th, .int te, .long hh]), (w1, ee_i E 204 u)])) 0 0 := by
  refine CQ_ofW (cc := cX9_set) (maxL := 4) (ret := (some .int)) (by decide) rfl (Nat.le_of_ble_eq_true rfl) ?_
  intro p e s m below meth c A Q hQ hx hb hr hml hown hlocks hnm hts hV hA hP hD hS ls hl
  have hl : lv_has ls 4 [(0, .ref w0), (1, .int x), (2, .int y)] := hl
  refine lv_iload_n hx hb dX9_set_0 rfl (lv_at hl 1 rfl) ?_
  refine lv_iconst (v := nI 0) hx hb dX9_set_1 (by decide) ?_
  refine lv_bipush (v := nI 7) hx hb dX9_set_2 (by decide) ?_
  refine ee_ki (wr := [(w0, ee_o 9 [.ref w1, .ref w2, .ref w3, .ref w4, .float pt, .float pa, .float p1, .float p2, .ref w5, .int tl, .int ta, .int fa, .ref w6, .ref w7, .int it, .ref w8, .ref w9, .int dp, .int tv, .int tn, .int tb, .int th, .int te, .long hh]), (w1, ee_i E 204 ar)]) (ee_rS (As := [.int x, .int (nI 0), .int (nI 7)]) (rest := []) (kX9_in l E x (nI 0) (nI 7)) hx hb hml hown hts 3 gX9_set_X9_in rfl rfl rfl (by decide +kernel) ⟨Nat.le_of_ble_eq_true rfl, Nat.le_of_ble_eq_true rfl⟩ hV hP hD hS hA [] rfl (by decide) hl rfl rfl (Nat.le_of_ble_eq_true rfl) dX9_set_4 ⟨Nat.le_of_ble_eq_true rfl, Nat.le_of_ble_eq_true rfl⟩) hP hD hS hA [] [0, 1] rfl rfl (by decide) (by decide) (fun r_1 u_2 H locs hp_3 hP hD hS => ?_)
  have hP : va_P E.1 vwCl [(w0, ee_o 9 [.ref w1, .ref w2, .ref w3, .ref w4, .float pt, .float pa, .float p1, .float p2, .ref w5, .int tl, .int ta, .int fa, .ref w6, .ref w7, .int it, .ref w8, .ref w9, .int dp, .int tv, .int tn, .int tb, .int th, .int te, .long hh]), (w1, ee_i E 204 ar)] H := hP
  have hD : va_D A [(w0, ee_o 9 [.ref w1, .ref w2, .ref w3, .ref w4, .float pt, .float pa, .float p1, .float p2, .ref w5, .int tl, .int ta, .int fa, .ref w6, .ref w7, .int it, .ref w8, .ref w9, .int dp, .int tv, .int tn, .int tb, .int th, .int te, .long hh]), (w1, ee_i E 204 ar)] := hD
  rcases hp_3 with ⟨rfl, hc1⟩ | ⟨rfl, hc2⟩
  · obtain ⟨xx, x_1, x_2, rfl⟩ := inR_nat (by decide) (by decide) hc1
    have hsb := st_bd (w := xx) (by omega)
    refine ee_eq0 (tgt := 25) hx hb (by omega) dX9_set_7 (by decide) (fun h_6 => absurd h_6 (by decide)) (fun h_6 => ?_)
    refine lv_iload_n hx hb dX9_set_10 rfl (lv_at hl 2 rfl) ?_
    refine lv_iload_n hx hb dX9_set_11 rfl (lv_at hl 1 rfl) ?_
    refine ee_ki (wr := [(w0, ee_o 9 [.ref w1, .ref w2, .ref w3, .ref w4, .float pt, .float pa, .float p1, .float p2, .ref w5, .int tl, .int ta, .int fa, .ref w6, .ref w7, .int it, .ref w8, .ref w9, .int dp, .int tv, .int tn, .int tb, .int th, .int te, .long hh]), (w1, ee_i E 204 ar)]) (ee_rS (As := [.int (nI xx)]) (rest := [.int y]) (kX9_least l E xx (by omega)) hx hb hml hown hts 1 gX9_set_X9_least rfl rfl rfl (by decide +kernel) ⟨Nat.le_of_ble_eq_true rfl, Nat.le_of_ble_eq_true rfl⟩ hV hP hD hS hA [] rfl (by decide) hl rfl rfl (Nat.le_of_ble_eq_true rfl) dX9_set_12 ⟨Nat.le_of_ble_eq_true rfl, Nat.le_of_ble_eq_true rfl⟩) hP hD hS hA [] [0, 1] rfl rfl (by decide) (by decide) (fun r_7 u_8 H locs hp_9 hP hD hS => ?_)
    subst hp_9
    have hP : va_P E.1 vwCl [(w0, ee_o 9 [.ref w1, .ref w2, .ref w3, .ref w4, .float pt, .float pa, .float p1, .float p2, .ref w5, .int tl, .int ta, .int fa, .ref w6, .ref w7, .int it, .ref w8, .ref w9, .int dp, .int tv, .int tn, .int tb, .int th, .int te, .long hh]), (w1, ee_i E 204 ar)] H := hP
    have hD : va_D A [(w0, ee_o 9 [.ref w1, .ref w2, .ref w3, .ref w4, .float pt, .float pa, .float p1, .float p2, .ref w5, .int tl, .int ta, .int fa, .ref w6, .ref w7, .int it, .ref w8, .ref w9, .int dp, .int tv, .int tn, .int tb, .int th, .int te, .long hh]), (w1, ee_i E 204 ar)] := hD
    refine lv_iload_n hx hb dX9_set_15 rfl (lv_at hl 1 rfl) ?_
    refine ee_ki (wr := [(w0, ee_o 9 [.ref w1, .ref w2, .ref w3, .ref w4, .float pt, .float pa, .float p1, .float p2, .ref w5, .int tl, .int ta, .int fa, .ref w6, .ref w7, .int it, .ref w8, .ref w9, .int dp, .int tv, .int tn, .int tb, .int th, .int te, .long hh]), (w1, ee_i E 204 ar)]) (ee_rS (As := [.int (nI xx)]) (rest := [.int (nI (st_lo xx)), .int y]) (kX9_most l E xx (by omega)) hx hb hml hown hts 1 gX9_set_X9_most rfl rfl rfl (by decide +kernel) ⟨Nat.le_of_ble_eq_true rfl, Nat.le_of_ble_eq_true rfl⟩ hV hP hD hS hA [] rfl (by decide) hl rfl rfl (Nat.le_of_ble_eq_true rfl) dX9_set_16 ⟨Nat.le_of_ble_eq_true rfl, Nat.le_of_ble_eq_true rfl⟩) hP hD hS hA [] [0, 1] rfl rfl (by decide) (by decide) (fun r_10 u_11 H locs hp_12 hP hD hS => ?_)
    subst hp_12
    have hP : va_P E.1 vwCl [(w0, ee_o 9 [.ref w1, .ref w2, .ref w3, .ref w4, .float pt, .float pa, .float p1, .float p2, .ref w5, .int tl, .int ta, .int fa, .ref w6, .ref w7, .int it, .ref w8, .ref w9, .int dp, .int tv, .int tn, .int tb, .int th, .int te, .long hh]), (w1, ee_i E 204 ar)] H := hP
    have hD : va_D A [(w0, ee_o 9 [.ref w1, .ref w2, .ref w3, .ref w4, .float pt, .float pa, .float p1, .float p2, .ref w5, .int tl, .int ta, .int fa, .ref w6, .ref w7, .int it, .ref w8, .ref w9, .int dp, .int tv, .int tn, .int tb, .int th, .int te, .long hh]), (w1, ee_i E 204 ar)] := hD
    refine ee_ki (wr := [(w0, ee_o 9 [.ref w1, .ref w2, .ref w3, .ref w4, .float pt, .float pa, .float p1, .float p2, .ref w5, .int tl, .int ta, .int fa, .ref w6, .ref w7, .int it, .ref w8, .ref w9, .int dp, .int tv, .int tn, .int tb, .int th, .int te, .long hh]), (w1, ee_i E 204 ar)]) (ee_rS (As := [.int y, .int (nI (st_lo xx)), .int (nI (st_hi xx))]) (rest := []) (kX9_in l E y (nI (st_lo xx)) (nI (st_hi xx))) hx hb hml hown hts 3 gX9_set_X9_in rfl rfl rfl (by decide +kernel) ⟨Nat.le_of_ble_eq_true rfl, Nat.le_of_ble_eq_true rfl⟩ hV hP hD hS hA [] rfl (by decide) hl rfl rfl (Nat.le_of_ble_eq_true rfl) dX9_set_19 ⟨Nat.le_of_ble_eq_true rfl, Nat.le_of_ble_eq_true rfl⟩) hP hD hS hA [] [0, 1] rfl rfl (by decide) (by decide) (fun r_13 u_14 H locs hp_15 hP hD hS => ?_)
    have hP : va_P E.1 vwCl [(w0, ee_o 9 [.ref w1, .ref w2, .ref w3, .ref w4, .float pt, .float pa, .float p1, .float p2, .ref w5, .int tl, .int ta, .int fa, .ref w6, .ref w7, .int it, .ref w8, .ref w9, .int dp, .int tv, .int tn, .int tb, .int th, .int te, .long hh]), (w1, ee_i E 204 ar)] H := hP
    have hD : va_D A [(w0, ee_o 9 [.ref w1, .ref w2, .ref w3, .ref w4, .float pt, .float pa, .float p1, .float p2, .ref w5, .int tl, .int ta, .int fa, .ref w6, .ref w7, .int it, .ref w8, .ref w9, .int dp, .int tv, .int tn, .int tb, .int th, .int te, .long hh]), (w1, ee_i E 204 ar)] := hD
    rcases hp_15 with ⟨rfl, hc3⟩ | ⟨rfl, hc4⟩
    · obtain ⟨yy, y_1, y_2, rfl⟩ := inR_nat (by omega) hsb.1 hc3
      refine ee_ne0 (tgt := 28) hx hb (by omega) dX9_set_22 (by decide) (fun h_18 => ?_) (fun h_18 => absurd h_18 (by decide))
      refine lv_aload_n hx hb dX9_set_28 rfl (lv_at hl 0 rfl) ?_
      refine va_get (ci := 9) (v := .ref w1) (C := RX9) (T := TX9) (N := 24) hx hb hts i9_X9_set hown hV.1 hP 0 rfl rfl 0 (by decide) (hts _ w1_X9_set) (fun _ h9 => h9) rfl dX9_set_29 ?_
      refine lv_sipush (v := nI 161) hx hb dX9_set_32 (by decide) ?_
      refine lv_iload_n hx hb dX9_set_35 rfl (lv_at hl 1 rfl) ?_
      refine ee_iadd hx hb dX9_set_36 ?_
      refine ee_ild hx hb hV hP 1 rfl (j := (161 + xx)) (by omega) (by decide) dX9_set_37 ?_
      refine ee_to (z := gS z xx) (rM_S hR xx (by omega)) ?_
      refine lv_istore_n (lv' := [(3, .int (gS z xx)), (0, .ref w0), (1, .int (nI xx)), (2, .int (nI yy))]) hx hb dX9_set_38 rfl hl (by decide) rfl (fun ls hl => ?_)
      refine lv_aload_n hx hb dX9_set_39 rfl (lv_at hl 1 rfl) ?_
      refine va_get (ci := 9) (v := .ref w1) (C := RX9) (T := TX9) (N := 24) hx hb hts i9_X9_set hown hV.1 hP 0 rfl rfl 0 (by decide) (hts _ w1_X9_set) (fun _ h9 => h9) rfl dX9_set_40 ?_
      refine lv_sipush (v := nI 161) hx hb dX9_set_43 (by decide) ?_
      refine lv_iload_n hx hb dX9_set_46 rfl (lv_at hl 2 rfl) ?_
      refine ee_iadd hx hb dX9_set_47 ?_
      refine lv_iload_n hx hb dX9_set_48 rfl (lv_at hl 3 rfl) ?_
      refine ee_ist hx hb hV hP hD hS 1 rfl (j := (161 + xx)) (by omega) (by decide) dX9_set_49 (fun H locs hP hD hS => ?_)
      have hP : va_P E.1 vwCl [(w0, ee_o 9 [.ref w1, .ref w2, .ref w3, .ref w4, .float pt, .float pa, .float p1, .float p2, .ref w5, .int tl, .int ta, .int fa, .ref w6, .ref w7, .int it, .ref w8, .ref w9, .int dp, .int tv, .int tn, .int tb, .int th, .int te, .long hh]), (w1, ee_i E 204 (upd ar (161 + xx) (nI yy)))] H := hP
      have hD : va_D A [(w0, ee_o 9 [.ref w1, .ref w2, .ref w3, .ref w4, .float pt, .float pa, .float p1, .float p2, .ref w5, .int tl, .int ta, .int fa, .ref w6, .ref w7, .int it, .ref w8, .ref w9, .int dp, .int tv, .int tn, .int tb, .int th, .int te, .long hh]), (w1, ee_i E 204 (upd ar (161 + xx) (nI yy)))] := hD
      refine lv_iload_n hx hb dX9_set_50 rfl (lv_at hl 0 rfl) ?_
      exact ee_fi hQ hx hb hr (rfl) hlocks hS (upd ar (161 + xx) (nI yy)) (by rw [setA, inB_t hc1, nv_nI (by omega), inB_t hc3]; exact ⟨rfl, rM_set hR (by omega) y_1 y_2 (fun _ _ _ => rfl)⟩) hP hD dX9_set_51
    · refine ee_ne0 (tgt := 28) hx hb (by omega) dX9_set_22 (by decide) (fun h_19 => absurd h_19 (by decide)) (fun h_19 => ?_)
      refine lv_bipush (v := (-2)) hx hb dX9_set_25 (by decide) ?_
      exact ee_fi hQ hx hb hr (rfl) hlocks hS ar (by rw [setA, inB_t hc1, nv_nI (by omega), inB_f hc4]; exact ⟨rfl, hR⟩) hP hD dX9_set_27
  · refine ee_eq0 (tgt := 25) hx hb (by omega) dX9_set_7 (by decide) (fun h_20 => ?_) (fun h_20 => absurd h_20 (by decide))
    refine lv_bipush (v := (-2)) hx hb dX9_set_25 (by decide) ?_
    exact ee_fi hQ hx hb hr (rfl) hlocks hS ar (by rw [setA, inB_f hc2]; exact ⟨rfl, hR⟩) hP hD dX9_set_27
