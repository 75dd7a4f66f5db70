/-! the law's small methods -/
abbrev rmL_low : Room := ({ frames := 0, cells := 0, slots := 0, locals := 0 } : Room)
theorem w1_L_low : Cond.constant RL 8 (2147483647) ∈ wsL_low := List.mem_of_getElem? (i := 1) (by decide +kernel)
set_option maxHeartbeats 4000000 in
set_option maxRecDepth 100000 in
theorem kL_low (l : Launch) (E : ee_T) (x : Int32) (n : Nat) (hn1 : 1 ≤ n) (hn2 : n < 2 ^ 31) : CQ l E yL_low wsL_low rmL_low [.int x, .int (nI n)] [] (QI E (fun (r : Int32) (u : Unit) => r = nI (loN x n)) (fun (u : Unit) => [])) 0 0 := by
  refine CQ_ofW (cc := cL_low) (maxL := 2) (ret := (some .int)) (by decide) rfl (Nat.le_of_ble_eq_true rfl) ?_
  intro p e s m below meth c A Q hQ hx hb hr hml hown hlocks hnm hts hV hA hP hD hS ls hl
  have hl : lv_has ls 2 [(0, .int x), (1, .int (nI n))] := hl
  refine lv_iload_n hx hb dL_low_0 rfl (lv_at hl 0 rfl) ?_
  refine lv_ldc hx hb hown (hts _ w1_L_low) dL_low_1 ?_
  refine ee_to (z := nI 2147483647) rfl ?_
  refine lv_iand hx hb dL_low_3 ?_
  refine ee_to (z := nI (lo31 x)) (lo31_e x) ?_
  refine lv_iload_n hx hb dL_low_4 rfl (lv_at hl 1 rfl) ?_
  refine lv_irem hx hb dL_low_5 (nI_ne0 hn1 hn2) ?_
  refine ee_to (z := nI ((lo31 x) % n)) (pk_rem (lo31_lt x) (hn1) (hn2)) ?_
  exact ee_fi hQ hx hb hr (rfl) hlocks hS () (rfl) hP hD dL_low_6
abbrev rmL_letter : Room := ({ frames := 0, cells := 0, slots := 0, locals := 0 } : Room)
set_option maxHeartbeats 4000000 in
set_option maxRecDepth 100000 in
theorem kL_letter (l : Launch) (E : ee_T) (k : Nat) (hk : k ≤ 3) : CQ l E yL_letter wsL_letter rmL_letter [.int (nI k)] [] (QI E (fun (r : Int32) (u : Unit) => r = nI (ltS k)) (fun (u : Unit) => [])) 0 0 := by
  refine CQ_ofW (cc := cL_letter) (maxL := 1) (ret := (some .int)) (by decide) rfl (Nat.le_of_ble_eq_true rfl) ?_
  intro p e s m below meth c A Q hQ hx hb hr hml hown hlocks hnm hts hV hA hP hD hS ls hl
  have hl : lv_has ls 1 [(0, .int (nI k))] := hl
  rcases (show k = 0 ∨ k = 1 ∨ k = 2 ∨ k = 3 by omega) with rfl | rfl | rfl | rfl
  · refine lv_iload_n hx hb dL_letter_0 rfl (lv_at hl 0 rfl) ?_
    refine ee_ne0 (tgt := 9) hx hb (by omega) dL_letter_1 (by decide) (fun h_1 => absurd h_1 (by decide)) (fun h_1 => ?_)
    refine lv_bipush (v := nI 108) hx hb dL_letter_4 (by decide) ?_
    refine lv_goto (tgt := 31) hx hb dL_letter_6 (by decide) ?_
    exact ee_fi hQ hx hb hr (rfl) hlocks hS () (rfl) hP hD dL_letter_31
  · refine lv_iload_n hx hb dL_letter_0 rfl (lv_at hl 0 rfl) ?_
    refine ee_ne0 (tgt := 9) hx hb (by omega) dL_letter_1 (by decide) (fun h_2 => ?_) (fun h_2 => absurd h_2 (by decide))
    refine lv_iload_n hx hb dL_letter_9 rfl (lv_at hl 0 rfl) ?_
    refine lv_iconst (v := nI 1) hx hb dL_letter_10 (by decide) ?_
    refine ee_ne (tgt := 19) hx hb (by omega) (by omega) dL_letter_11 (by decide) (fun h_3 => absurd h_3 (by decide)) (fun h_3 => ?_)
    refine lv_bipush (v := nI 103) hx hb dL_letter_14 (by decide) ?_
    refine lv_goto (tgt := 31) hx hb dL_letter_16 (by decide) ?_
    exact ee_fi hQ hx hb hr (rfl) hlocks hS () (rfl) hP hD dL_letter_31
  · refine lv_iload_n hx hb dL_letter_0 rfl (lv_at hl 0 rfl) ?_
    refine ee_ne0 (tgt := 9) hx hb (by omega) dL_letter_1 (by decide) (fun h_4 => ?_) (fun h_4 => absurd h_4 (by decide))
    refine lv_iload_n hx hb dL_letter_9 rfl (lv_at hl 0 rfl) ?_
    refine lv_iconst (v := nI 1) hx hb dL_letter_10 (by decide) ?_
    refine ee_ne (tgt := 19) hx hb (by omega) (by omega) dL_letter_11 (by decide) (fun h_5 => ?_) (fun h_5 => absurd h_5 (by decide))
    refine lv_iload_n hx hb dL_letter_19 rfl (lv_at hl 0 rfl) ?_
    refine lv_iconst (v := nI 2) hx hb dL_letter_20 (by decide) ?_
    refine ee_ne (tgt := 29) hx hb (by omega) (by omega) dL_letter_21 (by decide) (fun h_6 => absurd h_6 (by decide)) (fun h_6 => ?_)
    refine lv_bipush (v := nI 98) hx hb dL_letter_24 (by decide) ?_
    refine lv_goto (tgt := 31) hx hb dL_letter_26 (by decide) ?_
    exact ee_fi hQ hx hb hr (rfl) hlocks hS () (rfl) hP hD dL_letter_31
  · refine lv_iload_n hx hb dL_letter_0 rfl (lv_at hl 0 rfl) ?_
    refine ee_ne0 (tgt := 9) hx hb (by omega) dL_letter_1 (by decide) (fun h_7 => ?_) (fun h_7 => absurd h_7 (by decide))
    refine lv_iload_n hx hb dL_letter_9 rfl (lv_at hl 0 rfl) ?_
    refine lv_iconst (v := nI 1) hx hb dL_letter_10 (by decide) ?_
    refine ee_ne (tgt := 19) hx hb (by omega) (by omega) dL_letter_11 (by decide) (fun h_8 => ?_) (fun h_8 => absurd h_8 (by decide))
    refine lv_iload_n hx hb dL_letter_19 rfl (lv_at hl 0 rfl) ?_
    refine lv_iconst (v := nI 2) hx hb dL_letter_20 (by decide) ?_
    refine ee_ne (tgt := 29) hx hb (by omega) (by omega) dL_letter_21 (by decide) (fun h_9 => ?_) (fun h_9 => absurd h_9 (by decide))
    refine lv_bipush (v := nI 115) hx hb dL_letter_29 (by decide) ?_
    exact ee_fi hQ hx hb hr (rfl) hlocks hS () (rfl) hP hD dL_letter_31
abbrev rmL_most : Room := ({ frames := 0, cells := 0, slots := 0, locals := 0 } : Room)
set_option maxHeartbeats 4000000 in
set_option maxRecDepth 100000 in
theorem kL_most (l : Launch) (E : ee_T) (k : Nat) (hk : k ≤ 7) : CQ l E yL_most wsL_most rmL_most [.int (nI k)] [] (QI E (fun (r : Int32) (u : Unit) => r = nI (st_hi k)) (fun (u : Unit) => [])) 0 0 := by
  refine CQ_ofW (cc := cL_most) (maxL := 1) (ret := (some .int)) (by decide) rfl (Nat.le_of_ble_eq_true rfl) ?_
  intro p e s m below meth c A Q hQ hx hb hr hml hown hlocks hnm hts hV hA hP hD hS ls hl
  have hl : lv_has ls 1 [(0, .int (nI k))] := hl
  rcases (show k = 0 ∨ k = 1 ∨ k = 2 ∨ k = 3 ∨ k = 4 ∨ k = 5 ∨ k = 6 ∨ k = 7 by omega) with rfl | rfl | rfl | rfl | rfl | rfl | rfl | rfl
  · refine lv_iload_n hx hb dL_most_0 rfl (lv_at hl 0 rfl) ?_
    refine ee_ne0 (tgt := 9) hx hb (by omega) dL_most_1 (by decide) (fun h_1 => absurd h_1 (by decide)) (fun h_1 => ?_)
    refine lv_bipush (v := nI 30) hx hb dL_most_4 (by decide) ?_
    refine lv_goto (tgt := 65) hx hb dL_most_6 (by decide) ?_
    exact ee_fi hQ hx hb hr (rfl) hlocks hS () (rfl) hP hD dL_most_65
  · refine lv_iload_n hx hb dL_most_0 rfl (lv_at hl 0 rfl) ?_
    refine ee_ne0 (tgt := 9) hx hb (by omega) dL_most_1 (by decide) (fun h_2 => ?_) (fun h_2 => absurd h_2 (by decide))
    refine lv_iload_n hx hb dL_most_9 rfl (lv_at hl 0 rfl) ?_
    refine lv_iconst (v := nI 1) hx hb dL_most_10 (by decide) ?_
    refine ee_ne (tgt := 19) hx hb (by omega) (by omega) dL_most_11 (by decide) (fun h_3 => absurd h_3 (by decide)) (fun h_3 => ?_)
    refine lv_bipush (v := nI 50) hx hb dL_most_14 (by decide) ?_
    refine lv_goto (tgt := 65) hx hb dL_most_16 (by decide) ?_
    exact ee_fi hQ hx hb hr (rfl) hlocks hS () (rfl) hP hD dL_most_65
  · refine lv_iload_n hx hb dL_most_0 rfl (lv_at hl 0 rfl) ?_
    refine ee_ne0 (tgt := 9) hx hb (by omega) dL_most_1 (by decide) (fun h_4 => ?_) (fun h_4 => absurd h_4 (by decide))
    refine lv_iload_n hx hb dL_most_9 rfl (lv_at hl 0 rfl) ?_
    refine lv_iconst (v := nI 1) hx hb dL_most_10 (by decide) ?_
    refine ee_ne (tgt := 19) hx hb (by omega) (by omega) dL_most_11 (by decide) (fun h_5 => ?_) (fun h_5 => absurd h_5 (by decide))
    refine lv_iload_n hx hb dL_most_19 rfl (lv_at hl 0 rfl) ?_
    refine lv_iconst (v := nI 2) hx hb dL_most_20 (by decide) ?_
    refine ee_ne (tgt := 30) hx hb (by omega) (by omega) dL_most_21 (by decide) (fun h_6 => absurd h_6 (by decide)) (fun h_6 => ?_)
    refine lv_sipush (v := nI 400) hx hb dL_most_24 (by decide) ?_
    refine lv_goto (tgt := 65) hx hb dL_most_27 (by decide) ?_
    exact ee_fi hQ hx hb hr (rfl) hlocks hS () (rfl) hP hD dL_most_65
  · refine lv_iload_n hx hb dL_most_0 rfl (lv_at hl 0 rfl) ?_
    refine ee_ne0 (tgt := 9) hx hb (by omega) dL_most_1 (by decide) (fun h_7 => ?_) (fun h_7 => absurd h_7 (by decide))
    refine lv_iload_n hx hb dL_most_9 rfl (lv_at hl 0 rfl) ?_
    refine lv_iconst (v := nI 1) hx hb dL_most_10 (by decide) ?_
    refine ee_ne (tgt := 19) hx hb (by omega) (by omega) dL_most_11 (by decide) (fun h_8 => ?_) (fun h_8 => absurd h_8 (by decide))
    refine lv_iload_n hx hb dL_most_19 rfl (lv_at hl 0 rfl) ?_
    refine lv_iconst (v := nI 2) hx hb dL_most_20 (by decide) ?_
    refine ee_ne (tgt := 30) hx hb (by omega) (by omega) dL_most_21 (by decide) (fun h_9 => ?_) (fun h_9 => absurd h_9 (by decide))
    refine lv_iload_n hx hb dL_most_30 rfl (lv_at hl 0 rfl) ?_
    refine lv_iconst (v := nI 5) hx hb dL_most_31 (by decide) ?_
    refine ee_ne (tgt := 40) hx hb (by omega) (by omega) dL_most_32 (by decide) (fun h_10 => ?_) (fun h_10 => absurd h_10 (by decide))
    refine lv_iload_n hx hb dL_most_40 rfl (lv_at hl 0 rfl) ?_
    refine lv_bipush (v := nI 6) hx hb dL_most_41 (by decide) ?_
    refine ee_ne (tgt := 51) hx hb (by omega) (by omega) dL_most_43 (by decide) (fun h_11 => ?_) (fun h_11 => absurd h_11 (by decide))
    refine lv_iload_n hx hb dL_most_51 rfl (lv_at hl 0 rfl) ?_
    refine lv_bipush (v := nI 7) hx hb dL_most_52 (by decide) ?_
    refine ee_ne (tgt := 62) hx hb (by omega) (by omega) dL_most_54 (by decide) (fun h_12 => ?_) (fun h_12 => absurd h_12 (by decide))
    refine lv_sipush (v := nI 1000) hx hb dL_most_62 (by decide) ?_
    exact ee_fi hQ hx hb hr (rfl) hlocks hS () (rfl) hP hD dL_most_65
  · refine lv_iload_n hx hb dL_most_0 rfl (lv_at hl 0 rfl) ?_
    refine ee_ne0 (tgt := 9) hx hb (by omega) dL_most_1 (by decide) (fun h_13 => ?_) (fun h_13 => absurd h_13 (by decide))
    refine lv_iload_n hx hb dL_most_9 rfl (lv_at hl 0 rfl) ?_
    refine lv_iconst (v := nI 1) hx hb dL_most_10 (by decide) ?_
    refine ee_ne (tgt := 19) hx hb (by omega) (by omega) dL_most_11 (by decide) (fun h_14 => ?_) (fun h_14 => absurd h_14 (by decide))
    refine lv_iload_n hx hb dL_most_19 rfl (lv_at hl 0 rfl) ?_
    refine lv_iconst (v := nI 2) hx hb dL_most_20 (by decide) ?_
    refine ee_ne (tgt := 30) hx hb (by omega) (by omega) dL_most_21 (by decide) (fun h_15 => ?_) (fun h_15 => absurd h_15 (by decide))
    refine lv_iload_n hx hb dL_most_30 rfl (lv_at hl 0 rfl) ?_
    refine lv_iconst (v := nI 5) hx hb dL_most_31 (by decide) ?_
    refine ee_ne (tgt := 40) hx hb (by omega) (by omega) dL_most_32 (by decide) (fun h_16 => ?_) (fun h_16 => absurd h_16 (by decide))
    refine lv_iload_n hx hb dL_most_40 rfl (lv_at hl 0 rfl) ?_
    refine lv_bipush (v := nI 6) hx hb dL_most_41 (by decide) ?_
    refine ee_ne (tgt := 51) hx hb (by omega) (by omega) dL_most_43 (by decide) (fun h_17 => ?_) (fun h_17 => absurd h_17 (by decide))
    refine lv_iload_n hx hb dL_most_51 rfl (lv_at hl 0 rfl) ?_
    refine lv_bipush (v := nI 7) hx hb dL_most_52 (by decide) ?_
    refine ee_ne (tgt := 62) hx hb (by omega) (by omega) dL_most_54 (by decide) (fun h_18 => ?_) (fun h_18 => absurd h_18 (by decide))
    refine lv_sipush (v := nI 1000) hx hb dL_most_62 (by decide) ?_
    exact ee_fi hQ hx hb hr (rfl) hlocks hS () (rfl) hP hD dL_most_65
  · refine lv_iload_n hx hb dL_most_0 rfl (lv_at hl 0 rfl) ?_
    refine ee_ne0 (tgt := 9) hx hb (by omega) dL_most_1 (by decide) (fun h_19 => ?_) (fun h_19 => absurd h_19 (by decide))
    refine lv_iload_n hx hb dL_most_9 rfl (lv_at hl 0 rfl) ?_
    refine lv_iconst (v := nI 1) hx hb dL_most_10 (by decide) ?_
    refine ee_ne (tgt := 19) hx hb (by omega) (by omega) dL_most_11 (by decide) (fun h_20 => ?_) (fun h_20 => absurd h_20 (by decide))
    refine lv_iload_n hx hb dL_most_19 rfl (lv_at hl 0 rfl) ?_
    refine lv_iconst (v := nI 2) hx hb dL_most_20 (by decide) ?_
    refine ee_ne (tgt := 30) hx hb (by omega) (by omega) dL_most_21 (by decide) (fun h_21 => ?_) (fun h_21 => absurd h_21 (by decide))
    refine lv_iload_n hx hb dL_most_30 rfl (lv_at hl 0 rfl) ?_
    refine lv_iconst (v := nI 5) hx hb dL_most_31 (by decide) ?_
    refine ee_ne (tgt := 40) hx hb (by omega) (by omega) dL_most_32 (by decide) (fun h_22 => absurd h_22 (by decide)) (fun h_22 => ?_)
    refine lv_bipush (v := nI 100) hx hb dL_most_35 (by decide) ?_
    refine lv_goto (tgt := 65) hx hb dL_most_37 (by decide) ?_
    exact ee_fi hQ hx hb hr (rfl) hlocks hS () (rfl) hP hD dL_most_65
  · refine lv_iload_n hx hb dL_most_0 rfl (lv_at hl 0 rfl) ?_
    refine ee_ne0 (tgt := 9) hx hb (by omega) dL_most_1 (by decide) (fun h_23 => ?_) (fun h_23 => absurd h_23 (by decide))
    refine lv_iload_n hx hb dL_most_9 rfl (lv_at hl 0 rfl) ?_
    refine lv_iconst (v := nI 1) hx hb dL_most_10 (by decide) ?_
    refine ee_ne (tgt := 19) hx hb (by omega) (by omega) dL_most_11 (by decide) (fun h_24 => ?_) (fun h_24 => absurd h_24 (by decide))
    refine lv_iload_n hx hb dL_most_19 rfl (lv_at hl 0 rfl) ?_
    refine lv_iconst (v := nI 2) hx hb dL_most_20 (by decide) ?_
    refine ee_ne (tgt := 30) hx hb (by omega) (by omega) dL_most_21 (by decide) (fun h_25 => ?_) (fun h_25 => absurd h_25 (by decide))
    refine lv_iload_n hx hb dL_most_30 rfl (lv_at hl 0 rfl) ?_
    refine lv_iconst (v := nI 5) hx hb dL_most_31 (by decide) ?_
    refine ee_ne (tgt := 40) hx hb (by omega) (by omega) dL_most_32 (by decide) (fun h_26 => ?_) (fun h_26 => absurd h_26 (by decide))
    refine lv_iload_n hx hb dL_most_40 rfl (lv_at hl 0 rfl) ?_
    refine lv_bipush (v := nI 6) hx hb dL_most_41 (by decide) ?_
    refine ee_ne (tgt := 51) hx hb (by omega) (by omega) dL_most_43 (by decide) (fun h_27 => absurd h_27 (by decide)) (fun h_27 => ?_)
    refine lv_bipush (v := nI 8) hx hb dL_most_46 (by decide) ?_
    refine lv_goto (tgt := 65) hx hb dL_most_48 (by decide) ?_
    exact ee_fi hQ hx hb hr (rfl) hlocks hS () (rfl) hP hD dL_most_65
  · refine lv_iload_n hx hb dL_most_0 rfl (lv_at hl 0 rfl) ?_
    refine ee_ne0 (tgt := 9) hx hb (by omega) dL_most_1 (by decide) (fun h_28 => ?_) (fun h_28 => absurd h_28 (by decide))
    refine lv_iload_n hx hb dL_most_9 rfl (lv_at hl 0 rfl) ?_
    refine lv_iconst (v := nI 1) hx hb dL_most_10 (by decide) ?_
    refine ee_ne (tgt := 19) hx hb (by omega) (by omega) dL_most_11 (by decide) (fun h_29 => ?_) (fun h_29 => absurd h_29 (by decide))
    refine lv_iload_n hx hb dL_most_19 rfl (lv_at hl 0 rfl) ?_
    refine lv_iconst (v := nI 2) hx hb dL_most_20 (by decide) ?_
    refine ee_ne (tgt := 30) hx hb (by omega) (by omega) dL_most_21 (by decide) (fun h_30 => ?_) (fun h_30 => absurd h_30 (by decide))
    refine lv_iload_n hx hb dL_most_30 rfl (lv_at hl 0 rfl) ?_
    refine lv_iconst (v := nI 5) hx hb dL_most_31 (by decide) ?_
    refine ee_ne (tgt := 40) hx hb (by omega) (by omega) dL_most_32 (by decide) (fun h_31 => ?_) (fun h_31 => absurd h_31 (by decide))
    refine lv_iload_n hx hb dL_most_40 rfl (lv_at hl 0 rfl) ?_
    refine lv_bipush (v := nI 6) hx hb dL_most_41 (by decide) ?_
    refine ee_ne (tgt := 51) hx hb (by omega) (by omega) dL_most_43 (by decide) (fun h_32 => ?_) (fun h_32 => absurd h_32 (by decide))
    refine lv_iload_n hx hb dL_most_51 rfl (lv_at hl 0 rfl) ?_
    refine lv_bipush (v := nI 7) hx hb dL_most_52 (by decide) ?_
    refine ee_ne (tgt := 62) hx hb (by omega) (by omega) dL_most_54 (by decide) (fun h_33 => absurd h_33 (by decide)) (fun h_33 => ?_)
    refine lv_bipush (v := nI 9) hx hb dL_most_57 (by decide) ?_
    refine lv_goto (tgt := 65) hx hb dL_most_59 (by decide) ?_
    exact ee_fi hQ hx hb hr (rfl) hlocks hS () (rfl) hP hD dL_most_65
abbrev rmL_least : Room := ({ frames := 0, cells := 0, slots := 0, locals := 0 } : Room)
set_option maxHeartbeats 4000000 in
set_option maxRecDepth 100000 in
theorem kL_least (l : Launch) (E : ee_T) (k : Nat) (hk : k ≤ 7) : CQ l E yL_least wsL_least rmL_least [.int (nI k)] [] (QI E (fun (r : Int32) (u : Unit) => r = nI (st_lo k)) (fun (u : Unit) => [])) 0 0 := by
  refine CQ_ofW (cc := cL_least) (maxL := 1) (ret := (some .int)) (by decide) rfl (Nat.le_of_ble_eq_true rfl) ?_
  intro p e s m below meth c A Q hQ hx hb hr hml hown hlocks hnm hts hV hA hP hD hS ls hl
  have hl : lv_has ls 1 [(0, .int (nI k))] := hl
  rcases (show k = 0 ∨ k = 1 ∨ k = 2 ∨ k = 3 ∨ k = 4 ∨ k = 5 ∨ k = 6 ∨ k = 7 by omega) with rfl | rfl | rfl | rfl | rfl | rfl | rfl | rfl
  · refine lv_iload_n hx hb dL_least_0 rfl (lv_at hl 0 rfl) ?_
    refine lv_iconst (v := nI 2) hx hb dL_least_1 (by decide) ?_
    refine ee_ne (tgt := 10) hx hb (by omega) (by omega) dL_least_2 (by decide) (fun h_1 => ?_) (fun h_1 => absurd h_1 (by decide))
    refine lv_iload_n hx hb dL_least_10 rfl (lv_at hl 0 rfl) ?_
    refine lv_iconst (v := nI 1) hx hb dL_least_11 (by decide) ?_
    refine ee_eq (tgt := 26) hx hb (by omega) (by omega) dL_least_12 (by decide) (fun h_2 => absurd h_2 (by decide)) (fun h_2 => ?_)
    refine lv_iload_n hx hb dL_least_15 rfl (lv_at hl 0 rfl) ?_
    refine lv_iconst (v := nI 5) hx hb dL_least_16 (by decide) ?_
    refine ee_eq (tgt := 26) hx hb (by omega) (by omega) dL_least_17 (by decide) (fun h_3 => absurd h_3 (by decide)) (fun h_3 => ?_)
    refine lv_iload_n hx hb dL_least_20 rfl (lv_at hl 0 rfl) ?_
    refine lv_bipush (v := nI 6) hx hb dL_least_21 (by decide) ?_
    refine ee_ne (tgt := 30) hx hb (by omega) (by omega) dL_least_23 (by decide) (fun h_4 => ?_) (fun h_4 => absurd h_4 (by decide))
    refine lv_iconst (v := nI 1) hx hb dL_least_30 (by decide) ?_
    exact ee_fi hQ hx hb hr (rfl) hlocks hS () (rfl) hP hD dL_least_31
  · refine lv_iload_n hx hb dL_least_0 rfl (lv_at hl 0 rfl) ?_
    refine lv_iconst (v := nI 2) hx hb dL_least_1 (by decide) ?_
    refine ee_ne (tgt := 10) hx hb (by omega) (by omega) dL_least_2 (by decide) (fun h_5 => ?_) (fun h_5 => absurd h_5 (by decide))
    refine lv_iload_n hx hb dL_least_10 rfl (lv_at hl 0 rfl) ?_
    refine lv_iconst (v := nI 1) hx hb dL_least_11 (by decide) ?_
    refine ee_eq (tgt := 26) hx hb (by omega) (by omega) dL_least_12 (by decide) (fun h_6 => ?_) (fun h_6 => absurd h_6 (by decide))
    refine lv_iconst (v := nI 0) hx hb dL_least_26 (by decide) ?_
    refine lv_goto (tgt := 31) hx hb dL_least_27 (by decide) ?_
    exact ee_fi hQ hx hb hr (rfl) hlocks hS () (rfl) hP hD dL_least_31
  · refine lv_iload_n hx hb dL_least_0 rfl (lv_at hl 0 rfl) ?_
    refine lv_iconst (v := nI 2) hx hb dL_least_1 (by decide) ?_
    refine ee_ne (tgt := 10) hx hb (by omega) (by omega) dL_least_2 (by decide) (fun h_7 => absurd h_7 (by decide)) (fun h_7 => ?_)
    refine lv_bipush (v := nI 10) hx hb dL_least_5 (by decide) ?_
    refine lv_goto (tgt := 31) hx hb dL_least_7 (by decide) ?_
    exact ee_fi hQ hx hb hr (rfl) hlocks hS () (rfl) hP hD dL_least_31
  · refine lv_iload_n hx hb dL_least_0 rfl (lv_at hl 0 rfl) ?_
    refine lv_iconst (v := nI 2) hx hb dL_least_1 (by decide) ?_
    refine ee_ne (tgt := 10) hx hb (by omega) (by omega) dL_least_2 (by decide) (fun h_8 => ?_) (fun h_8 => absurd h_8 (by decide))
    refine lv_iload_n hx hb dL_least_10 rfl (lv_at hl 0 rfl) ?_
    refine lv_iconst (v := nI 1) hx hb dL_least_11 (by decide) ?_
    refine ee_eq (tgt := 26) hx hb (by omega) (by omega) dL_least_12 (by decide) (fun h_9 => absurd h_9 (by decide)) (fun h_9 => ?_)
    refine lv_iload_n hx hb dL_least_15 rfl (lv_at hl 0 rfl) ?_
    refine lv_iconst (v := nI 5) hx hb dL_least_16 (by decide) ?_
    refine ee_eq (tgt := 26) hx hb (by omega) (by omega) dL_least_17 (by decide) (fun h_10 => absurd h_10 (by decide)) (fun h_10 => ?_)
    refine lv_iload_n hx hb dL_least_20 rfl (lv_at hl 0 rfl) ?_
    refine lv_bipush (v := nI 6) hx hb dL_least_21 (by decide) ?_
    refine ee_ne (tgt := 30) hx hb (by omega) (by omega) dL_least_23 (by decide) (fun h_11 => ?_) (fun h_11 => absurd h_11 (by decide))
    refine lv_iconst (v := nI 1) hx hb dL_least_30 (by decide) ?_
    exact ee_fi hQ hx hb hr (rfl) hlocks hS () (rfl) hP hD dL_least_31
  · refine lv_iload_n hx hb dL_least_0 rfl (lv_at hl 0 rfl) ?_
    refine lv_iconst (v := nI 2) hx hb dL_least_1 (by decide) ?_
    refine ee_ne (tgt := 10) hx hb (by omega) (by omega) dL_least_2 (by decide) (fun h_12 => ?_) (fun h_12 => absurd h_12 (by decide))
    refine lv_iload_n hx hb dL_least_10 rfl (lv_at hl 0 rfl) ?_
    refine lv_iconst (v := nI 1) hx hb dL_least_11 (by decide) ?_
    refine ee_eq (tgt := 26) hx hb (by omega) (by omega) dL_least_12 (by decide) (fun h_13 => absurd h_13 (by decide)) (fun h_13 => ?_)
    refine lv_iload_n hx hb dL_least_15 rfl (lv_at hl 0 rfl) ?_
    refine lv_iconst (v := nI 5) hx hb dL_least_16 (by decide) ?_
    refine ee_eq (tgt := 26) hx hb (by omega) (by omega) dL_least_17 (by decide) (fun h_14 => absurd h_14 (by decide)) (fun h_14 => ?_)
    refine lv_iload_n hx hb dL_least_20 rfl (lv_at hl 0 rfl) ?_
    refine lv_bipush (v := nI 6) hx hb dL_least_21 (by decide) ?_
    refine ee_ne (tgt := 30) hx hb (by omega) (by omega) dL_least_23 (by decide) (fun h_15 => ?_) (fun h_15 => absurd h_15 (by decide))
    refine lv_iconst (v := nI 1) hx hb dL_least_30 (by decide) ?_
    exact ee_fi hQ hx hb hr (rfl) hlocks hS () (rfl) hP hD dL_least_31
  · refine lv_iload_n hx hb dL_least_0 rfl (lv_at hl 0 rfl) ?_
    refine lv_iconst (v := nI 2) hx hb dL_least_1 (by decide) ?_
    refine ee_ne (tgt := 10) hx hb (by omega) (by omega) dL_least_2 (by decide) (fun h_16 => ?_) (fun h_16 => absurd h_16 (by decide))
    refine lv_iload_n hx hb dL_least_10 rfl (lv_at hl 0 rfl) ?_
    refine lv_iconst (v := nI 1) hx hb dL_least_11 (by decide) ?_
    refine ee_eq (tgt := 26) hx hb (by omega) (by omega) dL_least_12 (by decide) (fun h_17 => absurd h_17 (by decide)) (fun h_17 => ?_)
    refine lv_iload_n hx hb dL_least_15 rfl (lv_at hl 0 rfl) ?_
    refine lv_iconst (v := nI 5) hx hb dL_least_16 (by decide) ?_
    refine ee_eq (tgt := 26) hx hb (by omega) (by omega) dL_least_17 (by decide) (fun h_18 => ?_) (fun h_18 => absurd h_18 (by decide))
    refine lv_iconst (v := nI 0) hx hb dL_least_26 (by decide) ?_
    refine lv_goto (tgt := 31) hx hb dL_least_27 (by decide) ?_
    exact ee_fi hQ hx hb hr (rfl) hlocks hS () (rfl) hP hD dL_least_31
  · refine lv_iload_n hx hb dL_least_0 rfl (lv_at hl 0 rfl) ?_
    refine lv_iconst (v := nI 2) hx hb dL_least_1 (by decide) ?_
    refine ee_ne (tgt := 10) hx hb (by omega) (by omega) dL_least_2 (by decide) (fun h_19 => ?_) (fun h_19 => absurd h_19 (by decide))
    refine lv_iload_n hx hb dL_least_10 rfl (lv_at hl 0 rfl) ?_
    refine lv_iconst (v := nI 1) hx hb dL_least_11 (by decide) ?_
    refine ee_eq (tgt := 26) hx hb (by omega) (by omega) dL_least_12 (by decide) (fun h_20 => absurd h_20 (by decide)) (fun h_20 => ?_)
    refine lv_iload_n hx hb dL_least_15 rfl (lv_at hl 0 rfl) ?_
    refine lv_iconst (v := nI 5) hx hb dL_least_16 (by decide) ?_
    refine ee_eq (tgt := 26) hx hb (by omega) (by omega) dL_least_17 (by decide) (fun h_21 => absurd h_21 (by decide)) (fun h_21 => ?_)
    refine lv_iload_n hx hb dL_least_20 rfl (lv_at hl 0 rfl) ?_
    refine lv_bipush (v := nI 6) hx hb dL_least_21 (by decide) ?_
    refine ee_ne (tgt := 30) hx hb (by omega) (by omega) dL_least_23 (by decide) (fun h_22 => absurd h_22 (by decide)) (fun h_22 => ?_)
    refine lv_iconst (v := nI 0) hx hb dL_least_26 (by decide) ?_
    refine lv_goto (tgt := 31) hx hb dL_least_27 (by decide) ?_
    exact ee_fi hQ hx hb hr (rfl) hlocks hS () (rfl) hP hD dL_least_31
  · refine lv_iload_n hx hb dL_least_0 rfl (lv_at hl 0 rfl) ?_
    refine lv_iconst (v := nI 2) hx hb dL_least_1 (by decide) ?_
    refine ee_ne (tgt := 10) hx hb (by omega) (by omega) dL_least_2 (by decide) (fun h_23 => ?_) (fun h_23 => absurd h_23 (by decide))
    refine lv_iload_n hx hb dL_least_10 rfl (lv_at hl 0 rfl) ?_
    refine lv_iconst (v := nI 1) hx hb dL_least_11 (by decide) ?_
    refine ee_eq (tgt := 26) hx hb (by omega) (by omega) dL_least_12 (by decide) (fun h_24 => absurd h_24 (by decide)) (fun h_24 => ?_)
    refine lv_iload_n hx hb dL_least_15 rfl (lv_at hl 0 rfl) ?_
    refine lv_iconst (v := nI 5) hx hb dL_least_16 (by decide) ?_
    refine ee_eq (tgt := 26) hx hb (by omega) (by omega) dL_least_17 (by decide) (fun h_25 => absurd h_25 (by decide)) (fun h_25 => ?_)
    refine lv_iload_n hx hb dL_least_20 rfl (lv_at hl 0 rfl) ?_
    refine lv_bipush (v := nI 6) hx hb dL_least_21 (by decide) ?_
    refine ee_ne (tgt := 30) hx hb (by omega) (by omega) dL_least_23 (by decide) (fun h_26 => ?_) (fun h_26 => absurd h_26 (by decide))
    refine lv_iconst (v := nI 1) hx hb dL_least_30 (by decide) ?_
    exact ee_fi hQ hx hb hr (rfl) hlocks hS () (rfl) hP hD dL_least_31
abbrev rmL_bits : Room := ({ frames := 0, cells := 0, slots := 0, locals := 0 } : Room)
theorem w1_L_bits : Cond.constant RL 12 (8388607) ∈ wsL_bits := List.mem_of_getElem? (i := 1) (by decide +kernel)
set_option maxHeartbeats 4000000 in
set_option maxRecDepth 100000 in
theorem kL_bits (l : Launch) (E : ee_T) (P : Nat) (hP1 : 1 ≤ P) (hP2 : P < 16777216) : CQ l E yL_bits wsL_bits rmL_bits [.int (nI P)] [] (QI E (fun (r : Int32) (u : Unit) => r = nI (btN P)) (fun (u : Unit) => [])) 0 0 := by
  refine CQ_ofW (cc := cL_bits) (maxL := 2) (ret := (some .int)) (by decide) rfl (Nat.le_of_ble_eq_true rfl) ?_
  intro p e s m below meth c A Q hQ hx hb hr hml hown hlocks hnm hts hV hA hP hD hS ls hl
  have hl : lv_has ls 2 [(0, .int (nI P))] := hl
  obtain ⟨hb1, hb2, hb3⟩ := btC hP1 hP2
  refine lv_iconst (v := nI 0) hx hb dL_bits_0 (by decide) ?_
  refine lv_istore_n (lv' := [(1, .int (nI 0)), (0, .int (nI P))]) hx hb dL_bits_1 rfl hl (by decide) rfl (fun ls hl => ?_)
  have B_1 : ∀ (zz : Nat) (i : Nat) (H : Heap) (locs : List Loc) (ls : Array Slot), (P.log2 - i) < zz → (i ≤ P.log2) → va_P E.1 vwCl [] H → va_D A [] → va_S A s.heap H locs → lv_has ls 2 [(1, .int (nI i)), (0, .int (nI P))] → W p l e rmL_bits s m [.int (nI P)].toArray below meth c H locs 0 0 Q (F0 m 2 ls []) := by
    intro zz
    induction zz with
    | zero => intro i H locs ls hzz; exact absurd hzz (Nat.not_lt_zero _)
    | succ zz ihB_1 =>
      intro i H locs ls hzz hi hP hD hS hl
      have hdv := Nat.div_le_self P (2 ^ i)
      refine lv_iload_n hx hb dL_bits_2 rfl (lv_at hl 1 rfl) ?_
      refine lv_iload_n hx hb dL_bits_3 rfl (lv_at hl 0 rfl) ?_
      refine lv_ishr hx hb dL_bits_4 ?_
      refine ee_to (z := nI (P / 2 ^ i)) (shrv (by omega) (by omega)) ?_
      refine lv_iconst (v := nI 1) hx hb dL_bits_5 (by decide) ?_
      refine ee_le (tgt := 15) hx hb (by omega) (by omega) dL_bits_6 (by decide) (fun g6 => ?_) (fun g6 => ?_)
      · have hil := btB hP1 hi g6
        subst hil
        refine lv_iload_n hx hb dL_bits_15 rfl (lv_at hl 0 rfl) ?_
        refine lv_bipush (v := nI 112) hx hb dL_bits_16 (by decide) ?_
        refine ee_iadd hx hb dL_bits_18 ?_
        refine lv_bipush (v := nI 23) hx hb dL_bits_19 (by decide) ?_
        refine lv_ishl hx hb dL_bits_21 ?_
        refine ee_to (z := nI ((P.log2 + 112) * 8388608)) (shl23v (by omega)) ?_
        refine lv_iload_n hx hb dL_bits_22 rfl (lv_at hl 1 rfl) ?_
        refine lv_bipush (v := nI 23) hx hb dL_bits_23 (by decide) ?_
        refine lv_iload_n hx hb dL_bits_25 rfl (lv_at hl 0 rfl) ?_
        refine ee_isub hx hb (by omega) dL_bits_26 ?_
        refine lv_ishl hx hb dL_bits_27 ?_
        refine ee_to (z := nI (P * 2 ^ (23 - P.log2))) (shlv (by omega) (Nat.lt_trans hb3 (by decide))) ?_
        refine lv_ldc hx hb hown (hts _ w1_L_bits) dL_bits_28 ?_
        refine ee_to (z := nI 8388607) rfl ?_
        refine lv_iand hx hb dL_bits_30 ?_
        refine ee_to (z := nI (P * 2 ^ (23 - P.log2) - 8388608)) (btD hP1 hP2) ?_
        refine lv_ior hx hb dL_bits_31 ?_
        refine ee_to (z := nI ((P.log2 + 112) * 8388608 + (P * 2 ^ (23 - P.log2) - 8388608))) (or23 (by omega)) ?_
        exact ee_fi hQ hx hb hr (rfl) hlocks hS () (rfl) hP hD dL_bits_32
      · refine lv_iinc (v := nI (i + 1)) (lv' := [(1, .int (nI (i + 1))), (0, .int (nI P))]) hx hb dL_bits_9 hl (k := 0) rfl (ee_inc _) (by decide) rfl (fun ls hl => ?_)
        refine lv_goto (tgt := 2) hx hb dL_bits_12 (by decide) ?_
        exact ihB_1 (i + 1) _ _ _ (by have := btA hP1 hP2 hi g6; omega) (btA hP1 hP2 hi g6) hP hD hS (lv_sub hl [0, 1] rfl)
  exact B_1 ((P.log2 - 0) + 1) 0 _ _ _ (Nat.lt_succ_self _) (Nat.zero_le _) hP hD hS (lv_sub hl [0, 1] rfl)
abbrev rmL_leaves : Room := ({ frames := 0, cells := 0, slots := 0, locals := 0 } : Room)
set_option maxHeartbeats 4000000 in
set_option maxRecDepth 100000 in
theorem kL_leaves (l : Launch) (E : ee_T) (a0 : Nat) (aa : Nat → Int32) (x : Int32) (hx0 : x = (-1) ∨ ∃ k, k ≤ 7 ∧ x = nI k) : CQ l E yL_leaves wsL_leaves rmL_leaves [.ref a0, .int x] [(a0, ee_i E 48 aa)] (QV E (fun (u : Nat → Int32) => u = upd (upd aa 21 (gtA x (aa 21))) 22 (gtB x (aa 22))) (fun (u : Nat → Int32) => [(a0, ee_i E 48 u)])) 0 0 := by
  refine CQ_ofW (cc := cL_leaves) (maxL := 2) (ret := none) (by decide) rfl (Nat.le_of_ble_eq_true rfl) ?_
  intro p e s m below meth c A Q hQ hx hb hr hml hown hlocks hnm hts hV hA hP hD hS ls hl
  have hl : lv_has ls 2 [(0, .ref a0), (1, .int x)] := hl
  refine lv_aload_n hx hb dL_leaves_0 rfl (lv_at hl 0 rfl) ?_
  refine lv_bipush (v := nI 21) hx hb dL_leaves_1 (by decide) ?_
  refine lv_dup2_11 hx hb dL_leaves_3 rfl rfl ?_
  refine ee_ild hx hb hV hP 0 rfl (j := 21) (by omega) (by decide) dL_leaves_4 ?_
  refine lv_iload_n hx hb dL_leaves_5 rfl (lv_at hl 1 rfl) ?_
  refine ee_z_ne (tgt := 13) hx hb dL_leaves_6 (by decide) (fun ga => ?_) (fun ga => ?_)
  · refine lv_iconst (v := nI 0) hx hb dL_leaves_13 (by decide) ?_
    refine lv_iadd hx hb dL_leaves_14 ?_
    refine ee_ist hx hb hV hP hD hS 0 rfl (j := 21) (by omega) (by decide) dL_leaves_15 (fun H locs hP hD hS => ?_)
    have hP : va_P E.1 vwCl [(a0, ee_i E 48 (upd aa 21 ((aa 21) + (nI 0))))] H := hP
    have hD : va_D A [(a0, ee_i E 48 (upd aa 21 ((aa 21) + (nI 0))))] := hD
    refine lv_aload_n hx hb dL_leaves_16 rfl (lv_at hl 0 rfl) ?_
    refine lv_bipush (v := nI 22) hx hb dL_leaves_17 (by decide) ?_
    refine lv_dup2_11 hx hb dL_leaves_19 rfl rfl ?_
    refine ee_ild hx hb hV hP 0 rfl (j := 22) (by omega) (by decide) dL_leaves_20 ?_
    refine lv_iload_n hx hb dL_leaves_21 rfl (lv_at hl 1 rfl) ?_
    refine lv_if_le (tgt := 29) hx hb dL_leaves_22 (by decide) (fun gb => ?_) (fun gb => ?_)
    · refine lv_iconst (v := nI 0) hx hb dL_leaves_29 (by decide) ?_
      refine lv_iadd hx hb dL_leaves_30 ?_
      refine ee_ist hx hb hV hP hD hS 0 rfl (j := 22) (by omega) (by decide) dL_leaves_31 (fun H locs hP hD hS => ?_)
      have hP : va_P E.1 vwCl [(a0, ee_i E 48 (upd (upd aa 21 ((aa 21) + (nI 0))) 22 (((upd aa 21 ((aa 21) + (nI 0))) 22) + (nI 0))))] H := hP
      have hD : va_D A [(a0, ee_i E 48 (upd (upd aa 21 ((aa 21) + (nI 0))) 22 (((upd aa 21 ((aa 21) + (nI 0))) 22) + (nI 0))))] := hD
      exact ee_fv hQ hx hb hr hlocks hS (upd (upd aa 21 ((aa 21) + (nI 0))) 22 (((upd aa 21 ((aa 21) + (nI 0))) 22) + (nI 0))) (lv_e (gtA_n ga rfl) (gtB_n hx0 gb (by rw [pk_un (by decide)]))) hP hD dL_leaves_32
    · refine lv_iconst (v := nI 1) hx hb dL_leaves_25 (by decide) ?_
      refine lv_goto (tgt := 30) hx hb dL_leaves_26 (by decide) ?_
      refine lv_iadd hx hb dL_leaves_30 ?_
      refine ee_ist hx hb hV hP hD hS 0 rfl (j := 22) (by omega) (by decide) dL_leaves_31 (fun H locs hP hD hS => ?_)
      have hP : va_P E.1 vwCl [(a0, ee_i E 48 (upd (upd aa 21 ((aa 21) + (nI 0))) 22 (((upd aa 21 ((aa 21) + (nI 0))) 22) + (nI 1))))] H := hP
      have hD : va_D A [(a0, ee_i E 48 (upd (upd aa 21 ((aa 21) + (nI 0))) 22 (((upd aa 21 ((aa 21) + (nI 0))) 22) + (nI 1))))] := hD
      exact ee_fv hQ hx hb hr hlocks hS (upd (upd aa 21 ((aa 21) + (nI 0))) 22 (((upd aa 21 ((aa 21) + (nI 0))) 22) + (nI 1))) (lv_e (gtA_n ga rfl) (gtB_y hx0 gb (by rw [pk_un (by decide)]))) hP hD dL_leaves_32
  · refine lv_iconst (v := nI 1) hx hb dL_leaves_9 (by decide) ?_
    refine lv_goto (tgt := 14) hx hb dL_leaves_10 (by decide) ?_
    refine lv_iadd hx hb dL_leaves_14 ?_
    refine ee_ist hx hb hV hP hD hS 0 rfl (j := 21) (by omega) (by decide) dL_leaves_15 (fun H locs hP hD hS => ?_)
    have hP : va_P E.1 vwCl [(a0, ee_i E 48 (upd aa 21 ((aa 21) + (nI 1))))] H := hP
    have hD : va_D A [(a0, ee_i E 48 (upd aa 21 ((aa 21) + (nI 1))))] := hD
    refine lv_aload_n hx hb dL_leaves_16 rfl (lv_at hl 0 rfl) ?_
    refine lv_bipush (v := nI 22) hx hb dL_leaves_17 (by decide) ?_
    refine lv_dup2_11 hx hb dL_leaves_19 rfl rfl ?_
    refine ee_ild hx hb hV hP 0 rfl (j := 22) (by omega) (by decide) dL_leaves_20 ?_
    refine lv_iload_n hx hb dL_leaves_21 rfl (lv_at hl 1 rfl) ?_
    refine lv_if_le (tgt := 29) hx hb dL_leaves_22 (by decide) (fun gb => ?_) (fun gb => ?_)
    · refine lv_iconst (v := nI 0) hx hb dL_leaves_29 (by decide) ?_
      refine lv_iadd hx hb dL_leaves_30 ?_
      refine ee_ist hx hb hV hP hD hS 0 rfl (j := 22) (by omega) (by decide) dL_leaves_31 (fun H locs hP hD hS => ?_)
      have hP : va_P E.1 vwCl [(a0, ee_i E 48 (upd (upd aa 21 ((aa 21) + (nI 1))) 22 (((upd aa 21 ((aa 21) + (nI 1))) 22) + (nI 0))))] H := hP
      have hD : va_D A [(a0, ee_i E 48 (upd (upd aa 21 ((aa 21) + (nI 1))) 22 (((upd aa 21 ((aa 21) + (nI 1))) 22) + (nI 0))))] := hD
      exact ee_fv hQ hx hb hr hlocks hS (upd (upd aa 21 ((aa 21) + (nI 1))) 22 (((upd aa 21 ((aa 21) + (nI 1))) 22) + (nI 0))) (lv_e (gtA_y ga rfl) (gtB_n hx0 gb (by rw [pk_un (by decide)]))) hP hD dL_leaves_32
    · refine lv_iconst (v := nI 1) hx hb dL_leaves_25 (by decide) ?_
      refine lv_goto (tgt := 30) hx hb dL_leaves_26 (by decide) ?_
      refine lv_iadd hx hb dL_leaves_30 ?_
      refine ee_ist hx hb hV hP hD hS 0 rfl (j := 22) (by omega) (by decide) dL_leaves_31 (fun H locs hP hD hS => ?_)
      have hP : va_P E.1 vwCl [(a0, ee_i E 48 (upd (upd aa 21 ((aa 21) + (nI 1))) 22 (((upd aa 21 ((aa 21) + (nI 1))) 22) + (nI 1))))] H := hP
      have hD : va_D A [(a0, ee_i E 48 (upd (upd aa 21 ((aa 21) + (nI 1))) 22 (((upd aa 21 ((aa 21) + (nI 1))) 22) + (nI 1))))] := hD
      exact ee_fv hQ hx hb hr hlocks hS (upd (upd aa 21 ((aa 21) + (nI 1))) 22 (((upd aa 21 ((aa 21) + (nI 1))) 22) + (nI 1))) (lv_e (gtA_y ga rfl) (gtB_y hx0 gb (by rw [pk_un (by decide)]))) hP hD dL_leaves_32
abbrev rmL_follows : Room := ({ frames := 0, cells := 0, slots := 0, locals := 0 } : Room)
set_option maxHeartbeats 4000000 in
set_option maxRecDepth 100000 in
theorem kL_follows (l : Launch) (E : ee_T) (a0 : Nat) (aa : Nat → Int32) (s8 c4 g3 v : Nat) (h8a : aa 8 = nI s8) (h4a : aa 4 = nI c4) (h3a : aa 3 = nI g3) (hs : s8 ≤ 1000) (hc : c4 ≤ 1000) (hg : g3 ≤ 1000) (hv : v ≤ 1000) : CQ l E yL_follows wsL_follows rmL_follows [.ref a0, .int (nI v)] [(a0, ee_i E 48 aa)] (QV E (fun (u : Unit) => True) (fun (u : Unit) => [(a0, ee_i E 48 (upd aa 8 (nI (foN s8 c4 g3 v))))])) 0 0 := by
  refine CQ_ofW (cc := cL_follows) (maxL := 7) (ret := none) (by decide) rfl (Nat.le_of_ble_eq_true rfl) ?_
  intro p e s m below meth c A Q hQ hx hb hr hml hown hlocks hnm hts hV hA hP hD hS ls hl
  have hl : lv_has ls 7 [(0, .ref a0), (1, .int (nI v))] := hl
  refine lv_aload_n hx hb dL_follows_0 rfl (lv_at hl 0 rfl) ?_
  refine lv_iconst (v := nI 3) hx hb dL_follows_1 (by decide) ?_
  refine ee_ild hx hb hV hP 0 rfl (j := 3) (by omega) (by decide) dL_follows_2 ?_
  refine ee_to (z := nI g3) (h3a) ?_
  refine lv_istore_n (lv' := [(2, .int (nI g3)), (0, .ref a0), (1, .int (nI v))]) hx hb dL_follows_3 rfl hl (by decide) rfl (fun ls hl => ?_)
  refine lv_sipush (v := nI 3000) hx hb dL_follows_4 (by decide) ?_
  refine lv_istore_n (lv' := [(3, .int (nI 3000)), (2, .int (nI g3)), (0, .ref a0), (1, .int (nI v))]) hx hb dL_follows_7 rfl hl (by decide) rfl (fun ls hl => ?_)
  refine lv_iconst (v := nI 0) hx hb dL_follows_8 (by decide) ?_
  refine lv_istore (lv' := [(4, .int (nI 0)), (3, .int (nI 3000)), (2, .int (nI g3)), (0, .ref a0), (1, .int (nI v))]) hx hb dL_follows_9 hl (by decide) rfl (fun ls hl => ?_)
  have B_1 : ∀ (zz : Nat) (i b q : Nat) (H : Heap) (locs : List Loc) (ls : Array Slot), (g3 + 1 - i) < zz → (i ≤ g3 + 1) → (foI s8 c4 g3 v i b q) → (b ≤ 2000 ∧ q ≤ 3000) → va_P E.1 vwCl [(a0, ee_i E 48 aa)] H → va_D A [(a0, ee_i E 48 aa)] → va_S A s.heap H locs → lv_has ls 7 [(4, .int (nI i)), (3, .int (nI q)), (2, .int (nI b)), (0, .ref a0), (1, .int (nI v))] → W p l e rmL_follows s m [.ref a0, .int (nI v)].toArray below meth c H locs 0 0 Q (F0 m 11 ls []) := by
    intro zz
    induction zz with
    | zero => intro i b q H locs ls hzz; exact absurd hzz (Nat.not_lt_zero _)
    | succ zz ihB_1 =>
      intro i b q H locs ls hzz hi hI hbq hP hD hS hl
      refine lv_iload hx hb dL_follows_11 (lv_at hl 0 rfl) ?_
      refine lv_aload_n hx hb dL_follows_13 rfl (lv_at hl 3 rfl) ?_
      refine lv_iconst (v := nI 3) hx hb dL_follows_14 (by decide) ?_
      refine ee_ild hx hb hV hP 0 rfl (j := 3) (by omega) (by decide) dL_follows_15 ?_
      refine ee_to (z := nI g3) (h3a) ?_
      refine ee_gt (tgt := 113) hx hb (by omega) (by omega) dL_follows_16 (by decide) (fun g16 => ?_) (fun g16 => ?_)
      · obtain rfl := foI_e (by omega) hI
        refine lv_aload_n hx hb dL_follows_113 rfl (lv_at hl 3 rfl) ?_
        refine lv_bipush (v := nI 8) hx hb dL_follows_114 (by decide) ?_
        refine lv_iload_n hx hb dL_follows_116 rfl (lv_at hl 2 rfl) ?_
        refine ee_ist hx hb hV hP hD hS 0 rfl (j := 8) (by omega) (by decide) dL_follows_117 (fun H locs hP hD hS => ?_)
        have hP : va_P E.1 vwCl [(a0, ee_i E 48 (upd aa 8 (nI (foN s8 c4 g3 v))))] H := hP
        have hD : va_D A [(a0, ee_i E 48 (upd aa 8 (nI (foN s8 c4 g3 v))))] := hD
        exact ee_fv hQ hx hb hr hlocks hS () (trivial) hP hD dL_follows_118
      · have B_2 : ∀ (d : Nat) (H : Heap) (locs : List Loc) (ls : Array Slot), ((v < i ∧ d = i - v) ∨ (i ≤ v ∧ d = v - i)) → va_P E.1 vwCl [(a0, ee_i E 48 aa)] H → va_D A [(a0, ee_i E 48 aa)] → va_S A s.heap H locs → lv_has ls 7 [(4, .int (nI i)), (3, .int (nI q)), (2, .int (nI b)), (0, .ref a0), (1, .int (nI v))] → W p l e rmL_follows s m [.ref a0, .int (nI v)].toArray below meth c H locs 0 0 Q (F0 m 36 ls [.int (nI d)]) := by
          intro d H locs ls hd hP hD hS hl
          refine lv_istore (lv' := [(5, .int (nI d)), (4, .int (nI i)), (3, .int (nI q)), (2, .int (nI b)), (0, .ref a0), (1, .int (nI v))]) hx hb dL_follows_36 hl (by decide) rfl (fun ls hl => ?_)
          have B_3 : ∀ (nr : Nat) (H : Heap) (locs : List Loc) (ls : Array Slot), ((nr = 1 ∧ (i ≤ s8 + c4 ∧ s8 ≤ i + c4)) ∨ (nr = 0 ∧ ¬ (i ≤ s8 + c4 ∧ s8 ≤ i + c4))) → va_P E.1 vwCl [(a0, ee_i E 48 aa)] H → va_D A [(a0, ee_i E 48 aa)] → va_S A s.heap H locs → lv_has ls 7 [(5, .int (nI d)), (4, .int (nI i)), (3, .int (nI q)), (2, .int (nI b)), (0, .ref a0), (1, .int (nI v))] → W p l e rmL_follows s m [.ref a0, .int (nI v)].toArray below meth c H locs 0 0 Q (F0 m 69 ls [.int (nI nr)]) := by
            intro nr H locs ls hnr hP hD hS hl
            refine lv_istore (lv' := [(6, .int (nI nr)), (5, .int (nI d)), (4, .int (nI i)), (3, .int (nI q)), (2, .int (nI b)), (0, .ref a0), (1, .int (nI v))]) hx hb dL_follows_69 hl (by decide) rfl (fun ls hl => ?_)
            have B_4 : ∀ (b2 : Nat) (H : Heap) (locs : List Loc) (ls : Array Slot), ((nr = 1 ∧ d < q ∧ b2 = i) ∨ (¬ (nr = 1 ∧ d < q) ∧ b2 = b)) → va_P E.1 vwCl [(a0, ee_i E 48 aa)] H → va_D A [(a0, ee_i E 48 aa)] → va_S A s.heap H locs → lv_has ls 7 [(6, .int (nI nr)), (5, .int (nI d)), (4, .int (nI i)), (3, .int (nI q)), (2, .int (nI b)), (0, .ref a0), (1, .int (nI v))] → W p l e rmL_follows s m [.ref a0, .int (nI v)].toArray below meth c H locs 0 0 Q (F0 m 88 ls [.int (nI b2)]) := by
              intro b2 H locs ls hb2 hP hD hS hl
              refine lv_istore_n (lv' := [(2, .int (nI b2)), (6, .int (nI nr)), (5, .int (nI d)), (4, .int (nI i)), (3, .int (nI q)), (0, .ref a0), (1, .int (nI v))]) hx hb dL_follows_88 rfl hl (by decide) rfl (fun ls hl => ?_)
              have B_5 : ∀ (q2 : Nat) (H : Heap) (locs : List Loc) (ls : Array Slot), ((nr = 1 ∧ d < q ∧ q2 = d) ∨ (¬ (nr = 1 ∧ d < q) ∧ q2 = q)) → va_P E.1 vwCl [(a0, ee_i E 48 aa)] H → va_D A [(a0, ee_i E 48 aa)] → va_S A s.heap H locs → lv_has ls 7 [(2, .int (nI b2)), (6, .int (nI nr)), (5, .int (nI d)), (4, .int (nI i)), (3, .int (nI q)), (0, .ref a0), (1, .int (nI v))] → W p l e rmL_follows s m [.ref a0, .int (nI v)].toArray below meth c H locs 0 0 Q (F0 m 106 ls [.int (nI q2)]) := by
                intro q2 H locs ls hq2 hP hD hS hl
                refine lv_istore_n (lv' := [(3, .int (nI q2)), (2, .int (nI b2)), (6, .int (nI nr)), (5, .int (nI d)), (4, .int (nI i)), (0, .ref a0), (1, .int (nI v))]) hx hb dL_follows_106 rfl hl (by decide) rfl (fun ls hl => ?_)
                refine lv_iinc (v := nI (i + 1)) (lv' := [(4, .int (nI (i + 1))), (3, .int (nI q2)), (2, .int (nI b2)), (6, .int (nI nr)), (5, .int (nI d)), (0, .ref a0), (1, .int (nI v))]) hx hb dL_follows_107 hl (k := 4) rfl (ee_inc _) (by decide) rfl (fun ls hl => ?_)
                refine lv_goto (tgt := 11) hx hb dL_follows_110 (by decide) ?_
                exact ihB_1 (i + 1) b2 q2 _ _ _ (by omega) (by omega) (foI_s hs hc hg hv (by omega) hI hd (by omega)) (by omega) hP hD hS (lv_sub hl [0, 1, 2, 5, 6] rfl)
              refine lv_iload hx hb dL_follows_89 (lv_at hl 1 rfl) ?_
              refine ee_eq0 (tgt := 105) hx hb (by omega) dL_follows_91 (by decide) (fun h_6 => ?_) (fun h_6 => ?_)
              · refine lv_iload_n hx hb dL_follows_105 rfl (lv_at hl 4 rfl) ?_
                exact B_5 q _ _ _ (Or.inr ⟨fun q => by omega, rfl⟩) hP hD hS (lv_sub hl [0, 1, 2, 3, 4, 5, 6] rfl)
              · refine lv_iload hx hb dL_follows_94 (lv_at hl 2 rfl) ?_
                refine lv_iload_n hx hb dL_follows_96 rfl (lv_at hl 4 rfl) ?_
                refine ee_ge (tgt := 105) hx hb (by omega) (by omega) dL_follows_97 (by decide) (fun h_7 => ?_) (fun h_7 => ?_)
                · refine lv_iload_n hx hb dL_follows_105 rfl (lv_at hl 4 rfl) ?_
                  exact B_5 q _ _ _ (Or.inr ⟨fun q => by omega, rfl⟩) hP hD hS (lv_sub hl [0, 1, 2, 3, 4, 5, 6] rfl)
                · refine lv_iload hx hb dL_follows_100 (lv_at hl 2 rfl) ?_
                  refine lv_goto (tgt := 106) hx hb dL_follows_102 (by decide) ?_
                  exact B_5 d _ _ _ (Or.inl ⟨by omega, by omega, rfl⟩) hP hD hS (lv_sub hl [0, 1, 2, 3, 4, 5, 6] rfl)
            refine lv_iload hx hb dL_follows_71 (lv_at hl 0 rfl) ?_
            refine ee_eq0 (tgt := 87) hx hb (by omega) dL_follows_73 (by decide) (fun h_8 => ?_) (fun h_8 => ?_)
            · refine lv_iload_n hx hb dL_follows_87 rfl (lv_at hl 4 rfl) ?_
              exact B_4 b _ _ _ (Or.inr ⟨fun q => by omega, rfl⟩) hP hD hS (lv_sub hl [0, 1, 2, 3, 4, 5, 6] rfl)
            · refine lv_iload hx hb dL_follows_76 (lv_at hl 1 rfl) ?_
              refine lv_iload_n hx hb dL_follows_78 rfl (lv_at hl 3 rfl) ?_
              refine ee_ge (tgt := 87) hx hb (by omega) (by omega) dL_follows_79 (by decide) (fun h_9 => ?_) (fun h_9 => ?_)
              · refine lv_iload_n hx hb dL_follows_87 rfl (lv_at hl 4 rfl) ?_
                exact B_4 b _ _ _ (Or.inr ⟨fun q => by omega, rfl⟩) hP hD hS (lv_sub hl [0, 1, 2, 3, 4, 5, 6] rfl)
              · refine lv_iload hx hb dL_follows_82 (lv_at hl 2 rfl) ?_
                refine lv_goto (tgt := 88) hx hb dL_follows_84 (by decide) ?_
                exact B_4 i _ _ _ (Or.inl ⟨by omega, by omega, rfl⟩) hP hD hS (lv_sub hl [0, 1, 2, 3, 4, 5, 6] rfl)
          refine lv_iload hx hb dL_follows_38 (lv_at hl 1 rfl) ?_
          refine lv_aload_n hx hb dL_follows_40 rfl (lv_at hl 4 rfl) ?_
          refine lv_bipush (v := nI 8) hx hb dL_follows_41 (by decide) ?_
          refine ee_ild hx hb hV hP 0 rfl (j := 8) (by omega) (by decide) dL_follows_43 ?_
          refine ee_to (z := nI s8) (h8a) ?_
          refine lv_isub hx hb dL_follows_44 ?_
          refine lv_aload_n hx hb dL_follows_45 rfl (lv_at hl 4 rfl) ?_
          refine lv_iconst (v := nI 4) hx hb dL_follows_46 (by decide) ?_
          refine ee_ild hx hb hV hP 0 rfl (j := 4) (by omega) (by decide) dL_follows_47 ?_
          refine ee_to (z := nI c4) (h4a) ?_
          refine lv_icmp_gt (tgt := 68) hx hb dL_follows_48 (by decide) (fun g48 => ?_) (fun g48 => ?_)
          · refine lv_iconst (v := nI 0) hx hb dL_follows_68 (by decide) ?_
            exact B_3 0 _ _ _ (Or.inr ⟨rfl, by have := (near1 (by omega) (by omega) (by omega)).mp g48; omega⟩) hP hD hS (lv_sub hl [0, 1, 2, 3, 4, 5] rfl)
          · refine lv_aload_n hx hb dL_follows_51 rfl (lv_at hl 4 rfl) ?_
            refine lv_bipush (v := nI 8) hx hb dL_follows_52 (by decide) ?_
            refine ee_ild hx hb hV hP 0 rfl (j := 8) (by omega) (by decide) dL_follows_54 ?_
            refine ee_to (z := nI s8) (h8a) ?_
            refine lv_iload hx hb dL_follows_55 (lv_at hl 1 rfl) ?_
            refine lv_isub hx hb dL_follows_57 ?_
            refine lv_aload_n hx hb dL_follows_58 rfl (lv_at hl 4 rfl) ?_
            refine lv_iconst (v := nI 4) hx hb dL_follows_59 (by decide) ?_
            refine ee_ild hx hb hV hP 0 rfl (j := 4) (by omega) (by decide) dL_follows_60 ?_
            refine ee_to (z := nI c4) (h4a) ?_
            refine lv_icmp_gt (tgt := 68) hx hb dL_follows_61 (by decide) (fun g61 => ?_) (fun g61 => ?_)
            · refine lv_iconst (v := nI 0) hx hb dL_follows_68 (by decide) ?_
              exact B_3 0 _ _ _ (Or.inr ⟨rfl, by have := (near1 (by omega) (by omega) (by omega)).mp g61; omega⟩) hP hD hS (lv_sub hl [0, 1, 2, 3, 4, 5] rfl)
            · refine lv_iconst (v := nI 1) hx hb dL_follows_64 (by decide) ?_
              refine lv_goto (tgt := 69) hx hb dL_follows_65 (by decide) ?_
              exact B_3 1 _ _ _ (Or.inl ⟨rfl, by have := mt (near1 (by omega) (by omega) (by omega)).mpr g48; have := mt (near1 (by omega) (by omega) (by omega)).mpr g61; omega⟩) hP hD hS (lv_sub hl [0, 1, 2, 3, 4, 5] rfl)
        refine lv_iload hx hb dL_follows_19 (lv_at hl 0 rfl) ?_
        refine lv_iload_n hx hb dL_follows_21 rfl (lv_at hl 4 rfl) ?_
        refine ee_le (tgt := 32) hx hb (by omega) (by omega) dL_follows_22 (by decide) (fun g22 => ?_) (fun g22 => ?_)
        · refine lv_iload_n hx hb dL_follows_32 rfl (lv_at hl 4 rfl) ?_
          refine lv_iload hx hb dL_follows_33 (lv_at hl 0 rfl) ?_
          refine ee_isub hx hb (by omega) dL_follows_35 ?_
          exact B_2 (v - i) _ _ _ (Or.inr ⟨by omega, rfl⟩) hP hD hS (lv_sub hl [0, 1, 2, 3, 4] rfl)
        · refine lv_iload hx hb dL_follows_25 (lv_at hl 0 rfl) ?_
          refine lv_iload_n hx hb dL_follows_27 rfl (lv_at hl 4 rfl) ?_
          refine ee_isub hx hb (by omega) dL_follows_28 ?_
          refine lv_goto (tgt := 36) hx hb dL_follows_29 (by decide) ?_
          exact B_2 (i - v) _ _ _ (Or.inl ⟨by omega, rfl⟩) hP hD hS (lv_sub hl [0, 1, 2, 3, 4] rfl)
  exact B_1 ((g3 + 1 - 0) + 1) 0 g3 3000 _ _ _ (Nat.lt_succ_self _) (by omega) (foI_0 s8 c4 g3 v) (by omega) hP hD hS (lv_sub hl [0, 1, 2, 3, 4] rfl)
