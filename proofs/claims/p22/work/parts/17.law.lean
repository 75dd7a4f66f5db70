/-! the law's beginning, a number typed -/
abbrev rmL_begins : Room := ({ frames := 0, cells := 0, slots := 0, locals := 0 } : Room)
theorem w1_L_begins : Cond.constant RL 11 (1638400) ∈ wsL_begins := List.mem_of_getElem? (i := 1) (by decide +kernel)
set_option maxHeartbeats 4000000 in
set_option maxRecDepth 100000 in
theorem kL_begins (l : Launch) (E : ee_T) (a0 : Nat)  : CQ l E yL_begins wsL_begins rmL_begins [.ref a0] [(a0, ee_i E 48 (fun _ => nI 0))] (QV E (fun (u : Nat → Int32) => bgA u) (fun (u : Nat → Int32) => [(a0, ee_i E 48 u)])) 0 0 := by
  refine CQ_ofW (cc := cL_begins) (maxL := 2) (ret := none) (by decide) rfl (Nat.le_of_ble_eq_true rfl) ?_
  intro p e s m below meth c A Q hQ hx hb hr hml hown hlocks hnm hts hV hA hP hD hS ls hl
  have hl : lv_has ls 2 [(0, .ref a0)] := hl
  refine lv_aload_n hx hb dL_begins_0 rfl (lv_at hl 0 rfl) ?_
  refine lv_iconst (v := nI 0) hx hb dL_begins_1 (by decide) ?_
  refine lv_iconst (v := nI 3) hx hb dL_begins_2 (by decide) ?_
  refine ee_ist hx hb hV hP hD hS 0 rfl (j := 0) (by omega) (by decide) dL_begins_3 (fun H locs hP hD hS => ?_)
  have hP : va_P E.1 vwCl [(a0, ee_i E 48 (upd (fun _ => nI 0) 0 (nI 3)))] H := hP
  have hD : va_D A [(a0, ee_i E 48 (upd (fun _ => nI 0) 0 (nI 3)))] := hD
  refine lv_aload_n hx hb dL_begins_4 rfl (lv_at hl 0 rfl) ?_
  refine lv_iconst (v := nI 1) hx hb dL_begins_5 (by decide) ?_
  refine lv_iconst (v := nI 5) hx hb dL_begins_6 (by decide) ?_
  refine ee_ist hx hb hV hP hD hS 0 rfl (j := 1) (by omega) (by decide) dL_begins_7 (fun H locs hP hD hS => ?_)
  have hP : va_P E.1 vwCl [(a0, ee_i E 48 (upd (upd (fun _ => nI 0) 0 (nI 3)) 1 (nI 5)))] H := hP
  have hD : va_D A [(a0, ee_i E 48 (upd (upd (fun _ => nI 0) 0 (nI 3)) 1 (nI 5)))] := hD
  refine lv_aload_n hx hb dL_begins_8 rfl (lv_at hl 0 rfl) ?_
  refine lv_iconst (v := nI 2) hx hb dL_begins_9 (by decide) ?_
  refine lv_sipush (v := nI 150) hx hb dL_begins_10 (by decide) ?_
  refine ee_ist hx hb hV hP hD hS 0 rfl (j := 2) (by omega) (by decide) dL_begins_13 (fun H locs hP hD hS => ?_)
  have hP : va_P E.1 vwCl [(a0, ee_i E 48 (upd (upd (upd (fun _ => nI 0) 0 (nI 3)) 1 (nI 5)) 2 (nI 150)))] H := hP
  have hD : va_D A [(a0, ee_i E 48 (upd (upd (upd (fun _ => nI 0) 0 (nI 3)) 1 (nI 5)) 2 (nI 150)))] := hD
  refine lv_aload_n hx hb dL_begins_14 rfl (lv_at hl 0 rfl) ?_
  refine lv_iconst (v := nI 3) hx hb dL_begins_15 (by decide) ?_
  refine lv_sipush (v := nI 400) hx hb dL_begins_16 (by decide) ?_
  refine ee_ist hx hb hV hP hD hS 0 rfl (j := 3) (by omega) (by decide) dL_begins_19 (fun H locs hP hD hS => ?_)
  have hP : va_P E.1 vwCl [(a0, ee_i E 48 (upd (upd (upd (upd (fun _ => nI 0) 0 (nI 3)) 1 (nI 5)) 2 (nI 150)) 3 (nI 400)))] H := hP
  have hD : va_D A [(a0, ee_i E 48 (upd (upd (upd (upd (fun _ => nI 0) 0 (nI 3)) 1 (nI 5)) 2 (nI 150)) 3 (nI 400)))] := hD
  refine lv_aload_n hx hb dL_begins_20 rfl (lv_at hl 0 rfl) ?_
  refine lv_iconst (v := nI 4) hx hb dL_begins_21 (by decide) ?_
  refine lv_bipush (v := nI 100) hx hb dL_begins_22 (by decide) ?_
  refine ee_ist hx hb hV hP hD hS 0 rfl (j := 4) (by omega) (by decide) dL_begins_24 (fun H locs hP hD hS => ?_)
  have hP : va_P E.1 vwCl [(a0, ee_i E 48 (upd (upd (upd (upd (upd (fun _ => nI 0) 0 (nI 3)) 1 (nI 5)) 2 (nI 150)) 3 (nI 400)) 4 (nI 100)))] H := hP
  have hD : va_D A [(a0, ee_i E 48 (upd (upd (upd (upd (upd (fun _ => nI 0) 0 (nI 3)) 1 (nI 5)) 2 (nI 150)) 3 (nI 400)) 4 (nI 100)))] := hD
  refine lv_aload_n hx hb dL_begins_25 rfl (lv_at hl 0 rfl) ?_
  refine lv_iconst (v := nI 5) hx hb dL_begins_26 (by decide) ?_
  refine lv_bipush (v := nI 10) hx hb dL_begins_27 (by decide) ?_
  refine ee_ist hx hb hV hP hD hS 0 rfl (j := 5) (by omega) (by decide) dL_begins_29 (fun H locs hP hD hS => ?_)
  have hP : va_P E.1 vwCl [(a0, ee_i E 48 (upd (upd (upd (upd (upd (upd (fun _ => nI 0) 0 (nI 3)) 1 (nI 5)) 2 (nI 150)) 3 (nI 400)) 4 (nI 100)) 5 (nI 10)))] H := hP
  have hD : va_D A [(a0, ee_i E 48 (upd (upd (upd (upd (upd (upd (fun _ => nI 0) 0 (nI 3)) 1 (nI 5)) 2 (nI 150)) 3 (nI 400)) 4 (nI 100)) 5 (nI 10)))] := hD
  refine lv_aload_n hx hb dL_begins_30 rfl (lv_at hl 0 rfl) ?_
  refine lv_bipush (v := nI 6) hx hb dL_begins_31 (by decide) ?_
  refine lv_iconst (v := nI 2) hx hb dL_begins_33 (by decide) ?_
  refine ee_ist hx hb hV hP hD hS 0 rfl (j := 6) (by omega) (by decide) dL_begins_34 (fun H locs hP hD hS => ?_)
  have hP : va_P E.1 vwCl [(a0, ee_i E 48 (upd (upd (upd (upd (upd (upd (upd (fun _ => nI 0) 0 (nI 3)) 1 (nI 5)) 2 (nI 150)) 3 (nI 400)) 4 (nI 100)) 5 (nI 10)) 6 (nI 2)))] H := hP
  have hD : va_D A [(a0, ee_i E 48 (upd (upd (upd (upd (upd (upd (upd (fun _ => nI 0) 0 (nI 3)) 1 (nI 5)) 2 (nI 150)) 3 (nI 400)) 4 (nI 100)) 5 (nI 10)) 6 (nI 2)))] := hD
  refine lv_aload_n hx hb dL_begins_35 rfl (lv_at hl 0 rfl) ?_
  refine lv_bipush (v := nI 7) hx hb dL_begins_36 (by decide) ?_
  refine lv_iconst (v := nI 3) hx hb dL_begins_38 (by decide) ?_
  refine ee_ist hx hb hV hP hD hS 0 rfl (j := 7) (by omega) (by decide) dL_begins_39 (fun H locs hP hD hS => ?_)
  have hP : va_P E.1 vwCl [(a0, ee_i E 48 (upd (upd (upd (upd (upd (upd (upd (upd (fun _ => nI 0) 0 (nI 3)) 1 (nI 5)) 2 (nI 150)) 3 (nI 400)) 4 (nI 100)) 5 (nI 10)) 6 (nI 2)) 7 (nI 3)))] H := hP
  have hD : va_D A [(a0, ee_i E 48 (upd (upd (upd (upd (upd (upd (upd (upd (fun _ => nI 0) 0 (nI 3)) 1 (nI 5)) 2 (nI 150)) 3 (nI 400)) 4 (nI 100)) 5 (nI 10)) 6 (nI 2)) 7 (nI 3)))] := hD
  refine lv_aload_n hx hb dL_begins_40 rfl (lv_at hl 0 rfl) ?_
  refine lv_bipush (v := nI 9) hx hb dL_begins_41 (by decide) ?_
  refine lv_iconst (v := nI 4) hx hb dL_begins_43 (by decide) ?_
  refine ee_ist hx hb hV hP hD hS 0 rfl (j := 9) (by omega) (by decide) dL_begins_44 (fun H locs hP hD hS => ?_)
  have hP : va_P E.1 vwCl [(a0, ee_i E 48 (upd (upd (upd (upd (upd (upd (upd (upd (upd (fun _ => nI 0) 0 (nI 3)) 1 (nI 5)) 2 (nI 150)) 3 (nI 400)) 4 (nI 100)) 5 (nI 10)) 6 (nI 2)) 7 (nI 3)) 9 (nI 4)))] H := hP
  have hD : va_D A [(a0, ee_i E 48 (upd (upd (upd (upd (upd (upd (upd (upd (upd (fun _ => nI 0) 0 (nI 3)) 1 (nI 5)) 2 (nI 150)) 3 (nI 400)) 4 (nI 100)) 5 (nI 10)) 6 (nI 2)) 7 (nI 3)) 9 (nI 4)))] := hD
  obtain ⟨a1, ha1⟩ : ∃ w_9, w_9 = upd (upd (upd (upd (upd (upd (upd (upd (upd (fun _ => nI 0) 0 (nI 3)) 1 (nI 5)) 2 (nI 150)) 3 (nI 400)) 4 (nI 100)) 5 (nI 10)) 6 (nI 2)) 7 (nI 3)) 9 (nI 4) := ⟨_, rfl⟩
  rw [← ha1] at hP hD
  have hA1 := bg_0 ha1
  refine lv_iconst (v := nI 0) hx hb dL_begins_45 (by decide) ?_
  refine lv_istore_n (lv' := [(1, .int (nI 0)), (0, .ref a0)]) hx hb dL_begins_46 rfl hl (by decide) rfl (fun ls hl => ?_)
  have B_1 : ∀ (zz : Nat) (i : Nat) (bk : Nat → Int32) (H : Heap) (locs : List Loc) (ls : Array Slot), (10 - i) < zz → (i ≤ 10) → (∀ j, j < i → bk (10 + j) = (-1)) → (∀ j, (j < 10 ∨ 10 + 10 ≤ j) → bk j = a1 j) → va_P E.1 vwCl [(a0, ee_i E 48 bk)] H → va_D A [(a0, ee_i E 48 bk)] → va_S A s.heap H locs → lv_has ls 2 [(1, .int (nI i)), (0, .ref a0)] → W p l e rmL_begins s m [.ref a0].toArray below meth c H locs 0 0 Q (F0 m 47 ls []) := by
    intro zz
    induction zz with
    | zero => intro i bk H locs ls hzz; exact absurd hzz (Nat.not_lt_zero _)
    | succ zz ihB_1 =>
      intro i bk H locs ls hzz hin b1 b2 hP hD hS hl
      refine lv_iload_n hx hb dL_begins_47 rfl (lv_at hl 0 rfl) ?_
      refine lv_bipush (v := nI 10) hx hb dL_begins_48 (by decide) ?_
      refine ee_ge (tgt := 66) hx hb (by omega) (by omega) dL_begins_50 (by decide) (fun h_2 => ?_) (fun h_2 => ?_)
      · refine lv_iconst (v := nI 0) hx hb dL_begins_66 (by decide) ?_
        refine lv_istore_n (lv' := [(1, .int (nI 0)), (0, .ref a0)]) hx hb dL_begins_67 rfl hl (by decide) rfl (fun ls hl => ?_)
        have B_3 : ∀ (zz : Nat) (i2 : Nat) (ck : Nat → Int32) (H : Heap) (locs : List Loc) (ls : Array Slot), (6 - i2) < zz → (i2 ≤ 6) → (∀ j, j < i2 → ck (40 + j) = (-1)) → (∀ j, (j < 40 ∨ 40 + 6 ≤ j) → ck j = bk j) → va_P E.1 vwCl [(a0, ee_i E 48 ck)] H → va_D A [(a0, ee_i E 48 ck)] → va_S A s.heap H locs → lv_has ls 2 [(1, .int (nI i2)), (0, .ref a0)] → W p l e rmL_begins s m [.ref a0].toArray below meth c H locs 0 0 Q (F0 m 68 ls []) := by
          intro zz
          induction zz with
          | zero => intro i2 ck H locs ls hzz; exact absurd hzz (Nat.not_lt_zero _)
          | succ zz ihB_3 =>
            intro i2 ck H locs ls hzz hin2 c1 c2 hP hD hS hl
            refine lv_iload_n hx hb dL_begins_68 rfl (lv_at hl 0 rfl) ?_
            refine lv_bipush (v := nI 6) hx hb dL_begins_69 (by decide) ?_
            refine ee_ge (tgt := 87) hx hb (by omega) (by omega) dL_begins_71 (by decide) (fun h_4 => ?_) (fun h_4 => ?_)
            · refine lv_aload_n hx hb dL_begins_87 rfl (lv_at hl 1 rfl) ?_
              refine lv_bipush (v := nI 46) hx hb dL_begins_88 (by decide) ?_
              refine lv_ldc hx hb hown (hts _ w1_L_begins) dL_begins_90 ?_
              refine ee_to (z := nI 1638400) rfl ?_
              refine ee_ist hx hb hV hP hD hS 0 rfl (j := 46) (by omega) (by decide) dL_begins_92 (fun H locs hP hD hS => ?_)
              have hP : va_P E.1 vwCl [(a0, ee_i E 48 (upd ck 46 (nI 1638400)))] H := hP
              have hD : va_D A [(a0, ee_i E 48 (upd ck 46 (nI 1638400)))] := hD
              exact ee_fv hQ hx hb hr hlocks hS (upd ck 46 (nI 1638400)) (bg_1 hA1 (fun j hj => b1 j (by omega)) b2 (fun j hj => c1 j (by omega)) c2) hP hD dL_begins_93
            · refine lv_aload_n hx hb dL_begins_74 rfl (lv_at hl 1 rfl) ?_
              refine lv_bipush (v := nI 40) hx hb dL_begins_75 (by decide) ?_
              refine lv_iload_n hx hb dL_begins_77 rfl (lv_at hl 0 rfl) ?_
              refine ee_iadd hx hb dL_begins_78 ?_
              refine lv_iconst (v := (-1)) hx hb dL_begins_79 (by decide) ?_
              refine ee_ist hx hb hV hP hD hS 0 rfl (j := (40 + i2)) (by omega) (by decide) dL_begins_80 (fun H locs hP hD hS => ?_)
              have hP : va_P E.1 vwCl [(a0, ee_i E 48 (upd ck (40 + i2) (-1)))] H := hP
              have hD : va_D A [(a0, ee_i E 48 (upd ck (40 + i2) (-1)))] := hD
              refine lv_iinc (v := nI (i2 + 1)) (lv' := [(1, .int (nI (i2 + 1))), (0, .ref a0)]) hx hb dL_begins_81 hl (k := 0) rfl (ee_inc _) (by decide) rfl (fun ls hl => ?_)
              refine lv_goto (tgt := 68) hx hb dL_begins_84 (by decide) ?_
              exact ihB_3 (i2 + 1) (upd ck (40 + i2) (-1)) _ _ _ (by omega) (by omega) ((x9_s (by omega) c1 c2).1) ((x9_s (by omega) c1 c2).2) hP hD hS (lv_sub hl [0, 1] rfl)
        exact B_3 ((6 - 0) + 1) 0 bk _ _ _ (Nat.lt_succ_self _) (by omega) (fun j hj => absurd hj (Nat.not_lt_zero _)) (fun _ _ => rfl) hP hD hS (lv_sub hl [0, 1] rfl)
      · refine lv_aload_n hx hb dL_begins_53 rfl (lv_at hl 1 rfl) ?_
        refine lv_bipush (v := nI 10) hx hb dL_begins_54 (by decide) ?_
        refine lv_iload_n hx hb dL_begins_56 rfl (lv_at hl 0 rfl) ?_
        refine ee_iadd hx hb dL_begins_57 ?_
        refine lv_iconst (v := (-1)) hx hb dL_begins_58 (by decide) ?_
        refine ee_ist hx hb hV hP hD hS 0 rfl (j := (10 + i)) (by omega) (by decide) dL_begins_59 (fun H locs hP hD hS => ?_)
        have hP : va_P E.1 vwCl [(a0, ee_i E 48 (upd bk (10 + i) (-1)))] H := hP
        have hD : va_D A [(a0, ee_i E 48 (upd bk (10 + i) (-1)))] := hD
        refine lv_iinc (v := nI (i + 1)) (lv' := [(1, .int (nI (i + 1))), (0, .ref a0)]) hx hb dL_begins_60 hl (k := 0) rfl (ee_inc _) (by decide) rfl (fun ls hl => ?_)
        refine lv_goto (tgt := 47) hx hb dL_begins_63 (by decide) ?_
        exact ihB_1 (i + 1) (upd bk (10 + i) (-1)) _ _ _ (by omega) (by omega) ((x9_s (by omega) b1 b2).1) ((x9_s (by omega) b1 b2).2) hP hD hS (lv_sub hl [0, 1] rfl)
  exact B_1 ((10 - 0) + 1) 0 a1 _ _ _ (Nat.lt_succ_self _) (by omega) (fun j hj => absurd hj (Nat.not_lt_zero _)) (fun _ _ => rfl) hP hD hS (lv_sub hl [0, 1] rfl)
abbrev rmL_typesNumber : Room := ({ frames := 2, cells := 0, slots := 0, locals := 43 } : Room)
theorem w1_L_typesNumber : Cond.methodLink RL 13 yX8_type ∈ wsL_typesNumber := List.mem_of_getElem? (i := 1) (by decide +kernel)
theorem w4_L_typesNumber : Cond.initialized RX8 ∈ wsL_typesNumber := List.mem_of_getElem? (i := 4) (by decide +kernel)
theorem w14_L_typesNumber : Cond.initialized RX7 ∈ wsL_typesNumber := List.mem_of_getElem? (i := 14) (by decide +kernel)
theorem i7_L_typesNumber : ∀ w ∈ wsX70, w ∈ wsL_typesNumber := fun w h => (goodIn_r _ [24, 25] (by decide +kernel) (by decide +kernel) w h).1
theorem i8_L_typesNumber : ∀ w ∈ wsX80, w ∈ wsL_typesNumber := fun w h => (goodIn_r _ [18, 19, 20, 21, 22, 23] (by decide +kernel) (by decide +kernel) w h).1
set_option maxHeartbeats 4000000 in
set_option maxRecDepth 100000 in
theorem kL_typesNumber (l : Launch) (E : ee_T) (o0 o1 o2 k0 o5 o6 : Nat) (h0 : Nat) (o7 tq : Nat) (tx : Nat → Int32) (v : Nat) (htq : tq + 2 ≤ 80) (hv : v ≤ 99) : CQ l E yL_typesNumber wsL_typesNumber rmL_typesNumber [.ref o0, .int (nI v)] [(o0, ee_o 8 [.ref o2, .ref o1, .ref h0, .ref k0, .ref o5, .ref o6]), (o1, ee_o 7 [.ref o7, .int (nI tq)]), (o7, ee_b E 80 tx)] (QI E (fun (r : Int32) (u : Nat × (Nat → Int32)) => r = nI 1 ∧ u.1 = tnN v tq ∧ u.2 = tnF v tq tx) (fun (u : Nat × (Nat → Int32)) => [(o0, ee_o 8 [.ref o2, .ref o1, .ref h0, .ref k0, .ref o5, .ref o6]), (o1, ee_o 7 [.ref o7, .int (nI u.1)]), (o7, ee_b E 80 u.2)])) 0 0 := by
  refine CQ_ofW (cc := cL_typesNumber) (maxL := 2) (ret := (some .boolean)) (by decide) rfl (Nat.le_of_ble_eq_true rfl) ?_
  intro p e s m below meth c A Q hQ hx hb hr hml hown hlocks hnm hts hV hA hP hD hS ls hl
  have hl : lv_has ls 2 [(0, .ref o0), (1, .int (nI v))] := hl
  refine lv_iload_n hx hb dL_typesNumber_0 rfl (lv_at hl 1 rfl) ?_
  refine lv_bipush (v := nI 10) hx hb dL_typesNumber_1 (by decide) ?_
  refine ee_lt (tgt := 20) hx hb (by omega) (by omega) dL_typesNumber_3 (by decide) (fun g3 => ?_) (fun g3 => ?_)
  · refine lv_aload_n hx hb dL_typesNumber_20 rfl (lv_at hl 0 rfl) ?_
    refine lv_bipush (v := nI 48) hx hb dL_typesNumber_21 (by decide) ?_
    refine lv_iload_n hx hb dL_typesNumber_23 rfl (lv_at hl 1 rfl) ?_
    refine lv_bipush (v := nI 10) hx hb dL_typesNumber_24 (by decide) ?_
    refine lv_irem hx hb dL_typesNumber_26 (by decide) ?_
    refine ee_to (z := nI (v % 10)) (pk_rem (by omega) (by decide) (by decide)) ?_
    refine ee_iadd hx hb dL_typesNumber_27 ?_
    refine ee_ki (wr := []) (ee_rV (As := [.int (nI (48 + (v % 10)))]) (rest := []) (kX8_type l E o0 o1 o2 k0 o5 o6 h0 o7 tq tx (nI (48 + (v % 10))) (by omega)) hx hb hml hown hts 1 gL_typesNumber_X8_type rfl rfl rfl (by decide +kernel) ⟨Nat.le_of_ble_eq_true rfl, Nat.le_of_ble_eq_true rfl⟩ hV hP hD hS hA [0, 1, 2] rfl (by decide) hl 0 rfl rfl rfl rfl (Nat.le_of_ble_eq_true rfl) dL_typesNumber_28 ⟨Nat.le_of_ble_eq_true rfl, Nat.le_of_ble_eq_true rfl⟩) hP hD hS hA [0, 1, 2] [] rfl rfl (by decide) (by decide) (fun r_1 u_2 H locs hp_3 hP hD hS => ?_)
    obtain ⟨tq9_28, tx9_28⟩ := u_2
    try dsimp only at hp_3
    obtain ⟨rfl, hty28⟩ := hp_3
    have hP : va_P E.1 vwCl [(o0, ee_o 8 [.ref o2, .ref o1, .ref h0, .ref k0, .ref o5, .ref o6]), (o1, ee_o 7 [.ref o7, .int (nI tq9_28)]), (o7, ee_b E 80 tx9_28)] H := hP
    have hD : va_D A [(o0, ee_o 8 [.ref o2, .ref o1, .ref h0, .ref k0, .ref o5, .ref o6]), (o1, ee_o 7 [.ref o7, .int (nI tq9_28)]), (o7, ee_b E 80 tx9_28)] := hD
    obtain ⟨rfl, rfl⟩ := ty_eq hty28 (by omega) (by omega)
    refine ee_to (z := nI (tq + 1)) (by rw [ty_ok (by omega) (by omega)]) ?_
    refine ee_le0 (tgt := 38) hx hb (by omega) dL_typesNumber_31 (by decide) (fun h_5 => absurd h_5 (by omega)) (fun h_5 => ?_)
    refine lv_iconst (v := nI 1) hx hb dL_typesNumber_34 (by decide) ?_
    refine lv_goto (tgt := 39) hx hb dL_typesNumber_35 (by decide) ?_
    exact ee_fi hQ hx hb hr (by decide) hlocks hS ((tq + 1), (upd tx tq (nI (48 + v % 10)))) (⟨rfl, (if_pos (by omega)).symm, (if_pos (by omega)).symm⟩) hP hD dL_typesNumber_39
  · refine lv_aload_n hx hb dL_typesNumber_6 rfl (lv_at hl 0 rfl) ?_
    refine lv_bipush (v := nI 48) hx hb dL_typesNumber_7 (by decide) ?_
    refine lv_iload_n hx hb dL_typesNumber_9 rfl (lv_at hl 1 rfl) ?_
    refine lv_bipush (v := nI 10) hx hb dL_typesNumber_10 (by decide) ?_
    refine lv_idiv hx hb dL_typesNumber_12 (by decide) ?_
    refine ee_to (z := nI (v / 10)) (pk_div (by omega) (by decide) (by decide)) ?_
    refine ee_iadd hx hb dL_typesNumber_13 ?_
    refine ee_ki (wr := []) (ee_rV (As := [.int (nI (48 + (v / 10)))]) (rest := []) (kX8_type l E o0 o1 o2 k0 o5 o6 h0 o7 tq tx (nI (48 + (v / 10))) (by omega)) hx hb hml hown hts 1 gL_typesNumber_X8_type rfl rfl rfl (by decide +kernel) ⟨Nat.le_of_ble_eq_true rfl, Nat.le_of_ble_eq_true rfl⟩ hV hP hD hS hA [0, 1, 2] rfl (by decide) hl 0 rfl rfl rfl rfl (Nat.le_of_ble_eq_true rfl) dL_typesNumber_14 ⟨Nat.le_of_ble_eq_true rfl, Nat.le_of_ble_eq_true rfl⟩) hP hD hS hA [0, 1, 2] [] rfl rfl (by decide) (by decide) (fun r_6 u_7 H locs hp_8 hP hD hS => ?_)
    obtain ⟨tq9_14, tx9_14⟩ := u_7
    try dsimp only at hp_8
    obtain ⟨rfl, hty14⟩ := hp_8
    have hP : va_P E.1 vwCl [(o0, ee_o 8 [.ref o2, .ref o1, .ref h0, .ref k0, .ref o5, .ref o6]), (o1, ee_o 7 [.ref o7, .int (nI tq9_14)]), (o7, ee_b E 80 tx9_14)] H := hP
    have hD : va_D A [(o0, ee_o 8 [.ref o2, .ref o1, .ref h0, .ref k0, .ref o5, .ref o6]), (o1, ee_o 7 [.ref o7, .int (nI tq9_14)]), (o7, ee_b E 80 tx9_14)] := hD
    obtain ⟨rfl, rfl⟩ := ty_eq hty14 (by omega) (by omega)
    refine ee_to (z := nI (tq + 1)) (by rw [ty_ok (by omega) (by omega)]) ?_
    refine ee_le0 (tgt := 38) hx hb (by omega) dL_typesNumber_17 (by decide) (fun h_10 => absurd h_10 (by omega)) (fun h_10 => ?_)
    refine lv_aload_n hx hb dL_typesNumber_20 rfl (lv_at hl 0 rfl) ?_
    refine lv_bipush (v := nI 48) hx hb dL_typesNumber_21 (by decide) ?_
    refine lv_iload_n hx hb dL_typesNumber_23 rfl (lv_at hl 1 rfl) ?_
    refine lv_bipush (v := nI 10) hx hb dL_typesNumber_24 (by decide) ?_
    refine lv_irem hx hb dL_typesNumber_26 (by decide) ?_
    refine ee_to (z := nI (v % 10)) (pk_rem (by omega) (by decide) (by decide)) ?_
    refine ee_iadd hx hb dL_typesNumber_27 ?_
    refine ee_ki (wr := []) (ee_rV (As := [.int (nI (48 + (v % 10)))]) (rest := []) (kX8_type l E o0 o1 o2 k0 o5 o6 h0 o7 (tq + 1) (upd tx tq (nI (48 + v / 10))) (nI (48 + (v % 10))) (by omega)) hx hb hml hown hts 1 gL_typesNumber_X8_type rfl rfl rfl (by decide +kernel) ⟨Nat.le_of_ble_eq_true rfl, Nat.le_of_ble_eq_true rfl⟩ hV hP hD hS hA [0, 1, 2] rfl (by decide) hl 0 rfl rfl rfl rfl (Nat.le_of_ble_eq_true rfl) dL_typesNumber_28 ⟨Nat.le_of_ble_eq_true rfl, Nat.le_of_ble_eq_true rfl⟩) hP hD hS hA [0, 1, 2] [] rfl rfl (by decide) (by decide) (fun r_11 u_12 H locs hp_13 hP hD hS => ?_)
    obtain ⟨tq9_28, tx9_28⟩ := u_12
    try dsimp only at hp_13
    obtain ⟨rfl, hty28⟩ := hp_13
    have hP : va_P E.1 vwCl [(o0, ee_o 8 [.ref o2, .ref o1, .ref h0, .ref k0, .ref o5, .ref o6]), (o1, ee_o 7 [.ref o7, .int (nI tq9_28)]), (o7, ee_b E 80 tx9_28)] H := hP
    have hD : va_D A [(o0, ee_o 8 [.ref o2, .ref o1, .ref h0, .ref k0, .ref o5, .ref o6]), (o1, ee_o 7 [.ref o7, .int (nI tq9_28)]), (o7, ee_b E 80 tx9_28)] := hD
    obtain ⟨rfl, rfl⟩ := ty_eq hty28 (by omega) (by omega)
    refine ee_to (z := nI ((tq + 1) + 1)) (by rw [ty_ok (by omega) (by omega)]) ?_
    refine ee_le0 (tgt := 38) hx hb (by omega) dL_typesNumber_31 (by decide) (fun h_15 => absurd h_15 (by omega)) (fun h_15 => ?_)
    refine lv_iconst (v := nI 1) hx hb dL_typesNumber_34 (by decide) ?_
    refine lv_goto (tgt := 39) hx hb dL_typesNumber_35 (by decide) ?_
    exact ee_fi hQ hx hb hr (by decide) hlocks hS (((tq + 1) + 1), (upd (upd tx tq (nI (48 + v / 10))) (tq + 1) (nI (48 + v % 10)))) (⟨rfl, (if_neg (by omega)).symm, (if_neg (by omega)).symm⟩) hP hD dL_typesNumber_39
