/-! Ring, Settings -/
abbrev rmX4_makeEmpty : Room := ({ frames := 0, cells := 0, slots := 0, locals := 0 } : Room)
theorem w1_X4_makeEmpty : Cond.fieldLink RX4 19 "LabelApplicator$Ring" "stations" "I" ∈ wsX4_makeEmpty := List.mem_of_getElem? (i := 1) (by decide +kernel)
theorem w2_X4_makeEmpty : Cond.fieldLink RX4 9 "LabelApplicator$Ring" "reasons" "[I" ∈ wsX4_makeEmpty := List.mem_of_getElem? (i := 2) (by decide +kernel)
theorem i4_X4_makeEmpty : ∀ w ∈ wsX40, w ∈ wsX4_makeEmpty := fun w h => (goodIn_r _ [3, 4] (by decide +kernel) (by decide +kernel) w h).1
set_option maxHeartbeats 4000000 in
set_option maxRecDepth 100000 in
theorem kX4_makeEmpty (l : Launch) (E : ee_T) (h0 h1 : Nat) (st : Nat) (rg : Nat → Int32) (k : Nat)  : CQ l E yX4_makeEmpty wsX4_makeEmpty rmX4_makeEmpty [.ref h0, .int (nI k)] [(h0, ee_o 4 [.ref h1, .int (nI st)]), (h1, ee_i E 10 rg)] (QV E (fun (u : Nat → Int32) => ∀ j, j < 10 → u j = (-1)) (fun (u : Nat → Int32) => [(h0, ee_o 4 [.ref h1, .int (nI k)]), (h1, ee_i E 10 u)])) 0 0 := by
  refine CQ_ofW (cc := cX4_makeEmpty) (maxL := 3) (ret := none) (by decide) rfl (Nat.le_of_ble_eq_true rfl) ?_
  intro p e s m below meth c A Q hQ hx hb hr hml hown hlocks hnm hts hV hA hP hD hS ls hl
  have hl : lv_has ls 3 [(0, .ref h0), (1, .int (nI k))] := hl
  refine lv_aload_n hx hb dX4_makeEmpty_0 rfl (lv_at hl 0 rfl) ?_
  refine lv_iload_n hx hb dX4_makeEmpty_1 rfl (lv_at hl 1 rfl) ?_
  refine va_put (ci := 4) (v := .int (nI k)) (ty := .int) (C := RX4) (T := TX4) (N := 2) hx hb hts i4_X4_makeEmpty tyX4 tyX4_ok nmX4 hown hV.1 hP hD hS 0 rfl rfl 1 (by decide) (hts _ w1_X4_makeEmpty) (fun _ h9 => h9) rfl (by decide +kernel) rfl rfl (Nat.le_of_ble_eq_true rfl) dX4_makeEmpty_2 (fun H locs hP hD hS => ?_)
  have hP : va_P E.1 vwCl [(h0, ee_o 4 [.ref h1, .int (nI k)]), (h1, ee_i E 10 rg)] H := hP
  have hD : va_D A [(h0, ee_o 4 [.ref h1, .int (nI k)]), (h1, ee_i E 10 rg)] := hD
  refine lv_iconst (v := nI 0) hx hb dX4_makeEmpty_5 (by decide) ?_
  refine lv_istore_n (lv' := [(2, .int (nI 0)), (0, .ref h0), (1, .int (nI k))]) hx hb dX4_makeEmpty_6 rfl hl (by decide) rfl (fun ls hl => ?_)
  have B_1 : ∀ (zz : Nat) (i : Nat) (gk : Nat → Int32) (H : Heap) (locs : List Loc) (ls : Array Slot), (10 - i) < zz → (i ≤ 10) → (∀ j, j < i → gk j = (fun _ => (-1)) j) → va_P E.1 vwCl [(h0, ee_o 4 [.ref h1, .int (nI k)]), (h1, ee_i E 10 gk)] H → va_D A [(h0, ee_o 4 [.ref h1, .int (nI k)]), (h1, ee_i E 10 gk)] → va_S A s.heap H locs → lv_has ls 3 [(2, .int (nI i)), (0, .ref h0), (1, .int (nI k))] → W p l e rmX4_makeEmpty s m [.ref h0, .int (nI k)].toArray below meth c H locs 0 0 Q (F0 m 7 ls []) := by
    intro zz
    induction zz with
    | zero => intro i gk H locs ls hzz; exact absurd hzz (Nat.not_lt_zero _)
    | succ zz ihB_1 =>
      intro i gk H locs ls hzz hin g1 hP hD hS hl
      refine lv_iload_n hx hb dX4_makeEmpty_7 rfl (lv_at hl 0 rfl) ?_
      refine lv_aload_n hx hb dX4_makeEmpty_8 rfl (lv_at hl 1 rfl) ?_
      refine va_get (ci := 4) (v := .ref h1) (C := RX4) (T := TX4) (N := 2) hx hb hts i4_X4_makeEmpty hown hV.1 hP 0 rfl rfl 0 (by decide) (hts _ w2_X4_makeEmpty) (fun _ h9 => h9) rfl dX4_makeEmpty_9 ?_
      refine va_alen (v := nI 10) hx hb hV.1 hP 1 0 rfl rfl rfl dX4_makeEmpty_12 ?_
      refine ee_ge (tgt := 29) hx hb (by omega) (by omega) dX4_makeEmpty_13 (by decide) (fun h_2 => ?_) (fun h_2 => ?_)
      · exact ee_fv hQ hx hb hr hlocks hS gk (fun j hj => g1 j (by omega)) hP hD dX4_makeEmpty_29
      · refine lv_aload_n hx hb dX4_makeEmpty_16 rfl (lv_at hl 1 rfl) ?_
        refine va_get (ci := 4) (v := .ref h1) (C := RX4) (T := TX4) (N := 2) hx hb hts i4_X4_makeEmpty hown hV.1 hP 0 rfl rfl 0 (by decide) (hts _ w2_X4_makeEmpty) (fun _ h9 => h9) rfl dX4_makeEmpty_17 ?_
        refine lv_iload_n hx hb dX4_makeEmpty_20 rfl (lv_at hl 0 rfl) ?_
        refine lv_iconst (v := (-1)) hx hb dX4_makeEmpty_21 (by decide) ?_
        refine ee_ist hx hb hV hP hD hS 1 rfl (j := i) (by omega) (by decide) dX4_makeEmpty_22 (fun H locs hP hD hS => ?_)
        have hP : va_P E.1 vwCl [(h0, ee_o 4 [.ref h1, .int (nI k)]), (h1, ee_i E 10 (upd gk i (-1)))] H := hP
        have hD : va_D A [(h0, ee_o 4 [.ref h1, .int (nI k)]), (h1, ee_i E 10 (upd gk i (-1)))] := hD
        refine lv_iinc (v := nI (i + 1)) (lv' := [(2, .int (nI (i + 1))), (0, .ref h0), (1, .int (nI k))]) hx hb dX4_makeEmpty_23 hl (k := 0) rfl (ee_inc _) (by decide) rfl (fun ls hl => ?_)
        refine lv_goto (tgt := 7) hx hb dX4_makeEmpty_26 (by decide) ?_
        exact ihB_1 (i + 1) (upd gk i (-1)) _ _ _ (by omega) (by omega) (up_s g1 rfl) hP hD hS (lv_sub hl [0, 1, 2] rfl)
  exact B_1 ((10 - 0) + 1) 0 rg _ _ _ (Nat.lt_succ_self _) (by omega) (fun j hj => absurd hj (Nat.not_lt_zero _)) hP hD hS (lv_sub hl [0, 1, 2] rfl)
abbrev rmX4_reasonAt : Room := ({ frames := 0, cells := 0, slots := 0, locals := 0 } : Room)
theorem w1_X4_reasonAt : Cond.fieldLink RX4 9 "LabelApplicator$Ring" "reasons" "[I" ∈ wsX4_reasonAt := List.mem_of_getElem? (i := 1) (by decide +kernel)
theorem i4_X4_reasonAt : ∀ w ∈ wsX40, w ∈ wsX4_reasonAt := fun w h => (goodIn_r _ [2, 3] (by decide +kernel) (by decide +kernel) w h).1
set_option maxHeartbeats 4000000 in
set_option maxRecDepth 100000 in
theorem kX4_reasonAt (l : Launch) (E : ee_T) (h0 h1 : Nat) (st : Nat) (rg : Nat → Int32) (i : Nat) (hi : i < 10) : CQ l E yX4_reasonAt wsX4_reasonAt rmX4_reasonAt [.ref h0, .int (nI i)] [(h0, ee_o 4 [.ref h1, .int (nI st)]), (h1, ee_i E 10 rg)] (QI E (fun (r : Int32) (u : Unit) => r = rg i) (fun (u : Unit) => [(h0, ee_o 4 [.ref h1, .int (nI st)]), (h1, ee_i E 10 rg)])) 0 0 := by
  refine CQ_ofW (cc := cX4_reasonAt) (maxL := 2) (ret := (some .int)) (by decide) rfl (Nat.le_of_ble_eq_true rfl) ?_
  intro p e s m below meth c A Q hQ hx hb hr hml hown hlocks hnm hts hV hA hP hD hS ls hl
  have hl : lv_has ls 2 [(0, .ref h0), (1, .int (nI i))] := hl
  refine lv_iload_n hx hb dX4_reasonAt_0 rfl (lv_at hl 1 rfl) ?_
  refine ee_lt0 (tgt := 22) hx hb (by omega) dX4_reasonAt_1 (by decide) ?_
  refine lv_iload_n hx hb dX4_reasonAt_4 rfl (lv_at hl 1 rfl) ?_
  refine lv_aload_n hx hb dX4_reasonAt_5 rfl (lv_at hl 0 rfl) ?_
  refine va_get (ci := 4) (v := .ref h1) (C := RX4) (T := TX4) (N := 2) hx hb hts i4_X4_reasonAt hown hV.1 hP 0 rfl rfl 0 (by decide) (hts _ w1_X4_reasonAt) (fun _ h9 => h9) rfl dX4_reasonAt_6 ?_
  refine va_alen (v := nI 10) hx hb hV.1 hP 1 0 rfl rfl rfl dX4_reasonAt_9 ?_
  refine ee_ge (tgt := 22) hx hb (by omega) (by omega) dX4_reasonAt_10 (by decide) (fun h_2 => absurd h_2 (by omega)) (fun h_2 => ?_)
  refine lv_aload_n hx hb dX4_reasonAt_13 rfl (lv_at hl 0 rfl) ?_
  refine va_get (ci := 4) (v := .ref h1) (C := RX4) (T := TX4) (N := 2) hx hb hts i4_X4_reasonAt hown hV.1 hP 0 rfl rfl 0 (by decide) (hts _ w1_X4_reasonAt) (fun _ h9 => h9) rfl dX4_reasonAt_14 ?_
  refine lv_iload_n hx hb dX4_reasonAt_17 rfl (lv_at hl 1 rfl) ?_
  refine ee_ild hx hb hV hP 1 rfl (j := i) (by omega) (by decide) dX4_reasonAt_18 ?_
  refine lv_goto (tgt := 23) hx hb dX4_reasonAt_19 (by decide) ?_
  exact ee_fi hQ hx hb hr (rfl) hlocks hS () (rfl) hP hD dX4_reasonAt_23
abbrev rmX4_products : Room := ({ frames := 1, cells := 0, slots := 0, locals := 21 } : Room)
theorem w1_X4_products : Cond.fieldLink RX4 19 "LabelApplicator$Ring" "stations" "I" ∈ wsX4_products := List.mem_of_getElem? (i := 1) (by decide +kernel)
theorem w2_X4_products : Cond.methodLink RX4 23 yX4_reasonAt ∈ wsX4_products := List.mem_of_getElem? (i := 2) (by decide +kernel)
theorem w5_X4_products : Cond.initialized RX4 ∈ wsX4_products := List.mem_of_getElem? (i := 5) (by decide +kernel)
theorem w7_X4_products : Cond.fieldLink RX4 9 "LabelApplicator$Ring" "reasons" "[I" ∈ wsX4_products := List.mem_of_getElem? (i := 7) (by decide +kernel)
theorem i4_X4_products : ∀ w ∈ wsX40, w ∈ wsX4_products := fun w h => (goodIn_r _ [8, 9] (by decide +kernel) (by decide +kernel) w h).1
set_option maxHeartbeats 4000000 in
set_option maxRecDepth 100000 in
theorem kX4_products (l : Launch) (E : ee_T) (h0 h1 : Nat) (st : Nat) (rg : Nat → Int32) (hst : st ≤ 10) : CQ l E yX4_products wsX4_products rmX4_products [.ref h0] [(h0, ee_o 4 [.ref h1, .int (nI st)]), (h1, ee_i E 10 rg)] (QI E (fun (r : Int32) (u : Unit) => r = nI (cntR rg st)) (fun (u : Unit) => [(h0, ee_o 4 [.ref h1, .int (nI st)]), (h1, ee_i E 10 rg)])) 0 0 := by
  refine CQ_ofW (cc := cX4_products) (maxL := 3) (ret := (some .int)) (by decide) rfl (Nat.le_of_ble_eq_true rfl) ?_
  intro p e s m below meth c A Q hQ hx hb hr hml hown hlocks hnm hts hV hA hP hD hS ls hl
  have hl : lv_has ls 3 [(0, .ref h0)] := hl
  refine lv_iconst (v := nI 0) hx hb dX4_products_0 (by decide) ?_
  refine lv_istore_n (lv' := [(1, .int (nI 0)), (0, .ref h0)]) hx hb dX4_products_1 rfl hl (by decide) rfl (fun ls hl => ?_)
  refine lv_iconst (v := nI 0) hx hb dX4_products_2 (by decide) ?_
  refine lv_istore_n (lv' := [(2, .int (nI 0)), (1, .int (nI 0)), (0, .ref h0)]) hx hb dX4_products_3 rfl hl (by decide) rfl (fun ls hl => ?_)
  have B_1 : ∀ (zz : Nat) (i n : Nat) (H : Heap) (locs : List Loc) (ls : Array Slot), (st - i) < zz → (i ≤ st) → (n = cntR rg i) → va_P E.1 vwCl [(h0, ee_o 4 [.ref h1, .int (nI st)]), (h1, ee_i E 10 rg)] H → va_D A [(h0, ee_o 4 [.ref h1, .int (nI st)]), (h1, ee_i E 10 rg)] → va_S A s.heap H locs → lv_has ls 3 [(2, .int (nI i)), (1, .int (nI n)), (0, .ref h0)] → W p l e rmX4_products s m [.ref h0].toArray below meth c H locs 0 0 Q (F0 m 4 ls []) := by
    intro zz
    induction zz with
    | zero => intro i n H locs ls hzz; exact absurd hzz (Nat.not_lt_zero _)
    | succ zz ihB_1 =>
      intro i n H locs ls hzz hin hn2 hP hD hS hl
      refine lv_iload_n hx hb dX4_products_4 rfl (lv_at hl 0 rfl) ?_
      refine lv_aload_n hx hb dX4_products_5 rfl (lv_at hl 2 rfl) ?_
      refine va_get (ci := 4) (v := .int (nI st)) (C := RX4) (T := TX4) (N := 2) hx hb hts i4_X4_products hown hV.1 hP 0 rfl rfl 1 (by decide) (hts _ w1_X4_products) (fun _ h9 => h9) rfl dX4_products_6 ?_
      refine ee_ge (tgt := 30) hx hb (by omega) (by omega) dX4_products_9 (by decide) (fun h_2 => ?_) (fun h_2 => ?_)
      · refine lv_iload_n hx hb dX4_products_30 rfl (lv_at hl 1 rfl) ?_
        obtain rfl : i = st := by omega
        subst hn2
        exact ee_fi hQ hx hb hr (rfl) hlocks hS () (rfl) hP hD dX4_products_31
      · refine lv_aload_n hx hb dX4_products_12 rfl (lv_at hl 2 rfl) ?_
        refine lv_iload_n hx hb dX4_products_13 rfl (lv_at hl 0 rfl) ?_
        refine ee_ki (wr := []) (ee_rV (As := [.int (nI i)]) (rest := []) (kX4_reasonAt l E h0 h1 st rg i (by omega)) hx hb hml hown hts 1 gX4_products_X4_reasonAt rfl rfl rfl (by decide +kernel) ⟨Nat.le_of_ble_eq_true rfl, Nat.le_of_ble_eq_true rfl⟩ hV hP hD hS hA [0, 1] rfl (by decide) hl 0 rfl rfl rfl rfl (Nat.le_of_ble_eq_true rfl) dX4_products_14 ⟨Nat.le_of_ble_eq_true rfl, Nat.le_of_ble_eq_true rfl⟩) hP hD hS hA [0, 1] [] rfl rfl (by decide) (by decide) (fun r_3 u_4 H locs hp_5 hP hD hS => ?_)
        subst hp_5
        have hP : va_P E.1 vwCl [(h0, ee_o 4 [.ref h1, .int (nI st)]), (h1, ee_i E 10 rg)] H := hP
        have hD : va_D A [(h0, ee_o 4 [.ref h1, .int (nI st)]), (h1, ee_i E 10 rg)] := hD
        refine lv_iconst (v := (-1)) hx hb dX4_products_17 (by decide) ?_
        have hle := cntR_le rg i
        refine lv_icmp_eq (tgt := 24) hx hb dX4_products_18 (by decide) (fun h_6 => ?_) (fun h_6 => ?_)
        · refine lv_iinc (v := nI (i + 1)) (lv' := [(2, .int (nI (i + 1))), (1, .int (nI n)), (0, .ref h0)]) hx hb dX4_products_24 hl (k := 0) rfl (ee_inc _) (by decide) rfl (fun ls hl => ?_)
          refine lv_goto (tgt := 4) hx hb dX4_products_27 (by decide) ?_
          exact ihB_1 (i + 1) n _ _ _ (by omega) (by omega) (by rw [cntR, if_pos (by assumption), ← hn2]) hP hD hS (lv_sub hl [0, 1, 2] rfl)
        · refine lv_iinc (v := nI (n + 1)) (lv' := [(1, .int (nI (n + 1))), (2, .int (nI i)), (0, .ref h0)]) hx hb dX4_products_21 hl (k := 1) rfl (ee_inc _) (by decide) rfl (fun ls hl => ?_)
          refine lv_iinc (v := nI (i + 1)) (lv' := [(2, .int (nI (i + 1))), (1, .int (nI (n + 1))), (0, .ref h0)]) hx hb dX4_products_24 hl (k := 1) rfl (ee_inc _) (by decide) rfl (fun ls hl => ?_)
          refine lv_goto (tgt := 4) hx hb dX4_products_27 (by decide) ?_
          exact ihB_1 (i + 1) (n + 1) _ _ _ (by omega) (by omega) (by rw [cntR, if_neg (by assumption), ← hn2]) hP hD hS (lv_sub hl [0, 1, 2] rfl)
  exact B_1 ((st - 0) + 1) 0 0 _ _ _ (Nat.lt_succ_self _) (by omega) rfl hP hD hS (lv_sub hl [0, 1, 2] rfl)
abbrev rmX4_moveOn : Room := ({ frames := 0, cells := 0, slots := 0, locals := 0 } : Room)
theorem w1_X4_moveOn : Cond.fieldLink RX4 19 "LabelApplicator$Ring" "stations" "I" ∈ wsX4_moveOn := List.mem_of_getElem? (i := 1) (by decide +kernel)
theorem w2_X4_moveOn : Cond.fieldLink RX4 9 "LabelApplicator$Ring" "reasons" "[I" ∈ wsX4_moveOn := List.mem_of_getElem? (i := 2) (by decide +kernel)
theorem i4_X4_moveOn : ∀ w ∈ wsX40, w ∈ wsX4_moveOn := fun w h => (goodIn_r _ [3, 4] (by decide +kernel) (by decide +kernel) w h).1
set_option maxHeartbeats 4000000 in
set_option maxRecDepth 100000 in
theorem kX4_moveOn (l : Launch) (E : ee_T) (h0 h1 : Nat) (st : Nat) (rg : Nat → Int32) (x : Int32) (h1s : 1 ≤ st) (hst : st ≤ 10) : CQ l E yX4_moveOn wsX4_moveOn rmX4_moveOn [.ref h0, .int x] [(h0, ee_o 4 [.ref h1, .int (nI st)]), (h1, ee_i E 10 rg)] (QI E (fun (r : Int32) (u : Unit) => r = rg (st - 1)) (fun (u : Unit) => [(h0, ee_o 4 [.ref h1, .int (nI st)]), (h1, ee_i E 10 (rgS rg st x))])) 0 0 := by
  refine CQ_ofW (cc := cX4_moveOn) (maxL := 5) (ret := (some .int)) (by decide) rfl (Nat.le_of_ble_eq_true rfl) ?_
  intro p e s m below meth c A Q hQ hx hb hr hml hown hlocks hnm hts hV hA hP hD hS ls hl
  have hl : lv_has ls 5 [(0, .ref h0), (1, .int x)] := hl
  refine lv_iload_n hx hb dX4_moveOn_0 rfl (lv_at hl 1 rfl) ?_
  refine lv_istore_n (lv' := [(2, .int x), (0, .ref h0), (1, .int x)]) hx hb dX4_moveOn_1 rfl hl (by decide) rfl (fun ls hl => ?_)
  refine lv_iconst (v := nI 0) hx hb dX4_moveOn_2 (by decide) ?_
  refine lv_istore_n (lv' := [(3, .int (nI 0)), (2, .int x), (0, .ref h0), (1, .int x)]) hx hb dX4_moveOn_3 rfl hl (by decide) rfl (fun ls hl => ?_)
  have B_1 : ∀ (zz : Nat) (i : Nat) (cg : Int32) (gk : Nat → Int32) (H : Heap) (locs : List Loc) (ls : Array Slot), (st - i) < zz → (i ≤ st) → (cg = if i = 0 then x else rg (i - 1)) → (gk = rgS rg i x) → va_P E.1 vwCl [(h0, ee_o 4 [.ref h1, .int (nI st)]), (h1, ee_i E 10 gk)] H → va_D A [(h0, ee_o 4 [.ref h1, .int (nI st)]), (h1, ee_i E 10 gk)] → va_S A s.heap H locs → lv_has ls 5 [(3, .int (nI i)), (2, .int cg), (0, .ref h0), (1, .int x)] → W p l e rmX4_moveOn s m [.ref h0, .int x].toArray below meth c H locs 0 0 Q (F0 m 4 ls []) := by
    intro zz
    induction zz with
    | zero => intro i cg gk H locs ls hzz; exact absurd hzz (Nat.not_lt_zero _)
    | succ zz ihB_1 =>
      intro i cg gk H locs ls hzz hin hc hg hP hD hS hl
      refine lv_iload_n hx hb dX4_moveOn_4 rfl (lv_at hl 0 rfl) ?_
      refine lv_aload_n hx hb dX4_moveOn_5 rfl (lv_at hl 2 rfl) ?_
      refine va_get (ci := 4) (v := .int (nI st)) (C := RX4) (T := TX4) (N := 2) hx hb hts i4_X4_moveOn hown hV.1 hP 0 rfl rfl 1 (by decide) (hts _ w1_X4_moveOn) (fun _ h9 => h9) rfl dX4_moveOn_6 ?_
      refine ee_ge (tgt := 45) hx hb (by omega) (by omega) dX4_moveOn_9 (by decide) (fun h_2 => ?_) (fun h_2 => ?_)
      · refine lv_iload_n hx hb dX4_moveOn_45 rfl (lv_at hl 1 rfl) ?_
        obtain rfl : i = st := by omega
        subst hg
        exact ee_fi hQ hx hb hr (rfl) hlocks hS () (by rw [hc, if_neg (by omega)]) hP hD dX4_moveOn_46
      · refine lv_iload_n hx hb dX4_moveOn_12 rfl (lv_at hl 0 rfl) ?_
        refine lv_aload_n hx hb dX4_moveOn_13 rfl (lv_at hl 2 rfl) ?_
        refine va_get (ci := 4) (v := .ref h1) (C := RX4) (T := TX4) (N := 2) hx hb hts i4_X4_moveOn hown hV.1 hP 0 rfl rfl 0 (by decide) (hts _ w2_X4_moveOn) (fun _ h9 => h9) rfl dX4_moveOn_14 ?_
        refine va_alen (v := nI 10) hx hb hV.1 hP 1 0 rfl rfl rfl dX4_moveOn_17 ?_
        refine ee_ge (tgt := 45) hx hb (by omega) (by omega) dX4_moveOn_18 (by decide) (fun h_3 => absurd h_3 (by omega)) (fun h_3 => ?_)
        refine lv_aload_n hx hb dX4_moveOn_21 rfl (lv_at hl 2 rfl) ?_
        refine va_get (ci := 4) (v := .ref h1) (C := RX4) (T := TX4) (N := 2) hx hb hts i4_X4_moveOn hown hV.1 hP 0 rfl rfl 0 (by decide) (hts _ w2_X4_moveOn) (fun _ h9 => h9) rfl dX4_moveOn_22 ?_
        refine lv_iload_n hx hb dX4_moveOn_25 rfl (lv_at hl 0 rfl) ?_
        refine ee_ild hx hb hV hP 1 rfl (j := i) (by omega) (by decide) dX4_moveOn_26 ?_
        refine lv_istore (lv' := [(4, .int (gk i)), (3, .int (nI i)), (2, .int cg), (0, .ref h0), (1, .int x)]) hx hb dX4_moveOn_27 hl (by decide) rfl (fun ls hl => ?_)
        refine lv_aload_n hx hb dX4_moveOn_29 rfl (lv_at hl 3 rfl) ?_
        refine va_get (ci := 4) (v := .ref h1) (C := RX4) (T := TX4) (N := 2) hx hb hts i4_X4_moveOn hown hV.1 hP 0 rfl rfl 0 (by decide) (hts _ w2_X4_moveOn) (fun _ h9 => h9) rfl dX4_moveOn_30 ?_
        refine lv_iload_n hx hb dX4_moveOn_33 rfl (lv_at hl 1 rfl) ?_
        refine lv_iload_n hx hb dX4_moveOn_34 rfl (lv_at hl 2 rfl) ?_
        refine ee_ist hx hb hV hP hD hS 1 rfl (j := i) (by omega) (by decide) dX4_moveOn_35 (fun H locs hP hD hS => ?_)
        have hP : va_P E.1 vwCl [(h0, ee_o 4 [.ref h1, .int (nI st)]), (h1, ee_i E 10 (upd gk i cg))] H := hP
        have hD : va_D A [(h0, ee_o 4 [.ref h1, .int (nI st)]), (h1, ee_i E 10 (upd gk i cg))] := hD
        refine lv_iload hx hb dX4_moveOn_36 (lv_at hl 0 rfl) ?_
        refine lv_istore_n (lv' := [(2, .int (gk i)), (4, .int (gk i)), (3, .int (nI i)), (0, .ref h0), (1, .int x)]) hx hb dX4_moveOn_38 rfl hl (by decide) rfl (fun ls hl => ?_)
        refine lv_iinc (v := nI (i + 1)) (lv' := [(3, .int (nI (i + 1))), (2, .int (gk i)), (4, .int (gk i)), (0, .ref h0), (1, .int x)]) hx hb dX4_moveOn_39 hl (k := 2) rfl (ee_inc _) (by decide) rfl (fun ls hl => ?_)
        refine lv_goto (tgt := 4) hx hb dX4_moveOn_42 (by decide) ?_
        exact ihB_1 (i + 1) (gk i) (upd gk i cg) _ _ _ (by omega) (by omega) (by rw [if_neg (by omega), hg, rgS_at]; rfl) (by rw [hg]; exact rgS_s rg i x cg hc) hP hD hS (lv_sub hl [0, 1, 3, 4] rfl)
  exact B_1 ((st - 0) + 1) 0 x rg _ _ _ (Nat.lt_succ_self _) (by omega) rfl (rgS_0 rg x) hP hD hS (lv_sub hl [0, 1, 2, 3] rfl)
abbrev rmX4_init : Room := ({ frames := 1, cells := 1, slots := 10, locals := 22 } : Room)
theorem w1_X4_init : Cond.methodLink RX4 3 objectInit ∈ wsX4_init := List.mem_of_getElem? (i := 1) (by decide +kernel)
theorem w2_X4_init : Cond.instanceMethod objectInit ∈ wsX4_init := List.mem_of_getElem? (i := 2) (by decide +kernel)
theorem w3_X4_init : Cond.code objectInit ⟨#[0xb1]⟩ 1 none ∈ wsX4_init := List.mem_of_getElem? (i := 3) (by decide +kernel)
theorem w4_X4_init : Cond.arrayClass .int ∈ wsX4_init := List.mem_of_getElem? (i := 4) (by decide +kernel)
theorem w5_X4_init : Cond.fieldLink RX4 9 "LabelApplicator$Ring" "reasons" "[I" ∈ wsX4_init := List.mem_of_getElem? (i := 5) (by decide +kernel)
theorem w6_X4_init : Cond.methodLink RX4 15 yX4_makeEmpty ∈ wsX4_init := List.mem_of_getElem? (i := 6) (by decide +kernel)
theorem w9_X4_init : Cond.initialized RX4 ∈ wsX4_init := List.mem_of_getElem? (i := 9) (by decide +kernel)
theorem w11_X4_init : Cond.fieldLink RX4 19 "LabelApplicator$Ring" "stations" "I" ∈ wsX4_init := List.mem_of_getElem? (i := 11) (by decide +kernel)
theorem i4_X4_init : ∀ w ∈ wsX40, w ∈ wsX4_init := fun w h => (goodIn_r _ [12, 13] (by decide +kernel) (by decide +kernel) w h).1
set_option maxHeartbeats 4000000 in
set_option maxRecDepth 100000 in
theorem kX4_init (l : Launch) (E : ee_T) (h0 : Nat)  : CQ l E yX4_init wsX4_init rmX4_init [.ref h0] [(h0, ee_o 4 [.null, .int (nI 0)])] (QV E (fun (u : Nat × (Nat → Int32)) => ∀ j, j < 10 → u.2 j = (-1)) (fun (u : Nat × (Nat → Int32)) => [(h0, ee_o 4 [.ref u.1, .int (nI 4)]), (u.1, ee_i E 10 u.2)])) 1 10 := by
  refine CQ_ofW (cc := cX4_init) (maxL := 1) (ret := none) (by decide) rfl (Nat.le_of_ble_eq_true rfl) ?_
  intro p e s m below meth c A Q hQ hx hb hr hml hown hlocks hnm hts hV hA hP hD hS ls hl
  have hl : lv_has ls 1 [(0, .ref h0)] := hl
  refine lv_aload_n hx hb dX4_init_0 rfl (lv_at hl 0 rfl) ?_
  refine W.objInit hx hb hown (hts _ w1_X4_init) (hts _ w2_X4_init) (hts _ w3_X4_init) rfl (by rw [hml]; exact hl.1) rfl dX4_init_1 (Nat.le_of_ble_eq_true rfl) (Nat.le_of_ble_eq_true rfl) ?_
  refine W.eq (g2 := F0 m 4 ls []) rfl ?_
  refine lv_aload_n hx hb dX4_init_4 rfl (lv_at hl 0 rfl) ?_
  refine lv_bipush (v := nI 10) hx hb dX4_init_5 (by decide) ?_
  refine ee_newi hx hb (hts _ w4_X4_init) hV hP hD hS hA (N := 10) (by decide) (Nat.le_of_ble_eq_true rfl) (Nat.le_of_ble_eq_true rfl) dX4_init_7 (fun qr H hP hD hS => ?_)
  have hP : va_P E.1 vwCl [(h0, ee_o 4 [.null, .int (nI 0)]), (qr, ee_i E 10 (fun _ => nI 0))] H := hP
  have hD : va_D A [(h0, ee_o 4 [.null, .int (nI 0)]), (qr, ee_i E 10 (fun _ => nI 0))] := hD
  refine W.widen (k := 1) (n := 10) (by omega) (by omega) ?_
  refine va_putF (ci := 4) (v := .ref qr) (ty := .array .int) (C := RX4) (T := TX4) (N := 2) hx hb hts i4_X4_init tyX4 tyX4_ok nmX4 hown hV.1 hP hD hS 0 rfl rfl 0 (by decide) (hts _ w5_X4_init) (fun _ h9 => h9) rfl hnm rfl (by decide +kernel) rfl rfl (Nat.le_of_ble_eq_true rfl) dX4_init_9 (fun H locs hP hD hS => ?_)
  have hP : va_P E.1 vwCl [(h0, ee_o 4 [.ref qr, .int (nI 0)]), (qr, ee_i E 10 (fun _ => nI 0))] H := hP
  have hD : va_D A [(h0, ee_o 4 [.ref qr, .int (nI 0)]), (qr, ee_i E 10 (fun _ => nI 0))] := hD
  refine lv_aload_n hx hb dX4_init_12 rfl (lv_at hl 0 rfl) ?_
  refine lv_iconst (v := nI 4) hx hb dX4_init_13 (by decide) ?_
  refine ee_kv (wr := []) (ee_rV (As := [.int (nI 4)]) (rest := []) (kX4_makeEmpty l E h0 qr 0 (fun _ => nI 0) 4) hx hb hml hown hts 1 gX4_init_X4_makeEmpty rfl rfl rfl (by decide +kernel) ⟨Nat.le_of_ble_eq_true rfl, Nat.le_of_ble_eq_true rfl⟩ hV hP hD hS hA [0, 1] rfl (by decide) hl 0 rfl rfl rfl rfl (Nat.le_of_ble_eq_true rfl) dX4_init_14 ⟨Nat.le_of_ble_eq_true rfl, Nat.le_of_ble_eq_true rfl⟩) hP hD hS hA [0, 1] [] rfl rfl (by decide) (by decide) (fun gk H locs hg hP hD hS => ?_)
  have hP : va_P E.1 vwCl [(h0, ee_o 4 [.ref qr, .int (nI 4)]), (qr, ee_i E 10 gk)] H := hP
  have hD : va_D A [(h0, ee_o 4 [.ref qr, .int (nI 4)]), (qr, ee_i E 10 gk)] := hD
  exact ee_fv hQ hx hb hr hlocks hS (qr, gk) (hg) hP hD dX4_init_17
abbrev rmX5_value : Room := ({ frames := 0, cells := 0, slots := 0, locals := 0 } : Room)
theorem w1_X5_value : Cond.fieldLink RX5 9 "LabelApplicator$Settings" "values" "[I" ∈ wsX5_value := List.mem_of_getElem? (i := 1) (by decide +kernel)
theorem i5_X5_value : ∀ w ∈ wsX50, w ∈ wsX5_value := fun w h => (goodIn_r _ [2] (by decide +kernel) (by decide +kernel) w h).1
set_option maxHeartbeats 4000000 in
set_option maxRecDepth 100000 in
theorem kX5_value (l : Launch) (E : ee_T) (h0 h1 : Nat) (sv : Nat → Int32) (w : Nat) (hw : w < 8) : CQ l E yX5_value wsX5_value rmX5_value [.ref h0, .int (nI w)] [(h0, ee_o 5 [.ref h1]), (h1, ee_i E 8 sv)] (QI E (fun (r : Int32) (u : Unit) => r = sv w) (fun (u : Unit) => [(h0, ee_o 5 [.ref h1]), (h1, ee_i E 8 sv)])) 0 0 := by
  refine CQ_ofW (cc := cX5_value) (maxL := 2) (ret := (some .int)) (by decide) rfl (Nat.le_of_ble_eq_true rfl) ?_
  intro p e s m below meth c A Q hQ hx hb hr hml hown hlocks hnm hts hV hA hP hD hS ls hl
  have hl : lv_has ls 2 [(0, .ref h0), (1, .int (nI w))] := hl
  refine lv_iload_n hx hb dX5_value_0 rfl (lv_at hl 1 rfl) ?_
  refine ee_lt0 (tgt := 22) hx hb (by omega) dX5_value_1 (by decide) ?_
  refine lv_iload_n hx hb dX5_value_4 rfl (lv_at hl 1 rfl) ?_
  refine lv_aload_n hx hb dX5_value_5 rfl (lv_at hl 0 rfl) ?_
  refine va_get (ci := 5) (v := .ref h1) (C := RX5) (T := TX5) (N := 1) hx hb hts i5_X5_value hown hV.1 hP 0 rfl rfl 0 (by decide) (hts _ w1_X5_value) (fun _ h9 => h9) rfl dX5_value_6 ?_
  refine va_alen (v := nI 8) hx hb hV.1 hP 1 0 rfl rfl rfl dX5_value_9 ?_
  refine ee_ge (tgt := 22) hx hb (by omega) (by omega) dX5_value_10 (by decide) (fun h_2 => absurd h_2 (by omega)) (fun h_2 => ?_)
  refine lv_aload_n hx hb dX5_value_13 rfl (lv_at hl 0 rfl) ?_
  refine va_get (ci := 5) (v := .ref h1) (C := RX5) (T := TX5) (N := 1) hx hb hts i5_X5_value hown hV.1 hP 0 rfl rfl 0 (by decide) (hts _ w1_X5_value) (fun _ h9 => h9) rfl dX5_value_14 ?_
  refine lv_iload_n hx hb dX5_value_17 rfl (lv_at hl 1 rfl) ?_
  refine ee_ild hx hb hV hP 1 rfl (j := w) (by omega) (by decide) dX5_value_18 ?_
  refine lv_goto (tgt := 23) hx hb dX5_value_19 (by decide) ?_
  exact ee_fi hQ hx hb hr (rfl) hlocks hS () (rfl) hP hD dX5_value_23
abbrev rmX5_put : Room := ({ frames := 0, cells := 0, slots := 0, locals := 0 } : Room)
theorem w1_X5_put : Cond.fieldLink RX5 9 "LabelApplicator$Settings" "values" "[I" ∈ wsX5_put := List.mem_of_getElem? (i := 1) (by decide +kernel)
theorem i5_X5_put : ∀ w ∈ wsX50, w ∈ wsX5_put := fun w h => (goodIn_r _ [2] (by decide +kernel) (by decide +kernel) w h).1
set_option maxHeartbeats 4000000 in
set_option maxRecDepth 100000 in
theorem kX5_put (l : Launch) (E : ee_T) (h0 h1 : Nat) (sv : Nat → Int32) (w : Nat) (x : Int32) (hw : w < 8) : CQ l E yX5_put wsX5_put rmX5_put [.ref h0, .int (nI w), .int x] [(h0, ee_o 5 [.ref h1]), (h1, ee_i E 8 sv)] (QV E (fun (u : Unit) => True) (fun (u : Unit) => [(h0, ee_o 5 [.ref h1]), (h1, ee_i E 8 (upd sv w x))])) 0 0 := by
  refine CQ_ofW (cc := cX5_put) (maxL := 3) (ret := none) (by decide) rfl (Nat.le_of_ble_eq_true rfl) ?_
  intro p e s m below meth c A Q hQ hx hb hr hml hown hlocks hnm hts hV hA hP hD hS ls hl
  have hl : lv_has ls 3 [(0, .ref h0), (1, .int (nI w)), (2, .int x)] := hl
  refine lv_iload_n hx hb dX5_put_0 rfl (lv_at hl 1 rfl) ?_
  refine ee_lt0 (tgt := 20) hx hb (by omega) dX5_put_1 (by decide) ?_
  refine lv_iload_n hx hb dX5_put_4 rfl (lv_at hl 1 rfl) ?_
  refine lv_aload_n hx hb dX5_put_5 rfl (lv_at hl 0 rfl) ?_
  refine va_get (ci := 5) (v := .ref h1) (C := RX5) (T := TX5) (N := 1) hx hb hts i5_X5_put hown hV.1 hP 0 rfl rfl 0 (by decide) (hts _ w1_X5_put) (fun _ h9 => h9) rfl dX5_put_6 ?_
  refine va_alen (v := nI 8) hx hb hV.1 hP 1 0 rfl rfl rfl dX5_put_9 ?_
  refine ee_ge (tgt := 20) hx hb (by omega) (by omega) dX5_put_10 (by decide) (fun h_2 => absurd h_2 (by omega)) (fun h_2 => ?_)
  refine lv_aload_n hx hb dX5_put_13 rfl (lv_at hl 0 rfl) ?_
  refine va_get (ci := 5) (v := .ref h1) (C := RX5) (T := TX5) (N := 1) hx hb hts i5_X5_put hown hV.1 hP 0 rfl rfl 0 (by decide) (hts _ w1_X5_put) (fun _ h9 => h9) rfl dX5_put_14 ?_
  refine lv_iload_n hx hb dX5_put_17 rfl (lv_at hl 1 rfl) ?_
  refine lv_iload_n hx hb dX5_put_18 rfl (lv_at hl 2 rfl) ?_
  refine ee_ist hx hb hV hP hD hS 1 rfl (j := w) (by omega) (by decide) dX5_put_19 (fun H locs hP hD hS => ?_)
  have hP : va_P E.1 vwCl [(h0, ee_o 5 [.ref h1]), (h1, ee_i E 8 (upd sv w x))] H := hP
  have hD : va_D A [(h0, ee_o 5 [.ref h1]), (h1, ee_i E 8 (upd sv w x))] := hD
  exact ee_fv hQ hx hb hr hlocks hS () (trivial) hP hD dX5_put_20
abbrev rmX5_init : Room := ({ frames := 1, cells := 1, slots := 8, locals := 12 } : Room)
theorem w1_X5_init : Cond.methodLink RX5 3 objectInit ∈ wsX5_init := List.mem_of_getElem? (i := 1) (by decide +kernel)
theorem w2_X5_init : Cond.instanceMethod objectInit ∈ wsX5_init := List.mem_of_getElem? (i := 2) (by decide +kernel)
theorem w3_X5_init : Cond.code objectInit ⟨#[0xb1]⟩ 1 none ∈ wsX5_init := List.mem_of_getElem? (i := 3) (by decide +kernel)
theorem w4_X5_init : Cond.arrayClass .int ∈ wsX5_init := List.mem_of_getElem? (i := 4) (by decide +kernel)
theorem w5_X5_init : Cond.fieldLink RX5 9 "LabelApplicator$Settings" "values" "[I" ∈ wsX5_init := List.mem_of_getElem? (i := 5) (by decide +kernel)
theorem i5_X5_init : ∀ w ∈ wsX50, w ∈ wsX5_init := fun w h => (goodIn_r _ [6] (by decide +kernel) (by decide +kernel) w h).1
set_option maxHeartbeats 4000000 in
set_option maxRecDepth 100000 in
theorem kX5_init (l : Launch) (E : ee_T) (h0 : Nat)  : CQ l E yX5_init wsX5_init rmX5_init [.ref h0] [(h0, ee_o 5 [.null])] (QV E (fun (u : Nat) => True) (fun (u : Nat) => [(h0, ee_o 5 [.ref u]), (u, ee_i E 8 sv0)])) 1 8 := by
  refine CQ_ofW (cc := cX5_init) (maxL := 1) (ret := none) (by decide) rfl (Nat.le_of_ble_eq_true rfl) ?_
  intro p e s m below meth c A Q hQ hx hb hr hml hown hlocks hnm hts hV hA hP hD hS ls hl
  have hl : lv_has ls 1 [(0, .ref h0)] := hl
  refine lv_aload_n hx hb dX5_init_0 rfl (lv_at hl 0 rfl) ?_
  refine W.objInit hx hb hown (hts _ w1_X5_init) (hts _ w2_X5_init) (hts _ w3_X5_init) rfl (by rw [hml]; exact hl.1) rfl dX5_init_1 (Nat.le_of_ble_eq_true rfl) (Nat.le_of_ble_eq_true rfl) ?_
  refine W.eq (g2 := F0 m 4 ls []) rfl ?_
  refine lv_aload_n hx hb dX5_init_4 rfl (lv_at hl 0 rfl) ?_
  refine lv_bipush (v := nI 8) hx hb dX5_init_5 (by decide) ?_
  refine ee_newi hx hb (hts _ w4_X5_init) hV hP hD hS hA (N := 8) (by decide) (Nat.le_of_ble_eq_true rfl) (Nat.le_of_ble_eq_true rfl) dX5_init_7 (fun qv H hP hD hS => ?_)
  have hP : va_P E.1 vwCl [(h0, ee_o 5 [.null]), (qv, ee_i E 8 (fun _ => nI 0))] H := hP
  have hD : va_D A [(h0, ee_o 5 [.null]), (qv, ee_i E 8 (fun _ => nI 0))] := hD
  refine W.widen (k := 1) (n := 8) (by omega) (by omega) ?_
  refine lv_dup hx hb dX5_init_9 rfl ?_
  refine lv_iconst (v := nI 0) hx hb dX5_init_10 (by decide) ?_
  refine lv_iconst (v := nI 3) hx hb dX5_init_11 (by decide) ?_
  refine ee_ist hx hb hV hP hD hS 1 rfl (j := 0) (by omega) (by decide) dX5_init_12 (fun H locs hP hD hS => ?_)
  have hP : va_P E.1 vwCl [(h0, ee_o 5 [.null]), (qv, ee_i E 8 (upd (fun _ => nI 0) 0 (nI 3)))] H := hP
  have hD : va_D A [(h0, ee_o 5 [.null]), (qv, ee_i E 8 (upd (fun _ => nI 0) 0 (nI 3)))] := hD
  refine lv_dup hx hb dX5_init_13 rfl ?_
  refine lv_iconst (v := nI 1) hx hb dX5_init_14 (by decide) ?_
  refine lv_iconst (v := nI 5) hx hb dX5_init_15 (by decide) ?_
  refine ee_ist hx hb hV hP hD hS 1 rfl (j := 1) (by omega) (by decide) dX5_init_16 (fun H locs hP hD hS => ?_)
  have hP : va_P E.1 vwCl [(h0, ee_o 5 [.null]), (qv, ee_i E 8 (upd (upd (fun _ => nI 0) 0 (nI 3)) 1 (nI 5)))] H := hP
  have hD : va_D A [(h0, ee_o 5 [.null]), (qv, ee_i E 8 (upd (upd (fun _ => nI 0) 0 (nI 3)) 1 (nI 5)))] := hD
  refine lv_dup hx hb dX5_init_17 rfl ?_
  refine lv_iconst (v := nI 2) hx hb dX5_init_18 (by decide) ?_
  refine lv_sipush (v := nI 150) hx hb dX5_init_19 (by decide) ?_
  refine ee_ist hx hb hV hP hD hS 1 rfl (j := 2) (by omega) (by decide) dX5_init_22 (fun H locs hP hD hS => ?_)
  have hP : va_P E.1 vwCl [(h0, ee_o 5 [.null]), (qv, ee_i E 8 (upd (upd (upd (fun _ => nI 0) 0 (nI 3)) 1 (nI 5)) 2 (nI 150)))] H := hP
  have hD : va_D A [(h0, ee_o 5 [.null]), (qv, ee_i E 8 (upd (upd (upd (fun _ => nI 0) 0 (nI 3)) 1 (nI 5)) 2 (nI 150)))] := hD
  refine lv_dup hx hb dX5_init_23 rfl ?_
  refine lv_iconst (v := nI 3) hx hb dX5_init_24 (by decide) ?_
  refine lv_sipush (v := nI 400) hx hb dX5_init_25 (by decide) ?_
  refine ee_ist hx hb hV hP hD hS 1 rfl (j := 3) (by omega) (by decide) dX5_init_28 (fun H locs hP hD hS => ?_)
  have hP : va_P E.1 vwCl [(h0, ee_o 5 [.null]), (qv, ee_i E 8 (upd (upd (upd (upd (fun _ => nI 0) 0 (nI 3)) 1 (nI 5)) 2 (nI 150)) 3 (nI 400)))] H := hP
  have hD : va_D A [(h0, ee_o 5 [.null]), (qv, ee_i E 8 (upd (upd (upd (upd (fun _ => nI 0) 0 (nI 3)) 1 (nI 5)) 2 (nI 150)) 3 (nI 400)))] := hD
  refine lv_dup hx hb dX5_init_29 rfl ?_
  refine lv_iconst (v := nI 4) hx hb dX5_init_30 (by decide) ?_
  refine lv_bipush (v := nI 100) hx hb dX5_init_31 (by decide) ?_
  refine ee_ist hx hb hV hP hD hS 1 rfl (j := 4) (by omega) (by decide) dX5_init_33 (fun H locs hP hD hS => ?_)
  have hP : va_P E.1 vwCl [(h0, ee_o 5 [.null]), (qv, ee_i E 8 (upd (upd (upd (upd (upd (fun _ => nI 0) 0 (nI 3)) 1 (nI 5)) 2 (nI 150)) 3 (nI 400)) 4 (nI 100)))] H := hP
  have hD : va_D A [(h0, ee_o 5 [.null]), (qv, ee_i E 8 (upd (upd (upd (upd (upd (fun _ => nI 0) 0 (nI 3)) 1 (nI 5)) 2 (nI 150)) 3 (nI 400)) 4 (nI 100)))] := hD
  refine lv_dup hx hb dX5_init_34 rfl ?_
  refine lv_iconst (v := nI 5) hx hb dX5_init_35 (by decide) ?_
  refine lv_bipush (v := nI 10) hx hb dX5_init_36 (by decide) ?_
  refine ee_ist hx hb hV hP hD hS 1 rfl (j := 5) (by omega) (by decide) dX5_init_38 (fun H locs hP hD hS => ?_)
  have hP : va_P E.1 vwCl [(h0, ee_o 5 [.null]), (qv, ee_i E 8 (upd (upd (upd (upd (upd (upd (fun _ => nI 0) 0 (nI 3)) 1 (nI 5)) 2 (nI 150)) 3 (nI 400)) 4 (nI 100)) 5 (nI 10)))] H := hP
  have hD : va_D A [(h0, ee_o 5 [.null]), (qv, ee_i E 8 (upd (upd (upd (upd (upd (upd (fun _ => nI 0) 0 (nI 3)) 1 (nI 5)) 2 (nI 150)) 3 (nI 400)) 4 (nI 100)) 5 (nI 10)))] := hD
  refine lv_dup hx hb dX5_init_39 rfl ?_
  refine lv_bipush (v := nI 6) hx hb dX5_init_40 (by decide) ?_
  refine lv_iconst (v := nI 2) hx hb dX5_init_42 (by decide) ?_
  refine ee_ist hx hb hV hP hD hS 1 rfl (j := 6) (by omega) (by decide) dX5_init_43 (fun H locs hP hD hS => ?_)
  have hP : va_P E.1 vwCl [(h0, ee_o 5 [.null]), (qv, ee_i E 8 (upd (upd (upd (upd (upd (upd (upd (fun _ => nI 0) 0 (nI 3)) 1 (nI 5)) 2 (nI 150)) 3 (nI 400)) 4 (nI 100)) 5 (nI 10)) 6 (nI 2)))] H := hP
  have hD : va_D A [(h0, ee_o 5 [.null]), (qv, ee_i E 8 (upd (upd (upd (upd (upd (upd (upd (fun _ => nI 0) 0 (nI 3)) 1 (nI 5)) 2 (nI 150)) 3 (nI 400)) 4 (nI 100)) 5 (nI 10)) 6 (nI 2)))] := hD
  refine lv_dup hx hb dX5_init_44 rfl ?_
  refine lv_bipush (v := nI 7) hx hb dX5_init_45 (by decide) ?_
  refine lv_iconst (v := nI 3) hx hb dX5_init_47 (by decide) ?_
  refine ee_ist hx hb hV hP hD hS 1 rfl (j := 7) (by omega) (by decide) dX5_init_48 (fun H locs hP hD hS => ?_)
  have hP : va_P E.1 vwCl [(h0, ee_o 5 [.null]), (qv, ee_i E 8 (upd (upd (upd (upd (upd (upd (upd (upd (fun _ => nI 0) 0 (nI 3)) 1 (nI 5)) 2 (nI 150)) 3 (nI 400)) 4 (nI 100)) 5 (nI 10)) 6 (nI 2)) 7 (nI 3)))] H := hP
  have hD : va_D A [(h0, ee_o 5 [.null]), (qv, ee_i E 8 (upd (upd (upd (upd (upd (upd (upd (upd (fun _ => nI 0) 0 (nI 3)) 1 (nI 5)) 2 (nI 150)) 3 (nI 400)) 4 (nI 100)) 5 (nI 10)) 6 (nI 2)) 7 (nI 3)))] := hD
  refine va_putF (ci := 5) (v := .ref qv) (ty := .array .int) (C := RX5) (T := TX5) (N := 1) hx hb hts i5_X5_init tyX5 tyX5_ok nmX5 hown hV.1 hP hD hS 0 rfl rfl 0 (by decide) (hts _ w5_X5_init) (fun _ h9 => h9) rfl hnm rfl (by decide +kernel) rfl rfl (Nat.le_of_ble_eq_true rfl) dX5_init_49 (fun H locs hP hD hS => ?_)
  have hP : va_P E.1 vwCl [(h0, ee_o 5 [.ref qv]), (qv, ee_i E 8 (upd (upd (upd (upd (upd (upd (upd (upd (fun _ => nI 0) 0 (nI 3)) 1 (nI 5)) 2 (nI 150)) 3 (nI 400)) 4 (nI 100)) 5 (nI 10)) 6 (nI 2)) 7 (nI 3)))] H := hP
  have hD : va_D A [(h0, ee_o 5 [.ref qv]), (qv, ee_i E 8 (upd (upd (upd (upd (upd (upd (upd (upd (fun _ => nI 0) 0 (nI 3)) 1 (nI 5)) 2 (nI 150)) 3 (nI 400)) 4 (nI 100)) 5 (nI 10)) 6 (nI 2)) 7 (nI 3)))] := hD
  exact ee_fv hQ hx hb hr hlocks hS qv (trivial) hP hD dX5_init_52
abbrev rmX5_least : Room := ({ frames := 0, cells := 0, slots := 0, locals := 0 } : Room)
theorem w1_X5_least : Cond.fieldLink RX5 26 "LabelApplicator$Settings" "LEAST" "[I" ∈ wsX5_least := List.mem_of_getElem? (i := 1) (by decide +kernel)
set_option maxHeartbeats 4000000 in
set_option maxRecDepth 100000 in
theorem kX5_least (l : Launch) (E : ee_T) (h0 h1 : Nat) (w : Nat) (hw : w < 8) : CQ l E yX5_least wsX5_least rmX5_least [.ref h0, .int (nI w)] [(h0, ee_o 5 [.ref h1])] (QI E (fun (r : Int32) (u : Unit) => r = nI (st_lo w)) (fun (u : Unit) => [(h0, ee_o 5 [.ref h1])])) 0 0 := by
  refine CQ_ofW (cc := cX5_least) (maxL := 2) (ret := (some .int)) (by decide) rfl (Nat.le_of_ble_eq_true rfl) ?_
  intro p e s m below meth c A Q hQ hx hb hr hml hown hlocks hnm hts hV hA hP hD hS ls hl
  have hl : lv_has ls 2 [(0, .ref h0), (1, .int (nI w))] := hl
  refine lv_iload_n hx hb dX5_least_0 rfl (lv_at hl 1 rfl) ?_
  refine ee_lt0 (tgt := 20) hx hb (by omega) dX5_least_1 (by decide) ?_
  refine lv_iload_n hx hb dX5_least_4 rfl (lv_at hl 1 rfl) ?_
  refine va_gets hx hb hV.2.2.1.1 hS hown (hts _ w1_X5_least) (fun _ h9 => h9) dX5_least_5 ?_
  refine va_tlen (v := nI 8) hx hb hV.2.2.1.2 hS rfl dX5_least_8 ?_
  refine ee_ge (tgt := 20) hx hb (by omega) (by omega) dX5_least_9 (by decide) (fun h_2 => absurd h_2 (by omega)) (fun h_2 => ?_)
  refine va_gets hx hb hV.2.2.1.1 hS hown (hts _ w1_X5_least) (fun _ h9 => h9) dX5_least_12 ?_
  refine lv_iload_n hx hb dX5_least_15 rfl (lv_at hl 1 rfl) ?_
  refine va_ti (v := .int (nI (st_lo w))) hx hb hV.2.2.1.2 hS (vp_in_nI (by omega) (by decide)) (by rw [nI_clamp (by omega)]; rfl) dX5_least_16 ?_
  refine lv_goto (tgt := 21) hx hb dX5_least_17 (by decide) ?_
  exact ee_fi hQ hx hb hr (rfl) hlocks hS () (rfl) hP hD dX5_least_21
abbrev rmX5_greatest : Room := ({ frames := 0, cells := 0, slots := 0, locals := 0 } : Room)
theorem w1_X5_greatest : Cond.fieldLink RX5 29 "LabelApplicator$Settings" "GREATEST" "[I" ∈ wsX5_greatest := List.mem_of_getElem? (i := 1) (by decide +kernel)
set_option maxHeartbeats 4000000 in
set_option maxRecDepth 100000 in
theorem kX5_greatest (l : Launch) (E : ee_T) (h0 h1 : Nat) (w : Nat) (hw : w < 8) : CQ l E yX5_greatest wsX5_greatest rmX5_greatest [.ref h0, .int (nI w)] [(h0, ee_o 5 [.ref h1])] (QI E (fun (r : Int32) (u : Unit) => r = nI (st_hi w)) (fun (u : Unit) => [(h0, ee_o 5 [.ref h1])])) 0 0 := by
  refine CQ_ofW (cc := cX5_greatest) (maxL := 2) (ret := (some .int)) (by decide) rfl (Nat.le_of_ble_eq_true rfl) ?_
  intro p e s m below meth c A Q hQ hx hb hr hml hown hlocks hnm hts hV hA hP hD hS ls hl
  have hl : lv_has ls 2 [(0, .ref h0), (1, .int (nI w))] := hl
  refine lv_iload_n hx hb dX5_greatest_0 rfl (lv_at hl 1 rfl) ?_
  refine ee_lt0 (tgt := 20) hx hb (by omega) dX5_greatest_1 (by decide) ?_
  refine lv_iload_n hx hb dX5_greatest_4 rfl (lv_at hl 1 rfl) ?_
  refine va_gets hx hb hV.2.2.2.1 hS hown (hts _ w1_X5_greatest) (fun _ h9 => h9) dX5_greatest_5 ?_
  refine va_tlen (v := nI 8) hx hb hV.2.2.2.2 hS rfl dX5_greatest_8 ?_
  refine ee_ge (tgt := 20) hx hb (by omega) (by omega) dX5_greatest_9 (by decide) (fun h_2 => absurd h_2 (by omega)) (fun h_2 => ?_)
  refine va_gets hx hb hV.2.2.2.1 hS hown (hts _ w1_X5_greatest) (fun _ h9 => h9) dX5_greatest_12 ?_
  refine lv_iload_n hx hb dX5_greatest_15 rfl (lv_at hl 1 rfl) ?_
  refine va_ti (v := .int (nI (st_hi w))) hx hb hV.2.2.2.2 hS (vp_in_nI (by omega) (by decide)) (by rw [nI_clamp (by omega)]; rfl) dX5_greatest_16 ?_
  refine lv_goto (tgt := 21) hx hb dX5_greatest_17 (by decide) ?_
  exact ee_fi hQ hx hb hr (rfl) hlocks hS () (rfl) hP hD dX5_greatest_21
abbrev rmX8_isWithin : Room := ({ frames := 0, cells := 0, slots := 0, locals := 0 } : Room)
set_option maxHeartbeats 4000000 in
set_option maxRecDepth 100000 in
theorem kX8_isWithin (l : Launch) (E : ee_T) (v a b : Int32)  : CQ l E yX8_isWithin wsX8_isWithin rmX8_isWithin [.int v, .int a, .int b] [] (QI E (fun (r : Int32) (u : Unit) => (r = nI 1 ∧ inR v a b) ∨ (r = nI 0 ∧ ¬ inR v a b)) (fun (u : Unit) => [])) 0 0 := by
  refine CQ_ofW (cc := cX8_isWithin) (maxL := 3) (ret := (some .boolean)) (by decide) rfl (Nat.le_of_ble_eq_true rfl) ?_
  intro p e s m below meth c A Q hQ hx hb hr hml hown hlocks hnm hts hV hA hP hD hS ls hl
  have hl : lv_has ls 3 [(0, .int v), (1, .int a), (2, .int b)] := hl
  refine lv_iload_n hx hb dX8_isWithin_0 rfl (lv_at hl 0 rfl) ?_
  refine lv_iload_n hx hb dX8_isWithin_1 rfl (lv_at hl 1 rfl) ?_
  refine lv_icmp_lt (tgt := 14) hx hb dX8_isWithin_2 (by decide) (fun h_1 => ?_) (fun h_1 => ?_)
  · refine lv_iconst (v := nI 0) hx hb dX8_isWithin_14 (by decide) ?_
    exact ee_fi hQ hx hb hr (by decide) hlocks hS () (Or.inr ⟨rfl, fun q => Int32.not_lt.mpr q.1 h_1⟩) hP hD dX8_isWithin_15
  · refine lv_iload_n hx hb dX8_isWithin_5 rfl (lv_at hl 0 rfl) ?_
    refine lv_iload_n hx hb dX8_isWithin_6 rfl (lv_at hl 2 rfl) ?_
    refine lv_icmp_gt (tgt := 14) hx hb dX8_isWithin_7 (by decide) (fun h_2 => ?_) (fun h_2 => ?_)
    · refine lv_iconst (v := nI 0) hx hb dX8_isWithin_14 (by decide) ?_
      exact ee_fi hQ hx hb hr (by decide) hlocks hS () (Or.inr ⟨rfl, fun q => Int32.not_lt.mpr q.2 h_2⟩) hP hD dX8_isWithin_15
    · refine lv_iconst (v := nI 1) hx hb dX8_isWithin_10 (by decide) ?_
      refine lv_goto (tgt := 15) hx hb dX8_isWithin_11 (by decide) ?_
      exact ee_fi hQ hx hb hr (by decide) hlocks hS () (Or.inl ⟨rfl, Int32.not_lt.mp h_1, Int32.not_lt.mp h_2⟩) hP hD dX8_isWithin_15
abbrev rmX5_allows : Room := ({ frames := 1, cells := 0, slots := 0, locals := 22 } : Room)
theorem w2_X5_allows : Cond.initialized RX8 ∈ wsX5_allows := List.mem_of_getElem? (i := 2) (by decide +kernel)
theorem w4_X5_allows : Cond.methodLink RX5 19 yX5_least ∈ wsX5_allows := List.mem_of_getElem? (i := 4) (by decide +kernel)
theorem w7_X5_allows : Cond.initialized RX5 ∈ wsX5_allows := List.mem_of_getElem? (i := 7) (by decide +kernel)
theorem w9_X5_allows : Cond.fieldLink RX5 26 "LabelApplicator$Settings" "LEAST" "[I" ∈ wsX5_allows := List.mem_of_getElem? (i := 9) (by decide +kernel)
theorem w10_X5_allows : Cond.methodLink RX5 23 yX5_greatest ∈ wsX5_allows := List.mem_of_getElem? (i := 10) (by decide +kernel)
theorem w14_X5_allows : Cond.fieldLink RX5 29 "LabelApplicator$Settings" "GREATEST" "[I" ∈ wsX5_allows := List.mem_of_getElem? (i := 14) (by decide +kernel)
set_option maxHeartbeats 4000000 in
set_option maxRecDepth 100000 in
theorem kX5_allows (l : Launch) (E : ee_T) (h0 h1 : Nat) (what x : Int32)  : CQ l E yX5_allows wsX5_allows rmX5_allows [.ref h0, .int what, .int x] [(h0, ee_o 5 [.ref h1])] (QI E (fun (r : Int32) (u : Unit) => (r = nI 1 ∧ okS what x) ∨ (r = nI 0 ∧ ¬ okS what x)) (fun (u : Unit) => [(h0, ee_o 5 [.ref h1])])) 0 0 := by
  refine CQ_ofW (cc := cX5_allows) (maxL := 3) (ret := (some .boolean)) (by decide) rfl (Nat.le_of_ble_eq_true rfl) ?_
  intro p e s m below meth c A Q hQ hx hb hr hml hown hlocks hnm hts hV hA hP hD hS ls hl
  have hl : lv_has ls 3 [(0, .ref h0), (1, .int what), (2, .int x)] := hl
  refine lv_iload_n hx hb dX5_allows_0 rfl (lv_at hl 1 rfl) ?_
  refine lv_iconst (v := nI 0) hx hb dX5_allows_1 (by decide) ?_
  refine lv_bipush (v := nI 7) hx hb dX5_allows_2 (by decide) ?_
  refine ee_ki (wr := [(h0, ee_o 5 [.ref h1])]) (ee_rSN (As := [.int what, .int (nI 0), .int (nI 7)]) (rest := []) (kX8_isWithin l E what (nI 0) (nI 7)) hx hb hml hown hts 3 gX5_allows_X8_isWithin_n15 rfl rfl rfl hV.2.1.2.2 (hts _ w2_X5_allows) (hts _ (List.mem_of_getElem? (i := 1) (by decide +kernel))) (by decide +kernel) ⟨Nat.le_of_ble_eq_true rfl, Nat.le_of_ble_eq_true rfl⟩ hV hP hD hS hA [] rfl (by decide) hl rfl rfl (Nat.le_of_ble_eq_true rfl) dX5_allows_4 ⟨Nat.le_of_ble_eq_true rfl, Nat.le_of_ble_eq_true rfl⟩) hP hD hS hA [] [0] rfl rfl (by decide) (by decide) (fun r_1 u_2 H locs hp_3 hP hD hS => ?_)
  have hP : va_P E.1 vwCl [(h0, ee_o 5 [.ref h1])] H := hP
  have hD : va_D A [(h0, ee_o 5 [.ref h1])] := hD
  rcases hp_3 with ⟨rfl, hc_1⟩ | ⟨rfl, hc_2⟩
  · obtain ⟨w, -, hw, rfl⟩ := inR_nat (by decide) (by decide) hc_1
    refine ee_eq0 (tgt := 31) hx hb (by omega) dX5_allows_7 (by decide) (fun h_6 => absurd h_6 (by decide)) (fun h_6 => ?_)
    refine lv_iload_n hx hb dX5_allows_10 rfl (lv_at hl 2 rfl) ?_
    refine lv_aload_n hx hb dX5_allows_11 rfl (lv_at hl 0 rfl) ?_
    refine lv_iload_n hx hb dX5_allows_12 rfl (lv_at hl 1 rfl) ?_
    refine ee_ki (wr := []) (ee_rV (As := [.int (nI w)]) (rest := [.int x]) (kX5_least l E h0 h1 w (by omega)) hx hb hml hown hts 1 gX5_allows_X5_least rfl rfl rfl (by decide +kernel) ⟨Nat.le_of_ble_eq_true rfl, Nat.le_of_ble_eq_true rfl⟩ hV hP hD hS hA [0] rfl (by decide) hl 0 rfl rfl rfl rfl (Nat.le_of_ble_eq_true rfl) dX5_allows_13 ⟨Nat.le_of_ble_eq_true rfl, Nat.le_of_ble_eq_true rfl⟩) hP hD hS hA [0] [] rfl rfl (by decide) (by decide) (fun r_7 u_8 H locs hp_9 hP hD hS => ?_)
    subst hp_9
    have hP : va_P E.1 vwCl [(h0, ee_o 5 [.ref h1])] H := hP
    have hD : va_D A [(h0, ee_o 5 [.ref h1])] := hD
    refine lv_aload_n hx hb dX5_allows_16 rfl (lv_at hl 0 rfl) ?_
    refine lv_iload_n hx hb dX5_allows_17 rfl (lv_at hl 1 rfl) ?_
    refine ee_ki (wr := []) (ee_rV (As := [.int (nI w)]) (rest := [.int (nI (st_lo w)), .int x]) (kX5_greatest l E h0 h1 w (by omega)) hx hb hml hown hts 1 gX5_allows_X5_greatest rfl rfl rfl (by decide +kernel) ⟨Nat.le_of_ble_eq_true rfl, Nat.le_of_ble_eq_true rfl⟩ hV hP hD hS hA [0] rfl (by decide) hl 0 rfl rfl rfl rfl (Nat.le_of_ble_eq_true rfl) dX5_allows_18 ⟨Nat.le_of_ble_eq_true rfl, Nat.le_of_ble_eq_true rfl⟩) hP hD hS hA [0] [] rfl rfl (by decide) (by decide) (fun r_10 u_11 H locs hp_12 hP hD hS => ?_)
    subst hp_12
    have hP : va_P E.1 vwCl [(h0, ee_o 5 [.ref h1])] H := hP
    have hD : va_D A [(h0, ee_o 5 [.ref h1])] := hD
    refine ee_ki (wr := [(h0, ee_o 5 [.ref h1])]) (ee_rSN (As := [.int x, .int (nI (st_lo w)), .int (nI (st_hi w))]) (rest := []) (kX8_isWithin l E x (nI (st_lo w)) (nI (st_hi w))) hx hb hml hown hts 3 gX5_allows_X8_isWithin_n15 rfl rfl rfl hV.2.1.2.2 (hts _ w2_X5_allows) (hts _ (List.mem_of_getElem? (i := 1) (by decide +kernel))) (by decide +kernel) ⟨Nat.le_of_ble_eq_true rfl, Nat.le_of_ble_eq_true rfl⟩ hV hP hD hS hA [] rfl (by decide) hl rfl rfl (Nat.le_of_ble_eq_true rfl) dX5_allows_21 ⟨Nat.le_of_ble_eq_true rfl, Nat.le_of_ble_eq_true rfl⟩) hP hD hS hA [] [0] rfl rfl (by decide) (by decide) (fun r_13 u_14 H locs hp_15 hP hD hS => ?_)
    have hP : va_P E.1 vwCl [(h0, ee_o 5 [.ref h1])] H := hP
    have hD : va_D A [(h0, ee_o 5 [.ref h1])] := hD
    rcases hp_15 with ⟨rfl, hc_3⟩ | ⟨rfl, hc_4⟩
    · refine ee_eq0 (tgt := 31) hx hb (by omega) dX5_allows_24 (by decide) (fun h_18 => absurd h_18 (by decide)) (fun h_18 => ?_)
      refine lv_iconst (v := nI 1) hx hb dX5_allows_27 (by decide) ?_
      refine lv_goto (tgt := 32) hx hb dX5_allows_28 (by decide) ?_
      exact ee_fi hQ hx hb hr (by decide) hlocks hS () (Or.inl ⟨rfl, w, hw, rfl, hc_3⟩) hP hD dX5_allows_32
    · refine ee_eq0 (tgt := 31) hx hb (by omega) dX5_allows_24 (by decide) (fun h_19 => ?_) (fun h_19 => absurd h_19 (by decide))
      refine lv_iconst (v := nI 0) hx hb dX5_allows_31 (by decide) ?_
      exact ee_fi hQ hx hb hr (by decide) hlocks hS () (Or.inr ⟨rfl, fun q => hc_4 ((okS_iff hw).mp q)⟩) hP hD dX5_allows_32
  · refine ee_eq0 (tgt := 31) hx hb (by omega) dX5_allows_7 (by decide) (fun h_20 => ?_) (fun h_20 => absurd h_20 (by decide))
    refine lv_iconst (v := nI 0) hx hb dX5_allows_31 (by decide) ?_
    exact ee_fi hQ hx hb hr (by decide) hlocks hS () (Or.inr ⟨rfl, fun ⟨w, h1, h2, _⟩ => hc_2 (by rw [h2]; exact (inR_iff (by decide) (by decide) (by omega)).mpr ⟨Nat.zero_le _, h1⟩)⟩) hP hD dX5_allows_32
