/-! the script's ints: any int, or a number; a call's run, the script's row beside the world -/
abbrev rmL_cell : Room := ({ frames := 0, cells := 0, slots := 0, locals := 0 } : Room)
theorem w1_L_cell : Cond.constant RL 7 (1013904223) ∈ wsL_cell := List.mem_of_getElem? (i := 1) (by decide +kernel)
def ce_Pre (b L : Nat) (xs : Nat → Int32) (j sz : Nat) : Array Value → State → Prop := va_Pc [.ref b, .int (nI j)] (fun U => U.heap.size = sz ∧ va_X b L xs U U.heap ∧ b < sz)
theorem ce_blind (b L : Nat) (xs : Nat → Int32) (j sz : Nat) : FrameBlind (ce_Pre b L xs j sz) := by
  intro a U g mk h
  obtain ⟨h1, h2, h3, h4⟩ := h
  exact ⟨h1, h2, va_X.moved (u := U) (U := U.calling g mk a) (Vm.Alike.refl U.vm) h3, h4⟩
set_option maxHeartbeats 4000000 in
set_option maxRecDepth 100000 in
theorem kL_cell (l : Launch) (E : ee_T) (b L : Nat) (xs : Nat → Int32) (j : Nat) (hj : j < 1000) (hL : L < 1000) (sz : Nat) : Met l yL_cell wsL_cell rmL_cell (ce_Pre b L xs j sz) (QI E (fun (_ : Int32) (_ : Unit) => True) (fun _ => []) (va_A [] sz)) 0 0 (va_A [] sz) := by
  refine Met.ofW (cc := cL_cell) (maxL := 2) (ret := (some .int)) (by decide) rfl ?_
  intro p e s m args below meth c s₁ B hml hv
  obtain ⟨rfl, hsz, hX, hbl⟩ := hv
  subst hsz
  have hx := B.exec
  have hb := B.bytes
  have hr := B.returns
  have hown : s.vm.findClass RL = some m.cls := findClass_of_methodNamed B.named
  have hlocks := B.notSynchronized
  have hts := atoms_spec (ws := wsL_cell) B.pre
  have hl := lv_entry ([.ref b, .int (nI j)]) (n := 2) (Nat.le_of_ble_eq_true rfl)
  rw [lg_entry_eq]
  generalize (lg_sl ([.ref b, .int (nI j)]) ++ List.replicate (2 - (lg_sl ([.ref b, .int (nI j)])).length) Slot.unset).toArray = ls at hl ⊢
  have hl : lv_has ls 2 [(0, .ref b), (1, .int (nI j))] := hl
  have hbA : ¬ va_A [] s.heap.size b := by
    intro q
    rcases q with ⟨k, e, q⟩ | q
    · simp at q
    · omega
  have hS : va_S (va_A [] s.heap.size) s.heap s.heap [] := va_S.rf
  have hP0 : ∀ t : State, va_P E.1 vwCl [] t.heap := fun t k q h => by simp at h
  have hD0 : va_D (va_A [] s.heap.size) [] := ⟨fun i j p q h => by simp at h, fun k q h => by simp at h⟩
  refine lv_iload_n hx hb dL_cell_0 rfl (lv_at hl 1 rfl) ?_
  refine lv_aload_n hx hb dL_cell_1 rfl (lv_at hl 0 rfl) ?_
  refine va_slen hx hb hX hbl hbA hS dL_cell_2 ?_
  refine ee_to (z := nI L) rfl ?_
  refine ee_ge (tgt := 12) hx hb (by omega) (by omega) dL_cell_3 (by decide) (fun h3 => ?_) (fun h3 => ?_)
  · refine lv_ldc hx hb hown (hts _ w1_L_cell) dL_cell_12 ?_
    refine lv_iload_n hx hb dL_cell_14 rfl (lv_at hl 1 rfl) ?_
    refine lv_iconst (v := nI 1) hx hb dL_cell_15 (by decide) ?_
    refine lv_iadd hx hb dL_cell_16 ?_
    refine lv_imul hx hb dL_cell_17 ?_
    exact W.zret hx hb hr rfl (fun t ht hW => ⟨⟨_, (), rfl, trivial, hP0 t, hD0⟩, hS.F ht⟩) hS.2.2 dL_cell_18
  · refine lv_aload_n hx hb dL_cell_6 rfl (lv_at hl 0 rfl) ?_
    refine lv_iload_n hx hb dL_cell_7 rfl (lv_at hl 1 rfl) ?_
    refine va_sld hx hb hX hbl hbA hS (vp_in_nI (by omega) (by omega)) dL_cell_8 ?_
    refine lv_goto (tgt := 18) hx hb dL_cell_9 (by decide) ?_
    exact W.zret hx hb hr rfl (fun t ht hW => ⟨⟨_, (), rfl, trivial, hP0 t, hD0⟩, hS.F ht⟩) hS.2.2 dL_cell_18
section EX
variable {p : Program} {l : Launch} {e : Env} {R : Room} {s : State} {m : MethodId} {args : Array Value} {below : List Frame} {meth : Method} {c : Code} {H : Heap} {locs : List Loc} {cells slots : Nat} {Q : State → Prop}
variable {cc : ByteArray} {pc : Nat} {ls : Array Slot} {rest : List Value} {E : ee_T} {A : Nat → Prop} {w : va_W}
theorem ee_rX {Ts : List Cond} {nL index b L j : Nat} {xs : Nat → Int32} {st0 : List Value} {lv : List (Nat × Value)} (hj : j < 1000) (hL : L < 1000) (hX : va_X b L xs s s.heap) (hbl : b < s.heap.size) (hbA : ¬ A b) (hx : p.tables.exec = Jvm.exec) (hb : c.code = cc) (hml : c.maxLocals = nL) (hown : s.vm.findClass RL = some m.cls) (hts : ∀ w ∈ Ts, w.before args s = true) (hT : GoodIn Ts (va_wsS RL index yL_cell wsL_cell))
    (hd : yL_cell.cls ≠ "java/lang/invoke/MethodHandle" ∧ yL_cell.cls ≠ "java/lang/invoke/VarHandle" ∧ (parseMethodDescriptor yL_cell.desc).map (fun d => d.parameters.length) = some 2) (hRm : rmL_cell.frames + 1 ≤ R.frames ∧ 8 + (2 + 11) + rmL_cell.locals ≤ R.locals)
    (hS : va_S A s.heap H locs) (hl : lv_has ls nL lv) (hst : st0 = .int (nI j) :: .ref b :: rest) (hW : (rest.map fun v => v.category).sum ≤ 8) (hdg : decode cc pc = .ok (.invokestatic index, 3)) (hf : cells + 0 ≤ R.cells ∧ slots + 0 ≤ R.slots) :
    va_Run p l e R s m args below meth c H locs cells slots 0 0 (F0 m pc ls st0) rest (QI E (fun (_ : Int32) (_ : Unit) => True) (fun _ => []) (va_A [] H.size) #[.ref b, .int (nI j)]) (va_A [] H.size) := by
  subst hst
  have hpre : PreS s H (ce_Pre b L xs j H.size) [.ref b, .int (nI j)] := ⟨ce_blind _ _ _ _ _, fun U hU hW => ⟨rfl, by rw [hU], by
    rw [hU]
    exact va_X.moved hW.alike (hX.kept (hS.2.1 b hbl hbA)), Nat.lt_of_lt_of_le hbl hS.1⟩⟩
  exact va_runS (As := [.ref b, .int (nI j)]) (rest := rest) ⟨hx, hb, hml, hown, hts⟩ (kL_cell l E b L xs j hj hL H.size) (va_cwS 2 hts hT rfl rfl rfl hd hRm) hpre rfl rfl hl.1 rfl (lv_room hW) hdg hf
end EX
