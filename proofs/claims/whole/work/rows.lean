section
-- ===== PART A: goes FIRST, ahead of the names: the tables' words, and 'selects' of the private methods out of them =====
/-- a private method of a class that the tables say can be made, by its rows of tables_1 -/
def lw_okq (q : MethodName × Nat) : Prop := (q.1.cls ≠ "java/lang/invoke/MethodHandle" ∧ q.1.cls ≠ "java/lang/invoke/VarHandle") ∧ Cond.instantiable q.1.cls q.2 ∈ tables_1 ∧ Cond.privateMethod q.1 ∈ tables_1 ∧ Cond.instanceMethod q.1 ∈ tables_1
theorem lw_p0 : lw_okq (⟨"LabelApplicator$Reader", "skipBlanks", "()V"⟩, 8) := ⟨⟨by decide +kernel, by decide +kernel⟩, List.mem_of_getElem? (i := 38) (by decide +kernel), List.mem_of_getElem? (i := 288) (by decide +kernel), List.mem_of_getElem? (i := 289) (by decide +kernel)⟩
theorem lw_p1 : lw_okq (⟨"LabelApplicator$Reader", "closeParenthesis", "()V"⟩, 8) := ⟨⟨by decide +kernel, by decide +kernel⟩, List.mem_of_getElem? (i := 38) (by decide +kernel), List.mem_of_getElem? (i := 296) (by decide +kernel), List.mem_of_getElem? (i := 297) (by decide +kernel)⟩
theorem lw_p2 : lw_okq (⟨"LabelApplicator$Reader", "repeat", "(II)V"⟩, 8) := ⟨⟨by decide +kernel, by decide +kernel⟩, List.mem_of_getElem? (i := 38) (by decide +kernel), List.mem_of_getElem? (i := 300) (by decide +kernel), List.mem_of_getElem? (i := 301) (by decide +kernel)⟩
theorem lw_p3 : lw_okq (⟨"LabelApplicator$Reader", "readPart", "()V"⟩, 8) := ⟨⟨by decide +kernel, by decide +kernel⟩, List.mem_of_getElem? (i := 38) (by decide +kernel), List.mem_of_getElem? (i := 320) (by decide +kernel), List.mem_of_getElem? (i := 321) (by decide +kernel)⟩
theorem lw_p4 : lw_okq (⟨"LabelApplicator$Reader", "digitAt", "(I)I"⟩, 8) := ⟨⟨by decide +kernel, by decide +kernel⟩, List.mem_of_getElem? (i := 38) (by decide +kernel), List.mem_of_getElem? (i := 324) (by decide +kernel), List.mem_of_getElem? (i := 325) (by decide +kernel)⟩
theorem lw_p5 : lw_okq (⟨"LabelApplicator$Reader", "readTimes", "()I"⟩, 8) := ⟨⟨by decide +kernel, by decide +kernel⟩, List.mem_of_getElem? (i := 38) (by decide +kernel), List.mem_of_getElem? (i := 329) (by decide +kernel), List.mem_of_getElem? (i := 330) (by decide +kernel)⟩
theorem lw_p6 : lw_okq (⟨"LabelApplicator$Reader", "readNumber", "(I)I"⟩, 8) := ⟨⟨by decide +kernel, by decide +kernel⟩, List.mem_of_getElem? (i := 38) (by decide +kernel), List.mem_of_getElem? (i := 333) (by decide +kernel), List.mem_of_getElem? (i := 334) (by decide +kernel)⟩
theorem lw_p7 : lw_okq (⟨"LabelApplicator$Reader", "openParenthesis", "(I)V"⟩, 8) := ⟨⟨by decide +kernel, by decide +kernel⟩, List.mem_of_getElem? (i := 38) (by decide +kernel), List.mem_of_getElem? (i := 337) (by decide +kernel), List.mem_of_getElem? (i := 338) (by decide +kernel)⟩
theorem lw_p8 : lw_okq (⟨"LabelApplicator$Reader", "readItem", "(I)V"⟩, 8) := ⟨⟨by decide +kernel, by decide +kernel⟩, List.mem_of_getElem? (i := 38) (by decide +kernel), List.mem_of_getElem? (i := 341) (by decide +kernel), List.mem_of_getElem? (i := 342) (by decide +kernel)⟩
theorem lw_p9 : lw_okq (⟨"LabelApplicator$Items", "closeUp", "()V"⟩, 4) := ⟨⟨by decide +kernel, by decide +kernel⟩, List.mem_of_getElem? (i := 44) (by decide +kernel), List.mem_of_getElem? (i := 353) (by decide +kernel), List.mem_of_getElem? (i := 354) (by decide +kernel)⟩
theorem lw_p10 : lw_okq (⟨"LabelApplicator$Machine", "passGate", "(I)V"⟩, 16) := ⟨⟨by decide +kernel, by decide +kernel⟩, List.mem_of_getElem? (i := 92) (by decide +kernel), List.mem_of_getElem? (i := 432) (by decide +kernel), List.mem_of_getElem? (i := 433) (by decide +kernel)⟩
theorem lw_p11 : lw_okq (⟨"LabelApplicator$Machine", "speedTowards", "(I)I"⟩, 16) := ⟨⟨by decide +kernel, by decide +kernel⟩, List.mem_of_getElem? (i := 92) (by decide +kernel), List.mem_of_getElem? (i := 448) (by decide +kernel), List.mem_of_getElem? (i := 449) (by decide +kernel)⟩
theorem lw_p12 : lw_okq (⟨"LabelApplicator$Machine", "feed", "()V"⟩, 16) := ⟨⟨by decide +kernel, by decide +kernel⟩, List.mem_of_getElem? (i := 92) (by decide +kernel), List.mem_of_getElem? (i := 463) (by decide +kernel), List.mem_of_getElem? (i := 464) (by decide +kernel)⟩
theorem lw_p13 : lw_okq (⟨"LabelApplicator$Machine", "endingBehind", "(II)I"⟩, 16) := ⟨⟨by decide +kernel, by decide +kernel⟩, List.mem_of_getElem? (i := 92) (by decide +kernel), List.mem_of_getElem? (i := 474) (by decide +kernel), List.mem_of_getElem? (i := 475) (by decide +kernel)⟩
theorem lw_p14 : lw_okq (⟨"LabelApplicator$Machine", "reasonAt", "(I)I"⟩, 16) := ⟨⟨by decide +kernel, by decide +kernel⟩, List.mem_of_getElem? (i := 92) (by decide +kernel), List.mem_of_getElem? (i := 482) (by decide +kernel), List.mem_of_getElem? (i := 483) (by decide +kernel)⟩
theorem lw_p15 : lw_okq (⟨"LabelApplicator$Machine", "countCycle", "()V"⟩, 16) := ⟨⟨by decide +kernel, by decide +kernel⟩, List.mem_of_getElem? (i := 92) (by decide +kernel), List.mem_of_getElem? (i := 489) (by decide +kernel), List.mem_of_getElem? (i := 490) (by decide +kernel)⟩
def lw_privs_1 : List (MethodName × Nat) := [(⟨"LabelApplicator$Reader", "skipBlanks", "()V"⟩, 8), (⟨"LabelApplicator$Reader", "closeParenthesis", "()V"⟩, 8), (⟨"LabelApplicator$Reader", "repeat", "(II)V"⟩, 8), (⟨"LabelApplicator$Reader", "readPart", "()V"⟩, 8), (⟨"LabelApplicator$Reader", "digitAt", "(I)I"⟩, 8), (⟨"LabelApplicator$Reader", "readTimes", "()I"⟩, 8), (⟨"LabelApplicator$Reader", "readNumber", "(I)I"⟩, 8), (⟨"LabelApplicator$Reader", "openParenthesis", "(I)V"⟩, 8), (⟨"LabelApplicator$Reader", "readItem", "(I)V"⟩, 8), (⟨"LabelApplicator$Items", "closeUp", "()V"⟩, 4), (⟨"LabelApplicator$Machine", "passGate", "(I)V"⟩, 16), (⟨"LabelApplicator$Machine", "speedTowards", "(I)I"⟩, 16), (⟨"LabelApplicator$Machine", "feed", "()V"⟩, 16), (⟨"LabelApplicator$Machine", "endingBehind", "(II)I"⟩, 16), (⟨"LabelApplicator$Machine", "reasonAt", "(I)I"⟩, 16), (⟨"LabelApplicator$Machine", "countCycle", "()V"⟩, 16)]
theorem lw_r1 : ∀ q ∈ lw_privs_1, lw_okq q := List.forall_mem_cons.mpr ⟨lw_p0, List.forall_mem_cons.mpr ⟨lw_p1, List.forall_mem_cons.mpr ⟨lw_p2, List.forall_mem_cons.mpr ⟨lw_p3, List.forall_mem_cons.mpr ⟨lw_p4, List.forall_mem_cons.mpr ⟨lw_p5, List.forall_mem_cons.mpr ⟨lw_p6, List.forall_mem_cons.mpr ⟨lw_p7, List.forall_mem_cons.mpr ⟨lw_p8, List.forall_mem_cons.mpr ⟨lw_p9, List.forall_mem_cons.mpr ⟨lw_p10, List.forall_mem_cons.mpr ⟨lw_p11, List.forall_mem_cons.mpr ⟨lw_p12, List.forall_mem_cons.mpr ⟨lw_p13, List.forall_mem_cons.mpr ⟨lw_p14, List.forall_mem_cons.mpr ⟨lw_p15, fun _ h => absurd h List.not_mem_nil⟩⟩⟩⟩⟩⟩⟩⟩⟩⟩⟩⟩⟩⟩⟩⟩
theorem lw_p16 : lw_okq (⟨"LabelApplicator$Machine", "learnPitch", "()V"⟩, 16) := ⟨⟨by decide +kernel, by decide +kernel⟩, List.mem_of_getElem? (i := 92) (by decide +kernel), List.mem_of_getElem? (i := 493) (by decide +kernel), List.mem_of_getElem? (i := 494) (by decide +kernel)⟩
theorem lw_p17 : lw_okq (⟨"LabelApplicator$Machine", "hasTooManyFaults", "()Z"⟩, 16) := ⟨⟨by decide +kernel, by decide +kernel⟩, List.mem_of_getElem? (i := 92) (by decide +kernel), List.mem_of_getElem? (i := 505) (by decide +kernel), List.mem_of_getElem? (i := 506) (by decide +kernel)⟩
theorem lw_p18 : lw_okq (⟨"LabelApplicator", "goodWith", "(IIII)I"⟩, 6) := ⟨⟨by decide +kernel, by decide +kernel⟩, List.mem_of_getElem? (i := 14) (by decide +kernel), List.mem_of_getElem? (i := 572) (by decide +kernel), List.mem_of_getElem? (i := 573) (by decide +kernel)⟩
theorem lw_p19 : lw_okq (⟨"LabelApplicator", "slotOf", "(I)LLabelApplicator$Slot;"⟩, 6) := ⟨⟨by decide +kernel, by decide +kernel⟩, List.mem_of_getElem? (i := 14) (by decide +kernel), List.mem_of_getElem? (i := 580) (by decide +kernel), List.mem_of_getElem? (i := 581) (by decide +kernel)⟩
theorem lw_p20 : lw_okq (⟨"LabelApplicatorModel", "reads", "()V"⟩, 24) := ⟨⟨by decide +kernel, by decide +kernel⟩, List.mem_of_getElem? (i := 614) (by decide +kernel), List.mem_of_getElem? (i := 710) (by decide +kernel), List.mem_of_getElem? (i := 711) (by decide +kernel)⟩
theorem lw_p21 : lw_okq (⟨"LabelApplicatorModel", "skips", "()V"⟩, 24) := ⟨⟨by decide +kernel, by decide +kernel⟩, List.mem_of_getElem? (i := 614) (by decide +kernel), List.mem_of_getElem? (i := 714) (by decide +kernel), List.mem_of_getElem? (i := 715) (by decide +kernel)⟩
theorem lw_p22 : lw_okq (⟨"LabelApplicatorModel", "next", "()I"⟩, 24) := ⟨⟨by decide +kernel, by decide +kernel⟩, List.mem_of_getElem? (i := 614) (by decide +kernel), List.mem_of_getElem? (i := 718) (by decide +kernel), List.mem_of_getElem? (i := 719) (by decide +kernel)⟩
theorem lw_p23 : lw_okq (⟨"LabelApplicatorModel", "passes", "()V"⟩, 24) := ⟨⟨by decide +kernel, by decide +kernel⟩, List.mem_of_getElem? (i := 614) (by decide +kernel), List.mem_of_getElem? (i := 722) (by decide +kernel), List.mem_of_getElem? (i := 723) (by decide +kernel)⟩
theorem lw_p24 : lw_okq (⟨"LabelApplicatorModel", "repeats", "(II)V"⟩, 24) := ⟨⟨by decide +kernel, by decide +kernel⟩, List.mem_of_getElem? (i := 614) (by decide +kernel), List.mem_of_getElem? (i := 726) (by decide +kernel), List.mem_of_getElem? (i := 727) (by decide +kernel)⟩
theorem lw_p25 : lw_okq (⟨"LabelApplicatorModel", "readsPart", "()V"⟩, 24) := ⟨⟨by decide +kernel, by decide +kernel⟩, List.mem_of_getElem? (i := 614) (by decide +kernel), List.mem_of_getElem? (i := 730) (by decide +kernel), List.mem_of_getElem? (i := 731) (by decide +kernel)⟩
theorem lw_p26 : lw_okq (⟨"LabelApplicatorModel", "readsNumber", "(I)I"⟩, 24) := ⟨⟨by decide +kernel, by decide +kernel⟩, List.mem_of_getElem? (i := 614) (by decide +kernel), List.mem_of_getElem? (i := 734) (by decide +kernel), List.mem_of_getElem? (i := 735) (by decide +kernel)⟩
theorem lw_p27 : lw_okq (⟨"LabelApplicatorModel", "fails", "(I)V"⟩, 24) := ⟨⟨by decide +kernel, by decide +kernel⟩, List.mem_of_getElem? (i := 614) (by decide +kernel), List.mem_of_getElem? (i := 738) (by decide +kernel), List.mem_of_getElem? (i := 739) (by decide +kernel)⟩
theorem lw_p28 : lw_okq (⟨"LabelApplicatorModel", "readsItem", "(I)V"⟩, 24) := ⟨⟨by decide +kernel, by decide +kernel⟩, List.mem_of_getElem? (i := 614) (by decide +kernel), List.mem_of_getElem? (i := 745) (by decide +kernel), List.mem_of_getElem? (i := 746) (by decide +kernel)⟩
theorem lw_p29 : lw_okq (⟨"LabelApplicatorModel", "lengthBefore", "(I)I"⟩, 24) := ⟨⟨by decide +kernel, by decide +kernel⟩, List.mem_of_getElem? (i := 614) (by decide +kernel), List.mem_of_getElem? (i := 757) (by decide +kernel), List.mem_of_getElem? (i := 758) (by decide +kernel)⟩
theorem lw_p30 : lw_okq (⟨"LabelApplicatorModel", "leaves", "(I)V"⟩, 24) := ⟨⟨by decide +kernel, by decide +kernel⟩, List.mem_of_getElem? (i := 614) (by decide +kernel), List.mem_of_getElem? (i := 790) (by decide +kernel), List.mem_of_getElem? (i := 791) (by decide +kernel)⟩
theorem lw_p31 : lw_okq (⟨"LabelApplicatorModel", "cycles", "(I)V"⟩, 24) := ⟨⟨by decide +kernel, by decide +kernel⟩, List.mem_of_getElem? (i := 614) (by decide +kernel), List.mem_of_getElem? (i := 798) (by decide +kernel), List.mem_of_getElem? (i := 799) (by decide +kernel)⟩
def lw_privs_2 : List (MethodName × Nat) := [(⟨"LabelApplicator$Machine", "learnPitch", "()V"⟩, 16), (⟨"LabelApplicator$Machine", "hasTooManyFaults", "()Z"⟩, 16), (⟨"LabelApplicator", "goodWith", "(IIII)I"⟩, 6), (⟨"LabelApplicator", "slotOf", "(I)LLabelApplicator$Slot;"⟩, 6), (⟨"LabelApplicatorModel", "reads", "()V"⟩, 24), (⟨"LabelApplicatorModel", "skips", "()V"⟩, 24), (⟨"LabelApplicatorModel", "next", "()I"⟩, 24), (⟨"LabelApplicatorModel", "passes", "()V"⟩, 24), (⟨"LabelApplicatorModel", "repeats", "(II)V"⟩, 24), (⟨"LabelApplicatorModel", "readsPart", "()V"⟩, 24), (⟨"LabelApplicatorModel", "readsNumber", "(I)I"⟩, 24), (⟨"LabelApplicatorModel", "fails", "(I)V"⟩, 24), (⟨"LabelApplicatorModel", "readsItem", "(I)V"⟩, 24), (⟨"LabelApplicatorModel", "lengthBefore", "(I)I"⟩, 24), (⟨"LabelApplicatorModel", "leaves", "(I)V"⟩, 24), (⟨"LabelApplicatorModel", "cycles", "(I)V"⟩, 24)]
theorem lw_r2 : ∀ q ∈ lw_privs_2, lw_okq q := List.forall_mem_cons.mpr ⟨lw_p16, List.forall_mem_cons.mpr ⟨lw_p17, List.forall_mem_cons.mpr ⟨lw_p18, List.forall_mem_cons.mpr ⟨lw_p19, List.forall_mem_cons.mpr ⟨lw_p20, List.forall_mem_cons.mpr ⟨lw_p21, List.forall_mem_cons.mpr ⟨lw_p22, List.forall_mem_cons.mpr ⟨lw_p23, List.forall_mem_cons.mpr ⟨lw_p24, List.forall_mem_cons.mpr ⟨lw_p25, List.forall_mem_cons.mpr ⟨lw_p26, List.forall_mem_cons.mpr ⟨lw_p27, List.forall_mem_cons.mpr ⟨lw_p28, List.forall_mem_cons.mpr ⟨lw_p29, List.forall_mem_cons.mpr ⟨lw_p30, List.forall_mem_cons.mpr ⟨lw_p31, fun _ h => absurd h List.not_mem_nil⟩⟩⟩⟩⟩⟩⟩⟩⟩⟩⟩⟩⟩⟩⟩⟩
theorem lw_p32 : lw_okq (⟨"LabelApplicatorModel", "follows", "(I)V"⟩, 24) := ⟨⟨by decide +kernel, by decide +kernel⟩, List.mem_of_getElem? (i := 614) (by decide +kernel), List.mem_of_getElem? (i := 802) (by decide +kernel), List.mem_of_getElem? (i := 803) (by decide +kernel)⟩
theorem lw_p33 : lw_okq (⟨"LabelApplicatorModel", "feeds", "()V"⟩, 24) := ⟨⟨by decide +kernel, by decide +kernel⟩, List.mem_of_getElem? (i := 614) (by decide +kernel), List.mem_of_getElem? (i := 806) (by decide +kernel), List.mem_of_getElem? (i := 807) (by decide +kernel)⟩
theorem lw_p34 : lw_okq (⟨"LabelApplicatorModel", "reasonAt", "(IZ)I"⟩, 24) := ⟨⟨by decide +kernel, by decide +kernel⟩, List.mem_of_getElem? (i := 614) (by decide +kernel), List.mem_of_getElem? (i := 810) (by decide +kernel), List.mem_of_getElem? (i := 811) (by decide +kernel)⟩
theorem lw_p35 : lw_okq (⟨"LabelApplicatorModel", "turns", "(I)V"⟩, 24) := ⟨⟨by decide +kernel, by decide +kernel⟩, List.mem_of_getElem? (i := 614) (by decide +kernel), List.mem_of_getElem? (i := 815) (by decide +kernel), List.mem_of_getElem? (i := 816) (by decide +kernel)⟩
theorem lw_p36 : lw_okq (⟨"LabelApplicatorModel", "ahead", "(III)I"⟩, 24) := ⟨⟨by decide +kernel, by decide +kernel⟩, List.mem_of_getElem? (i := 614) (by decide +kernel), List.mem_of_getElem? (i := 839) (by decide +kernel), List.mem_of_getElem? (i := 840) (by decide +kernel)⟩
theorem lw_p37 : lw_okq (⟨"LabelApplicatorModel", "keepsAside", "()V"⟩, 24) := ⟨⟨by decide +kernel, by decide +kernel⟩, List.mem_of_getElem? (i := 614) (by decide +kernel), List.mem_of_getElem? (i := 843) (by decide +kernel), List.mem_of_getElem? (i := 844) (by decide +kernel)⟩
theorem lw_p38 : lw_okq (⟨"LabelApplicatorModel", "looksAhead", "(III)I"⟩, 24) := ⟨⟨by decide +kernel, by decide +kernel⟩, List.mem_of_getElem? (i := 614) (by decide +kernel), List.mem_of_getElem? (i := 847) (by decide +kernel), List.mem_of_getElem? (i := 848) (by decide +kernel)⟩
theorem lw_p39 : lw_okq (⟨"LabelApplicatorModel", "returns", "()V"⟩, 24) := ⟨⟨by decide +kernel, by decide +kernel⟩, List.mem_of_getElem? (i := 614) (by decide +kernel), List.mem_of_getElem? (i := 851) (by decide +kernel), List.mem_of_getElem? (i := 852) (by decide +kernel)⟩
theorem lw_p40 : lw_okq (⟨"LabelApplicatorModel", "number", "(I)I"⟩, 24) := ⟨⟨by decide +kernel, by decide +kernel⟩, List.mem_of_getElem? (i := 614) (by decide +kernel), List.mem_of_getElem? (i := 871) (by decide +kernel), List.mem_of_getElem? (i := 872) (by decide +kernel)⟩
theorem lw_p41 : lw_okq (⟨"LabelApplicatorModel", "labelsOnWeb", "()I"⟩, 24) := ⟨⟨by decide +kernel, by decide +kernel⟩, List.mem_of_getElem? (i := 614) (by decide +kernel), List.mem_of_getElem? (i := 875) (by decide +kernel), List.mem_of_getElem? (i := 876) (by decide +kernel)⟩
theorem lw_p42 : lw_okq (⟨"LabelApplicatorModel", "productsInRing", "()I"⟩, 24) := ⟨⟨by decide +kernel, by decide +kernel⟩, List.mem_of_getElem? (i := 614) (by decide +kernel), List.mem_of_getElem? (i := 879) (by decide +kernel), List.mem_of_getElem? (i := 880) (by decide +kernel)⟩
theorem lw_p43 : lw_okq (⟨"LabelApplicatorModel", "mixes", "(J)V"⟩, 24) := ⟨⟨by decide +kernel, by decide +kernel⟩, List.mem_of_getElem? (i := 614) (by decide +kernel), List.mem_of_getElem? (i := 888) (by decide +kernel), List.mem_of_getElem? (i := 889) (by decide +kernel)⟩
def lw_privs_3 : List (MethodName × Nat) := [(⟨"LabelApplicatorModel", "follows", "(I)V"⟩, 24), (⟨"LabelApplicatorModel", "feeds", "()V"⟩, 24), (⟨"LabelApplicatorModel", "reasonAt", "(IZ)I"⟩, 24), (⟨"LabelApplicatorModel", "turns", "(I)V"⟩, 24), (⟨"LabelApplicatorModel", "ahead", "(III)I"⟩, 24), (⟨"LabelApplicatorModel", "keepsAside", "()V"⟩, 24), (⟨"LabelApplicatorModel", "looksAhead", "(III)I"⟩, 24), (⟨"LabelApplicatorModel", "returns", "()V"⟩, 24), (⟨"LabelApplicatorModel", "number", "(I)I"⟩, 24), (⟨"LabelApplicatorModel", "labelsOnWeb", "()I"⟩, 24), (⟨"LabelApplicatorModel", "productsInRing", "()I"⟩, 24), (⟨"LabelApplicatorModel", "mixes", "(J)V"⟩, 24)]
theorem lw_r3 : ∀ q ∈ lw_privs_3, lw_okq q := List.forall_mem_cons.mpr ⟨lw_p32, List.forall_mem_cons.mpr ⟨lw_p33, List.forall_mem_cons.mpr ⟨lw_p34, List.forall_mem_cons.mpr ⟨lw_p35, List.forall_mem_cons.mpr ⟨lw_p36, List.forall_mem_cons.mpr ⟨lw_p37, List.forall_mem_cons.mpr ⟨lw_p38, List.forall_mem_cons.mpr ⟨lw_p39, List.forall_mem_cons.mpr ⟨lw_p40, List.forall_mem_cons.mpr ⟨lw_p41, List.forall_mem_cons.mpr ⟨lw_p42, List.forall_mem_cons.mpr ⟨lw_p43, fun _ h => absurd h List.not_mem_nil⟩⟩⟩⟩⟩⟩⟩⟩⟩⟩⟩⟩
def lw_privs : List (MethodName × Nat) := lw_privs_1 ++ (lw_privs_2 ++ (lw_privs_3))
def lw_tbl : List Cond := k2_sels lw_privs ++ tables_1
theorem lw_privs_ok : ∀ q ∈ lw_privs, lw_okq q := by
  show ∀ q ∈ lw_privs_1 ++ (lw_privs_2 ++ (lw_privs_3)), lw_okq q
  exact List.forall_mem_append.mpr ⟨lw_r1, List.forall_mem_append.mpr ⟨lw_r2, lw_r3⟩⟩
/-- the streams that the claim lets the run draw from -/
abbrev lw_cs : List Choice := [Jvm.Choice.named "NaN.bits"]
theorem lw_bits : nanBits ∈ lw_cs := by first | decide | exact List.mem_cons_self | simp [lw_cs, nanBits]
-- ===== end of PART A; then your names; then what follows =====
/-! ===== BEGIN words of one list among another's, by their places ===== -/
theorem goodIn_r {big : List Cond} (ws : List Cond) (ps : List Nat) (hp : ws = ps.filterMap (fun i => big[i]?)) (h : ws.all goodWord = true) : GoodIn big ws := by
  intro w hw
  have h1 := List.all_eq_true.mp h w hw
  rw [hp] at hw
  obtain ⟨i, -, hi⟩ := List.mem_filterMap.mp hw
  have hm : w ∈ big := by first | exact List.mem_of_getElem? hi | exact List.getElem?_mem hi
  exact ⟨hm, good_of_word h1⟩
theorem goodIn_app {big a b : List Cond} (ha : GoodIn big a) (hb : GoodIn big b) : GoodIn big (a ++ b) := fun w h => (List.mem_append.mp h).elim (ha w) (hb w)
theorem goodIn_ca {big a b : List Cond} {c : Cond} (ha : GoodIn big (c :: a)) (hb : GoodIn big b) : GoodIn big (c :: (a ++ b)) := fun w h => (List.mem_cons.mp h).elim (fun e => ha w (List.mem_cons.mpr (Or.inl e))) (fun h => (List.mem_append.mp h).elim (fun h => ha w (List.mem_cons.mpr (Or.inr h))) (hb w))
theorem goodIn_sub {big ws : List Cond} (hm : ∀ w ∈ ws, w ∈ big) (h : ws.all goodWord = true) : GoodIn big ws := fun w hw => ⟨hm w hw, good_of_word (List.all_eq_true.mp h w hw)⟩
/-! ===== END ===== -/

/-! ===== BEGIN printed: names, fields, word lists, decode rows ===== -/
def RX0 : String := "LabelApplicator$Cycle"
def TX0 : u_T := fun k => match k with
  | 0 => ("LabelApplicator$Cycle", "travel", "I", false)
  | 1 => ("LabelApplicator$Cycle", "labels", "I", false)
  | 2 => ("LabelApplicator$Cycle", "splices", "I", false)
  | 3 => ("LabelApplicator$Cycle", "taken", "I", false)
  | 4 => ("LabelApplicator$Cycle", "ending", "I", false)
  | 5 => ("LabelApplicator$Cycle", "speed", "I", false)
  | 6 => ("LabelApplicator$Cycle", "reason", "I", false)
  | _ => ("LabelApplicator$Cycle", "late", "Z", false)
def tyX0 : Nat → FieldType := fun k => match k with
  | 0 => .int
  | 1 => .int
  | 2 => .int
  | 3 => .int
  | 4 => .int
  | 5 => .int
  | 6 => .int
  | _ => .boolean
abbrev wsX00 : List Cond := u_ws RX0 TX0 8
theorem nmX0 : ∀ a, a < 8 → ∀ b, b < 8 → a ≠ b → (TX0 a).2.1 ≠ (TX0 b).2.1 := by decide +kernel
theorem tyX0_ok : ∀ k, k < 8 → parseFieldDescriptor (TX0 k).2.2.1 = some (tyX0 k) := by decide +kernel
abbrev cX0_init : ByteArray := prog_2_method_1_code
def yX0_init : MethodName := ⟨RX0, "<init>", "()V"⟩
abbrev cX0_begin : ByteArray := prog_2_method_2_code
def yX0_begin : MethodName := ⟨RX0, "begin", "(I)V"⟩
abbrev cX0_take : ByteArray := prog_2_method_3_code
def yX0_take : MethodName := ⟨RX0, "take", "(II)V"⟩
abbrev cX0_number : ByteArray := prog_2_method_4_code
def yX0_number : MethodName := ⟨RX0, "number", "(I)I"⟩
abbrev cX0_copyFrom : ByteArray := prog_2_method_5_code
def yX0_copyFrom : MethodName := ⟨RX0, "copyFrom", "(LLabelApplicator$Cycle;)V"⟩
def RX1 : String := "LabelApplicator$Items"
def TX1 : u_T := fun k => match k with
  | 0 => ("LabelApplicator$Items", "kinds", "[I", true)
  | 1 => ("LabelApplicator$Items", "lengths", "[I", true)
  | 2 => ("LabelApplicator$Items", "front", "I", false)
  | _ => ("LabelApplicator$Items", "end", "I", false)
def tyX1 : Nat → FieldType := fun k => match k with
  | 0 => .array .int
  | 1 => .array .int
  | 2 => .int
  | _ => .int
abbrev wsX10 : List Cond := u_ws RX1 TX1 4
theorem nmX1 : ∀ a, a < 4 → ∀ b, b < 4 → a ≠ b → (TX1 a).2.1 ≠ (TX1 b).2.1 := by decide +kernel
theorem tyX1_ok : ∀ k, k < 4 → parseFieldDescriptor (TX1 k).2.2.1 = some (tyX1 k) := by decide +kernel
abbrev cX1_init : ByteArray := prog_3_method_1_code
def yX1_init : MethodName := ⟨RX1, "<init>", "()V"⟩
abbrev cX1_size : ByteArray := prog_3_method_2_code
def yX1_size : MethodName := ⟨RX1, "size", "()I"⟩
abbrev cX1_kindOf : ByteArray := prog_3_method_3_code
def yX1_kindOf : MethodName := ⟨RX1, "kindOf", "(I)I"⟩
abbrev cX1_lengthOf : ByteArray := prog_3_method_4_code
def yX1_lengthOf : MethodName := ⟨RX1, "lengthOf", "(I)I"⟩
abbrev cX1_lengthAhead : ByteArray := prog_3_method_5_code
def yX1_lengthAhead : MethodName := ⟨RX1, "lengthAhead", "(I)I"⟩
abbrev cX1_labels : ByteArray := prog_3_method_6_code
def yX1_labels : MethodName := ⟨RX1, "labels", "()I"⟩
abbrev cX1_removeAll : ByteArray := prog_3_method_7_code
def yX1_removeAll : MethodName := ⟨RX1, "removeAll", "()V"⟩
abbrev cX1_removeFirst : ByteArray := prog_3_method_8_code
def yX1_removeFirst : MethodName := ⟨RX1, "removeFirst", "(I)V"⟩
abbrev cX1_append : ByteArray := prog_3_method_9_code
def yX1_append : MethodName := ⟨RX1, "append", "(II)Z"⟩
abbrev cX1_appendAll : ByteArray := prog_3_method_10_code
def yX1_appendAll : MethodName := ⟨RX1, "appendAll", "(LLabelApplicator$Items;)V"⟩
abbrev cX1_copyFrom : ByteArray := prog_3_method_11_code
def yX1_copyFrom : MethodName := ⟨RX1, "copyFrom", "(LLabelApplicator$Items;)V"⟩
abbrev cX1_closeUp : ByteArray := prog_3_method_12_code
def yX1_closeUp : MethodName := ⟨RX1, "closeUp", "()V"⟩
def RX2 : String := "LabelApplicator$Machine"
def TX2 : u_T := fun k => match k with
  | 0 => ("LabelApplicator$Machine", "web", "LLabelApplicator$Items;", true)
  | 1 => ("LabelApplicator$Machine", "settings", "LLabelApplicator$Settings;", true)
  | 2 => ("LabelApplicator$Machine", "ring", "LLabelApplicator$Ring;", true)
  | 3 => ("LabelApplicator$Machine", "cycle", "LLabelApplicator$Cycle;", true)
  | 4 => ("LabelApplicator$Machine", "cameByReason", "[I", true)
  | 5 => ("LabelApplicator$Machine", "pitch", "F", false)
  | 6 => ("LabelApplicator$Machine", "speed", "I", false)
  | 7 => ("LabelApplicator$Machine", "faults", "I", false)
  | 8 => ("LabelApplicator$Machine", "stopped", "Z", false)
  | 9 => ("LabelApplicator$Machine", "came", "I", false)
  | 10 => ("LabelApplicator$Machine", "delivered", "I", false)
  | 11 => ("LabelApplicator$Machine", "diverted", "I", false)
  | 12 => ("LabelApplicator$Machine", "applied", "I", false)
  | 13 => ("LabelApplicator$Machine", "rejected", "I", false)
  | 14 => ("LabelApplicator$Machine", "splicedCycles", "I", false)
  | _ => ("LabelApplicator$Machine", "lateCycles", "I", false)
def tyX2 : Nat → FieldType := fun k => match k with
  | 0 => .object "LabelApplicator$Items"
  | 1 => .object "LabelApplicator$Settings"
  | 2 => .object "LabelApplicator$Ring"
  | 3 => .object "LabelApplicator$Cycle"
  | 4 => .array .int
  | 5 => .float
  | 6 => .int
  | 7 => .int
  | 8 => .boolean
  | 9 => .int
  | 10 => .int
  | 11 => .int
  | 12 => .int
  | 13 => .int
  | 14 => .int
  | _ => .int
abbrev wsX20 : List Cond := u_ws RX2 TX2 16
theorem nmX2 : ∀ a, a < 16 → ∀ b, b < 16 → a ≠ b → (TX2 a).2.1 ≠ (TX2 b).2.1 := by decide +kernel
theorem tyX2_ok : ∀ k, k < 16 → parseFieldDescriptor (TX2 k).2.2.1 = some (tyX2 k) := by decide +kernel
abbrev cX2_init : ByteArray := prog_4_method_1_code
def yX2_init : MethodName := ⟨RX2, "<init>", "()V"⟩
abbrev cX2_copyFrom : ByteArray := prog_4_method_2_code
def yX2_copyFrom : MethodName := ⟨RX2, "copyFrom", "(LLabelApplicator$Machine;)V"⟩
abbrev cX2_cameWith : ByteArray := prog_4_method_3_code
def yX2_cameWith : MethodName := ⟨RX2, "cameWith", "(I)I"⟩
abbrev cX2_number : ByteArray := prog_4_method_4_code
def yX2_number : MethodName := ⟨RX2, "number", "(I)I"⟩
abbrev cX2_rebuildRing : ByteArray := prog_4_method_5_code
def yX2_rebuildRing : MethodName := ⟨RX2, "rebuildRing", "(I)I"⟩
abbrev cX2_serveAll : ByteArray := prog_4_method_6_code
def yX2_serveAll : MethodName := ⟨RX2, "serveAll", "(II)I"⟩
abbrev cX2_serve : ByteArray := prog_4_method_7_code
def yX2_serve : MethodName := ⟨RX2, "serve", "(I)V"⟩
abbrev cX2_speedTowards : ByteArray := prog_4_method_8_code
def yX2_speedTowards : MethodName := ⟨RX2, "speedTowards", "(I)I"⟩
abbrev cX2_feed : ByteArray := prog_4_method_9_code
def yX2_feed : MethodName := ⟨RX2, "feed", "()V"⟩
abbrev cX2_endingBehind : ByteArray := prog_4_method_10_code
def yX2_endingBehind : MethodName := ⟨RX2, "endingBehind", "(II)I"⟩
abbrev cX2_reasonAt : ByteArray := prog_4_method_11_code
def yX2_reasonAt : MethodName := ⟨RX2, "reasonAt", "(I)I"⟩
abbrev cX2_countCycle : ByteArray := prog_4_method_12_code
def yX2_countCycle : MethodName := ⟨RX2, "countCycle", "()V"⟩
abbrev cX2_learnPitch : ByteArray := prog_4_method_13_code
def yX2_learnPitch : MethodName := ⟨RX2, "learnPitch", "()V"⟩
abbrev cX2_passGate : ByteArray := prog_4_method_14_code
def yX2_passGate : MethodName := ⟨RX2, "passGate", "(I)V"⟩
abbrev cX2_hasTooManyFaults : ByteArray := prog_4_method_15_code
def yX2_hasTooManyFaults : MethodName := ⟨RX2, "hasTooManyFaults", "()Z"⟩
abbrev cX2_isFault : ByteArray := prog_4_method_16_code
def yX2_isFault : MethodName := ⟨RX2, "isFault", "(I)Z"⟩
def RX3 : String := "LabelApplicator$Reader"
def TX3 : u_T := fun k => match k with
  | 0 => ("LabelApplicator$Reader", "items", "LLabelApplicator$Items;", true)
  | 1 => ("LabelApplicator$Reader", "tooMany", "Z", false)
  | 2 => ("LabelApplicator$Reader", "fault", "I", false)
  | 3 => ("LabelApplicator$Reader", "text", "LLabelApplicator$Text;", true)
  | 4 => ("LabelApplicator$Reader", "firstInside", "[I", true)
  | 5 => ("LabelApplicator$Reader", "timesInside", "[I", true)
  | 6 => ("LabelApplicator$Reader", "depth", "I", false)
  | _ => ("LabelApplicator$Reader", "at", "I", false)
def tyX3 : Nat → FieldType := fun k => match k with
  | 0 => .object "LabelApplicator$Items"
  | 1 => .boolean
  | 2 => .int
  | 3 => .object "LabelApplicator$Text"
  | 4 => .array .int
  | 5 => .array .int
  | 6 => .int
  | _ => .int
abbrev wsX30 : List Cond := u_ws RX3 TX3 8
theorem nmX3 : ∀ a, a < 8 → ∀ b, b < 8 → a ≠ b → (TX3 a).2.1 ≠ (TX3 b).2.1 := by decide +kernel
theorem tyX3_ok : ∀ k, k < 8 → parseFieldDescriptor (TX3 k).2.2.1 = some (tyX3 k) := by decide +kernel
abbrev cX3_init : ByteArray := prog_5_method_1_code
def yX3_init : MethodName := ⟨RX3, "<init>", "(LLabelApplicator$Text;)V"⟩
abbrev cX3_read : ByteArray := prog_5_method_2_code
def yX3_read : MethodName := ⟨RX3, "read", "()V"⟩
abbrev cX3_readPart : ByteArray := prog_5_method_3_code
def yX3_readPart : MethodName := ⟨RX3, "readPart", "()V"⟩
abbrev cX3_readTimes : ByteArray := prog_5_method_4_code
def yX3_readTimes : MethodName := ⟨RX3, "readTimes", "()I"⟩
abbrev cX3_readItem : ByteArray := prog_5_method_5_code
def yX3_readItem : MethodName := ⟨RX3, "readItem", "(I)V"⟩
abbrev cX3_openParenthesis : ByteArray := prog_5_method_6_code
def yX3_openParenthesis : MethodName := ⟨RX3, "openParenthesis", "(I)V"⟩
abbrev cX3_closeParenthesis : ByteArray := prog_5_method_7_code
def yX3_closeParenthesis : MethodName := ⟨RX3, "closeParenthesis", "()V"⟩
abbrev cX3_repeat : ByteArray := prog_5_method_8_code
def yX3_repeat : MethodName := ⟨RX3, "repeat", "(II)V"⟩
abbrev cX3_readNumber : ByteArray := prog_5_method_9_code
def yX3_readNumber : MethodName := ⟨RX3, "readNumber", "(I)I"⟩
abbrev cX3_digitAt : ByteArray := prog_5_method_10_code
def yX3_digitAt : MethodName := ⟨RX3, "digitAt", "(I)I"⟩
abbrev cX3_skipBlanks : ByteArray := prog_5_method_11_code
def yX3_skipBlanks : MethodName := ⟨RX3, "skipBlanks", "()V"⟩
abbrev cX3_kindNamed : ByteArray := prog_5_method_12_code
def yX3_kindNamed : MethodName := ⟨RX3, "kindNamed", "(I)I"⟩
def RX4 : String := "LabelApplicator$Ring"
def TX4 : u_T := fun k => match k with
  | 0 => ("LabelApplicator$Ring", "reasons", "[I", true)
  | _ => ("LabelApplicator$Ring", "stations", "I", false)
def tyX4 : Nat → FieldType := fun k => match k with
  | 0 => .array .int
  | _ => .int
abbrev wsX40 : List Cond := u_ws RX4 TX4 2
theorem nmX4 : ∀ a, a < 2 → ∀ b, b < 2 → a ≠ b → (TX4 a).2.1 ≠ (TX4 b).2.1 := by decide +kernel
theorem tyX4_ok : ∀ k, k < 2 → parseFieldDescriptor (TX4 k).2.2.1 = some (tyX4 k) := by decide +kernel
abbrev cX4_init : ByteArray := prog_6_method_1_code
def yX4_init : MethodName := ⟨RX4, "<init>", "()V"⟩
abbrev cX4_makeEmpty : ByteArray := prog_6_method_2_code
def yX4_makeEmpty : MethodName := ⟨RX4, "makeEmpty", "(I)V"⟩
abbrev cX4_reasonAt : ByteArray := prog_6_method_3_code
def yX4_reasonAt : MethodName := ⟨RX4, "reasonAt", "(I)I"⟩
abbrev cX4_products : ByteArray := prog_6_method_4_code
def yX4_products : MethodName := ⟨RX4, "products", "()I"⟩
abbrev cX4_moveOn : ByteArray := prog_6_method_5_code
def yX4_moveOn : MethodName := ⟨RX4, "moveOn", "(I)I"⟩
abbrev cX4_copyFrom : ByteArray := prog_6_method_6_code
def yX4_copyFrom : MethodName := ⟨RX4, "copyFrom", "(LLabelApplicator$Ring;)V"⟩
def RX5 : String := "LabelApplicator$Settings"
def TX5 : u_T := fun k => match k with
  | _ => ("LabelApplicator$Settings", "values", "[I", true)
def tyX5 : Nat → FieldType := fun k => match k with
  | _ => .array .int
abbrev wsX50 : List Cond := u_ws RX5 TX5 1
theorem nmX5 : ∀ a, a < 1 → ∀ b, b < 1 → a ≠ b → (TX5 a).2.1 ≠ (TX5 b).2.1 := by decide +kernel
theorem tyX5_ok : ∀ k, k < 1 → parseFieldDescriptor (TX5 k).2.2.1 = some (tyX5 k) := by decide +kernel
abbrev cX5_init : ByteArray := prog_7_method_1_code
def yX5_init : MethodName := ⟨RX5, "<init>", "()V"⟩
abbrev cX5_allows : ByteArray := prog_7_method_2_code
def yX5_allows : MethodName := ⟨RX5, "allows", "(II)Z"⟩
abbrev cX5_least : ByteArray := prog_7_method_3_code
def yX5_least : MethodName := ⟨RX5, "least", "(I)I"⟩
abbrev cX5_greatest : ByteArray := prog_7_method_4_code
def yX5_greatest : MethodName := ⟨RX5, "greatest", "(I)I"⟩
abbrev cX5_value : ByteArray := prog_7_method_5_code
def yX5_value : MethodName := ⟨RX5, "value", "(I)I"⟩
abbrev cX5_put : ByteArray := prog_7_method_6_code
def yX5_put : MethodName := ⟨RX5, "put", "(II)V"⟩
abbrev cX5_copyFrom : ByteArray := prog_7_method_7_code
def yX5_copyFrom : MethodName := ⟨RX5, "copyFrom", "(LLabelApplicator$Settings;)V"⟩
def RX6 : String := "LabelApplicator$Slot"
def TX6 : u_T := fun k => match k with
  | 0 => ("LabelApplicator$Slot", "machine", "LLabelApplicator$Machine;", true)
  | _ => ("LabelApplicator$Slot", "filled", "Z", false)
def tyX6 : Nat → FieldType := fun k => match k with
  | 0 => .object "LabelApplicator$Machine"
  | _ => .boolean
abbrev wsX60 : List Cond := u_ws RX6 TX6 2
theorem nmX6 : ∀ a, a < 2 → ∀ b, b < 2 → a ≠ b → (TX6 a).2.1 ≠ (TX6 b).2.1 := by decide +kernel
theorem tyX6_ok : ∀ k, k < 2 → parseFieldDescriptor (TX6 k).2.2.1 = some (tyX6 k) := by decide +kernel
abbrev cX6_init : ByteArray := prog_8_method_1_code
def yX6_init : MethodName := ⟨RX6, "<init>", "()V"⟩
def RX7 : String := "LabelApplicator$Text"
def TX7 : u_T := fun k => match k with
  | 0 => ("LabelApplicator$Text", "bytes", "[B", true)
  | _ => ("LabelApplicator$Text", "length", "I", false)
def tyX7 : Nat → FieldType := fun k => match k with
  | 0 => .array .byte
  | _ => .int
abbrev wsX70 : List Cond := u_ws RX7 TX7 2
theorem nmX7 : ∀ a, a < 2 → ∀ b, b < 2 → a ≠ b → (TX7 a).2.1 ≠ (TX7 b).2.1 := by decide +kernel
theorem tyX7_ok : ∀ k, k < 2 → parseFieldDescriptor (TX7 k).2.2.1 = some (tyX7 k) := by decide +kernel
abbrev cX7_init : ByteArray := prog_9_method_1_code
def yX7_init : MethodName := ⟨RX7, "<init>", "()V"⟩
abbrev cX7_append : ByteArray := prog_9_method_2_code
def yX7_append : MethodName := ⟨RX7, "append", "(I)Z"⟩
abbrev cX7_byteAt : ByteArray := prog_9_method_3_code
def yX7_byteAt : MethodName := ⟨RX7, "byteAt", "(I)I"⟩
def RX8 : String := "LabelApplicator"
def TX8 : u_T := fun k => match k with
  | 0 => ("LabelApplicator", "text", "LLabelApplicator$Text;", true)
  | 1 => ("LabelApplicator", "reader", "LLabelApplicator$Reader;", true)
  | 2 => ("LabelApplicator", "now", "LLabelApplicator$Machine;", true)
  | 3 => ("LabelApplicator", "trial", "LLabelApplicator$Machine;", true)
  | 4 => ("LabelApplicator", "firstSlot", "LLabelApplicator$Slot;", true)
  | _ => ("LabelApplicator", "secondSlot", "LLabelApplicator$Slot;", true)
def tyX8 : Nat → FieldType := fun k => match k with
  | 0 => .object "LabelApplicator$Text"
  | 1 => .object "LabelApplicator$Reader"
  | 2 => .object "LabelApplicator$Machine"
  | 3 => .object "LabelApplicator$Machine"
  | 4 => .object "LabelApplicator$Slot"
  | _ => .object "LabelApplicator$Slot"
abbrev wsX80 : List Cond := u_ws RX8 TX8 6
theorem nmX8 : ∀ a, a < 6 → ∀ b, b < 6 → a ≠ b → (TX8 a).2.1 ≠ (TX8 b).2.1 := by decide +kernel
theorem tyX8_ok : ∀ k, k < 6 → parseFieldDescriptor (TX8 k).2.2.1 = some (tyX8 k) := by decide +kernel
abbrev cX8_init : ByteArray := prog_1_method_1_code
def yX8_init : MethodName := ⟨RX8, "<init>", "()V"⟩
abbrev cX8_type : ByteArray := prog_1_method_2_code
def yX8_type : MethodName := ⟨RX8, "type", "(I)I"⟩
abbrev cX8_clear : ByteArray := prog_1_method_3_code
def yX8_clear : MethodName := ⟨RX8, "clear", "()I"⟩
abbrev cX8_load : ByteArray := prog_1_method_4_code
def yX8_load : MethodName := ⟨RX8, "load", "()I"⟩
abbrev cX8_unload : ByteArray := prog_1_method_5_code
def yX8_unload : MethodName := ⟨RX8, "unload", "()I"⟩
abbrev cX8_item : ByteArray := prog_1_method_6_code
def yX8_item : MethodName := ⟨RX8, "item", "(II)I"⟩
abbrev cX8_set : ByteArray := prog_1_method_7_code
def yX8_set : MethodName := ⟨RX8, "set", "(II)I"⟩
abbrev cX8_setPitch : ByteArray := prog_1_method_8_code
def yX8_setPitch : MethodName := ⟨RX8, "setPitch", "(I)I"⟩
abbrev cX8_setRing : ByteArray := prog_1_method_9_code
def yX8_setRing : MethodName := ⟨RX8, "setRing", "(I)I"⟩
abbrev cX8_run : ByteArray := prog_1_method_10_code
def yX8_run : MethodName := ⟨RX8, "run", "(II)I"⟩
abbrev cX8_clearFaults : ByteArray := prog_1_method_11_code
def yX8_clearFaults : MethodName := ⟨RX8, "clearFaults", "()I"⟩
abbrev cX8_latest : ByteArray := prog_1_method_12_code
def yX8_latest : MethodName := ⟨RX8, "latest", "(I)I"⟩
abbrev cX8_station : ByteArray := prog_1_method_13_code
def yX8_station : MethodName := ⟨RX8, "station", "(I)I"⟩
abbrev cX8_pitch : ByteArray := prog_1_method_14_code
def yX8_pitch : MethodName := ⟨RX8, "pitch", "()I"⟩
abbrev cX8_foretell : ByteArray := prog_1_method_15_code
def yX8_foretell : MethodName := ⟨RX8, "foretell", "(III)I"⟩
abbrev cX8_best : ByteArray := prog_1_method_16_code
def yX8_best : MethodName := ⟨RX8, "best", "(III)I"⟩
abbrev cX8_save : ByteArray := prog_1_method_17_code
def yX8_save : MethodName := ⟨RX8, "save", "(I)I"⟩
abbrev cX8_restore : ByteArray := prog_1_method_18_code
def yX8_restore : MethodName := ⟨RX8, "restore", "(I)I"⟩
abbrev cX8_count : ByteArray := prog_1_method_19_code
def yX8_count : MethodName := ⟨RX8, "count", "(I)I"⟩
abbrev cX8_digest : ByteArray := prog_1_method_20_code
def yX8_digest : MethodName := ⟨RX8, "digest", "()J"⟩
abbrev cX8_isWithin : ByteArray := prog_1_method_21_code
def yX8_isWithin : MethodName := ⟨RX8, "isWithin", "(III)Z"⟩
abbrev cX8_canCome : ByteArray := prog_1_method_22_code
def yX8_canCome : MethodName := ⟨RX8, "canCome", "(II)Z"⟩
abbrev cX8_bitsOf : ByteArray := prog_1_method_23_code
def yX8_bitsOf : MethodName := ⟨RX8, "bitsOf", "(F)I"⟩
abbrev cX8_slotOf : ByteArray := prog_1_method_24_code
def yX8_slotOf : MethodName := ⟨RX8, "slotOf", "(I)LLabelApplicator$Slot;"⟩
abbrev cX8_goodWith : ByteArray := prog_1_method_25_code
def yX8_goodWith : MethodName := ⟨RX8, "goodWith", "(IIII)I"⟩
def RX9 : String := "LabelApplicatorModel"
def TX9 : u_T := fun k => match k with
  | 0 => ("LabelApplicatorModel", "m", "[I", true)
  | 1 => ("LabelApplicatorModel", "aside", "[I", true)
  | 2 => ("LabelApplicatorModel", "slots", "[I", true)
  | 3 => ("LabelApplicatorModel", "isSaved", "[Z", true)
  | 4 => ("LabelApplicatorModel", "pitch", "F", false)
  | 5 => ("LabelApplicatorModel", "pitchAside", "F", false)
  | 6 => ("LabelApplicatorModel", "pitchFirst", "F", false)
  | 7 => ("LabelApplicatorModel", "pitchSecond", "F", false)
  | 8 => ("LabelApplicatorModel", "text", "[I", true)
  | 9 => ("LabelApplicatorModel", "textLength", "I", false)
  | 10 => ("LabelApplicatorModel", "at", "I", false)
  | 11 => ("LabelApplicatorModel", "fault", "I", false)
  | 12 => ("LabelApplicatorModel", "kind", "[I", true)
  | 13 => ("LabelApplicatorModel", "length", "[I", true)
  | 14 => ("LabelApplicatorModel", "items", "I", false)
  | 15 => ("LabelApplicatorModel", "times", "[I", true)
  | 16 => ("LabelApplicatorModel", "begin", "[I", true)
  | 17 => ("LabelApplicatorModel", "depth", "I", false)
  | 18 => ("LabelApplicatorModel", "travel", "I", false)
  | 19 => ("LabelApplicatorModel", "taken", "I", false)
  | 20 => ("LabelApplicatorModel", "labels", "I", false)
  | 21 => ("LabelApplicatorModel", "hasSplice", "Z", false)
  | 22 => ("LabelApplicatorModel", "end", "I", false)
  | _ => ("LabelApplicatorModel", "hash", "J", false)
def tyX9 : Nat → FieldType := fun k => match k with
  | 0 => .array .int
  | 1 => .array .int
  | 2 => .array .int
  | 3 => .array .boolean
  | 4 => .float
  | 5 => .float
  | 6 => .float
  | 7 => .float
  | 8 => .array .int
  | 9 => .int
  | 10 => .int
  | 11 => .int
  | 12 => .array .int
  | 13 => .array .int
  | 14 => .int
  | 15 => .array .int
  | 16 => .array .int
  | 17 => .int
  | 18 => .int
  | 19 => .int
  | 20 => .int
  | 21 => .boolean
  | 22 => .int
  | _ => .long
abbrev wsX90 : List Cond := u_ws RX9 TX9 24
theorem nmX9 : ∀ a, a < 24 → ∀ b, b < 24 → a ≠ b → (TX9 a).2.1 ≠ (TX9 b).2.1 := by decide +kernel
theorem tyX9_ok : ∀ k, k < 24 → parseFieldDescriptor (TX9 k).2.2.1 = some (tyX9 k) := by decide +kernel
abbrev cX9_init : ByteArray := prog_11_method_1_code
def yX9_init : MethodName := ⟨RX9, "<init>", "()V"⟩
abbrev cX9_in : ByteArray := prog_11_method_2_code
def yX9_in : MethodName := ⟨RX9, "in", "(III)Z"⟩
abbrev cX9_type : ByteArray := prog_11_method_3_code
def yX9_type : MethodName := ⟨RX9, "type", "(I)I"⟩
abbrev cX9_clear : ByteArray := prog_11_method_4_code
def yX9_clear : MethodName := ⟨RX9, "clear", "()I"⟩
abbrev cX9_next : ByteArray := prog_11_method_5_code
def yX9_next : MethodName := ⟨RX9, "next", "()I"⟩
abbrev cX9_skips : ByteArray := prog_11_method_6_code
def yX9_skips : MethodName := ⟨RX9, "skips", "()V"⟩
abbrev cX9_passes : ByteArray := prog_11_method_7_code
def yX9_passes : MethodName := ⟨RX9, "passes", "()V"⟩
abbrev cX9_fails : ByteArray := prog_11_method_8_code
def yX9_fails : MethodName := ⟨RX9, "fails", "(I)V"⟩
abbrev cX9_readsNumber : ByteArray := prog_11_method_9_code
def yX9_readsNumber : MethodName := ⟨RX9, "readsNumber", "(I)I"⟩
abbrev cX9_repeats : ByteArray := prog_11_method_10_code
def yX9_repeats : MethodName := ⟨RX9, "repeats", "(II)V"⟩
abbrev cX9_kindOf : ByteArray := prog_11_method_11_code
def yX9_kindOf : MethodName := ⟨RX9, "kindOf", "(I)I"⟩
abbrev cX9_readsItem : ByteArray := prog_11_method_12_code
def yX9_readsItem : MethodName := ⟨RX9, "readsItem", "(I)V"⟩
abbrev cX9_readsPart : ByteArray := prog_11_method_13_code
def yX9_readsPart : MethodName := ⟨RX9, "readsPart", "()V"⟩
abbrev cX9_reads : ByteArray := prog_11_method_14_code
def yX9_reads : MethodName := ⟨RX9, "reads", "()V"⟩
abbrev cX9_load : ByteArray := prog_11_method_15_code
def yX9_load : MethodName := ⟨RX9, "load", "()I"⟩
abbrev cX9_unload : ByteArray := prog_11_method_16_code
def yX9_unload : MethodName := ⟨RX9, "unload", "()I"⟩
abbrev cX9_lengthBefore : ByteArray := prog_11_method_17_code
def yX9_lengthBefore : MethodName := ⟨RX9, "lengthBefore", "(I)I"⟩
abbrev cX9_item : ByteArray := prog_11_method_18_code
def yX9_item : MethodName := ⟨RX9, "item", "(II)I"⟩
abbrev cX9_least : ByteArray := prog_11_method_19_code
def yX9_least : MethodName := ⟨RX9, "least", "(I)I"⟩
abbrev cX9_most : ByteArray := prog_11_method_20_code
def yX9_most : MethodName := ⟨RX9, "most", "(I)I"⟩
abbrev cX9_set : ByteArray := prog_11_method_21_code
def yX9_set : MethodName := ⟨RX9, "set", "(II)I"⟩
abbrev cX9_setPitch : ByteArray := prog_11_method_22_code
def yX9_setPitch : MethodName := ⟨RX9, "setPitch", "(I)I"⟩
abbrev cX9_leaves : ByteArray := prog_11_method_23_code
def yX9_leaves : MethodName := ⟨RX9, "leaves", "(I)V"⟩
abbrev cX9_setRing : ByteArray := prog_11_method_24_code
def yX9_setRing : MethodName := ⟨RX9, "setRing", "(I)I"⟩
abbrev cX9_follows : ByteArray := prog_11_method_25_code
def yX9_follows : MethodName := ⟨RX9, "follows", "(I)V"⟩
abbrev cX9_feeds : ByteArray := prog_11_method_26_code
def yX9_feeds : MethodName := ⟨RX9, "feeds", "()V"⟩
abbrev cX9_reasonAt : ByteArray := prog_11_method_27_code
def yX9_reasonAt : MethodName := ⟨RX9, "reasonAt", "(IZ)I"⟩
abbrev cX9_turns : ByteArray := prog_11_method_28_code
def yX9_turns : MethodName := ⟨RX9, "turns", "(I)V"⟩
abbrev cX9_cycles : ByteArray := prog_11_method_29_code
def yX9_cycles : MethodName := ⟨RX9, "cycles", "(I)V"⟩
abbrev cX9_run : ByteArray := prog_11_method_30_code
def yX9_run : MethodName := ⟨RX9, "run", "(II)I"⟩
abbrev cX9_clearFaults : ByteArray := prog_11_method_31_code
def yX9_clearFaults : MethodName := ⟨RX9, "clearFaults", "()I"⟩
abbrev cX9_latest : ByteArray := prog_11_method_32_code
def yX9_latest : MethodName := ⟨RX9, "latest", "(I)I"⟩
abbrev cX9_station : ByteArray := prog_11_method_33_code
def yX9_station : MethodName := ⟨RX9, "station", "(I)I"⟩
abbrev cX9_pitch : ByteArray := prog_11_method_34_code
def yX9_pitch : MethodName := ⟨RX9, "pitch", "()I"⟩
abbrev cX9_keepsAside : ByteArray := prog_11_method_35_code
def yX9_keepsAside : MethodName := ⟨RX9, "keepsAside", "()V"⟩
abbrev cX9_returns : ByteArray := prog_11_method_36_code
def yX9_returns : MethodName := ⟨RX9, "returns", "()V"⟩
abbrev cX9_looksAhead : ByteArray := prog_11_method_37_code
def yX9_looksAhead : MethodName := ⟨RX9, "looksAhead", "(III)I"⟩
abbrev cX9_ahead : ByteArray := prog_11_method_38_code
def yX9_ahead : MethodName := ⟨RX9, "ahead", "(III)I"⟩
abbrev cX9_foretell : ByteArray := prog_11_method_39_code
def yX9_foretell : MethodName := ⟨RX9, "foretell", "(III)I"⟩
abbrev cX9_best : ByteArray := prog_11_method_40_code
def yX9_best : MethodName := ⟨RX9, "best", "(III)I"⟩
abbrev cX9_save : ByteArray := prog_11_method_41_code
def yX9_save : MethodName := ⟨RX9, "save", "(I)I"⟩
abbrev cX9_restore : ByteArray := prog_11_method_42_code
def yX9_restore : MethodName := ⟨RX9, "restore", "(I)I"⟩
abbrev cX9_labelsOnWeb : ByteArray := prog_11_method_43_code
def yX9_labelsOnWeb : MethodName := ⟨RX9, "labelsOnWeb", "()I"⟩
abbrev cX9_productsInRing : ByteArray := prog_11_method_44_code
def yX9_productsInRing : MethodName := ⟨RX9, "productsInRing", "()I"⟩
abbrev cX9_number : ByteArray := prog_11_method_45_code
def yX9_number : MethodName := ⟨RX9, "number", "(I)I"⟩
abbrev cX9_count : ByteArray := prog_11_method_46_code
def yX9_count : MethodName := ⟨RX9, "count", "(I)I"⟩
abbrev cX9_mixes : ByteArray := prog_11_method_47_code
def yX9_mixes : MethodName := ⟨RX9, "mixes", "(J)V"⟩
abbrev cX9_digest : ByteArray := prog_11_method_48_code
def yX9_digest : MethodName := ⟨RX9, "digest", "()J"⟩
def RJxf58ca : String := "java/lang/Float"
def TJxf58ca : u_T := fun k => match k with
  | _ => ("", "", "", false)
def tyJxf58ca : Nat → FieldType := fun k => match k with
  | _ => .int
abbrev wsJxf58ca0 : List Cond := u_ws RJxf58ca TJxf58ca 0
theorem nmJxf58ca : ∀ a, a < 0 → ∀ b, b < 0 → a ≠ b → (TJxf58ca a).2.1 ≠ (TJxf58ca b).2.1 := by decide +kernel
theorem tyJxf58ca_ok : ∀ k, k < 0 → parseFieldDescriptor (TJxf58ca k).2.2.1 = some (tyJxf58ca k) := by decide +kernel
abbrev cJxf58ca_isNaN_12338 : ByteArray := prog_12_method_6_code
def yJxf58ca_isNaN_12338 : MethodName := ⟨RJxf58ca, "isNaN", "(F)Z"⟩
abbrev cJxf58ca_floatToIntBits_5c35a : ByteArray := prog_12_method_24_code
def yJxf58ca_floatToIntBits_5c35a : MethodName := ⟨RJxf58ca, "floatToIntBits", "(F)I"⟩
def RJ9 : String := "java/lang/Math"
def TJ9 : u_T := fun k => match k with
  | _ => ("", "", "", false)
def tyJ9 : Nat → FieldType := fun k => match k with
  | _ => .int
abbrev wsJ90 : List Cond := u_ws RJ9 TJ9 0
theorem nmJ9 : ∀ a, a < 0 → ∀ b, b < 0 → a ≠ b → (TJ9 a).2.1 ≠ (TJ9 b).2.1 := by decide +kernel
theorem tyJ9_ok : ∀ k, k < 0 → parseFieldDescriptor (TJ9 k).2.2.1 = some (tyJ9 k) := by decide +kernel
abbrev cJ9_abs_0f7a4 : ByteArray := prog_13_method_59_code
def yJ9_abs_0f7a4 : MethodName := ⟨RJ9, "abs", "(I)I"⟩
abbrev cJ9_max_7cf53 : ByteArray := prog_13_method_65_code
def yJ9_max_7cf53 : MethodName := ⟨RJ9, "max", "(II)I"⟩
abbrev cJ9_min_7cf53 : ByteArray := prog_13_method_69_code
def yJ9_min_7cf53 : MethodName := ⟨RJ9, "min", "(II)I"⟩
def RL : String := "LabelApplicatorLaw"
abbrev cL_law : ByteArray := code
def yL_law : MethodName := ⟨RL, "law", "([I)Z"⟩
def wsX0_init : List Cond := .code yX0_init cX0_init 1 none :: ([.methodLink RX0 3 objectInit, .instanceMethod objectInit, .code objectInit ⟨#[0xb1]⟩ 1 none])
def wsX0_begin : List Cond := .code yX0_begin cX0_begin 2 none :: ([.fieldLink RX0 9 "LabelApplicator$Cycle" "travel" "I", .fieldLink RX0 15 "LabelApplicator$Cycle" "labels" "I", .fieldLink RX0 18 "LabelApplicator$Cycle" "splices" "I", .fieldLink RX0 21 "LabelApplicator$Cycle" "taken" "I", .fieldLink RX0 24 "LabelApplicator$Cycle" "ending" "I", .fieldLink RX0 27 "LabelApplicator$Cycle" "speed" "I"] ++ wsX00)
def wsX0_take : List Cond := .code yX0_take cX0_take 3 none :: ([.fieldLink RX0 21 "LabelApplicator$Cycle" "taken" "I", .fieldLink RX0 9 "LabelApplicator$Cycle" "travel" "I", .fieldLink RX0 15 "LabelApplicator$Cycle" "labels" "I", .fieldLink RX0 18 "LabelApplicator$Cycle" "splices" "I"] ++ wsX00)
def wsX0_number : List Cond := .code yX0_number cX0_number 2 (some .int) :: ([.fieldLink RX0 9 "LabelApplicator$Cycle" "travel" "I", .fieldLink RX0 15 "LabelApplicator$Cycle" "labels" "I", .fieldLink RX0 30 "LabelApplicator$Cycle" "reason" "I", .fieldLink RX0 27 "LabelApplicator$Cycle" "speed" "I", .fieldLink RX0 21 "LabelApplicator$Cycle" "taken" "I", .fieldLink RX0 24 "LabelApplicator$Cycle" "ending" "I"] ++ wsX00)
def wsX0_copyFrom : List Cond := .code yX0_copyFrom cX0_copyFrom 2 none :: ([.fieldLink RX0 9 "LabelApplicator$Cycle" "travel" "I", .fieldLink RX0 15 "LabelApplicator$Cycle" "labels" "I", .fieldLink RX0 18 "LabelApplicator$Cycle" "splices" "I", .fieldLink RX0 21 "LabelApplicator$Cycle" "taken" "I", .fieldLink RX0 24 "LabelApplicator$Cycle" "ending" "I", .fieldLink RX0 27 "LabelApplicator$Cycle" "speed" "I", .fieldLink RX0 30 "LabelApplicator$Cycle" "reason" "I", .fieldLink RX0 33 "LabelApplicator$Cycle" "late" "Z"] ++ wsX00)
def wsX1_init : List Cond := .code yX1_init cX1_init 1 none :: ([.methodLink RX1 3 objectInit, .instanceMethod objectInit, .code objectInit ⟨#[0xb1]⟩ 1 none, .arrayClass .int, .fieldLink RX1 9 "LabelApplicator$Items" "kinds" "[I", .fieldLink RX1 15 "LabelApplicator$Items" "lengths" "[I"] ++ wsX10)
def wsX1_size : List Cond := .code yX1_size cX1_size 1 (some .int) :: ([.fieldLink RX1 18 "LabelApplicator$Items" "end" "I", .fieldLink RX1 22 "LabelApplicator$Items" "front" "I"] ++ wsX10)
def wsX1_kindOf : List Cond := .code yX1_kindOf cX1_kindOf 3 (some .int) :: ([.fieldLink RX1 22 "LabelApplicator$Items" "front" "I", .fieldLink RX1 9 "LabelApplicator$Items" "kinds" "[I"] ++ wsX10)
def wsX1_lengthOf : List Cond := .code yX1_lengthOf cX1_lengthOf 3 (some .int) :: ([.fieldLink RX1 22 "LabelApplicator$Items" "front" "I", .fieldLink RX1 15 "LabelApplicator$Items" "lengths" "[I"] ++ wsX10)
def wsX1_lengthAhead : List Cond := .code yX1_lengthAhead cX1_lengthAhead 4 (some .int) :: ([.methodLink RX1 25 yX1_lengthOf, .instanceMethod yX1_lengthOf, .selects RX1 yX1_lengthOf yX1_lengthOf, .initialized RX1, .code yX1_lengthOf cX1_lengthOf 3 (some .int), .fieldLink RX1 22 "LabelApplicator$Items" "front" "I", .fieldLink RX1 15 "LabelApplicator$Items" "lengths" "[I"] ++ wsX10)
def wsX1_labels : List Cond := .code yX1_labels cX1_labels 3 (some .int) :: ([.methodLink RX1 29 yX1_size, .instanceMethod yX1_size, .selects RX1 yX1_size yX1_size, .initialized RX1, .code yX1_size cX1_size 1 (some .int), .fieldLink RX1 18 "LabelApplicator$Items" "end" "I", .fieldLink RX1 22 "LabelApplicator$Items" "front" "I", .methodLink RX1 33 yX1_kindOf, .instanceMethod yX1_kindOf, .selects RX1 yX1_kindOf yX1_kindOf, .code yX1_kindOf cX1_kindOf 3 (some .int), .fieldLink RX1 9 "LabelApplicator$Items" "kinds" "[I"] ++ wsX10)
def wsX1_removeAll : List Cond := .code yX1_removeAll cX1_removeAll 1 none :: ([.fieldLink RX1 22 "LabelApplicator$Items" "front" "I", .fieldLink RX1 18 "LabelApplicator$Items" "end" "I"] ++ wsX10)
def wsX1_removeFirst : List Cond := .code yX1_removeFirst cX1_removeFirst 2 none :: ([.fieldLink RX1 22 "LabelApplicator$Items" "front" "I"] ++ wsX10)
def wsX1_append : List Cond := .code yX1_append cX1_append 3 (some .boolean) :: ([.fieldLink RX1 18 "LabelApplicator$Items" "end" "I", .fieldLink RX1 9 "LabelApplicator$Items" "kinds" "[I", .fieldLink RX1 15 "LabelApplicator$Items" "lengths" "[I"] ++ wsX10)
def wsX1_closeUp_r1 : List Cond := [Cond.fieldLink RX1 22 "LabelApplicator$Items" "front" "I", Cond.methodLink RX1 29 yX1_size, Cond.instanceMethod yX1_size, Cond.selects RX1 yX1_size yX1_size, Cond.initialized RX1, Cond.code yX1_size cX1_size 1 (some .int), Cond.fieldLink RX1 18 "LabelApplicator$Items" "end" "I", Cond.methodLink RX1 43 yX1_removeAll, Cond.instanceMethod yX1_removeAll, Cond.selects RX1 yX1_removeAll yX1_removeAll, Cond.code yX1_removeAll cX1_removeAll 1 none, Cond.methodLink RX1 33 yX1_kindOf, Cond.instanceMethod yX1_kindOf, Cond.selects RX1 yX1_kindOf yX1_kindOf, Cond.code yX1_kindOf cX1_kindOf 3 (some .int), Cond.fieldLink RX1 9 "LabelApplicator$Items" "kinds" "[I", Cond.methodLink RX1 25 yX1_lengthOf, Cond.instanceMethod yX1_lengthOf, Cond.selects RX1 yX1_lengthOf yX1_lengthOf, Cond.code yX1_lengthOf cX1_lengthOf 3 (some .int), Cond.fieldLink RX1 15 "LabelApplicator$Items" "lengths" "[I", Cond.methodLink RX1 39 yX1_append, Cond.instanceMethod yX1_append, Cond.selects RX1 yX1_append yX1_append]
def wsX1_closeUp_r2 : List Cond := [Cond.code yX1_append cX1_append 3 (some .boolean)]
def wsX1_closeUp : List Cond := .code yX1_closeUp cX1_closeUp 4 none :: ((wsX1_closeUp_r1 ++ wsX1_closeUp_r2) ++ wsX10)
def wsX1_appendAll_r1 : List Cond := [Cond.methodLink RX1 36 yX1_closeUp, Cond.instanceMethod yX1_closeUp, Cond.selects RX1 yX1_closeUp yX1_closeUp, Cond.initialized RX1, Cond.code yX1_closeUp cX1_closeUp 4 none, Cond.fieldLink RX1 22 "LabelApplicator$Items" "front" "I", Cond.methodLink RX1 29 yX1_size, Cond.instanceMethod yX1_size, Cond.selects RX1 yX1_size yX1_size, Cond.code yX1_size cX1_size 1 (some .int), Cond.fieldLink RX1 18 "LabelApplicator$Items" "end" "I", Cond.methodLink RX1 43 yX1_removeAll, Cond.instanceMethod yX1_removeAll, Cond.selects RX1 yX1_removeAll yX1_removeAll, Cond.code yX1_removeAll cX1_removeAll 1 none, Cond.methodLink RX1 33 yX1_kindOf, Cond.instanceMethod yX1_kindOf, Cond.selects RX1 yX1_kindOf yX1_kindOf, Cond.code yX1_kindOf cX1_kindOf 3 (some .int), Cond.fieldLink RX1 9 "LabelApplicator$Items" "kinds" "[I", Cond.methodLink RX1 25 yX1_lengthOf, Cond.instanceMethod yX1_lengthOf, Cond.selects RX1 yX1_lengthOf yX1_lengthOf, Cond.code yX1_lengthOf cX1_lengthOf 3 (some .int)]
def wsX1_appendAll_r2 : List Cond := [Cond.fieldLink RX1 15 "LabelApplicator$Items" "lengths" "[I", Cond.methodLink RX1 39 yX1_append, Cond.instanceMethod yX1_append, Cond.selects RX1 yX1_append yX1_append, Cond.code yX1_append cX1_append 3 (some .boolean)]
def wsX1_appendAll : List Cond := .code yX1_appendAll cX1_appendAll 3 none :: ((wsX1_appendAll_r1 ++ wsX1_appendAll_r2) ++ wsX10)
def wsX1_copyFrom_r1 : List Cond := [Cond.methodLink RX1 43 yX1_removeAll, Cond.instanceMethod yX1_removeAll, Cond.selects RX1 yX1_removeAll yX1_removeAll, Cond.initialized RX1, Cond.code yX1_removeAll cX1_removeAll 1 none, Cond.fieldLink RX1 22 "LabelApplicator$Items" "front" "I", Cond.fieldLink RX1 18 "LabelApplicator$Items" "end" "I", Cond.methodLink RX1 46 yX1_appendAll, Cond.instanceMethod yX1_appendAll, Cond.selects RX1 yX1_appendAll yX1_appendAll, Cond.code yX1_appendAll cX1_appendAll 3 none, Cond.methodLink RX1 36 yX1_closeUp, Cond.instanceMethod yX1_closeUp, Cond.selects RX1 yX1_closeUp yX1_closeUp, Cond.code yX1_closeUp cX1_closeUp 4 none, Cond.methodLink RX1 29 yX1_size, Cond.instanceMethod yX1_size, Cond.selects RX1 yX1_size yX1_size, Cond.code yX1_size cX1_size 1 (some .int), Cond.methodLink RX1 33 yX1_kindOf, Cond.instanceMethod yX1_kindOf, Cond.selects RX1 yX1_kindOf yX1_kindOf, Cond.code yX1_kindOf cX1_kindOf 3 (some .int), Cond.fieldLink RX1 9 "LabelApplicator$Items" "kinds" "[I"]
def wsX1_copyFrom_r2 : List Cond := [Cond.methodLink RX1 25 yX1_lengthOf, Cond.instanceMethod yX1_lengthOf, Cond.selects RX1 yX1_lengthOf yX1_lengthOf, Cond.code yX1_lengthOf cX1_lengthOf 3 (some .int), Cond.fieldLink RX1 15 "LabelApplicator$Items" "lengths" "[I", Cond.methodLink RX1 39 yX1_append, Cond.instanceMethod yX1_append, Cond.selects RX1 yX1_append yX1_append, Cond.code yX1_append cX1_append 3 (some .boolean)]
def wsX1_copyFrom : List Cond := .code yX1_copyFrom cX1_copyFrom 2 none :: ((wsX1_copyFrom_r1 ++ wsX1_copyFrom_r2) ++ wsX10)
def wsX5_init : List Cond := .code yX5_init cX5_init 1 none :: ([.methodLink RX5 3 objectInit, .instanceMethod objectInit, .code objectInit ⟨#[0xb1]⟩ 1 none, .arrayClass .int, .fieldLink RX5 9 "LabelApplicator$Settings" "values" "[I"] ++ wsX50)
def wsX4_makeEmpty : List Cond := .code yX4_makeEmpty cX4_makeEmpty 3 none :: ([.fieldLink RX4 19 "LabelApplicator$Ring" "stations" "I", .fieldLink RX4 9 "LabelApplicator$Ring" "reasons" "[I"] ++ wsX40)
def wsX4_init : List Cond := .code yX4_init cX4_init 1 none :: ([.methodLink RX4 3 objectInit, .instanceMethod objectInit, .code objectInit ⟨#[0xb1]⟩ 1 none, .arrayClass .int, .fieldLink RX4 9 "LabelApplicator$Ring" "reasons" "[I", .methodLink RX4 15 yX4_makeEmpty, .instanceMethod yX4_makeEmpty, .selects RX4 yX4_makeEmpty yX4_makeEmpty, .initialized RX4, .code yX4_makeEmpty cX4_makeEmpty 3 none, .fieldLink RX4 19 "LabelApplicator$Ring" "stations" "I"] ++ wsX40)
def wsX2_init_r1 : List Cond := [Cond.methodLink RX2 3 objectInit, Cond.instanceMethod objectInit, Cond.code objectInit ⟨#[0xb1]⟩ 1 none, Cond.classLink RX2 9 RX1, Cond.instantiable RX1 4, Cond.initialized RX1, Cond.fieldLink RX2 12 "LabelApplicator$Machine" "web" "LLabelApplicator$Items;", Cond.classLink RX2 18 RX5, Cond.instantiable RX5 1, Cond.initialized RX5, Cond.fieldLink RX2 21 "LabelApplicator$Machine" "settings" "LLabelApplicator$Settings;", Cond.classLink RX2 25 RX4, Cond.instantiable RX4 2, Cond.initialized RX4, Cond.fieldLink RX2 28 "LabelApplicator$Machine" "ring" "LLabelApplicator$Ring;", Cond.classLink RX2 32 RX0, Cond.instantiable RX0 8, Cond.initialized RX0, Cond.fieldLink RX2 35 "LabelApplicator$Machine" "cycle" "LLabelApplicator$Cycle;", Cond.arrayClass .int, Cond.fieldLink RX2 39 "LabelApplicator$Machine" "cameByReason" "[I", Cond.constantFloat RX2 43 (1112014848), Cond.fieldLink RX2 44 "LabelApplicator$Machine" "pitch" "F", Cond.methodLink RX2 11 yX1_init]
def wsX2_init_r2 : List Cond := [Cond.instanceMethod yX1_init, Cond.code yX1_init cX1_init 1 none, Cond.methodLink RX1 3 objectInit, Cond.fieldLink RX1 9 "LabelApplicator$Items" "kinds" "[I", Cond.fieldLink RX1 15 "LabelApplicator$Items" "lengths" "[I", Cond.methodLink RX2 20 yX5_init, Cond.instanceMethod yX5_init, Cond.code yX5_init cX5_init 1 none, Cond.methodLink RX5 3 objectInit, Cond.fieldLink RX5 9 "LabelApplicator$Settings" "values" "[I", Cond.methodLink RX2 27 yX4_init, Cond.instanceMethod yX4_init, Cond.code yX4_init cX4_init 1 none, Cond.methodLink RX4 3 objectInit, Cond.fieldLink RX4 9 "LabelApplicator$Ring" "reasons" "[I", Cond.methodLink RX4 15 yX4_makeEmpty, Cond.instanceMethod yX4_makeEmpty, Cond.selects RX4 yX4_makeEmpty yX4_makeEmpty, Cond.code yX4_makeEmpty cX4_makeEmpty 3 none, Cond.fieldLink RX4 19 "LabelApplicator$Ring" "stations" "I", Cond.instanceMethod yX0_init, Cond.code yX0_init cX0_init 1 none, Cond.methodLink RX0 3 objectInit]
def wsX2_init : List Cond := .code yX2_init cX2_init 1 none :: ((wsX2_init_r1 ++ wsX2_init_r2) ++ wsX10 ++ wsX20 ++ wsX50 ++ wsX40 ++ wsX00)
def wsX5_value : List Cond := .code yX5_value cX5_value 2 (some .int) :: ([.fieldLink RX5 9 "LabelApplicator$Settings" "values" "[I"] ++ wsX50)
def wsX5_copyFrom : List Cond := .code yX5_copyFrom cX5_copyFrom 3 none :: ([.fieldLink RX5 9 "LabelApplicator$Settings" "values" "[I", .methodLink RX5 32 yX5_value, .instanceMethod yX5_value, .selects RX5 yX5_value yX5_value, .initialized RX5, .code yX5_value cX5_value 2 (some .int)] ++ wsX50)
def wsX4_reasonAt : List Cond := .code yX4_reasonAt cX4_reasonAt 2 (some .int) :: ([.fieldLink RX4 9 "LabelApplicator$Ring" "reasons" "[I"] ++ wsX40)
def wsX4_copyFrom : List Cond := .code yX4_copyFrom cX4_copyFrom 3 none :: ([.fieldLink RX4 19 "LabelApplicator$Ring" "stations" "I", .fieldLink RX4 9 "LabelApplicator$Ring" "reasons" "[I", .methodLink RX4 23 yX4_reasonAt, .instanceMethod yX4_reasonAt, .selects RX4 yX4_reasonAt yX4_reasonAt, .initialized RX4, .code yX4_reasonAt cX4_reasonAt 2 (some .int)] ++ wsX40)
def wsX2_cameWith : List Cond := .code yX2_cameWith cX2_cameWith 2 (some .int) :: ([.fieldLink RX2 39 "LabelApplicator$Machine" "cameByReason" "[I"] ++ wsX20)
def wsX2_copyFrom_r1 : List Cond := [Cond.fieldLink RX2 12 "LabelApplicator$Machine" "web" "LLabelApplicator$Items;", Cond.fieldLink RX2 21 "LabelApplicator$Machine" "settings" "LLabelApplicator$Settings;", Cond.fieldLink RX2 28 "LabelApplicator$Machine" "ring" "LLabelApplicator$Ring;", Cond.fieldLink RX2 35 "LabelApplicator$Machine" "cycle" "LLabelApplicator$Cycle;", Cond.fieldLink RX2 39 "LabelApplicator$Machine" "cameByReason" "[I", Cond.fieldLink RX2 44 "LabelApplicator$Machine" "pitch" "F", Cond.fieldLink RX2 65 "LabelApplicator$Machine" "speed" "I", Cond.fieldLink RX2 69 "LabelApplicator$Machine" "faults" "I", Cond.fieldLink RX2 72 "LabelApplicator$Machine" "stopped" "Z", Cond.fieldLink RX2 76 "LabelApplicator$Machine" "came" "I", Cond.fieldLink RX2 79 "LabelApplicator$Machine" "delivered" "I", Cond.fieldLink RX2 82 "LabelApplicator$Machine" "diverted" "I", Cond.fieldLink RX2 85 "LabelApplicator$Machine" "applied" "I", Cond.fieldLink RX2 88 "LabelApplicator$Machine" "rejected" "I", Cond.fieldLink RX2 91 "LabelApplicator$Machine" "splicedCycles" "I", Cond.fieldLink RX2 94 "LabelApplicator$Machine" "lateCycles" "I", Cond.methodLink RX2 48 yX1_copyFrom, Cond.instanceMethod yX1_copyFrom, Cond.selects RX1 yX1_copyFrom yX1_copyFrom, Cond.initialized RX1, Cond.code yX1_copyFrom cX1_copyFrom 2 none, Cond.methodLink RX1 43 yX1_removeAll, Cond.instanceMethod yX1_removeAll, Cond.selects RX1 yX1_removeAll yX1_removeAll]
def wsX2_copyFrom_r2 : List Cond := [Cond.code yX1_removeAll cX1_removeAll 1 none, Cond.fieldLink RX1 22 "LabelApplicator$Items" "front" "I", Cond.fieldLink RX1 18 "LabelApplicator$Items" "end" "I", Cond.methodLink RX1 46 yX1_appendAll, Cond.instanceMethod yX1_appendAll, Cond.selects RX1 yX1_appendAll yX1_appendAll, Cond.code yX1_appendAll cX1_appendAll 3 none, Cond.methodLink RX1 36 yX1_closeUp, Cond.instanceMethod yX1_closeUp, Cond.selects RX1 yX1_closeUp yX1_closeUp, Cond.code yX1_closeUp cX1_closeUp 4 none, Cond.methodLink RX1 29 yX1_size, Cond.instanceMethod yX1_size, Cond.selects RX1 yX1_size yX1_size, Cond.code yX1_size cX1_size 1 (some .int), Cond.methodLink RX1 33 yX1_kindOf, Cond.instanceMethod yX1_kindOf, Cond.selects RX1 yX1_kindOf yX1_kindOf, Cond.code yX1_kindOf cX1_kindOf 3 (some .int), Cond.fieldLink RX1 9 "LabelApplicator$Items" "kinds" "[I", Cond.methodLink RX1 25 yX1_lengthOf, Cond.instanceMethod yX1_lengthOf, Cond.selects RX1 yX1_lengthOf yX1_lengthOf, Cond.code yX1_lengthOf cX1_lengthOf 3 (some .int)]
def wsX2_copyFrom_r3 : List Cond := [Cond.fieldLink RX1 15 "LabelApplicator$Items" "lengths" "[I", Cond.methodLink RX1 39 yX1_append, Cond.instanceMethod yX1_append, Cond.selects RX1 yX1_append yX1_append, Cond.code yX1_append cX1_append 3 (some .boolean), Cond.methodLink RX2 52 yX5_copyFrom, Cond.instanceMethod yX5_copyFrom, Cond.selects RX5 yX5_copyFrom yX5_copyFrom, Cond.initialized RX5, Cond.code yX5_copyFrom cX5_copyFrom 3 none, Cond.fieldLink RX5 9 "LabelApplicator$Settings" "values" "[I", Cond.methodLink RX5 32 yX5_value, Cond.instanceMethod yX5_value, Cond.selects RX5 yX5_value yX5_value, Cond.code yX5_value cX5_value 2 (some .int), Cond.methodLink RX2 55 yX4_copyFrom, Cond.instanceMethod yX4_copyFrom, Cond.selects RX4 yX4_copyFrom yX4_copyFrom, Cond.initialized RX4, Cond.code yX4_copyFrom cX4_copyFrom 3 none, Cond.fieldLink RX4 19 "LabelApplicator$Ring" "stations" "I", Cond.fieldLink RX4 9 "LabelApplicator$Ring" "reasons" "[I", Cond.methodLink RX4 23 yX4_reasonAt, Cond.instanceMethod yX4_reasonAt]
def wsX2_copyFrom_r4 : List Cond := [Cond.selects RX4 yX4_reasonAt yX4_reasonAt, Cond.code yX4_reasonAt cX4_reasonAt 2 (some .int), Cond.methodLink RX2 58 yX0_copyFrom, Cond.instanceMethod yX0_copyFrom, Cond.selects RX0 yX0_copyFrom yX0_copyFrom, Cond.initialized RX0, Cond.code yX0_copyFrom cX0_copyFrom 2 none, Cond.fieldLink RX0 9 "LabelApplicator$Cycle" "travel" "I", Cond.fieldLink RX0 15 "LabelApplicator$Cycle" "labels" "I", Cond.fieldLink RX0 18 "LabelApplicator$Cycle" "splices" "I", Cond.fieldLink RX0 21 "LabelApplicator$Cycle" "taken" "I", Cond.fieldLink RX0 24 "LabelApplicator$Cycle" "ending" "I", Cond.fieldLink RX0 27 "LabelApplicator$Cycle" "speed" "I", Cond.fieldLink RX0 30 "LabelApplicator$Cycle" "reason" "I", Cond.fieldLink RX0 33 "LabelApplicator$Cycle" "late" "Z", Cond.methodLink RX2 61 yX2_cameWith, Cond.instanceMethod yX2_cameWith, Cond.selects RX2 yX2_cameWith yX2_cameWith, Cond.initialized RX2, Cond.code yX2_cameWith cX2_cameWith 2 (some .int)]
def wsX2_copyFrom : List Cond := .code yX2_copyFrom cX2_copyFrom 3 none :: ((wsX2_copyFrom_r1 ++ (wsX2_copyFrom_r2 ++ (wsX2_copyFrom_r3 ++ wsX2_copyFrom_r4))) ++ wsX20 ++ wsX10 ++ wsX50 ++ wsX40 ++ wsX00)
def wsX4_products : List Cond := .code yX4_products cX4_products 3 (some .int) :: ([.fieldLink RX4 19 "LabelApplicator$Ring" "stations" "I", .methodLink RX4 23 yX4_reasonAt, .instanceMethod yX4_reasonAt, .selects RX4 yX4_reasonAt yX4_reasonAt, .initialized RX4, .code yX4_reasonAt cX4_reasonAt 2 (some .int), .fieldLink RX4 9 "LabelApplicator$Ring" "reasons" "[I"] ++ wsX40)
def wsX2_number_r1 : List Cond := [Cond.fieldLink RX2 21 "LabelApplicator$Machine" "settings" "LLabelApplicator$Settings;", Cond.fieldLink RX2 12 "LabelApplicator$Machine" "web" "LLabelApplicator$Items;", Cond.fieldLink RX2 65 "LabelApplicator$Machine" "speed" "I", Cond.fieldLink RX2 28 "LabelApplicator$Machine" "ring" "LLabelApplicator$Ring;", Cond.fieldLink RX2 110 "LabelApplicator$Ring" "stations" "I", Cond.fieldLink RX2 76 "LabelApplicator$Machine" "came" "I", Cond.fieldLink RX2 79 "LabelApplicator$Machine" "delivered" "I", Cond.fieldLink RX2 82 "LabelApplicator$Machine" "diverted" "I", Cond.fieldLink RX2 85 "LabelApplicator$Machine" "applied" "I", Cond.fieldLink RX2 88 "LabelApplicator$Machine" "rejected" "I", Cond.fieldLink RX2 91 "LabelApplicator$Machine" "splicedCycles" "I", Cond.fieldLink RX2 94 "LabelApplicator$Machine" "lateCycles" "I", Cond.fieldLink RX2 69 "LabelApplicator$Machine" "faults" "I", Cond.fieldLink RX2 72 "LabelApplicator$Machine" "stopped" "Z", Cond.methodLink RX2 61 yX2_cameWith, Cond.instanceMethod yX2_cameWith, Cond.selects RX2 yX2_cameWith yX2_cameWith, Cond.initialized RX2, Cond.code yX2_cameWith cX2_cameWith 2 (some .int), Cond.fieldLink RX2 39 "LabelApplicator$Machine" "cameByReason" "[I", Cond.methodLink RX2 97 yX5_value, Cond.instanceMethod yX5_value, Cond.selects RX5 yX5_value yX5_value, Cond.initialized RX5]
def wsX2_number_r2 : List Cond := [Cond.code yX5_value cX5_value 2 (some .int), Cond.fieldLink RX5 9 "LabelApplicator$Settings" "values" "[I", Cond.methodLink RX2 100 yX1_size, Cond.instanceMethod yX1_size, Cond.selects RX1 yX1_size yX1_size, Cond.initialized RX1, Cond.code yX1_size cX1_size 1 (some .int), Cond.fieldLink RX1 18 "LabelApplicator$Items" "end" "I", Cond.fieldLink RX1 22 "LabelApplicator$Items" "front" "I", Cond.methodLink RX2 104 yX1_labels, Cond.instanceMethod yX1_labels, Cond.selects RX1 yX1_labels yX1_labels, Cond.code yX1_labels cX1_labels 3 (some .int), Cond.methodLink RX1 29 yX1_size, Cond.methodLink RX1 33 yX1_kindOf, Cond.instanceMethod yX1_kindOf, Cond.selects RX1 yX1_kindOf yX1_kindOf, Cond.code yX1_kindOf cX1_kindOf 3 (some .int), Cond.fieldLink RX1 9 "LabelApplicator$Items" "kinds" "[I", Cond.methodLink RX2 107 yX1_lengthAhead, Cond.instanceMethod yX1_lengthAhead, Cond.selects RX1 yX1_lengthAhead yX1_lengthAhead, Cond.code yX1_lengthAhead cX1_lengthAhead 4 (some .int), Cond.methodLink RX1 25 yX1_lengthOf]
def wsX2_number_r3 : List Cond := [Cond.instanceMethod yX1_lengthOf, Cond.selects RX1 yX1_lengthOf yX1_lengthOf, Cond.code yX1_lengthOf cX1_lengthOf 3 (some .int), Cond.fieldLink RX1 15 "LabelApplicator$Items" "lengths" "[I", Cond.methodLink RX2 113 yX4_products, Cond.instanceMethod yX4_products, Cond.selects RX4 yX4_products yX4_products, Cond.initialized RX4, Cond.code yX4_products cX4_products 3 (some .int), Cond.fieldLink RX4 19 "LabelApplicator$Ring" "stations" "I", Cond.methodLink RX4 23 yX4_reasonAt, Cond.instanceMethod yX4_reasonAt, Cond.selects RX4 yX4_reasonAt yX4_reasonAt, Cond.code yX4_reasonAt cX4_reasonAt 2 (some .int), Cond.fieldLink RX4 9 "LabelApplicator$Ring" "reasons" "[I"]
def wsX2_number : List Cond := .code yX2_number cX2_number 2 (some .int) :: ((wsX2_number_r1 ++ (wsX2_number_r2 ++ wsX2_number_r3)) ++ wsX20 ++ wsX40 ++ wsX50 ++ wsX10)
def wsX2_passGate : List Cond := .code yX2_passGate cX2_passGate 2 none :: ([.fieldLink RX2 79 "LabelApplicator$Machine" "delivered" "I", .fieldLink RX2 82 "LabelApplicator$Machine" "diverted" "I"] ++ wsX20)
def wsX2_rebuildRing_r1 : List Cond := [Cond.fieldLink RX2 28 "LabelApplicator$Machine" "ring" "LLabelApplicator$Ring;", Cond.fieldLink RX2 110 "LabelApplicator$Ring" "stations" "I", Cond.methodLink RX2 113 yX4_products, Cond.instanceMethod yX4_products, Cond.selects RX4 yX4_products yX4_products, Cond.initialized RX4, Cond.code yX4_products cX4_products 3 (some .int), Cond.fieldLink RX4 19 "LabelApplicator$Ring" "stations" "I", Cond.methodLink RX4 23 yX4_reasonAt, Cond.instanceMethod yX4_reasonAt, Cond.selects RX4 yX4_reasonAt yX4_reasonAt, Cond.code yX4_reasonAt cX4_reasonAt 2 (some .int), Cond.fieldLink RX4 9 "LabelApplicator$Ring" "reasons" "[I", Cond.methodLink RX2 116 yX4_reasonAt, Cond.methodLink RX2 119 yX2_passGate, Cond.instanceMethod yX2_passGate, Cond.selects RX2 yX2_passGate yX2_passGate, Cond.initialized RX2, Cond.code yX2_passGate cX2_passGate 2 none, Cond.fieldLink RX2 79 "LabelApplicator$Machine" "delivered" "I", Cond.fieldLink RX2 82 "LabelApplicator$Machine" "diverted" "I", Cond.methodLink RX2 123 yX4_makeEmpty, Cond.instanceMethod yX4_makeEmpty, Cond.selects RX4 yX4_makeEmpty yX4_makeEmpty]
def wsX2_rebuildRing_r2 : List Cond := [Cond.code yX4_makeEmpty cX4_makeEmpty 3 none]
def wsX2_rebuildRing : List Cond := .code yX2_rebuildRing cX2_rebuildRing 4 (some .int) :: ((wsX2_rebuildRing_r1 ++ wsX2_rebuildRing_r2) ++ wsX20 ++ wsX40)
def wsX2_speedTowards : List Cond := .code yX2_speedTowards cX2_speedTowards 6 (some .int) :: ([.fieldLink RX2 21 "LabelApplicator$Machine" "settings" "LLabelApplicator$Settings;", .fieldLink RX2 65 "LabelApplicator$Machine" "speed" "I", .methodLink RX2 168 Lib.Math.max.name, .static Lib.Math.max.name, .initialized "java/lang/Math", .code Lib.Math.max.name Lib.Math.max.code 2 (some .int), .methodLink RX2 174 Lib.Math.min.name, .static Lib.Math.min.name, .code Lib.Math.min.name Lib.Math.min.code 2 (some .int), .methodLink RX2 97 yX5_value, .instanceMethod yX5_value, .selects RX5 yX5_value yX5_value, .initialized RX5, .code yX5_value cX5_value 2 (some .int), .fieldLink RX5 9 "LabelApplicator$Settings" "values" "[I"] ++ wsX20 ++ wsX50)
def wsX2_endingBehind : List Cond := .code yX2_endingBehind cX2_endingBehind 4 (some .int) :: ([.fieldLink RX2 21 "LabelApplicator$Machine" "settings" "LLabelApplicator$Settings;", .fieldLink RX2 35 "LabelApplicator$Machine" "cycle" "LLabelApplicator$Cycle;", .fieldLink RX2 145 "LabelApplicator$Cycle" "travel" "I", .fieldLink RX2 44 "LabelApplicator$Machine" "pitch" "F", .methodLink RX2 97 yX5_value, .instanceMethod yX5_value, .selects RX5 yX5_value yX5_value, .initialized RX5, .code yX5_value cX5_value 2 (some .int), .fieldLink RX5 9 "LabelApplicator$Settings" "values" "[I"] ++ wsX20 ++ wsX00 ++ wsX50)
def wsX2_feed_r1 : List Cond := [Cond.fieldLink RX2 12 "LabelApplicator$Machine" "web" "LLabelApplicator$Items;", Cond.fieldLink RX2 35 "LabelApplicator$Machine" "cycle" "LLabelApplicator$Cycle;", Cond.fieldLink RX2 142 "LabelApplicator$Cycle" "ending" "I", Cond.fieldLink RX2 190 "LabelApplicator$Cycle" "taken" "I", Cond.methodLink RX2 100 yX1_size, Cond.instanceMethod yX1_size, Cond.selects RX1 yX1_size yX1_size, Cond.initialized RX1, Cond.code yX1_size cX1_size 1 (some .int), Cond.fieldLink RX1 18 "LabelApplicator$Items" "end" "I", Cond.fieldLink RX1 22 "LabelApplicator$Items" "front" "I", Cond.methodLink RX2 177 yX1_kindOf, Cond.instanceMethod yX1_kindOf, Cond.selects RX1 yX1_kindOf yX1_kindOf, Cond.code yX1_kindOf cX1_kindOf 3 (some .int), Cond.fieldLink RX1 9 "LabelApplicator$Items" "kinds" "[I", Cond.methodLink RX2 180 yX1_lengthOf, Cond.instanceMethod yX1_lengthOf, Cond.selects RX1 yX1_lengthOf yX1_lengthOf, Cond.code yX1_lengthOf cX1_lengthOf 3 (some .int), Cond.fieldLink RX1 15 "LabelApplicator$Items" "lengths" "[I", Cond.methodLink RX2 183 yX0_take, Cond.instanceMethod yX0_take, Cond.selects RX0 yX0_take yX0_take]
def wsX2_feed_r2 : List Cond := [Cond.initialized RX0, Cond.code yX0_take cX0_take 3 none, Cond.fieldLink RX0 21 "LabelApplicator$Cycle" "taken" "I", Cond.fieldLink RX0 9 "LabelApplicator$Cycle" "travel" "I", Cond.fieldLink RX0 15 "LabelApplicator$Cycle" "labels" "I", Cond.fieldLink RX0 18 "LabelApplicator$Cycle" "splices" "I", Cond.methodLink RX2 187 yX2_endingBehind, Cond.instanceMethod yX2_endingBehind, Cond.selects RX2 yX2_endingBehind yX2_endingBehind, Cond.initialized RX2, Cond.code yX2_endingBehind cX2_endingBehind 4 (some .int), Cond.fieldLink RX2 21 "LabelApplicator$Machine" "settings" "LLabelApplicator$Settings;", Cond.fieldLink RX2 145 "LabelApplicator$Cycle" "travel" "I", Cond.fieldLink RX2 44 "LabelApplicator$Machine" "pitch" "F", Cond.methodLink RX2 97 yX5_value, Cond.instanceMethod yX5_value, Cond.selects RX5 yX5_value yX5_value, Cond.initialized RX5, Cond.code yX5_value cX5_value 2 (some .int), Cond.fieldLink RX5 9 "LabelApplicator$Settings" "values" "[I", Cond.methodLink RX2 193 yX1_removeFirst, Cond.instanceMethod yX1_removeFirst, Cond.selects RX1 yX1_removeFirst yX1_removeFirst, Cond.code yX1_removeFirst cX1_removeFirst 2 none]
def wsX2_feed : List Cond := .code yX2_feed cX2_feed 3 none :: ((wsX2_feed_r1 ++ wsX2_feed_r2) ++ wsX20 ++ wsX00 ++ wsX10 ++ wsX50)
def wsX2_reasonAt : List Cond := .code yX2_reasonAt cX2_reasonAt 3 (some .int) :: ([.fieldLink RX2 35 "LabelApplicator$Machine" "cycle" "LLabelApplicator$Cycle;", .fieldLink RX2 142 "LabelApplicator$Cycle" "ending" "I", .fieldLink RX2 196 "LabelApplicator$Cycle" "splices" "I", .fieldLink RX2 199 "LabelApplicator$Cycle" "labels" "I", .fieldLink RX2 148 "LabelApplicator$Cycle" "late" "Z", .fieldLink RX2 65 "LabelApplicator$Machine" "speed" "I", .methodLink RX2 201 Lib.Math.abs.name, .static Lib.Math.abs.name, .initialized "java/lang/Math", .code Lib.Math.abs.name Lib.Math.abs.code 1 (some .int), .fieldLink RX2 21 "LabelApplicator$Machine" "settings" "LLabelApplicator$Settings;", .methodLink RX2 97 yX5_value, .instanceMethod yX5_value, .selects RX5 yX5_value yX5_value, .initialized RX5, .code yX5_value cX5_value 2 (some .int), .fieldLink RX5 9 "LabelApplicator$Settings" "values" "[I"] ++ wsX20 ++ wsX00 ++ wsX50)
def wsX2_countCycle : List Cond := .code yX2_countCycle cX2_countCycle 2 none :: ([.fieldLink RX2 35 "LabelApplicator$Machine" "cycle" "LLabelApplicator$Cycle;", .fieldLink RX2 152 "LabelApplicator$Cycle" "reason" "I", .fieldLink RX2 76 "LabelApplicator$Machine" "came" "I", .fieldLink RX2 39 "LabelApplicator$Machine" "cameByReason" "[I", .fieldLink RX2 85 "LabelApplicator$Machine" "applied" "I", .fieldLink RX2 199 "LabelApplicator$Cycle" "labels" "I", .fieldLink RX2 88 "LabelApplicator$Machine" "rejected" "I", .fieldLink RX2 196 "LabelApplicator$Cycle" "splices" "I", .fieldLink RX2 91 "LabelApplicator$Machine" "splicedCycles" "I", .fieldLink RX2 148 "LabelApplicator$Cycle" "late" "Z", .fieldLink RX2 94 "LabelApplicator$Machine" "lateCycles" "I"] ++ wsX20 ++ wsX00)
def wsX2_learnPitch : List Cond := .code yX2_learnPitch cX2_learnPitch 2 none :: ([.fieldLink RX2 21 "LabelApplicator$Machine" "settings" "LLabelApplicator$Settings;", .constantFloat RX2 204 (1090519040), .fieldLink RX2 44 "LabelApplicator$Machine" "pitch" "F", .fieldLink RX2 35 "LabelApplicator$Machine" "cycle" "LLabelApplicator$Cycle;", .fieldLink RX2 145 "LabelApplicator$Cycle" "travel" "I", .methodLink RX2 97 yX5_value, .instanceMethod yX5_value, .selects RX5 yX5_value yX5_value, .initialized RX5, .code yX5_value cX5_value 2 (some .int), .fieldLink RX5 9 "LabelApplicator$Settings" "values" "[I"] ++ wsX20 ++ wsX00 ++ wsX50)
def wsX4_moveOn : List Cond := .code yX4_moveOn cX4_moveOn 5 (some .int) :: ([.fieldLink RX4 19 "LabelApplicator$Ring" "stations" "I", .fieldLink RX4 9 "LabelApplicator$Ring" "reasons" "[I"] ++ wsX40)
def wsX2_isFault : List Cond := .code yX2_isFault cX2_isFault 1 (some .boolean) :: ([])
def wsX2_hasTooManyFaults : List Cond := .code yX2_hasTooManyFaults cX2_hasTooManyFaults 1 (some .boolean) :: ([.fieldLink RX2 69 "LabelApplicator$Machine" "faults" "I", .fieldLink RX2 21 "LabelApplicator$Machine" "settings" "LLabelApplicator$Settings;", .methodLink RX2 97 yX5_value, .instanceMethod yX5_value, .selects RX5 yX5_value yX5_value, .initialized RX5, .code yX5_value cX5_value 2 (some .int), .fieldLink RX5 9 "LabelApplicator$Settings" "values" "[I"] ++ wsX20 ++ wsX50)
def wsX2_serve_r1 : List Cond := [Cond.fieldLink RX2 65 "LabelApplicator$Machine" "speed" "I", Cond.fieldLink RX2 35 "LabelApplicator$Machine" "cycle" "LLabelApplicator$Cycle;", Cond.fieldLink RX2 142 "LabelApplicator$Cycle" "ending" "I", Cond.fieldLink RX2 145 "LabelApplicator$Cycle" "travel" "I", Cond.fieldLink RX2 44 "LabelApplicator$Machine" "pitch" "F", Cond.fieldLink RX2 21 "LabelApplicator$Machine" "settings" "LLabelApplicator$Settings;", Cond.fieldLink RX2 148 "LabelApplicator$Cycle" "late" "Z", Cond.fieldLink RX2 152 "LabelApplicator$Cycle" "reason" "I", Cond.fieldLink RX2 28 "LabelApplicator$Machine" "ring" "LLabelApplicator$Ring;", Cond.fieldLink RX2 69 "LabelApplicator$Machine" "faults" "I", Cond.fieldLink RX2 72 "LabelApplicator$Machine" "stopped" "Z", Cond.methodLink RX2 133 yX2_speedTowards, Cond.instanceMethod yX2_speedTowards, Cond.selects RX2 yX2_speedTowards yX2_speedTowards, Cond.initialized RX2, Cond.code yX2_speedTowards cX2_speedTowards 6 (some .int), Cond.methodLink RX2 168 Lib.Math.max.name, Cond.static Lib.Math.max.name, Cond.initialized "java/lang/Math", Cond.code Lib.Math.max.name Lib.Math.max.code 2 (some .int), Cond.methodLink RX2 174 Lib.Math.min.name, Cond.static Lib.Math.min.name, Cond.code Lib.Math.min.name Lib.Math.min.code 2 (some .int), Cond.methodLink RX2 97 yX5_value]
def wsX2_serve_r2 : List Cond := [Cond.instanceMethod yX5_value, Cond.selects RX5 yX5_value yX5_value, Cond.initialized RX5, Cond.code yX5_value cX5_value 2 (some .int), Cond.fieldLink RX5 9 "LabelApplicator$Settings" "values" "[I", Cond.methodLink RX2 136 yX0_begin, Cond.instanceMethod yX0_begin, Cond.selects RX0 yX0_begin yX0_begin, Cond.initialized RX0, Cond.code yX0_begin cX0_begin 2 none, Cond.fieldLink RX0 9 "LabelApplicator$Cycle" "travel" "I", Cond.fieldLink RX0 15 "LabelApplicator$Cycle" "labels" "I", Cond.fieldLink RX0 18 "LabelApplicator$Cycle" "splices" "I", Cond.fieldLink RX0 21 "LabelApplicator$Cycle" "taken" "I", Cond.fieldLink RX0 24 "LabelApplicator$Cycle" "ending" "I", Cond.fieldLink RX0 27 "LabelApplicator$Cycle" "speed" "I", Cond.methodLink RX2 139 yX2_feed, Cond.instanceMethod yX2_feed, Cond.selects RX2 yX2_feed yX2_feed, Cond.code yX2_feed cX2_feed 3 none, Cond.fieldLink RX2 12 "LabelApplicator$Machine" "web" "LLabelApplicator$Items;", Cond.fieldLink RX2 190 "LabelApplicator$Cycle" "taken" "I", Cond.methodLink RX2 100 yX1_size, Cond.instanceMethod yX1_size]
def wsX2_serve_r3 : List Cond := [Cond.selects RX1 yX1_size yX1_size, Cond.initialized RX1, Cond.code yX1_size cX1_size 1 (some .int), Cond.fieldLink RX1 18 "LabelApplicator$Items" "end" "I", Cond.fieldLink RX1 22 "LabelApplicator$Items" "front" "I", Cond.methodLink RX2 177 yX1_kindOf, Cond.instanceMethod yX1_kindOf, Cond.selects RX1 yX1_kindOf yX1_kindOf, Cond.code yX1_kindOf cX1_kindOf 3 (some .int), Cond.fieldLink RX1 9 "LabelApplicator$Items" "kinds" "[I", Cond.methodLink RX2 180 yX1_lengthOf, Cond.instanceMethod yX1_lengthOf, Cond.selects RX1 yX1_lengthOf yX1_lengthOf, Cond.code yX1_lengthOf cX1_lengthOf 3 (some .int), Cond.fieldLink RX1 15 "LabelApplicator$Items" "lengths" "[I", Cond.methodLink RX2 183 yX0_take, Cond.instanceMethod yX0_take, Cond.selects RX0 yX0_take yX0_take, Cond.code yX0_take cX0_take 3 none, Cond.methodLink RX2 187 yX2_endingBehind, Cond.instanceMethod yX2_endingBehind, Cond.selects RX2 yX2_endingBehind yX2_endingBehind, Cond.code yX2_endingBehind cX2_endingBehind 4 (some .int), Cond.methodLink RX2 193 yX1_removeFirst]
def wsX2_serve_r4 : List Cond := [Cond.instanceMethod yX1_removeFirst, Cond.selects RX1 yX1_removeFirst yX1_removeFirst, Cond.code yX1_removeFirst cX1_removeFirst 2 none, Cond.methodLink RX2 151 yX2_reasonAt, Cond.instanceMethod yX2_reasonAt, Cond.selects RX2 yX2_reasonAt yX2_reasonAt, Cond.code yX2_reasonAt cX2_reasonAt 3 (some .int), Cond.fieldLink RX2 196 "LabelApplicator$Cycle" "splices" "I", Cond.fieldLink RX2 199 "LabelApplicator$Cycle" "labels" "I", Cond.methodLink RX2 201 Lib.Math.abs.name, Cond.static Lib.Math.abs.name, Cond.code Lib.Math.abs.name Lib.Math.abs.code 1 (some .int), Cond.methodLink RX2 155 yX2_countCycle, Cond.instanceMethod yX2_countCycle, Cond.selects RX2 yX2_countCycle yX2_countCycle, Cond.code yX2_countCycle cX2_countCycle 2 none, Cond.fieldLink RX2 76 "LabelApplicator$Machine" "came" "I", Cond.fieldLink RX2 39 "LabelApplicator$Machine" "cameByReason" "[I", Cond.fieldLink RX2 85 "LabelApplicator$Machine" "applied" "I", Cond.fieldLink RX2 88 "LabelApplicator$Machine" "rejected" "I", Cond.fieldLink RX2 91 "LabelApplicator$Machine" "splicedCycles" "I", Cond.fieldLink RX2 94 "LabelApplicator$Machine" "lateCycles" "I", Cond.methodLink RX2 158 yX2_learnPitch, Cond.instanceMethod yX2_learnPitch]
def wsX2_serve_r5 : List Cond := [Cond.selects RX2 yX2_learnPitch yX2_learnPitch, Cond.code yX2_learnPitch cX2_learnPitch 2 none, Cond.constantFloat RX2 204 (1090519040), Cond.methodLink RX2 161 yX4_moveOn, Cond.instanceMethod yX4_moveOn, Cond.selects RX4 yX4_moveOn yX4_moveOn, Cond.initialized RX4, Cond.code yX4_moveOn cX4_moveOn 5 (some .int), Cond.fieldLink RX4 19 "LabelApplicator$Ring" "stations" "I", Cond.fieldLink RX4 9 "LabelApplicator$Ring" "reasons" "[I", Cond.methodLink RX2 119 yX2_passGate, Cond.instanceMethod yX2_passGate, Cond.selects RX2 yX2_passGate yX2_passGate, Cond.code yX2_passGate cX2_passGate 2 none, Cond.fieldLink RX2 79 "LabelApplicator$Machine" "delivered" "I", Cond.fieldLink RX2 82 "LabelApplicator$Machine" "diverted" "I", Cond.methodLink RX2 164 yX2_isFault, Cond.static yX2_isFault, Cond.code yX2_isFault cX2_isFault 1 (some .boolean), Cond.methodLink RX2 129 yX2_hasTooManyFaults, Cond.instanceMethod yX2_hasTooManyFaults, Cond.selects RX2 yX2_hasTooManyFaults yX2_hasTooManyFaults, Cond.code yX2_hasTooManyFaults cX2_hasTooManyFaults 1 (some .boolean)]
def wsX2_serve : List Cond := .code yX2_serve cX2_serve 2 none :: ((wsX2_serve_r1 ++ (wsX2_serve_r2 ++ (wsX2_serve_r3 ++ (wsX2_serve_r4 ++ wsX2_serve_r5)))) ++ wsX20 ++ wsX00 ++ wsX50 ++ wsX10 ++ wsX40)
def wsX2_serveAll_r1 : List Cond := [Cond.methodLink RX2 126 yX2_serve, Cond.instanceMethod yX2_serve, Cond.selects RX2 yX2_serve yX2_serve, Cond.initialized RX2, Cond.code yX2_serve cX2_serve 2 none, Cond.fieldLink RX2 65 "LabelApplicator$Machine" "speed" "I", Cond.fieldLink RX2 35 "LabelApplicator$Machine" "cycle" "LLabelApplicator$Cycle;", Cond.fieldLink RX2 142 "LabelApplicator$Cycle" "ending" "I", Cond.fieldLink RX2 145 "LabelApplicator$Cycle" "travel" "I", Cond.fieldLink RX2 44 "LabelApplicator$Machine" "pitch" "F", Cond.fieldLink RX2 21 "LabelApplicator$Machine" "settings" "LLabelApplicator$Settings;", Cond.fieldLink RX2 148 "LabelApplicator$Cycle" "late" "Z", Cond.fieldLink RX2 152 "LabelApplicator$Cycle" "reason" "I", Cond.fieldLink RX2 28 "LabelApplicator$Machine" "ring" "LLabelApplicator$Ring;", Cond.fieldLink RX2 69 "LabelApplicator$Machine" "faults" "I", Cond.fieldLink RX2 72 "LabelApplicator$Machine" "stopped" "Z", Cond.methodLink RX2 133 yX2_speedTowards, Cond.instanceMethod yX2_speedTowards, Cond.selects RX2 yX2_speedTowards yX2_speedTowards, Cond.code yX2_speedTowards cX2_speedTowards 6 (some .int), Cond.methodLink RX2 168 Lib.Math.max.name, Cond.static Lib.Math.max.name, Cond.initialized "java/lang/Math", Cond.code Lib.Math.max.name Lib.Math.max.code 2 (some .int)]
def wsX2_serveAll_r2 : List Cond := [Cond.methodLink RX2 174 Lib.Math.min.name, Cond.static Lib.Math.min.name, Cond.code Lib.Math.min.name Lib.Math.min.code 2 (some .int), Cond.methodLink RX2 97 yX5_value, Cond.instanceMethod yX5_value, Cond.selects RX5 yX5_value yX5_value, Cond.initialized RX5, Cond.code yX5_value cX5_value 2 (some .int), Cond.fieldLink RX5 9 "LabelApplicator$Settings" "values" "[I", Cond.methodLink RX2 136 yX0_begin, Cond.instanceMethod yX0_begin, Cond.selects RX0 yX0_begin yX0_begin, Cond.initialized RX0, Cond.code yX0_begin cX0_begin 2 none, Cond.fieldLink RX0 9 "LabelApplicator$Cycle" "travel" "I", Cond.fieldLink RX0 15 "LabelApplicator$Cycle" "labels" "I", Cond.fieldLink RX0 18 "LabelApplicator$Cycle" "splices" "I", Cond.fieldLink RX0 21 "LabelApplicator$Cycle" "taken" "I", Cond.fieldLink RX0 24 "LabelApplicator$Cycle" "ending" "I", Cond.fieldLink RX0 27 "LabelApplicator$Cycle" "speed" "I", Cond.methodLink RX2 139 yX2_feed, Cond.instanceMethod yX2_feed, Cond.selects RX2 yX2_feed yX2_feed, Cond.code yX2_feed cX2_feed 3 none]
def wsX2_serveAll_r3 : List Cond := [Cond.fieldLink RX2 12 "LabelApplicator$Machine" "web" "LLabelApplicator$Items;", Cond.fieldLink RX2 190 "LabelApplicator$Cycle" "taken" "I", Cond.methodLink RX2 100 yX1_size, Cond.instanceMethod yX1_size, Cond.selects RX1 yX1_size yX1_size, Cond.initialized RX1, Cond.code yX1_size cX1_size 1 (some .int), Cond.fieldLink RX1 18 "LabelApplicator$Items" "end" "I", Cond.fieldLink RX1 22 "LabelApplicator$Items" "front" "I", Cond.methodLink RX2 177 yX1_kindOf, Cond.instanceMethod yX1_kindOf, Cond.selects RX1 yX1_kindOf yX1_kindOf, Cond.code yX1_kindOf cX1_kindOf 3 (some .int), Cond.fieldLink RX1 9 "LabelApplicator$Items" "kinds" "[I", Cond.methodLink RX2 180 yX1_lengthOf, Cond.instanceMethod yX1_lengthOf, Cond.selects RX1 yX1_lengthOf yX1_lengthOf, Cond.code yX1_lengthOf cX1_lengthOf 3 (some .int), Cond.fieldLink RX1 15 "LabelApplicator$Items" "lengths" "[I", Cond.methodLink RX2 183 yX0_take, Cond.instanceMethod yX0_take, Cond.selects RX0 yX0_take yX0_take, Cond.code yX0_take cX0_take 3 none, Cond.methodLink RX2 187 yX2_endingBehind]
def wsX2_serveAll_r4 : List Cond := [Cond.instanceMethod yX2_endingBehind, Cond.selects RX2 yX2_endingBehind yX2_endingBehind, Cond.code yX2_endingBehind cX2_endingBehind 4 (some .int), Cond.methodLink RX2 193 yX1_removeFirst, Cond.instanceMethod yX1_removeFirst, Cond.selects RX1 yX1_removeFirst yX1_removeFirst, Cond.code yX1_removeFirst cX1_removeFirst 2 none, Cond.methodLink RX2 151 yX2_reasonAt, Cond.instanceMethod yX2_reasonAt, Cond.selects RX2 yX2_reasonAt yX2_reasonAt, Cond.code yX2_reasonAt cX2_reasonAt 3 (some .int), Cond.fieldLink RX2 196 "LabelApplicator$Cycle" "splices" "I", Cond.fieldLink RX2 199 "LabelApplicator$Cycle" "labels" "I", Cond.methodLink RX2 201 Lib.Math.abs.name, Cond.static Lib.Math.abs.name, Cond.code Lib.Math.abs.name Lib.Math.abs.code 1 (some .int), Cond.methodLink RX2 155 yX2_countCycle, Cond.instanceMethod yX2_countCycle, Cond.selects RX2 yX2_countCycle yX2_countCycle, Cond.code yX2_countCycle cX2_countCycle 2 none, Cond.fieldLink RX2 76 "LabelApplicator$Machine" "came" "I", Cond.fieldLink RX2 39 "LabelApplicator$Machine" "cameByReason" "[I", Cond.fieldLink RX2 85 "LabelApplicator$Machine" "applied" "I", Cond.fieldLink RX2 88 "LabelApplicator$Machine" "rejected" "I"]
def wsX2_serveAll_r5 : List Cond := [Cond.fieldLink RX2 91 "LabelApplicator$Machine" "splicedCycles" "I", Cond.fieldLink RX2 94 "LabelApplicator$Machine" "lateCycles" "I", Cond.methodLink RX2 158 yX2_learnPitch, Cond.instanceMethod yX2_learnPitch, Cond.selects RX2 yX2_learnPitch yX2_learnPitch, Cond.code yX2_learnPitch cX2_learnPitch 2 none, Cond.constantFloat RX2 204 (1090519040), Cond.methodLink RX2 161 yX4_moveOn, Cond.instanceMethod yX4_moveOn, Cond.selects RX4 yX4_moveOn yX4_moveOn, Cond.initialized RX4, Cond.code yX4_moveOn cX4_moveOn 5 (some .int), Cond.fieldLink RX4 19 "LabelApplicator$Ring" "stations" "I", Cond.fieldLink RX4 9 "LabelApplicator$Ring" "reasons" "[I", Cond.methodLink RX2 119 yX2_passGate, Cond.instanceMethod yX2_passGate, Cond.selects RX2 yX2_passGate yX2_passGate, Cond.code yX2_passGate cX2_passGate 2 none, Cond.fieldLink RX2 79 "LabelApplicator$Machine" "delivered" "I", Cond.fieldLink RX2 82 "LabelApplicator$Machine" "diverted" "I", Cond.methodLink RX2 164 yX2_isFault, Cond.static yX2_isFault, Cond.code yX2_isFault cX2_isFault 1 (some .boolean), Cond.methodLink RX2 129 yX2_hasTooManyFaults]
def wsX2_serveAll_r6 : List Cond := [Cond.instanceMethod yX2_hasTooManyFaults, Cond.selects RX2 yX2_hasTooManyFaults yX2_hasTooManyFaults, Cond.code yX2_hasTooManyFaults cX2_hasTooManyFaults 1 (some .boolean)]
def wsX2_serveAll : List Cond := .code yX2_serveAll cX2_serveAll 5 (some .int) :: ((wsX2_serveAll_r1 ++ (wsX2_serveAll_r2 ++ (wsX2_serveAll_r3 ++ (wsX2_serveAll_r4 ++ (wsX2_serveAll_r5 ++ wsX2_serveAll_r6))))) ++ wsX20 ++ wsX00 ++ wsX50 ++ wsX10 ++ wsX40)
def wsX3_init : List Cond := .code yX3_init cX3_init 2 none :: ([.methodLink RX3 3 objectInit, .instanceMethod objectInit, .code objectInit ⟨#[0xb1]⟩ 1 none, .fieldLink RX3 9 "LabelApplicator$Reader" "text" "LLabelApplicator$Text;", .classLink RX3 15 RX1, .instantiable RX1 4, .initialized RX1, .fieldLink RX3 18 "LabelApplicator$Reader" "items" "LLabelApplicator$Items;", .arrayClass .int, .fieldLink RX3 22 "LabelApplicator$Reader" "firstInside" "[I", .fieldLink RX3 26 "LabelApplicator$Reader" "timesInside" "[I", .methodLink RX3 17 yX1_init, .instanceMethod yX1_init, .code yX1_init cX1_init 1 none, .methodLink RX1 3 objectInit, .fieldLink RX1 9 "LabelApplicator$Items" "kinds" "[I", .fieldLink RX1 15 "LabelApplicator$Items" "lengths" "[I"] ++ wsX30 ++ wsX10)
def wsX7_byteAt : List Cond := .code yX7_byteAt cX7_byteAt 2 (some .int) :: ([.fieldLink RX7 15 "LabelApplicator$Text" "length" "I", .fieldLink RX7 9 "LabelApplicator$Text" "bytes" "[B"] ++ wsX70)
def wsX3_skipBlanks : List Cond := .code yX3_skipBlanks cX3_skipBlanks 1 none :: ([.fieldLink RX3 43 "LabelApplicator$Reader" "at" "I", .fieldLink RX3 9 "LabelApplicator$Reader" "text" "LLabelApplicator$Text;", .fieldLink RX3 49 "LabelApplicator$Text" "length" "I", .methodLink RX3 54 yX7_byteAt, .instanceMethod yX7_byteAt, .selects RX7 yX7_byteAt yX7_byteAt, .initialized RX7, .code yX7_byteAt cX7_byteAt 2 (some .int), .fieldLink RX7 15 "LabelApplicator$Text" "length" "I", .fieldLink RX7 9 "LabelApplicator$Text" "bytes" "[B"] ++ wsX30 ++ wsX70)
def wsX3_repeat : List Cond := .code yX3_repeat cX3_repeat 5 none :: ([.fieldLink RX3 18 "LabelApplicator$Reader" "items" "LLabelApplicator$Items;", .fieldLink RX3 32 "LabelApplicator$Reader" "tooMany" "Z", .methodLink RX3 84 yX1_size, .instanceMethod yX1_size, .selects RX1 yX1_size yX1_size, .initialized RX1, .code yX1_size cX1_size 1 (some .int), .fieldLink RX1 18 "LabelApplicator$Items" "end" "I", .fieldLink RX1 22 "LabelApplicator$Items" "front" "I", .methodLink RX3 95 yX1_kindOf, .instanceMethod yX1_kindOf, .selects RX1 yX1_kindOf yX1_kindOf, .code yX1_kindOf cX1_kindOf 3 (some .int), .fieldLink RX1 9 "LabelApplicator$Items" "kinds" "[I", .methodLink RX3 98 yX1_lengthOf, .instanceMethod yX1_lengthOf, .selects RX1 yX1_lengthOf yX1_lengthOf, .code yX1_lengthOf cX1_lengthOf 3 (some .int), .fieldLink RX1 15 "LabelApplicator$Items" "lengths" "[I", .methodLink RX3 87 yX1_append, .instanceMethod yX1_append, .selects RX1 yX1_append yX1_append, .code yX1_append cX1_append 3 (some .boolean)] ++ wsX30 ++ wsX10)
def wsX3_closeParenthesis_r1 : List Cond := [Cond.fieldLink RX3 40 "LabelApplicator$Reader" "depth" "I", Cond.fieldLink RX3 22 "LabelApplicator$Reader" "firstInside" "[I", Cond.fieldLink RX3 26 "LabelApplicator$Reader" "timesInside" "[I", Cond.fieldLink RX3 43 "LabelApplicator$Reader" "at" "I", Cond.fieldLink RX3 36 "LabelApplicator$Reader" "fault" "I", Cond.methodLink RX3 91 yX3_repeat, Cond.instanceMethod yX3_repeat, Cond.selects RX3 yX3_repeat yX3_repeat, Cond.initialized RX3, Cond.code yX3_repeat cX3_repeat 5 none, Cond.fieldLink RX3 18 "LabelApplicator$Reader" "items" "LLabelApplicator$Items;", Cond.fieldLink RX3 32 "LabelApplicator$Reader" "tooMany" "Z", Cond.methodLink RX3 84 yX1_size, Cond.instanceMethod yX1_size, Cond.selects RX1 yX1_size yX1_size, Cond.initialized RX1, Cond.code yX1_size cX1_size 1 (some .int), Cond.fieldLink RX1 18 "LabelApplicator$Items" "end" "I", Cond.fieldLink RX1 22 "LabelApplicator$Items" "front" "I", Cond.methodLink RX3 95 yX1_kindOf, Cond.instanceMethod yX1_kindOf, Cond.selects RX1 yX1_kindOf yX1_kindOf, Cond.code yX1_kindOf cX1_kindOf 3 (some .int), Cond.fieldLink RX1 9 "LabelApplicator$Items" "kinds" "[I"]
def wsX3_closeParenthesis_r2 : List Cond := [Cond.methodLink RX3 98 yX1_lengthOf, Cond.instanceMethod yX1_lengthOf, Cond.selects RX1 yX1_lengthOf yX1_lengthOf, Cond.code yX1_lengthOf cX1_lengthOf 3 (some .int), Cond.fieldLink RX1 15 "LabelApplicator$Items" "lengths" "[I", Cond.methodLink RX3 87 yX1_append, Cond.instanceMethod yX1_append, Cond.selects RX1 yX1_append yX1_append, Cond.code yX1_append cX1_append 3 (some .boolean)]
def wsX3_closeParenthesis : List Cond := .code yX3_closeParenthesis cX3_closeParenthesis 2 none :: ((wsX3_closeParenthesis_r1 ++ wsX3_closeParenthesis_r2) ++ wsX30 ++ wsX10)
def wsX8_isWithin : List Cond := .code yX8_isWithin cX8_isWithin 3 (some .boolean) :: ([])
def wsX3_digitAt : List Cond := .code yX3_digitAt cX3_digitAt 3 (some .int) :: ([.fieldLink RX3 9 "LabelApplicator$Reader" "text" "LLabelApplicator$Text;", .methodLink RX3 54 yX7_byteAt, .instanceMethod yX7_byteAt, .selects RX7 yX7_byteAt yX7_byteAt, .initialized RX7, .code yX7_byteAt cX7_byteAt 2 (some .int), .fieldLink RX7 15 "LabelApplicator$Text" "length" "I", .fieldLink RX7 9 "LabelApplicator$Text" "bytes" "[B", .static yX8_isWithin, .initialized RX8, .code yX8_isWithin cX8_isWithin 3 (some .boolean)] ++ wsX30 ++ wsX70)
def wsX3_readNumber : List Cond := .code yX3_readNumber cX3_readNumber 4 (some .int) :: ([.fieldLink RX3 43 "LabelApplicator$Reader" "at" "I", .fieldLink RX3 36 "LabelApplicator$Reader" "fault" "I", .methodLink RX3 64 yX3_digitAt, .instanceMethod yX3_digitAt, .selects RX3 yX3_digitAt yX3_digitAt, .initialized RX3, .code yX3_digitAt cX3_digitAt 3 (some .int), .fieldLink RX3 9 "LabelApplicator$Reader" "text" "LLabelApplicator$Text;", .methodLink RX3 54 yX7_byteAt, .instanceMethod yX7_byteAt, .selects RX7 yX7_byteAt yX7_byteAt, .initialized RX7, .code yX7_byteAt cX7_byteAt 2 (some .int), .fieldLink RX7 15 "LabelApplicator$Text" "length" "I", .fieldLink RX7 9 "LabelApplicator$Text" "bytes" "[B", .static yX8_isWithin, .initialized RX8, .code yX8_isWithin cX8_isWithin 3 (some .boolean)] ++ wsX30 ++ wsX70)
def wsX3_readTimes_r1 : List Cond := [Cond.fieldLink RX3 36 "LabelApplicator$Reader" "fault" "I", Cond.fieldLink RX3 9 "LabelApplicator$Reader" "text" "LLabelApplicator$Text;", Cond.fieldLink RX3 43 "LabelApplicator$Reader" "at" "I", Cond.methodLink RX3 78 yX3_readNumber, Cond.instanceMethod yX3_readNumber, Cond.selects RX3 yX3_readNumber yX3_readNumber, Cond.initialized RX3, Cond.code yX3_readNumber cX3_readNumber 4 (some .int), Cond.methodLink RX3 64 yX3_digitAt, Cond.instanceMethod yX3_digitAt, Cond.selects RX3 yX3_digitAt yX3_digitAt, Cond.code yX3_digitAt cX3_digitAt 3 (some .int), Cond.methodLink RX3 54 yX7_byteAt, Cond.instanceMethod yX7_byteAt, Cond.selects RX7 yX7_byteAt yX7_byteAt, Cond.initialized RX7, Cond.code yX7_byteAt cX7_byteAt 2 (some .int), Cond.fieldLink RX7 15 "LabelApplicator$Text" "length" "I", Cond.fieldLink RX7 9 "LabelApplicator$Text" "bytes" "[B", Cond.static yX8_isWithin, Cond.initialized RX8, Cond.code yX8_isWithin cX8_isWithin 3 (some .boolean), Cond.methodLink RX3 46 yX3_skipBlanks, Cond.instanceMethod yX3_skipBlanks]
def wsX3_readTimes_r2 : List Cond := [Cond.selects RX3 yX3_skipBlanks yX3_skipBlanks, Cond.code yX3_skipBlanks cX3_skipBlanks 1 none, Cond.fieldLink RX3 49 "LabelApplicator$Text" "length" "I"]
def wsX3_readTimes : List Cond := .code yX3_readTimes cX3_readTimes 2 (some .int) :: ((wsX3_readTimes_r1 ++ wsX3_readTimes_r2) ++ wsX30 ++ wsX70)
def wsX3_openParenthesis : List Cond := .code yX3_openParenthesis cX3_openParenthesis 2 none :: ([.fieldLink RX3 40 "LabelApplicator$Reader" "depth" "I", .fieldLink RX3 22 "LabelApplicator$Reader" "firstInside" "[I", .fieldLink RX3 26 "LabelApplicator$Reader" "timesInside" "[I", .fieldLink RX3 43 "LabelApplicator$Reader" "at" "I", .fieldLink RX3 36 "LabelApplicator$Reader" "fault" "I", .fieldLink RX3 18 "LabelApplicator$Reader" "items" "LLabelApplicator$Items;", .methodLink RX3 84 yX1_size, .instanceMethod yX1_size, .selects RX1 yX1_size yX1_size, .initialized RX1, .code yX1_size cX1_size 1 (some .int), .fieldLink RX1 18 "LabelApplicator$Items" "end" "I", .fieldLink RX1 22 "LabelApplicator$Items" "front" "I"] ++ wsX30 ++ wsX10)
def wsX3_kindNamed : List Cond := .code yX3_kindNamed cX3_kindNamed 1 (some .int) :: ([])
def wsX3_readItem_r1 : List Cond := [Cond.fieldLink RX3 9 "LabelApplicator$Reader" "text" "LLabelApplicator$Text;", Cond.fieldLink RX3 43 "LabelApplicator$Reader" "at" "I", Cond.fieldLink RX3 36 "LabelApplicator$Reader" "fault" "I", Cond.fieldLink RX3 18 "LabelApplicator$Reader" "items" "LLabelApplicator$Items;", Cond.fieldLink RX3 32 "LabelApplicator$Reader" "tooMany" "Z", Cond.methodLink RX3 54 yX7_byteAt, Cond.instanceMethod yX7_byteAt, Cond.selects RX7 yX7_byteAt yX7_byteAt, Cond.initialized RX7, Cond.code yX7_byteAt cX7_byteAt 2 (some .int), Cond.fieldLink RX7 15 "LabelApplicator$Text" "length" "I", Cond.fieldLink RX7 9 "LabelApplicator$Text" "bytes" "[B", Cond.methodLink RX3 81 yX3_kindNamed, Cond.static yX3_kindNamed, Cond.initialized RX3, Cond.code yX3_kindNamed cX3_kindNamed 1 (some .int), Cond.methodLink RX3 46 yX3_skipBlanks, Cond.instanceMethod yX3_skipBlanks, Cond.selects RX3 yX3_skipBlanks yX3_skipBlanks, Cond.code yX3_skipBlanks cX3_skipBlanks 1 none, Cond.fieldLink RX3 49 "LabelApplicator$Text" "length" "I", Cond.methodLink RX3 78 yX3_readNumber, Cond.instanceMethod yX3_readNumber, Cond.selects RX3 yX3_readNumber yX3_readNumber]
def wsX3_readItem_r2 : List Cond := [Cond.code yX3_readNumber cX3_readNumber 4 (some .int), Cond.methodLink RX3 64 yX3_digitAt, Cond.instanceMethod yX3_digitAt, Cond.selects RX3 yX3_digitAt yX3_digitAt, Cond.code yX3_digitAt cX3_digitAt 3 (some .int), Cond.static yX8_isWithin, Cond.initialized RX8, Cond.code yX8_isWithin cX8_isWithin 3 (some .boolean), Cond.methodLink RX3 84 yX1_size, Cond.instanceMethod yX1_size, Cond.selects RX1 yX1_size yX1_size, Cond.initialized RX1, Cond.code yX1_size cX1_size 1 (some .int), Cond.fieldLink RX1 18 "LabelApplicator$Items" "end" "I", Cond.fieldLink RX1 22 "LabelApplicator$Items" "front" "I", Cond.methodLink RX3 87 yX1_append, Cond.instanceMethod yX1_append, Cond.selects RX1 yX1_append yX1_append, Cond.code yX1_append cX1_append 3 (some .boolean), Cond.fieldLink RX1 9 "LabelApplicator$Items" "kinds" "[I", Cond.fieldLink RX1 15 "LabelApplicator$Items" "lengths" "[I", Cond.methodLink RX3 91 yX3_repeat, Cond.instanceMethod yX3_repeat, Cond.selects RX3 yX3_repeat yX3_repeat]
def wsX3_readItem_r3 : List Cond := [Cond.code yX3_repeat cX3_repeat 5 none, Cond.methodLink RX3 95 yX1_kindOf, Cond.instanceMethod yX1_kindOf, Cond.selects RX1 yX1_kindOf yX1_kindOf, Cond.code yX1_kindOf cX1_kindOf 3 (some .int), Cond.methodLink RX3 98 yX1_lengthOf, Cond.instanceMethod yX1_lengthOf, Cond.selects RX1 yX1_lengthOf yX1_lengthOf, Cond.code yX1_lengthOf cX1_lengthOf 3 (some .int)]
def wsX3_readItem : List Cond := .code yX3_readItem cX3_readItem 5 none :: ((wsX3_readItem_r1 ++ (wsX3_readItem_r2 ++ wsX3_readItem_r3)) ++ wsX30 ++ wsX70 ++ wsX10)
def wsX3_readPart_r1 : List Cond := [Cond.fieldLink RX3 43 "LabelApplicator$Reader" "at" "I", Cond.fieldLink RX3 36 "LabelApplicator$Reader" "fault" "I", Cond.fieldLink RX3 9 "LabelApplicator$Reader" "text" "LLabelApplicator$Text;", Cond.methodLink RX3 64 yX3_digitAt, Cond.instanceMethod yX3_digitAt, Cond.selects RX3 yX3_digitAt yX3_digitAt, Cond.initialized RX3, Cond.code yX3_digitAt cX3_digitAt 3 (some .int), Cond.methodLink RX3 54 yX7_byteAt, Cond.instanceMethod yX7_byteAt, Cond.selects RX7 yX7_byteAt yX7_byteAt, Cond.initialized RX7, Cond.code yX7_byteAt cX7_byteAt 2 (some .int), Cond.fieldLink RX7 15 "LabelApplicator$Text" "length" "I", Cond.fieldLink RX7 9 "LabelApplicator$Text" "bytes" "[B", Cond.static yX8_isWithin, Cond.initialized RX8, Cond.code yX8_isWithin cX8_isWithin 3 (some .boolean), Cond.methodLink RX3 67 yX3_readTimes, Cond.instanceMethod yX3_readTimes, Cond.selects RX3 yX3_readTimes yX3_readTimes, Cond.code yX3_readTimes cX3_readTimes 2 (some .int), Cond.methodLink RX3 78 yX3_readNumber, Cond.instanceMethod yX3_readNumber]
def wsX3_readPart_r2 : List Cond := [Cond.selects RX3 yX3_readNumber yX3_readNumber, Cond.code yX3_readNumber cX3_readNumber 4 (some .int), Cond.methodLink RX3 46 yX3_skipBlanks, Cond.instanceMethod yX3_skipBlanks, Cond.selects RX3 yX3_skipBlanks yX3_skipBlanks, Cond.code yX3_skipBlanks cX3_skipBlanks 1 none, Cond.fieldLink RX3 49 "LabelApplicator$Text" "length" "I", Cond.methodLink RX3 71 yX3_openParenthesis, Cond.instanceMethod yX3_openParenthesis, Cond.selects RX3 yX3_openParenthesis yX3_openParenthesis, Cond.code yX3_openParenthesis cX3_openParenthesis 2 none, Cond.fieldLink RX3 40 "LabelApplicator$Reader" "depth" "I", Cond.fieldLink RX3 22 "LabelApplicator$Reader" "firstInside" "[I", Cond.fieldLink RX3 26 "LabelApplicator$Reader" "timesInside" "[I", Cond.fieldLink RX3 18 "LabelApplicator$Reader" "items" "LLabelApplicator$Items;", Cond.methodLink RX3 84 yX1_size, Cond.instanceMethod yX1_size, Cond.selects RX1 yX1_size yX1_size, Cond.initialized RX1, Cond.code yX1_size cX1_size 1 (some .int), Cond.fieldLink RX1 18 "LabelApplicator$Items" "end" "I", Cond.fieldLink RX1 22 "LabelApplicator$Items" "front" "I", Cond.methodLink RX3 75 yX3_readItem, Cond.instanceMethod yX3_readItem]
def wsX3_readPart_r3 : List Cond := [Cond.selects RX3 yX3_readItem yX3_readItem, Cond.code yX3_readItem cX3_readItem 5 none, Cond.fieldLink RX3 32 "LabelApplicator$Reader" "tooMany" "Z", Cond.methodLink RX3 81 yX3_kindNamed, Cond.static yX3_kindNamed, Cond.code yX3_kindNamed cX3_kindNamed 1 (some .int), Cond.methodLink RX3 87 yX1_append, Cond.instanceMethod yX1_append, Cond.selects RX1 yX1_append yX1_append, Cond.code yX1_append cX1_append 3 (some .boolean), Cond.fieldLink RX1 9 "LabelApplicator$Items" "kinds" "[I", Cond.fieldLink RX1 15 "LabelApplicator$Items" "lengths" "[I", Cond.methodLink RX3 91 yX3_repeat, Cond.instanceMethod yX3_repeat, Cond.selects RX3 yX3_repeat yX3_repeat, Cond.code yX3_repeat cX3_repeat 5 none, Cond.methodLink RX3 95 yX1_kindOf, Cond.instanceMethod yX1_kindOf, Cond.selects RX1 yX1_kindOf yX1_kindOf, Cond.code yX1_kindOf cX1_kindOf 3 (some .int), Cond.methodLink RX3 98 yX1_lengthOf, Cond.instanceMethod yX1_lengthOf, Cond.selects RX1 yX1_lengthOf yX1_lengthOf, Cond.code yX1_lengthOf cX1_lengthOf 3 (some .int)]
def wsX3_readPart : List Cond := .code yX3_readPart cX3_readPart 2 none :: ((wsX3_readPart_r1 ++ (wsX3_readPart_r2 ++ wsX3_readPart_r3)) ++ wsX30 ++ wsX70 ++ wsX10)
def wsX3_read_r1 : List Cond := [Cond.fieldLink RX3 18 "LabelApplicator$Reader" "items" "LLabelApplicator$Items;", Cond.fieldLink RX3 32 "LabelApplicator$Reader" "tooMany" "Z", Cond.fieldLink RX3 36 "LabelApplicator$Reader" "fault" "I", Cond.fieldLink RX3 40 "LabelApplicator$Reader" "depth" "I", Cond.fieldLink RX3 43 "LabelApplicator$Reader" "at" "I", Cond.fieldLink RX3 9 "LabelApplicator$Reader" "text" "LLabelApplicator$Text;", Cond.fieldLink RX3 49 "LabelApplicator$Text" "length" "I", Cond.methodLink RX3 29 yX1_removeAll, Cond.instanceMethod yX1_removeAll, Cond.selects RX1 yX1_removeAll yX1_removeAll, Cond.initialized RX1, Cond.code yX1_removeAll cX1_removeAll 1 none, Cond.fieldLink RX1 22 "LabelApplicator$Items" "front" "I", Cond.fieldLink RX1 18 "LabelApplicator$Items" "end" "I", Cond.methodLink RX3 46 yX3_skipBlanks, Cond.instanceMethod yX3_skipBlanks, Cond.selects RX3 yX3_skipBlanks yX3_skipBlanks, Cond.initialized RX3, Cond.code yX3_skipBlanks cX3_skipBlanks 1 none, Cond.methodLink RX3 54 yX7_byteAt, Cond.instanceMethod yX7_byteAt, Cond.selects RX7 yX7_byteAt yX7_byteAt, Cond.initialized RX7, Cond.code yX7_byteAt cX7_byteAt 2 (some .int)]
def wsX3_read_r2 : List Cond := [Cond.fieldLink RX7 15 "LabelApplicator$Text" "length" "I", Cond.fieldLink RX7 9 "LabelApplicator$Text" "bytes" "[B", Cond.methodLink RX3 58 yX3_closeParenthesis, Cond.instanceMethod yX3_closeParenthesis, Cond.selects RX3 yX3_closeParenthesis yX3_closeParenthesis, Cond.code yX3_closeParenthesis cX3_closeParenthesis 2 none, Cond.fieldLink RX3 22 "LabelApplicator$Reader" "firstInside" "[I", Cond.fieldLink RX3 26 "LabelApplicator$Reader" "timesInside" "[I", Cond.methodLink RX3 91 yX3_repeat, Cond.instanceMethod yX3_repeat, Cond.selects RX3 yX3_repeat yX3_repeat, Cond.code yX3_repeat cX3_repeat 5 none, Cond.methodLink RX3 84 yX1_size, Cond.instanceMethod yX1_size, Cond.selects RX1 yX1_size yX1_size, Cond.code yX1_size cX1_size 1 (some .int), Cond.methodLink RX3 95 yX1_kindOf, Cond.instanceMethod yX1_kindOf, Cond.selects RX1 yX1_kindOf yX1_kindOf, Cond.code yX1_kindOf cX1_kindOf 3 (some .int), Cond.fieldLink RX1 9 "LabelApplicator$Items" "kinds" "[I", Cond.methodLink RX3 98 yX1_lengthOf, Cond.instanceMethod yX1_lengthOf, Cond.selects RX1 yX1_lengthOf yX1_lengthOf]
def wsX3_read_r3 : List Cond := [Cond.code yX1_lengthOf cX1_lengthOf 3 (some .int), Cond.fieldLink RX1 15 "LabelApplicator$Items" "lengths" "[I", Cond.methodLink RX3 87 yX1_append, Cond.instanceMethod yX1_append, Cond.selects RX1 yX1_append yX1_append, Cond.code yX1_append cX1_append 3 (some .boolean), Cond.methodLink RX3 61 yX3_readPart, Cond.instanceMethod yX3_readPart, Cond.selects RX3 yX3_readPart yX3_readPart, Cond.code yX3_readPart cX3_readPart 2 none, Cond.methodLink RX3 64 yX3_digitAt, Cond.instanceMethod yX3_digitAt, Cond.selects RX3 yX3_digitAt yX3_digitAt, Cond.code yX3_digitAt cX3_digitAt 3 (some .int), Cond.static yX8_isWithin, Cond.initialized RX8, Cond.code yX8_isWithin cX8_isWithin 3 (some .boolean), Cond.methodLink RX3 67 yX3_readTimes, Cond.instanceMethod yX3_readTimes, Cond.selects RX3 yX3_readTimes yX3_readTimes, Cond.code yX3_readTimes cX3_readTimes 2 (some .int), Cond.methodLink RX3 78 yX3_readNumber, Cond.instanceMethod yX3_readNumber, Cond.selects RX3 yX3_readNumber yX3_readNumber]
def wsX3_read_r4 : List Cond := [Cond.code yX3_readNumber cX3_readNumber 4 (some .int), Cond.methodLink RX3 71 yX3_openParenthesis, Cond.instanceMethod yX3_openParenthesis, Cond.selects RX3 yX3_openParenthesis yX3_openParenthesis, Cond.code yX3_openParenthesis cX3_openParenthesis 2 none, Cond.methodLink RX3 75 yX3_readItem, Cond.instanceMethod yX3_readItem, Cond.selects RX3 yX3_readItem yX3_readItem, Cond.code yX3_readItem cX3_readItem 5 none, Cond.methodLink RX3 81 yX3_kindNamed, Cond.static yX3_kindNamed, Cond.code yX3_kindNamed cX3_kindNamed 1 (some .int)]
def wsX3_read : List Cond := .code yX3_read cX3_read 2 none :: ((wsX3_read_r1 ++ (wsX3_read_r2 ++ (wsX3_read_r3 ++ wsX3_read_r4))) ++ wsX30 ++ wsX70 ++ wsX10)
def wsX5_least : List Cond := .code yX5_least cX5_least 2 (some .int) :: ([.fieldLink RX5 26 "LabelApplicator$Settings" "LEAST" "[I"])
def wsX5_greatest : List Cond := .code yX5_greatest cX5_greatest 2 (some .int) :: ([.fieldLink RX5 29 "LabelApplicator$Settings" "GREATEST" "[I"])
def wsX5_allows : List Cond := .code yX5_allows cX5_allows 3 (some .boolean) :: ([.static yX8_isWithin, .initialized RX8, .code yX8_isWithin cX8_isWithin 3 (some .boolean), .methodLink RX5 19 yX5_least, .instanceMethod yX5_least, .selects RX5 yX5_least yX5_least, .initialized RX5, .code yX5_least cX5_least 2 (some .int), .fieldLink RX5 26 "LabelApplicator$Settings" "LEAST" "[I", .methodLink RX5 23 yX5_greatest, .instanceMethod yX5_greatest, .selects RX5 yX5_greatest yX5_greatest, .code yX5_greatest cX5_greatest 2 (some .int), .fieldLink RX5 29 "LabelApplicator$Settings" "GREATEST" "[I"])
def wsX5_put : List Cond := .code yX5_put cX5_put 3 none :: ([.fieldLink RX5 9 "LabelApplicator$Settings" "values" "[I"] ++ wsX50)
def wsX6_init_r1 : List Cond := [Cond.methodLink RX6 1 objectInit, Cond.instanceMethod objectInit, Cond.code objectInit ⟨#[0xb1]⟩ 1 none, Cond.classLink RX6 7 RX2, Cond.instantiable RX2 16, Cond.initialized RX2, Cond.fieldLink RX6 10 "LabelApplicator$Slot" "machine" "LLabelApplicator$Machine;", Cond.methodLink RX6 9 yX2_init, Cond.instanceMethod yX2_init, Cond.code yX2_init cX2_init 1 none, Cond.methodLink RX2 3 objectInit, Cond.classLink RX2 9 RX1, Cond.instantiable RX1 4, Cond.initialized RX1, Cond.fieldLink RX2 12 "LabelApplicator$Machine" "web" "LLabelApplicator$Items;", Cond.classLink RX2 18 RX5, Cond.instantiable RX5 1, Cond.initialized RX5, Cond.fieldLink RX2 21 "LabelApplicator$Machine" "settings" "LLabelApplicator$Settings;", Cond.classLink RX2 25 RX4, Cond.instantiable RX4 2, Cond.initialized RX4, Cond.fieldLink RX2 28 "LabelApplicator$Machine" "ring" "LLabelApplicator$Ring;", Cond.classLink RX2 32 RX0]
def wsX6_init_r2 : List Cond := [Cond.instantiable RX0 8, Cond.initialized RX0, Cond.fieldLink RX2 35 "LabelApplicator$Machine" "cycle" "LLabelApplicator$Cycle;", Cond.arrayClass .int, Cond.fieldLink RX2 39 "LabelApplicator$Machine" "cameByReason" "[I", Cond.constantFloat RX2 43 (1112014848), Cond.fieldLink RX2 44 "LabelApplicator$Machine" "pitch" "F", Cond.methodLink RX2 11 yX1_init, Cond.instanceMethod yX1_init, Cond.code yX1_init cX1_init 1 none, Cond.methodLink RX1 3 objectInit, Cond.fieldLink RX1 9 "LabelApplicator$Items" "kinds" "[I", Cond.fieldLink RX1 15 "LabelApplicator$Items" "lengths" "[I", Cond.methodLink RX2 20 yX5_init, Cond.instanceMethod yX5_init, Cond.code yX5_init cX5_init 1 none, Cond.methodLink RX5 3 objectInit, Cond.fieldLink RX5 9 "LabelApplicator$Settings" "values" "[I", Cond.methodLink RX2 27 yX4_init, Cond.instanceMethod yX4_init, Cond.code yX4_init cX4_init 1 none, Cond.methodLink RX4 3 objectInit, Cond.fieldLink RX4 9 "LabelApplicator$Ring" "reasons" "[I", Cond.methodLink RX4 15 yX4_makeEmpty]
def wsX6_init_r3 : List Cond := [Cond.instanceMethod yX4_makeEmpty, Cond.selects RX4 yX4_makeEmpty yX4_makeEmpty, Cond.code yX4_makeEmpty cX4_makeEmpty 3 none, Cond.fieldLink RX4 19 "LabelApplicator$Ring" "stations" "I", Cond.instanceMethod yX0_init, Cond.code yX0_init cX0_init 1 none, Cond.methodLink RX0 3 objectInit]
def wsX6_init : List Cond := .code yX6_init cX6_init 1 none :: ((wsX6_init_r1 ++ (wsX6_init_r2 ++ wsX6_init_r3)) ++ wsX20 ++ wsX60 ++ wsX10 ++ wsX50 ++ wsX40 ++ wsX00)
def wsX7_init : List Cond := .code yX7_init cX7_init 1 none :: ([.methodLink RX7 3 objectInit, .instanceMethod objectInit, .code objectInit ⟨#[0xb1]⟩ 1 none, .arrayClass .byte, .fieldLink RX7 9 "LabelApplicator$Text" "bytes" "[B"] ++ wsX70)
def wsX7_append : List Cond := .code yX7_append cX7_append 2 (some .boolean) :: ([.fieldLink RX7 15 "LabelApplicator$Text" "length" "I", .fieldLink RX7 9 "LabelApplicator$Text" "bytes" "[B"] ++ wsX70)
def wsX8_init_r1 : List Cond := [Cond.methodLink RX8 1 objectInit, Cond.instanceMethod objectInit, Cond.code objectInit ⟨#[0xb1]⟩ 1 none, Cond.classLink RX8 7 RX7, Cond.instantiable RX7 2, Cond.initialized RX7, Cond.fieldLink RX8 10 "LabelApplicator" "text" "LLabelApplicator$Text;", Cond.classLink RX8 16 RX3, Cond.instantiable RX3 8, Cond.initialized RX3, Cond.fieldLink RX8 21 "LabelApplicator" "reader" "LLabelApplicator$Reader;", Cond.classLink RX8 25 RX2, Cond.instantiable RX2 16, Cond.initialized RX2, Cond.fieldLink RX8 28 "LabelApplicator" "now" "LLabelApplicator$Machine;", Cond.fieldLink RX8 32 "LabelApplicator" "trial" "LLabelApplicator$Machine;", Cond.classLink RX8 35 RX6, Cond.instantiable RX6 2, Cond.initialized RX6, Cond.fieldLink RX8 38 "LabelApplicator" "firstSlot" "LLabelApplicator$Slot;", Cond.fieldLink RX8 42 "LabelApplicator" "secondSlot" "LLabelApplicator$Slot;", Cond.methodLink RX8 9 yX7_init, Cond.instanceMethod yX7_init, Cond.code yX7_init cX7_init 1 none]
def wsX8_init_r2 : List Cond := [Cond.methodLink RX7 3 objectInit, Cond.arrayClass .byte, Cond.fieldLink RX7 9 "LabelApplicator$Text" "bytes" "[B", Cond.methodLink RX8 18 yX3_init, Cond.instanceMethod yX3_init, Cond.code yX3_init cX3_init 2 none, Cond.methodLink RX3 3 objectInit, Cond.fieldLink RX3 9 "LabelApplicator$Reader" "text" "LLabelApplicator$Text;", Cond.classLink RX3 15 RX1, Cond.instantiable RX1 4, Cond.initialized RX1, Cond.fieldLink RX3 18 "LabelApplicator$Reader" "items" "LLabelApplicator$Items;", Cond.arrayClass .int, Cond.fieldLink RX3 22 "LabelApplicator$Reader" "firstInside" "[I", Cond.fieldLink RX3 26 "LabelApplicator$Reader" "timesInside" "[I", Cond.methodLink RX3 17 yX1_init, Cond.instanceMethod yX1_init, Cond.code yX1_init cX1_init 1 none, Cond.methodLink RX1 3 objectInit, Cond.fieldLink RX1 9 "LabelApplicator$Items" "kinds" "[I", Cond.fieldLink RX1 15 "LabelApplicator$Items" "lengths" "[I", Cond.methodLink RX8 27 yX2_init, Cond.instanceMethod yX2_init, Cond.code yX2_init cX2_init 1 none]
def wsX8_init_r3 : List Cond := [Cond.methodLink RX2 3 objectInit, Cond.classLink RX2 9 RX1, Cond.fieldLink RX2 12 "LabelApplicator$Machine" "web" "LLabelApplicator$Items;", Cond.classLink RX2 18 RX5, Cond.instantiable RX5 1, Cond.initialized RX5, Cond.fieldLink RX2 21 "LabelApplicator$Machine" "settings" "LLabelApplicator$Settings;", Cond.classLink RX2 25 RX4, Cond.instantiable RX4 2, Cond.initialized RX4, Cond.fieldLink RX2 28 "LabelApplicator$Machine" "ring" "LLabelApplicator$Ring;", Cond.classLink RX2 32 RX0, Cond.instantiable RX0 8, Cond.initialized RX0, Cond.fieldLink RX2 35 "LabelApplicator$Machine" "cycle" "LLabelApplicator$Cycle;", Cond.fieldLink RX2 39 "LabelApplicator$Machine" "cameByReason" "[I", Cond.constantFloat RX2 43 (1112014848), Cond.fieldLink RX2 44 "LabelApplicator$Machine" "pitch" "F", Cond.methodLink RX2 11 yX1_init, Cond.methodLink RX2 20 yX5_init, Cond.instanceMethod yX5_init, Cond.code yX5_init cX5_init 1 none, Cond.methodLink RX5 3 objectInit, Cond.fieldLink RX5 9 "LabelApplicator$Settings" "values" "[I"]
def wsX8_init_r4 : List Cond := [Cond.methodLink RX2 27 yX4_init, Cond.instanceMethod yX4_init, Cond.code yX4_init cX4_init 1 none, Cond.methodLink RX4 3 objectInit, Cond.fieldLink RX4 9 "LabelApplicator$Ring" "reasons" "[I", Cond.methodLink RX4 15 yX4_makeEmpty, Cond.instanceMethod yX4_makeEmpty, Cond.selects RX4 yX4_makeEmpty yX4_makeEmpty, Cond.code yX4_makeEmpty cX4_makeEmpty 3 none, Cond.fieldLink RX4 19 "LabelApplicator$Ring" "stations" "I", Cond.instanceMethod yX0_init, Cond.code yX0_init cX0_init 1 none, Cond.methodLink RX0 3 objectInit, Cond.methodLink RX8 37 yX6_init, Cond.instanceMethod yX6_init, Cond.code yX6_init cX6_init 1 none, Cond.methodLink RX6 1 objectInit, Cond.classLink RX6 7 RX2, Cond.fieldLink RX6 10 "LabelApplicator$Slot" "machine" "LLabelApplicator$Machine;", Cond.methodLink RX6 9 yX2_init]
def wsX8_init : List Cond := .code yX8_init cX8_init 1 none :: ((wsX8_init_r1 ++ (wsX8_init_r2 ++ (wsX8_init_r3 ++ wsX8_init_r4))) ++ wsX70 ++ wsX80 ++ wsX30 ++ wsX20 ++ wsX60 ++ wsX10 ++ wsX50 ++ wsX40 ++ wsX00)
def wsX8_type : List Cond := .code yX8_type cX8_type 2 (some .int) :: ([.fieldLink RX8 10 "LabelApplicator" "text" "LLabelApplicator$Text;", .fieldLink RX8 53 "LabelApplicator$Text" "length" "I", .methodLink RX8 45 yX8_isWithin, .static yX8_isWithin, .initialized RX8, .code yX8_isWithin cX8_isWithin 3 (some .boolean), .methodLink RX8 49 yX7_append, .instanceMethod yX7_append, .selects RX7 yX7_append yX7_append, .initialized RX7, .code yX7_append cX7_append 2 (some .boolean), .fieldLink RX7 15 "LabelApplicator$Text" "length" "I", .fieldLink RX7 9 "LabelApplicator$Text" "bytes" "[B"] ++ wsX80 ++ wsX70)
def wsX8_clear : List Cond := .code yX8_clear cX8_clear 2 (some .int) :: ([.fieldLink RX8 10 "LabelApplicator" "text" "LLabelApplicator$Text;", .fieldLink RX8 53 "LabelApplicator$Text" "length" "I"] ++ wsX80 ++ wsX70)
def wsX8_load_r1 : List Cond := [Cond.fieldLink RX8 21 "LabelApplicator" "reader" "LLabelApplicator$Reader;", Cond.fieldLink RX8 60 "LabelApplicator$Reader" "fault" "I", Cond.fieldLink RX8 63 "LabelApplicator$Reader" "tooMany" "Z", Cond.fieldLink RX8 28 "LabelApplicator" "now" "LLabelApplicator$Machine;", Cond.fieldLink RX8 67 "LabelApplicator$Machine" "web" "LLabelApplicator$Items;", Cond.fieldLink RX8 77 "LabelApplicator$Reader" "items" "LLabelApplicator$Items;", Cond.methodLink RX8 57 yX3_read, Cond.instanceMethod yX3_read, Cond.selects RX3 yX3_read yX3_read, Cond.initialized RX3, Cond.code yX3_read cX3_read 2 none, Cond.fieldLink RX3 18 "LabelApplicator$Reader" "items" "LLabelApplicator$Items;", Cond.fieldLink RX3 32 "LabelApplicator$Reader" "tooMany" "Z", Cond.fieldLink RX3 36 "LabelApplicator$Reader" "fault" "I", Cond.fieldLink RX3 40 "LabelApplicator$Reader" "depth" "I", Cond.fieldLink RX3 43 "LabelApplicator$Reader" "at" "I", Cond.fieldLink RX3 9 "LabelApplicator$Reader" "text" "LLabelApplicator$Text;", Cond.fieldLink RX3 49 "LabelApplicator$Text" "length" "I", Cond.methodLink RX3 29 yX1_removeAll, Cond.instanceMethod yX1_removeAll, Cond.selects RX1 yX1_removeAll yX1_removeAll, Cond.initialized RX1, Cond.code yX1_removeAll cX1_removeAll 1 none, Cond.fieldLink RX1 22 "LabelApplicator$Items" "front" "I"]
def wsX8_load_r2 : List Cond := [Cond.fieldLink RX1 18 "LabelApplicator$Items" "end" "I", Cond.methodLink RX3 46 yX3_skipBlanks, Cond.instanceMethod yX3_skipBlanks, Cond.selects RX3 yX3_skipBlanks yX3_skipBlanks, Cond.code yX3_skipBlanks cX3_skipBlanks 1 none, Cond.methodLink RX3 54 yX7_byteAt, Cond.instanceMethod yX7_byteAt, Cond.selects RX7 yX7_byteAt yX7_byteAt, Cond.initialized RX7, Cond.code yX7_byteAt cX7_byteAt 2 (some .int), Cond.fieldLink RX7 15 "LabelApplicator$Text" "length" "I", Cond.fieldLink RX7 9 "LabelApplicator$Text" "bytes" "[B", Cond.methodLink RX3 58 yX3_closeParenthesis, Cond.instanceMethod yX3_closeParenthesis, Cond.selects RX3 yX3_closeParenthesis yX3_closeParenthesis, Cond.code yX3_closeParenthesis cX3_closeParenthesis 2 none, Cond.fieldLink RX3 22 "LabelApplicator$Reader" "firstInside" "[I", Cond.fieldLink RX3 26 "LabelApplicator$Reader" "timesInside" "[I", Cond.methodLink RX3 91 yX3_repeat, Cond.instanceMethod yX3_repeat, Cond.selects RX3 yX3_repeat yX3_repeat, Cond.code yX3_repeat cX3_repeat 5 none, Cond.methodLink RX3 84 yX1_size, Cond.instanceMethod yX1_size]
def wsX8_load_r3 : List Cond := [Cond.selects RX1 yX1_size yX1_size, Cond.code yX1_size cX1_size 1 (some .int), Cond.methodLink RX3 95 yX1_kindOf, Cond.instanceMethod yX1_kindOf, Cond.selects RX1 yX1_kindOf yX1_kindOf, Cond.code yX1_kindOf cX1_kindOf 3 (some .int), Cond.fieldLink RX1 9 "LabelApplicator$Items" "kinds" "[I", Cond.methodLink RX3 98 yX1_lengthOf, Cond.instanceMethod yX1_lengthOf, Cond.selects RX1 yX1_lengthOf yX1_lengthOf, Cond.code yX1_lengthOf cX1_lengthOf 3 (some .int), Cond.fieldLink RX1 15 "LabelApplicator$Items" "lengths" "[I", Cond.methodLink RX3 87 yX1_append, Cond.instanceMethod yX1_append, Cond.selects RX1 yX1_append yX1_append, Cond.code yX1_append cX1_append 3 (some .boolean), Cond.methodLink RX3 61 yX3_readPart, Cond.instanceMethod yX3_readPart, Cond.selects RX3 yX3_readPart yX3_readPart, Cond.code yX3_readPart cX3_readPart 2 none, Cond.methodLink RX3 64 yX3_digitAt, Cond.instanceMethod yX3_digitAt, Cond.selects RX3 yX3_digitAt yX3_digitAt, Cond.code yX3_digitAt cX3_digitAt 3 (some .int)]
def wsX8_load_r4 : List Cond := [Cond.static yX8_isWithin, Cond.initialized RX8, Cond.code yX8_isWithin cX8_isWithin 3 (some .boolean), Cond.methodLink RX3 67 yX3_readTimes, Cond.instanceMethod yX3_readTimes, Cond.selects RX3 yX3_readTimes yX3_readTimes, Cond.code yX3_readTimes cX3_readTimes 2 (some .int), Cond.methodLink RX3 78 yX3_readNumber, Cond.instanceMethod yX3_readNumber, Cond.selects RX3 yX3_readNumber yX3_readNumber, Cond.code yX3_readNumber cX3_readNumber 4 (some .int), Cond.methodLink RX3 71 yX3_openParenthesis, Cond.instanceMethod yX3_openParenthesis, Cond.selects RX3 yX3_openParenthesis yX3_openParenthesis, Cond.code yX3_openParenthesis cX3_openParenthesis 2 none, Cond.methodLink RX3 75 yX3_readItem, Cond.instanceMethod yX3_readItem, Cond.selects RX3 yX3_readItem yX3_readItem, Cond.code yX3_readItem cX3_readItem 5 none, Cond.methodLink RX3 81 yX3_kindNamed, Cond.static yX3_kindNamed, Cond.code yX3_kindNamed cX3_kindNamed 1 (some .int), Cond.methodLink RX8 71 yX1_size, Cond.methodLink RX8 80 yX1_appendAll]
def wsX8_load_r5 : List Cond := [Cond.instanceMethod yX1_appendAll, Cond.selects RX1 yX1_appendAll yX1_appendAll, Cond.code yX1_appendAll cX1_appendAll 3 none, Cond.methodLink RX1 36 yX1_closeUp, Cond.instanceMethod yX1_closeUp, Cond.selects RX1 yX1_closeUp yX1_closeUp, Cond.code yX1_closeUp cX1_closeUp 4 none, Cond.methodLink RX1 29 yX1_size, Cond.methodLink RX1 43 yX1_removeAll, Cond.methodLink RX1 33 yX1_kindOf, Cond.methodLink RX1 25 yX1_lengthOf, Cond.methodLink RX1 39 yX1_append]
def wsX8_load : List Cond := .code yX8_load cX8_load 1 (some .int) :: ((wsX8_load_r1 ++ (wsX8_load_r2 ++ (wsX8_load_r3 ++ (wsX8_load_r4 ++ wsX8_load_r5)))) ++ wsX80 ++ wsX30 ++ wsX20 ++ wsX70 ++ wsX10)
def wsX8_unload : List Cond := .code yX8_unload cX8_unload 2 (some .int) :: ([.fieldLink RX8 28 "LabelApplicator" "now" "LLabelApplicator$Machine;", .fieldLink RX8 67 "LabelApplicator$Machine" "web" "LLabelApplicator$Items;", .methodLink RX8 71 yX1_size, .instanceMethod yX1_size, .selects RX1 yX1_size yX1_size, .initialized RX1, .code yX1_size cX1_size 1 (some .int), .fieldLink RX1 18 "LabelApplicator$Items" "end" "I", .fieldLink RX1 22 "LabelApplicator$Items" "front" "I", .methodLink RX8 84 yX1_removeAll, .instanceMethod yX1_removeAll, .selects RX1 yX1_removeAll yX1_removeAll, .code yX1_removeAll cX1_removeAll 1 none] ++ wsX80 ++ wsX20 ++ wsX10)
def wsX8_item_r1 : List Cond := [Cond.fieldLink RX8 28 "LabelApplicator" "now" "LLabelApplicator$Machine;", Cond.fieldLink RX8 67 "LabelApplicator$Machine" "web" "LLabelApplicator$Items;", Cond.methodLink RX8 45 yX8_isWithin, Cond.static yX8_isWithin, Cond.initialized RX8, Cond.code yX8_isWithin cX8_isWithin 3 (some .boolean), Cond.methodLink RX8 71 yX1_size, Cond.instanceMethod yX1_size, Cond.selects RX1 yX1_size yX1_size, Cond.initialized RX1, Cond.code yX1_size cX1_size 1 (some .int), Cond.fieldLink RX1 18 "LabelApplicator$Items" "end" "I", Cond.fieldLink RX1 22 "LabelApplicator$Items" "front" "I", Cond.methodLink RX8 87 yX1_kindOf, Cond.instanceMethod yX1_kindOf, Cond.selects RX1 yX1_kindOf yX1_kindOf, Cond.code yX1_kindOf cX1_kindOf 3 (some .int), Cond.fieldLink RX1 9 "LabelApplicator$Items" "kinds" "[I", Cond.methodLink RX8 91 yX1_lengthOf, Cond.instanceMethod yX1_lengthOf, Cond.selects RX1 yX1_lengthOf yX1_lengthOf, Cond.code yX1_lengthOf cX1_lengthOf 3 (some .int), Cond.fieldLink RX1 15 "LabelApplicator$Items" "lengths" "[I", Cond.methodLink RX8 94 yX1_lengthAhead]
def wsX8_item_r2 : List Cond := [Cond.instanceMethod yX1_lengthAhead, Cond.selects RX1 yX1_lengthAhead yX1_lengthAhead, Cond.code yX1_lengthAhead cX1_lengthAhead 4 (some .int), Cond.methodLink RX1 25 yX1_lengthOf]
def wsX8_item : List Cond := .code yX8_item cX8_item 3 (some .int) :: ((wsX8_item_r1 ++ wsX8_item_r2) ++ wsX80 ++ wsX20 ++ wsX10)
def wsX8_set_r1 : List Cond := [Cond.fieldLink RX8 28 "LabelApplicator" "now" "LLabelApplicator$Machine;", Cond.fieldLink RX8 97 "LabelApplicator$Machine" "settings" "LLabelApplicator$Settings;", Cond.methodLink RX8 101 yX5_allows, Cond.instanceMethod yX5_allows, Cond.selects RX5 yX5_allows yX5_allows, Cond.initialized RX5, Cond.code yX5_allows cX5_allows 3 (some .boolean), Cond.static yX8_isWithin, Cond.initialized RX8, Cond.code yX8_isWithin cX8_isWithin 3 (some .boolean), Cond.methodLink RX5 19 yX5_least, Cond.instanceMethod yX5_least, Cond.selects RX5 yX5_least yX5_least, Cond.code yX5_least cX5_least 2 (some .int), Cond.fieldLink RX5 26 "LabelApplicator$Settings" "LEAST" "[I", Cond.methodLink RX5 23 yX5_greatest, Cond.instanceMethod yX5_greatest, Cond.selects RX5 yX5_greatest yX5_greatest, Cond.code yX5_greatest cX5_greatest 2 (some .int), Cond.fieldLink RX5 29 "LabelApplicator$Settings" "GREATEST" "[I", Cond.methodLink RX8 107 yX5_value, Cond.instanceMethod yX5_value, Cond.selects RX5 yX5_value yX5_value, Cond.code yX5_value cX5_value 2 (some .int)]
def wsX8_set_r2 : List Cond := [Cond.fieldLink RX5 9 "LabelApplicator$Settings" "values" "[I", Cond.methodLink RX8 110 yX5_put, Cond.instanceMethod yX5_put, Cond.selects RX5 yX5_put yX5_put, Cond.code yX5_put cX5_put 3 none]
def wsX8_set : List Cond := .code yX8_set cX8_set 4 (some .int) :: ((wsX8_set_r1 ++ wsX8_set_r2) ++ wsX80 ++ wsX20 ++ wsX50)
def wsX8_bitsOf : List Cond := .code yX8_bitsOf cX8_bitsOf 5 (some .int) :: ([.constant RX8 223 (8388608)])
def wsX8_setPitch : List Cond := .code yX8_setPitch cX8_setPitch 3 (some .int) :: ([.fieldLink RX8 28 "LabelApplicator" "now" "LLabelApplicator$Machine;", .fieldLink RX8 114 "LabelApplicator$Machine" "pitch" "F", .constantFloat RX8 122 (1092616192), .methodLink RX8 45 yX8_isWithin, .static yX8_isWithin, .initialized RX8, .code yX8_isWithin cX8_isWithin 3 (some .boolean), .methodLink RX8 118 yX8_bitsOf, .static yX8_bitsOf, .code yX8_bitsOf cX8_bitsOf 5 (some .int), .constant RX8 223 (8388608)] ++ wsX80 ++ wsX20)
def wsX8_setRing_r1 : List Cond := [Cond.fieldLink RX8 28 "LabelApplicator" "now" "LLabelApplicator$Machine;", Cond.methodLink RX8 45 yX8_isWithin, Cond.static yX8_isWithin, Cond.initialized RX8, Cond.code yX8_isWithin cX8_isWithin 3 (some .boolean), Cond.methodLink RX8 123 yX2_rebuildRing, Cond.instanceMethod yX2_rebuildRing, Cond.selects RX2 yX2_rebuildRing yX2_rebuildRing, Cond.initialized RX2, Cond.code yX2_rebuildRing cX2_rebuildRing 4 (some .int), Cond.fieldLink RX2 28 "LabelApplicator$Machine" "ring" "LLabelApplicator$Ring;", Cond.fieldLink RX2 110 "LabelApplicator$Ring" "stations" "I", Cond.methodLink RX2 113 yX4_products, Cond.instanceMethod yX4_products, Cond.selects RX4 yX4_products yX4_products, Cond.initialized RX4, Cond.code yX4_products cX4_products 3 (some .int), Cond.fieldLink RX4 19 "LabelApplicator$Ring" "stations" "I", Cond.methodLink RX4 23 yX4_reasonAt, Cond.instanceMethod yX4_reasonAt, Cond.selects RX4 yX4_reasonAt yX4_reasonAt, Cond.code yX4_reasonAt cX4_reasonAt 2 (some .int), Cond.fieldLink RX4 9 "LabelApplicator$Ring" "reasons" "[I", Cond.methodLink RX2 116 yX4_reasonAt]
def wsX8_setRing_r2 : List Cond := [Cond.methodLink RX2 119 yX2_passGate, Cond.instanceMethod yX2_passGate, Cond.selects RX2 yX2_passGate yX2_passGate, Cond.code yX2_passGate cX2_passGate 2 none, Cond.fieldLink RX2 79 "LabelApplicator$Machine" "delivered" "I", Cond.fieldLink RX2 82 "LabelApplicator$Machine" "diverted" "I", Cond.methodLink RX2 123 yX4_makeEmpty, Cond.instanceMethod yX4_makeEmpty, Cond.selects RX4 yX4_makeEmpty yX4_makeEmpty, Cond.code yX4_makeEmpty cX4_makeEmpty 3 none]
def wsX8_setRing : List Cond := .code yX8_setRing cX8_setRing 2 (some .int) :: ((wsX8_setRing_r1 ++ wsX8_setRing_r2) ++ wsX80 ++ wsX20 ++ wsX40)
def wsX8_canCome : List Cond := .code yX8_canCome cX8_canCome 2 (some .boolean) :: ([.methodLink RX8 45 yX8_isWithin, .static yX8_isWithin, .initialized RX8, .code yX8_isWithin cX8_isWithin 3 (some .boolean)])
def wsX8_run_r1 : List Cond := [Cond.fieldLink RX8 28 "LabelApplicator" "now" "LLabelApplicator$Machine;", Cond.fieldLink RX8 129 "LabelApplicator$Machine" "stopped" "Z", Cond.methodLink RX8 126 yX8_canCome, Cond.static yX8_canCome, Cond.initialized RX8, Cond.code yX8_canCome cX8_canCome 2 (some .boolean), Cond.methodLink RX8 45 yX8_isWithin, Cond.static yX8_isWithin, Cond.code yX8_isWithin cX8_isWithin 3 (some .boolean), Cond.methodLink RX8 132 yX2_serve, Cond.instanceMethod yX2_serve, Cond.selects RX2 yX2_serve yX2_serve, Cond.initialized RX2, Cond.code yX2_serve cX2_serve 2 none, Cond.fieldLink RX2 65 "LabelApplicator$Machine" "speed" "I", Cond.fieldLink RX2 35 "LabelApplicator$Machine" "cycle" "LLabelApplicator$Cycle;", Cond.fieldLink RX2 142 "LabelApplicator$Cycle" "ending" "I", Cond.fieldLink RX2 145 "LabelApplicator$Cycle" "travel" "I", Cond.fieldLink RX2 44 "LabelApplicator$Machine" "pitch" "F", Cond.fieldLink RX2 21 "LabelApplicator$Machine" "settings" "LLabelApplicator$Settings;", Cond.fieldLink RX2 148 "LabelApplicator$Cycle" "late" "Z", Cond.fieldLink RX2 152 "LabelApplicator$Cycle" "reason" "I", Cond.fieldLink RX2 28 "LabelApplicator$Machine" "ring" "LLabelApplicator$Ring;", Cond.fieldLink RX2 69 "LabelApplicator$Machine" "faults" "I"]
def wsX8_run_r2 : List Cond := [Cond.fieldLink RX2 72 "LabelApplicator$Machine" "stopped" "Z", Cond.methodLink RX2 133 yX2_speedTowards, Cond.instanceMethod yX2_speedTowards, Cond.selects RX2 yX2_speedTowards yX2_speedTowards, Cond.code yX2_speedTowards cX2_speedTowards 6 (some .int), Cond.methodLink RX2 168 Lib.Math.max.name, Cond.static Lib.Math.max.name, Cond.initialized "java/lang/Math", Cond.code Lib.Math.max.name Lib.Math.max.code 2 (some .int), Cond.methodLink RX2 174 Lib.Math.min.name, Cond.static Lib.Math.min.name, Cond.code Lib.Math.min.name Lib.Math.min.code 2 (some .int), Cond.methodLink RX2 97 yX5_value, Cond.instanceMethod yX5_value, Cond.selects RX5 yX5_value yX5_value, Cond.initialized RX5, Cond.code yX5_value cX5_value 2 (some .int), Cond.fieldLink RX5 9 "LabelApplicator$Settings" "values" "[I", Cond.methodLink RX2 136 yX0_begin, Cond.instanceMethod yX0_begin, Cond.selects RX0 yX0_begin yX0_begin, Cond.initialized RX0, Cond.code yX0_begin cX0_begin 2 none, Cond.fieldLink RX0 9 "LabelApplicator$Cycle" "travel" "I"]
def wsX8_run_r3 : List Cond := [Cond.fieldLink RX0 15 "LabelApplicator$Cycle" "labels" "I", Cond.fieldLink RX0 18 "LabelApplicator$Cycle" "splices" "I", Cond.fieldLink RX0 21 "LabelApplicator$Cycle" "taken" "I", Cond.fieldLink RX0 24 "LabelApplicator$Cycle" "ending" "I", Cond.fieldLink RX0 27 "LabelApplicator$Cycle" "speed" "I", Cond.methodLink RX2 139 yX2_feed, Cond.instanceMethod yX2_feed, Cond.selects RX2 yX2_feed yX2_feed, Cond.code yX2_feed cX2_feed 3 none, Cond.fieldLink RX2 12 "LabelApplicator$Machine" "web" "LLabelApplicator$Items;", Cond.fieldLink RX2 190 "LabelApplicator$Cycle" "taken" "I", Cond.methodLink RX2 100 yX1_size, Cond.instanceMethod yX1_size, Cond.selects RX1 yX1_size yX1_size, Cond.initialized RX1, Cond.code yX1_size cX1_size 1 (some .int), Cond.fieldLink RX1 18 "LabelApplicator$Items" "end" "I", Cond.fieldLink RX1 22 "LabelApplicator$Items" "front" "I", Cond.methodLink RX2 177 yX1_kindOf, Cond.instanceMethod yX1_kindOf, Cond.selects RX1 yX1_kindOf yX1_kindOf, Cond.code yX1_kindOf cX1_kindOf 3 (some .int), Cond.fieldLink RX1 9 "LabelApplicator$Items" "kinds" "[I", Cond.methodLink RX2 180 yX1_lengthOf]
def wsX8_run_r4 : List Cond := [Cond.instanceMethod yX1_lengthOf, Cond.selects RX1 yX1_lengthOf yX1_lengthOf, Cond.code yX1_lengthOf cX1_lengthOf 3 (some .int), Cond.fieldLink RX1 15 "LabelApplicator$Items" "lengths" "[I", Cond.methodLink RX2 183 yX0_take, Cond.instanceMethod yX0_take, Cond.selects RX0 yX0_take yX0_take, Cond.code yX0_take cX0_take 3 none, Cond.methodLink RX2 187 yX2_endingBehind, Cond.instanceMethod yX2_endingBehind, Cond.selects RX2 yX2_endingBehind yX2_endingBehind, Cond.code yX2_endingBehind cX2_endingBehind 4 (some .int), Cond.methodLink RX2 193 yX1_removeFirst, Cond.instanceMethod yX1_removeFirst, Cond.selects RX1 yX1_removeFirst yX1_removeFirst, Cond.code yX1_removeFirst cX1_removeFirst 2 none, Cond.methodLink RX2 151 yX2_reasonAt, Cond.instanceMethod yX2_reasonAt, Cond.selects RX2 yX2_reasonAt yX2_reasonAt, Cond.code yX2_reasonAt cX2_reasonAt 3 (some .int), Cond.fieldLink RX2 196 "LabelApplicator$Cycle" "splices" "I", Cond.fieldLink RX2 199 "LabelApplicator$Cycle" "labels" "I", Cond.methodLink RX2 201 Lib.Math.abs.name, Cond.static Lib.Math.abs.name]
def wsX8_run_r5 : List Cond := [Cond.code Lib.Math.abs.name Lib.Math.abs.code 1 (some .int), Cond.methodLink RX2 155 yX2_countCycle, Cond.instanceMethod yX2_countCycle, Cond.selects RX2 yX2_countCycle yX2_countCycle, Cond.code yX2_countCycle cX2_countCycle 2 none, Cond.fieldLink RX2 76 "LabelApplicator$Machine" "came" "I", Cond.fieldLink RX2 39 "LabelApplicator$Machine" "cameByReason" "[I", Cond.fieldLink RX2 85 "LabelApplicator$Machine" "applied" "I", Cond.fieldLink RX2 88 "LabelApplicator$Machine" "rejected" "I", Cond.fieldLink RX2 91 "LabelApplicator$Machine" "splicedCycles" "I", Cond.fieldLink RX2 94 "LabelApplicator$Machine" "lateCycles" "I", Cond.methodLink RX2 158 yX2_learnPitch, Cond.instanceMethod yX2_learnPitch, Cond.selects RX2 yX2_learnPitch yX2_learnPitch, Cond.code yX2_learnPitch cX2_learnPitch 2 none, Cond.constantFloat RX2 204 (1090519040), Cond.methodLink RX2 161 yX4_moveOn, Cond.instanceMethod yX4_moveOn, Cond.selects RX4 yX4_moveOn yX4_moveOn, Cond.initialized RX4, Cond.code yX4_moveOn cX4_moveOn 5 (some .int), Cond.fieldLink RX4 19 "LabelApplicator$Ring" "stations" "I", Cond.fieldLink RX4 9 "LabelApplicator$Ring" "reasons" "[I", Cond.methodLink RX2 119 yX2_passGate]
def wsX8_run_r6 : List Cond := [Cond.instanceMethod yX2_passGate, Cond.selects RX2 yX2_passGate yX2_passGate, Cond.code yX2_passGate cX2_passGate 2 none, Cond.fieldLink RX2 79 "LabelApplicator$Machine" "delivered" "I", Cond.fieldLink RX2 82 "LabelApplicator$Machine" "diverted" "I", Cond.methodLink RX2 164 yX2_isFault, Cond.static yX2_isFault, Cond.code yX2_isFault cX2_isFault 1 (some .boolean), Cond.methodLink RX2 129 yX2_hasTooManyFaults, Cond.instanceMethod yX2_hasTooManyFaults, Cond.selects RX2 yX2_hasTooManyFaults yX2_hasTooManyFaults, Cond.code yX2_hasTooManyFaults cX2_hasTooManyFaults 1 (some .boolean)]
def wsX8_run : List Cond := .code yX8_run cX8_run 4 (some .int) :: ((wsX8_run_r1 ++ (wsX8_run_r2 ++ (wsX8_run_r3 ++ (wsX8_run_r4 ++ (wsX8_run_r5 ++ wsX8_run_r6))))) ++ wsX80 ++ wsX20 ++ wsX00 ++ wsX50 ++ wsX10 ++ wsX40)
def wsX8_clearFaults : List Cond := .code yX8_clearFaults cX8_clearFaults 2 (some .int) :: ([.fieldLink RX8 28 "LabelApplicator" "now" "LLabelApplicator$Machine;", .fieldLink RX8 136 "LabelApplicator$Machine" "faults" "I", .fieldLink RX8 129 "LabelApplicator$Machine" "stopped" "Z"] ++ wsX80 ++ wsX20)
def wsX8_latest : List Cond := .code yX8_latest cX8_latest 2 (some .int) :: ([.fieldLink RX8 28 "LabelApplicator" "now" "LLabelApplicator$Machine;", .fieldLink RX8 139 "LabelApplicator$Machine" "cycle" "LLabelApplicator$Cycle;", .fieldLink RX8 143 "LabelApplicator$Cycle" "ending" "I", .methodLink RX8 45 yX8_isWithin, .static yX8_isWithin, .initialized RX8, .code yX8_isWithin cX8_isWithin 3 (some .boolean), .methodLink RX8 148 yX0_number, .instanceMethod yX0_number, .selects RX0 yX0_number yX0_number, .initialized RX0, .code yX0_number cX0_number 2 (some .int), .fieldLink RX0 9 "LabelApplicator$Cycle" "travel" "I", .fieldLink RX0 15 "LabelApplicator$Cycle" "labels" "I", .fieldLink RX0 30 "LabelApplicator$Cycle" "reason" "I", .fieldLink RX0 27 "LabelApplicator$Cycle" "speed" "I", .fieldLink RX0 21 "LabelApplicator$Cycle" "taken" "I", .fieldLink RX0 24 "LabelApplicator$Cycle" "ending" "I"] ++ wsX80 ++ wsX20 ++ wsX00)
def wsX8_station : List Cond := .code yX8_station cX8_station 2 (some .int) :: ([.fieldLink RX8 28 "LabelApplicator" "now" "LLabelApplicator$Machine;", .fieldLink RX8 151 "LabelApplicator$Machine" "ring" "LLabelApplicator$Ring;", .fieldLink RX8 155 "LabelApplicator$Ring" "stations" "I", .methodLink RX8 45 yX8_isWithin, .static yX8_isWithin, .initialized RX8, .code yX8_isWithin cX8_isWithin 3 (some .boolean), .methodLink RX8 160 yX4_reasonAt, .instanceMethod yX4_reasonAt, .selects RX4 yX4_reasonAt yX4_reasonAt, .initialized RX4, .code yX4_reasonAt cX4_reasonAt 2 (some .int), .fieldLink RX4 9 "LabelApplicator$Ring" "reasons" "[I"] ++ wsX80 ++ wsX20 ++ wsX40)
def wsX8_pitch : List Cond := .code yX8_pitch cX8_pitch 1 (some .int) :: ([.fieldLink RX8 28 "LabelApplicator" "now" "LLabelApplicator$Machine;", .fieldLink RX8 114 "LabelApplicator$Machine" "pitch" "F", .methodLink RX8 118 yX8_bitsOf, .static yX8_bitsOf, .initialized RX8, .code yX8_bitsOf cX8_bitsOf 5 (some .int), .constant RX8 223 (8388608)] ++ wsX80 ++ wsX20)
def wsX8_foretell_r1 : List Cond := [Cond.fieldLink RX8 32 "LabelApplicator" "trial" "LLabelApplicator$Machine;", Cond.fieldLink RX8 28 "LabelApplicator" "now" "LLabelApplicator$Machine;", Cond.fieldLink RX8 174 "LabelApplicator$Machine" "rejected" "I", Cond.fieldLink RX8 67 "LabelApplicator$Machine" "web" "LLabelApplicator$Items;", Cond.methodLink RX8 126 yX8_canCome, Cond.static yX8_canCome, Cond.initialized RX8, Cond.code yX8_canCome cX8_canCome 2 (some .boolean), Cond.methodLink RX8 45 yX8_isWithin, Cond.static yX8_isWithin, Cond.code yX8_isWithin cX8_isWithin 3 (some .boolean), Cond.methodLink RX8 163 yX2_copyFrom, Cond.instanceMethod yX2_copyFrom, Cond.selects RX2 yX2_copyFrom yX2_copyFrom, Cond.initialized RX2, Cond.code yX2_copyFrom cX2_copyFrom 3 none, Cond.fieldLink RX2 12 "LabelApplicator$Machine" "web" "LLabelApplicator$Items;", Cond.fieldLink RX2 21 "LabelApplicator$Machine" "settings" "LLabelApplicator$Settings;", Cond.fieldLink RX2 28 "LabelApplicator$Machine" "ring" "LLabelApplicator$Ring;", Cond.fieldLink RX2 35 "LabelApplicator$Machine" "cycle" "LLabelApplicator$Cycle;", Cond.fieldLink RX2 39 "LabelApplicator$Machine" "cameByReason" "[I", Cond.fieldLink RX2 44 "LabelApplicator$Machine" "pitch" "F", Cond.fieldLink RX2 65 "LabelApplicator$Machine" "speed" "I", Cond.fieldLink RX2 69 "LabelApplicator$Machine" "faults" "I"]
def wsX8_foretell_r2 : List Cond := [Cond.fieldLink RX2 72 "LabelApplicator$Machine" "stopped" "Z", Cond.fieldLink RX2 76 "LabelApplicator$Machine" "came" "I", Cond.fieldLink RX2 79 "LabelApplicator$Machine" "delivered" "I", Cond.fieldLink RX2 82 "LabelApplicator$Machine" "diverted" "I", Cond.fieldLink RX2 85 "LabelApplicator$Machine" "applied" "I", Cond.fieldLink RX2 88 "LabelApplicator$Machine" "rejected" "I", Cond.fieldLink RX2 91 "LabelApplicator$Machine" "splicedCycles" "I", Cond.fieldLink RX2 94 "LabelApplicator$Machine" "lateCycles" "I", Cond.methodLink RX2 48 yX1_copyFrom, Cond.instanceMethod yX1_copyFrom, Cond.selects RX1 yX1_copyFrom yX1_copyFrom, Cond.initialized RX1, Cond.code yX1_copyFrom cX1_copyFrom 2 none, Cond.methodLink RX1 43 yX1_removeAll, Cond.instanceMethod yX1_removeAll, Cond.selects RX1 yX1_removeAll yX1_removeAll, Cond.code yX1_removeAll cX1_removeAll 1 none, Cond.fieldLink RX1 22 "LabelApplicator$Items" "front" "I", Cond.fieldLink RX1 18 "LabelApplicator$Items" "end" "I", Cond.methodLink RX1 46 yX1_appendAll, Cond.instanceMethod yX1_appendAll, Cond.selects RX1 yX1_appendAll yX1_appendAll, Cond.code yX1_appendAll cX1_appendAll 3 none, Cond.methodLink RX1 36 yX1_closeUp]
def wsX8_foretell_r3 : List Cond := [Cond.instanceMethod yX1_closeUp, Cond.selects RX1 yX1_closeUp yX1_closeUp, Cond.code yX1_closeUp cX1_closeUp 4 none, Cond.methodLink RX1 29 yX1_size, Cond.instanceMethod yX1_size, Cond.selects RX1 yX1_size yX1_size, Cond.code yX1_size cX1_size 1 (some .int), Cond.methodLink RX1 33 yX1_kindOf, Cond.instanceMethod yX1_kindOf, Cond.selects RX1 yX1_kindOf yX1_kindOf, Cond.code yX1_kindOf cX1_kindOf 3 (some .int), Cond.fieldLink RX1 9 "LabelApplicator$Items" "kinds" "[I", Cond.methodLink RX1 25 yX1_lengthOf, Cond.instanceMethod yX1_lengthOf, Cond.selects RX1 yX1_lengthOf yX1_lengthOf, Cond.code yX1_lengthOf cX1_lengthOf 3 (some .int), Cond.fieldLink RX1 15 "LabelApplicator$Items" "lengths" "[I", Cond.methodLink RX1 39 yX1_append, Cond.instanceMethod yX1_append, Cond.selects RX1 yX1_append yX1_append, Cond.code yX1_append cX1_append 3 (some .boolean), Cond.methodLink RX2 52 yX5_copyFrom, Cond.instanceMethod yX5_copyFrom, Cond.selects RX5 yX5_copyFrom yX5_copyFrom]
def wsX8_foretell_r4 : List Cond := [Cond.initialized RX5, Cond.code yX5_copyFrom cX5_copyFrom 3 none, Cond.fieldLink RX5 9 "LabelApplicator$Settings" "values" "[I", Cond.methodLink RX5 32 yX5_value, Cond.instanceMethod yX5_value, Cond.selects RX5 yX5_value yX5_value, Cond.code yX5_value cX5_value 2 (some .int), Cond.methodLink RX2 55 yX4_copyFrom, Cond.instanceMethod yX4_copyFrom, Cond.selects RX4 yX4_copyFrom yX4_copyFrom, Cond.initialized RX4, Cond.code yX4_copyFrom cX4_copyFrom 3 none, Cond.fieldLink RX4 19 "LabelApplicator$Ring" "stations" "I", Cond.fieldLink RX4 9 "LabelApplicator$Ring" "reasons" "[I", Cond.methodLink RX4 23 yX4_reasonAt, Cond.instanceMethod yX4_reasonAt, Cond.selects RX4 yX4_reasonAt yX4_reasonAt, Cond.code yX4_reasonAt cX4_reasonAt 2 (some .int), Cond.methodLink RX2 58 yX0_copyFrom, Cond.instanceMethod yX0_copyFrom, Cond.selects RX0 yX0_copyFrom yX0_copyFrom, Cond.initialized RX0, Cond.code yX0_copyFrom cX0_copyFrom 2 none, Cond.fieldLink RX0 9 "LabelApplicator$Cycle" "travel" "I"]
def wsX8_foretell_r5 : List Cond := [Cond.fieldLink RX0 15 "LabelApplicator$Cycle" "labels" "I", Cond.fieldLink RX0 18 "LabelApplicator$Cycle" "splices" "I", Cond.fieldLink RX0 21 "LabelApplicator$Cycle" "taken" "I", Cond.fieldLink RX0 24 "LabelApplicator$Cycle" "ending" "I", Cond.fieldLink RX0 27 "LabelApplicator$Cycle" "speed" "I", Cond.fieldLink RX0 30 "LabelApplicator$Cycle" "reason" "I", Cond.fieldLink RX0 33 "LabelApplicator$Cycle" "late" "Z", Cond.methodLink RX2 61 yX2_cameWith, Cond.instanceMethod yX2_cameWith, Cond.selects RX2 yX2_cameWith yX2_cameWith, Cond.code yX2_cameWith cX2_cameWith 2 (some .int), Cond.methodLink RX8 167 yX2_serveAll, Cond.instanceMethod yX2_serveAll, Cond.selects RX2 yX2_serveAll yX2_serveAll, Cond.code yX2_serveAll cX2_serveAll 5 (some .int), Cond.methodLink RX2 126 yX2_serve, Cond.instanceMethod yX2_serve, Cond.selects RX2 yX2_serve yX2_serve, Cond.code yX2_serve cX2_serve 2 none, Cond.fieldLink RX2 142 "LabelApplicator$Cycle" "ending" "I", Cond.fieldLink RX2 145 "LabelApplicator$Cycle" "travel" "I", Cond.fieldLink RX2 148 "LabelApplicator$Cycle" "late" "Z", Cond.fieldLink RX2 152 "LabelApplicator$Cycle" "reason" "I", Cond.methodLink RX2 133 yX2_speedTowards]
def wsX8_foretell_r6 : List Cond := [Cond.instanceMethod yX2_speedTowards, Cond.selects RX2 yX2_speedTowards yX2_speedTowards, Cond.code yX2_speedTowards cX2_speedTowards 6 (some .int), Cond.methodLink RX2 168 Lib.Math.max.name, Cond.static Lib.Math.max.name, Cond.initialized "java/lang/Math", Cond.code Lib.Math.max.name Lib.Math.max.code 2 (some .int), Cond.methodLink RX2 174 Lib.Math.min.name, Cond.static Lib.Math.min.name, Cond.code Lib.Math.min.name Lib.Math.min.code 2 (some .int), Cond.methodLink RX2 97 yX5_value, Cond.methodLink RX2 136 yX0_begin, Cond.instanceMethod yX0_begin, Cond.selects RX0 yX0_begin yX0_begin, Cond.code yX0_begin cX0_begin 2 none, Cond.methodLink RX2 139 yX2_feed, Cond.instanceMethod yX2_feed, Cond.selects RX2 yX2_feed yX2_feed, Cond.code yX2_feed cX2_feed 3 none, Cond.fieldLink RX2 190 "LabelApplicator$Cycle" "taken" "I", Cond.methodLink RX2 100 yX1_size, Cond.methodLink RX2 177 yX1_kindOf, Cond.methodLink RX2 180 yX1_lengthOf, Cond.methodLink RX2 183 yX0_take]
def wsX8_foretell_r7 : List Cond := [Cond.instanceMethod yX0_take, Cond.selects RX0 yX0_take yX0_take, Cond.code yX0_take cX0_take 3 none, Cond.methodLink RX2 187 yX2_endingBehind, Cond.instanceMethod yX2_endingBehind, Cond.selects RX2 yX2_endingBehind yX2_endingBehind, Cond.code yX2_endingBehind cX2_endingBehind 4 (some .int), Cond.methodLink RX2 193 yX1_removeFirst, Cond.instanceMethod yX1_removeFirst, Cond.selects RX1 yX1_removeFirst yX1_removeFirst, Cond.code yX1_removeFirst cX1_removeFirst 2 none, Cond.methodLink RX2 151 yX2_reasonAt, Cond.instanceMethod yX2_reasonAt, Cond.selects RX2 yX2_reasonAt yX2_reasonAt, Cond.code yX2_reasonAt cX2_reasonAt 3 (some .int), Cond.fieldLink RX2 196 "LabelApplicator$Cycle" "splices" "I", Cond.fieldLink RX2 199 "LabelApplicator$Cycle" "labels" "I", Cond.methodLink RX2 201 Lib.Math.abs.name, Cond.static Lib.Math.abs.name, Cond.code Lib.Math.abs.name Lib.Math.abs.code 1 (some .int), Cond.methodLink RX2 155 yX2_countCycle, Cond.instanceMethod yX2_countCycle, Cond.selects RX2 yX2_countCycle yX2_countCycle, Cond.code yX2_countCycle cX2_countCycle 2 none]
def wsX8_foretell_r8 : List Cond := [Cond.methodLink RX2 158 yX2_learnPitch, Cond.instanceMethod yX2_learnPitch, Cond.selects RX2 yX2_learnPitch yX2_learnPitch, Cond.code yX2_learnPitch cX2_learnPitch 2 none, Cond.constantFloat RX2 204 (1090519040), Cond.methodLink RX2 161 yX4_moveOn, Cond.instanceMethod yX4_moveOn, Cond.selects RX4 yX4_moveOn yX4_moveOn, Cond.code yX4_moveOn cX4_moveOn 5 (some .int), Cond.methodLink RX2 119 yX2_passGate, Cond.instanceMethod yX2_passGate, Cond.selects RX2 yX2_passGate yX2_passGate, Cond.code yX2_passGate cX2_passGate 2 none, Cond.methodLink RX2 164 yX2_isFault, Cond.static yX2_isFault, Cond.code yX2_isFault cX2_isFault 1 (some .boolean), Cond.methodLink RX2 129 yX2_hasTooManyFaults, Cond.instanceMethod yX2_hasTooManyFaults, Cond.selects RX2 yX2_hasTooManyFaults yX2_hasTooManyFaults, Cond.code yX2_hasTooManyFaults cX2_hasTooManyFaults 1 (some .boolean), Cond.methodLink RX8 171 yX2_cameWith, Cond.methodLink RX8 71 yX1_size]
def wsX8_foretell : List Cond := .code yX8_foretell cX8_foretell 5 (some .int) :: ((wsX8_foretell_r1 ++ (wsX8_foretell_r2 ++ (wsX8_foretell_r3 ++ (wsX8_foretell_r4 ++ (wsX8_foretell_r5 ++ (wsX8_foretell_r6 ++ (wsX8_foretell_r7 ++ wsX8_foretell_r8))))))) ++ wsX80 ++ wsX20 ++ wsX10 ++ wsX50 ++ wsX40 ++ wsX00)
def wsX8_goodWith_r1 : List Cond := [Cond.fieldLink RX8 32 "LabelApplicator" "trial" "LLabelApplicator$Machine;", Cond.fieldLink RX8 28 "LabelApplicator" "now" "LLabelApplicator$Machine;", Cond.fieldLink RX8 97 "LabelApplicator$Machine" "settings" "LLabelApplicator$Settings;", Cond.methodLink RX8 163 yX2_copyFrom, Cond.instanceMethod yX2_copyFrom, Cond.selects RX2 yX2_copyFrom yX2_copyFrom, Cond.initialized RX2, Cond.code yX2_copyFrom cX2_copyFrom 3 none, Cond.fieldLink RX2 12 "LabelApplicator$Machine" "web" "LLabelApplicator$Items;", Cond.fieldLink RX2 21 "LabelApplicator$Machine" "settings" "LLabelApplicator$Settings;", Cond.fieldLink RX2 28 "LabelApplicator$Machine" "ring" "LLabelApplicator$Ring;", Cond.fieldLink RX2 35 "LabelApplicator$Machine" "cycle" "LLabelApplicator$Cycle;", Cond.fieldLink RX2 39 "LabelApplicator$Machine" "cameByReason" "[I", Cond.fieldLink RX2 44 "LabelApplicator$Machine" "pitch" "F", Cond.fieldLink RX2 65 "LabelApplicator$Machine" "speed" "I", Cond.fieldLink RX2 69 "LabelApplicator$Machine" "faults" "I", Cond.fieldLink RX2 72 "LabelApplicator$Machine" "stopped" "Z", Cond.fieldLink RX2 76 "LabelApplicator$Machine" "came" "I", Cond.fieldLink RX2 79 "LabelApplicator$Machine" "delivered" "I", Cond.fieldLink RX2 82 "LabelApplicator$Machine" "diverted" "I", Cond.fieldLink RX2 85 "LabelApplicator$Machine" "applied" "I", Cond.fieldLink RX2 88 "LabelApplicator$Machine" "rejected" "I", Cond.fieldLink RX2 91 "LabelApplicator$Machine" "splicedCycles" "I", Cond.fieldLink RX2 94 "LabelApplicator$Machine" "lateCycles" "I"]
def wsX8_goodWith_r2 : List Cond := [Cond.methodLink RX2 48 yX1_copyFrom, Cond.instanceMethod yX1_copyFrom, Cond.selects RX1 yX1_copyFrom yX1_copyFrom, Cond.initialized RX1, Cond.code yX1_copyFrom cX1_copyFrom 2 none, Cond.methodLink RX1 43 yX1_removeAll, Cond.instanceMethod yX1_removeAll, Cond.selects RX1 yX1_removeAll yX1_removeAll, Cond.code yX1_removeAll cX1_removeAll 1 none, Cond.fieldLink RX1 22 "LabelApplicator$Items" "front" "I", Cond.fieldLink RX1 18 "LabelApplicator$Items" "end" "I", Cond.methodLink RX1 46 yX1_appendAll, Cond.instanceMethod yX1_appendAll, Cond.selects RX1 yX1_appendAll yX1_appendAll, Cond.code yX1_appendAll cX1_appendAll 3 none, Cond.methodLink RX1 36 yX1_closeUp, Cond.instanceMethod yX1_closeUp, Cond.selects RX1 yX1_closeUp yX1_closeUp, Cond.code yX1_closeUp cX1_closeUp 4 none, Cond.methodLink RX1 29 yX1_size, Cond.instanceMethod yX1_size, Cond.selects RX1 yX1_size yX1_size, Cond.code yX1_size cX1_size 1 (some .int), Cond.methodLink RX1 33 yX1_kindOf]
def wsX8_goodWith_r3 : List Cond := [Cond.instanceMethod yX1_kindOf, Cond.selects RX1 yX1_kindOf yX1_kindOf, Cond.code yX1_kindOf cX1_kindOf 3 (some .int), Cond.fieldLink RX1 9 "LabelApplicator$Items" "kinds" "[I", Cond.methodLink RX1 25 yX1_lengthOf, Cond.instanceMethod yX1_lengthOf, Cond.selects RX1 yX1_lengthOf yX1_lengthOf, Cond.code yX1_lengthOf cX1_lengthOf 3 (some .int), Cond.fieldLink RX1 15 "LabelApplicator$Items" "lengths" "[I", Cond.methodLink RX1 39 yX1_append, Cond.instanceMethod yX1_append, Cond.selects RX1 yX1_append yX1_append, Cond.code yX1_append cX1_append 3 (some .boolean), Cond.methodLink RX2 52 yX5_copyFrom, Cond.instanceMethod yX5_copyFrom, Cond.selects RX5 yX5_copyFrom yX5_copyFrom, Cond.initialized RX5, Cond.code yX5_copyFrom cX5_copyFrom 3 none, Cond.fieldLink RX5 9 "LabelApplicator$Settings" "values" "[I", Cond.methodLink RX5 32 yX5_value, Cond.instanceMethod yX5_value, Cond.selects RX5 yX5_value yX5_value, Cond.code yX5_value cX5_value 2 (some .int), Cond.methodLink RX2 55 yX4_copyFrom]
def wsX8_goodWith_r4 : List Cond := [Cond.instanceMethod yX4_copyFrom, Cond.selects RX4 yX4_copyFrom yX4_copyFrom, Cond.initialized RX4, Cond.code yX4_copyFrom cX4_copyFrom 3 none, Cond.fieldLink RX4 19 "LabelApplicator$Ring" "stations" "I", Cond.fieldLink RX4 9 "LabelApplicator$Ring" "reasons" "[I", Cond.methodLink RX4 23 yX4_reasonAt, Cond.instanceMethod yX4_reasonAt, Cond.selects RX4 yX4_reasonAt yX4_reasonAt, Cond.code yX4_reasonAt cX4_reasonAt 2 (some .int), Cond.methodLink RX2 58 yX0_copyFrom, Cond.instanceMethod yX0_copyFrom, Cond.selects RX0 yX0_copyFrom yX0_copyFrom, Cond.initialized RX0, Cond.code yX0_copyFrom cX0_copyFrom 2 none, Cond.fieldLink RX0 9 "LabelApplicator$Cycle" "travel" "I", Cond.fieldLink RX0 15 "LabelApplicator$Cycle" "labels" "I", Cond.fieldLink RX0 18 "LabelApplicator$Cycle" "splices" "I", Cond.fieldLink RX0 21 "LabelApplicator$Cycle" "taken" "I", Cond.fieldLink RX0 24 "LabelApplicator$Cycle" "ending" "I", Cond.fieldLink RX0 27 "LabelApplicator$Cycle" "speed" "I", Cond.fieldLink RX0 30 "LabelApplicator$Cycle" "reason" "I", Cond.fieldLink RX0 33 "LabelApplicator$Cycle" "late" "Z", Cond.methodLink RX2 61 yX2_cameWith]
def wsX8_goodWith_r5 : List Cond := [Cond.instanceMethod yX2_cameWith, Cond.selects RX2 yX2_cameWith yX2_cameWith, Cond.code yX2_cameWith cX2_cameWith 2 (some .int), Cond.methodLink RX8 110 yX5_put, Cond.instanceMethod yX5_put, Cond.selects RX5 yX5_put yX5_put, Cond.code yX5_put cX5_put 3 none, Cond.methodLink RX8 167 yX2_serveAll, Cond.instanceMethod yX2_serveAll, Cond.selects RX2 yX2_serveAll yX2_serveAll, Cond.code yX2_serveAll cX2_serveAll 5 (some .int), Cond.methodLink RX2 126 yX2_serve, Cond.instanceMethod yX2_serve, Cond.selects RX2 yX2_serve yX2_serve, Cond.code yX2_serve cX2_serve 2 none, Cond.fieldLink RX2 142 "LabelApplicator$Cycle" "ending" "I", Cond.fieldLink RX2 145 "LabelApplicator$Cycle" "travel" "I", Cond.fieldLink RX2 148 "LabelApplicator$Cycle" "late" "Z", Cond.fieldLink RX2 152 "LabelApplicator$Cycle" "reason" "I", Cond.methodLink RX2 133 yX2_speedTowards, Cond.instanceMethod yX2_speedTowards, Cond.selects RX2 yX2_speedTowards yX2_speedTowards, Cond.code yX2_speedTowards cX2_speedTowards 6 (some .int), Cond.methodLink RX2 168 Lib.Math.max.name]
def wsX8_goodWith_r6 : List Cond := [Cond.static Lib.Math.max.name, Cond.initialized "java/lang/Math", Cond.code Lib.Math.max.name Lib.Math.max.code 2 (some .int), Cond.methodLink RX2 174 Lib.Math.min.name, Cond.static Lib.Math.min.name, Cond.code Lib.Math.min.name Lib.Math.min.code 2 (some .int), Cond.methodLink RX2 97 yX5_value, Cond.methodLink RX2 136 yX0_begin, Cond.instanceMethod yX0_begin, Cond.selects RX0 yX0_begin yX0_begin, Cond.code yX0_begin cX0_begin 2 none, Cond.methodLink RX2 139 yX2_feed, Cond.instanceMethod yX2_feed, Cond.selects RX2 yX2_feed yX2_feed, Cond.code yX2_feed cX2_feed 3 none, Cond.fieldLink RX2 190 "LabelApplicator$Cycle" "taken" "I", Cond.methodLink RX2 100 yX1_size, Cond.methodLink RX2 177 yX1_kindOf, Cond.methodLink RX2 180 yX1_lengthOf, Cond.methodLink RX2 183 yX0_take, Cond.instanceMethod yX0_take, Cond.selects RX0 yX0_take yX0_take, Cond.code yX0_take cX0_take 3 none, Cond.methodLink RX2 187 yX2_endingBehind]
def wsX8_goodWith_r7 : List Cond := [Cond.instanceMethod yX2_endingBehind, Cond.selects RX2 yX2_endingBehind yX2_endingBehind, Cond.code yX2_endingBehind cX2_endingBehind 4 (some .int), Cond.methodLink RX2 193 yX1_removeFirst, Cond.instanceMethod yX1_removeFirst, Cond.selects RX1 yX1_removeFirst yX1_removeFirst, Cond.code yX1_removeFirst cX1_removeFirst 2 none, Cond.methodLink RX2 151 yX2_reasonAt, Cond.instanceMethod yX2_reasonAt, Cond.selects RX2 yX2_reasonAt yX2_reasonAt, Cond.code yX2_reasonAt cX2_reasonAt 3 (some .int), Cond.fieldLink RX2 196 "LabelApplicator$Cycle" "splices" "I", Cond.fieldLink RX2 199 "LabelApplicator$Cycle" "labels" "I", Cond.methodLink RX2 201 Lib.Math.abs.name, Cond.static Lib.Math.abs.name, Cond.code Lib.Math.abs.name Lib.Math.abs.code 1 (some .int), Cond.methodLink RX2 155 yX2_countCycle, Cond.instanceMethod yX2_countCycle, Cond.selects RX2 yX2_countCycle yX2_countCycle, Cond.code yX2_countCycle cX2_countCycle 2 none, Cond.methodLink RX2 158 yX2_learnPitch, Cond.instanceMethod yX2_learnPitch, Cond.selects RX2 yX2_learnPitch yX2_learnPitch, Cond.code yX2_learnPitch cX2_learnPitch 2 none]
def wsX8_goodWith_r8 : List Cond := [Cond.constantFloat RX2 204 (1090519040), Cond.methodLink RX2 161 yX4_moveOn, Cond.instanceMethod yX4_moveOn, Cond.selects RX4 yX4_moveOn yX4_moveOn, Cond.code yX4_moveOn cX4_moveOn 5 (some .int), Cond.methodLink RX2 119 yX2_passGate, Cond.instanceMethod yX2_passGate, Cond.selects RX2 yX2_passGate yX2_passGate, Cond.code yX2_passGate cX2_passGate 2 none, Cond.methodLink RX2 164 yX2_isFault, Cond.static yX2_isFault, Cond.code yX2_isFault cX2_isFault 1 (some .boolean), Cond.methodLink RX2 129 yX2_hasTooManyFaults, Cond.instanceMethod yX2_hasTooManyFaults, Cond.selects RX2 yX2_hasTooManyFaults yX2_hasTooManyFaults, Cond.code yX2_hasTooManyFaults cX2_hasTooManyFaults 1 (some .boolean), Cond.methodLink RX8 171 yX2_cameWith]
def wsX8_goodWith : List Cond := .code yX8_goodWith cX8_goodWith 5 (some .int) :: ((wsX8_goodWith_r1 ++ (wsX8_goodWith_r2 ++ (wsX8_goodWith_r3 ++ (wsX8_goodWith_r4 ++ (wsX8_goodWith_r5 ++ (wsX8_goodWith_r6 ++ (wsX8_goodWith_r7 ++ wsX8_goodWith_r8))))))) ++ wsX80 ++ wsX20 ++ wsX10 ++ wsX50 ++ wsX40 ++ wsX00)
def wsX8_best_r1 : List Cond := [Cond.fieldLink RX8 28 "LabelApplicator" "now" "LLabelApplicator$Machine;", Cond.fieldLink RX8 97 "LabelApplicator$Machine" "settings" "LLabelApplicator$Settings;", Cond.methodLink RX8 126 yX8_canCome, Cond.static yX8_canCome, Cond.initialized RX8, Cond.code yX8_canCome cX8_canCome 2 (some .boolean), Cond.methodLink RX8 45 yX8_isWithin, Cond.static yX8_isWithin, Cond.code yX8_isWithin cX8_isWithin 3 (some .boolean), Cond.methodLink RX8 177 yX5_least, Cond.instanceMethod yX5_least, Cond.selects RX5 yX5_least yX5_least, Cond.initialized RX5, Cond.code yX5_least cX5_least 2 (some .int), Cond.fieldLink RX5 26 "LabelApplicator$Settings" "LEAST" "[I", Cond.methodLink RX8 180 yX5_greatest, Cond.instanceMethod yX5_greatest, Cond.selects RX5 yX5_greatest yX5_greatest, Cond.code yX5_greatest cX5_greatest 2 (some .int), Cond.fieldLink RX5 29 "LabelApplicator$Settings" "GREATEST" "[I", Cond.methodLink RX8 183 yX8_goodWith, Cond.instanceMethod yX8_goodWith, Cond.selects RX8 yX8_goodWith yX8_goodWith, Cond.code yX8_goodWith cX8_goodWith 5 (some .int)]
def wsX8_best_r2 : List Cond := [Cond.fieldLink RX8 32 "LabelApplicator" "trial" "LLabelApplicator$Machine;", Cond.methodLink RX8 163 yX2_copyFrom, Cond.instanceMethod yX2_copyFrom, Cond.selects RX2 yX2_copyFrom yX2_copyFrom, Cond.initialized RX2, Cond.code yX2_copyFrom cX2_copyFrom 3 none, Cond.fieldLink RX2 12 "LabelApplicator$Machine" "web" "LLabelApplicator$Items;", Cond.fieldLink RX2 21 "LabelApplicator$Machine" "settings" "LLabelApplicator$Settings;", Cond.fieldLink RX2 28 "LabelApplicator$Machine" "ring" "LLabelApplicator$Ring;", Cond.fieldLink RX2 35 "LabelApplicator$Machine" "cycle" "LLabelApplicator$Cycle;", Cond.fieldLink RX2 39 "LabelApplicator$Machine" "cameByReason" "[I", Cond.fieldLink RX2 44 "LabelApplicator$Machine" "pitch" "F", Cond.fieldLink RX2 65 "LabelApplicator$Machine" "speed" "I", Cond.fieldLink RX2 69 "LabelApplicator$Machine" "faults" "I", Cond.fieldLink RX2 72 "LabelApplicator$Machine" "stopped" "Z", Cond.fieldLink RX2 76 "LabelApplicator$Machine" "came" "I", Cond.fieldLink RX2 79 "LabelApplicator$Machine" "delivered" "I", Cond.fieldLink RX2 82 "LabelApplicator$Machine" "diverted" "I", Cond.fieldLink RX2 85 "LabelApplicator$Machine" "applied" "I", Cond.fieldLink RX2 88 "LabelApplicator$Machine" "rejected" "I", Cond.fieldLink RX2 91 "LabelApplicator$Machine" "splicedCycles" "I", Cond.fieldLink RX2 94 "LabelApplicator$Machine" "lateCycles" "I", Cond.methodLink RX2 48 yX1_copyFrom, Cond.instanceMethod yX1_copyFrom]
def wsX8_best_r3 : List Cond := [Cond.selects RX1 yX1_copyFrom yX1_copyFrom, Cond.initialized RX1, Cond.code yX1_copyFrom cX1_copyFrom 2 none, Cond.methodLink RX1 43 yX1_removeAll, Cond.instanceMethod yX1_removeAll, Cond.selects RX1 yX1_removeAll yX1_removeAll, Cond.code yX1_removeAll cX1_removeAll 1 none, Cond.fieldLink RX1 22 "LabelApplicator$Items" "front" "I", Cond.fieldLink RX1 18 "LabelApplicator$Items" "end" "I", Cond.methodLink RX1 46 yX1_appendAll, Cond.instanceMethod yX1_appendAll, Cond.selects RX1 yX1_appendAll yX1_appendAll, Cond.code yX1_appendAll cX1_appendAll 3 none, Cond.methodLink RX1 36 yX1_closeUp, Cond.instanceMethod yX1_closeUp, Cond.selects RX1 yX1_closeUp yX1_closeUp, Cond.code yX1_closeUp cX1_closeUp 4 none, Cond.methodLink RX1 29 yX1_size, Cond.instanceMethod yX1_size, Cond.selects RX1 yX1_size yX1_size, Cond.code yX1_size cX1_size 1 (some .int), Cond.methodLink RX1 33 yX1_kindOf, Cond.instanceMethod yX1_kindOf, Cond.selects RX1 yX1_kindOf yX1_kindOf]
def wsX8_best_r4 : List Cond := [Cond.code yX1_kindOf cX1_kindOf 3 (some .int), Cond.fieldLink RX1 9 "LabelApplicator$Items" "kinds" "[I", Cond.methodLink RX1 25 yX1_lengthOf, Cond.instanceMethod yX1_lengthOf, Cond.selects RX1 yX1_lengthOf yX1_lengthOf, Cond.code yX1_lengthOf cX1_lengthOf 3 (some .int), Cond.fieldLink RX1 15 "LabelApplicator$Items" "lengths" "[I", Cond.methodLink RX1 39 yX1_append, Cond.instanceMethod yX1_append, Cond.selects RX1 yX1_append yX1_append, Cond.code yX1_append cX1_append 3 (some .boolean), Cond.methodLink RX2 52 yX5_copyFrom, Cond.instanceMethod yX5_copyFrom, Cond.selects RX5 yX5_copyFrom yX5_copyFrom, Cond.code yX5_copyFrom cX5_copyFrom 3 none, Cond.fieldLink RX5 9 "LabelApplicator$Settings" "values" "[I", Cond.methodLink RX5 32 yX5_value, Cond.instanceMethod yX5_value, Cond.selects RX5 yX5_value yX5_value, Cond.code yX5_value cX5_value 2 (some .int), Cond.methodLink RX2 55 yX4_copyFrom, Cond.instanceMethod yX4_copyFrom, Cond.selects RX4 yX4_copyFrom yX4_copyFrom, Cond.initialized RX4]
def wsX8_best_r5 : List Cond := [Cond.code yX4_copyFrom cX4_copyFrom 3 none, Cond.fieldLink RX4 19 "LabelApplicator$Ring" "stations" "I", Cond.fieldLink RX4 9 "LabelApplicator$Ring" "reasons" "[I", Cond.methodLink RX4 23 yX4_reasonAt, Cond.instanceMethod yX4_reasonAt, Cond.selects RX4 yX4_reasonAt yX4_reasonAt, Cond.code yX4_reasonAt cX4_reasonAt 2 (some .int), Cond.methodLink RX2 58 yX0_copyFrom, Cond.instanceMethod yX0_copyFrom, Cond.selects RX0 yX0_copyFrom yX0_copyFrom, Cond.initialized RX0, Cond.code yX0_copyFrom cX0_copyFrom 2 none, Cond.fieldLink RX0 9 "LabelApplicator$Cycle" "travel" "I", Cond.fieldLink RX0 15 "LabelApplicator$Cycle" "labels" "I", Cond.fieldLink RX0 18 "LabelApplicator$Cycle" "splices" "I", Cond.fieldLink RX0 21 "LabelApplicator$Cycle" "taken" "I", Cond.fieldLink RX0 24 "LabelApplicator$Cycle" "ending" "I", Cond.fieldLink RX0 27 "LabelApplicator$Cycle" "speed" "I", Cond.fieldLink RX0 30 "LabelApplicator$Cycle" "reason" "I", Cond.fieldLink RX0 33 "LabelApplicator$Cycle" "late" "Z", Cond.methodLink RX2 61 yX2_cameWith, Cond.instanceMethod yX2_cameWith, Cond.selects RX2 yX2_cameWith yX2_cameWith, Cond.code yX2_cameWith cX2_cameWith 2 (some .int)]
def wsX8_best_r6 : List Cond := [Cond.methodLink RX8 110 yX5_put, Cond.instanceMethod yX5_put, Cond.selects RX5 yX5_put yX5_put, Cond.code yX5_put cX5_put 3 none, Cond.methodLink RX8 167 yX2_serveAll, Cond.instanceMethod yX2_serveAll, Cond.selects RX2 yX2_serveAll yX2_serveAll, Cond.code yX2_serveAll cX2_serveAll 5 (some .int), Cond.methodLink RX2 126 yX2_serve, Cond.instanceMethod yX2_serve, Cond.selects RX2 yX2_serve yX2_serve, Cond.code yX2_serve cX2_serve 2 none, Cond.fieldLink RX2 142 "LabelApplicator$Cycle" "ending" "I", Cond.fieldLink RX2 145 "LabelApplicator$Cycle" "travel" "I", Cond.fieldLink RX2 148 "LabelApplicator$Cycle" "late" "Z", Cond.fieldLink RX2 152 "LabelApplicator$Cycle" "reason" "I", Cond.methodLink RX2 133 yX2_speedTowards, Cond.instanceMethod yX2_speedTowards, Cond.selects RX2 yX2_speedTowards yX2_speedTowards, Cond.code yX2_speedTowards cX2_speedTowards 6 (some .int), Cond.methodLink RX2 168 Lib.Math.max.name, Cond.static Lib.Math.max.name, Cond.initialized "java/lang/Math", Cond.code Lib.Math.max.name Lib.Math.max.code 2 (some .int)]
def wsX8_best_r7 : List Cond := [Cond.methodLink RX2 174 Lib.Math.min.name, Cond.static Lib.Math.min.name, Cond.code Lib.Math.min.name Lib.Math.min.code 2 (some .int), Cond.methodLink RX2 97 yX5_value, Cond.methodLink RX2 136 yX0_begin, Cond.instanceMethod yX0_begin, Cond.selects RX0 yX0_begin yX0_begin, Cond.code yX0_begin cX0_begin 2 none, Cond.methodLink RX2 139 yX2_feed, Cond.instanceMethod yX2_feed, Cond.selects RX2 yX2_feed yX2_feed, Cond.code yX2_feed cX2_feed 3 none, Cond.fieldLink RX2 190 "LabelApplicator$Cycle" "taken" "I", Cond.methodLink RX2 100 yX1_size, Cond.methodLink RX2 177 yX1_kindOf, Cond.methodLink RX2 180 yX1_lengthOf, Cond.methodLink RX2 183 yX0_take, Cond.instanceMethod yX0_take, Cond.selects RX0 yX0_take yX0_take, Cond.code yX0_take cX0_take 3 none, Cond.methodLink RX2 187 yX2_endingBehind, Cond.instanceMethod yX2_endingBehind, Cond.selects RX2 yX2_endingBehind yX2_endingBehind, Cond.code yX2_endingBehind cX2_endingBehind 4 (some .int)]
def wsX8_best_r8 : List Cond := [Cond.methodLink RX2 193 yX1_removeFirst, Cond.instanceMethod yX1_removeFirst, Cond.selects RX1 yX1_removeFirst yX1_removeFirst, Cond.code yX1_removeFirst cX1_removeFirst 2 none, Cond.methodLink RX2 151 yX2_reasonAt, Cond.instanceMethod yX2_reasonAt, Cond.selects RX2 yX2_reasonAt yX2_reasonAt, Cond.code yX2_reasonAt cX2_reasonAt 3 (some .int), Cond.fieldLink RX2 196 "LabelApplicator$Cycle" "splices" "I", Cond.fieldLink RX2 199 "LabelApplicator$Cycle" "labels" "I", Cond.methodLink RX2 201 Lib.Math.abs.name, Cond.static Lib.Math.abs.name, Cond.code Lib.Math.abs.name Lib.Math.abs.code 1 (some .int), Cond.methodLink RX2 155 yX2_countCycle, Cond.instanceMethod yX2_countCycle, Cond.selects RX2 yX2_countCycle yX2_countCycle, Cond.code yX2_countCycle cX2_countCycle 2 none, Cond.methodLink RX2 158 yX2_learnPitch, Cond.instanceMethod yX2_learnPitch, Cond.selects RX2 yX2_learnPitch yX2_learnPitch, Cond.code yX2_learnPitch cX2_learnPitch 2 none, Cond.constantFloat RX2 204 (1090519040), Cond.methodLink RX2 161 yX4_moveOn, Cond.instanceMethod yX4_moveOn]
def wsX8_best_r9 : List Cond := [Cond.selects RX4 yX4_moveOn yX4_moveOn, Cond.code yX4_moveOn cX4_moveOn 5 (some .int), Cond.methodLink RX2 119 yX2_passGate, Cond.instanceMethod yX2_passGate, Cond.selects RX2 yX2_passGate yX2_passGate, Cond.code yX2_passGate cX2_passGate 2 none, Cond.methodLink RX2 164 yX2_isFault, Cond.static yX2_isFault, Cond.code yX2_isFault cX2_isFault 1 (some .boolean), Cond.methodLink RX2 129 yX2_hasTooManyFaults, Cond.instanceMethod yX2_hasTooManyFaults, Cond.selects RX2 yX2_hasTooManyFaults yX2_hasTooManyFaults, Cond.code yX2_hasTooManyFaults cX2_hasTooManyFaults 1 (some .boolean), Cond.methodLink RX8 171 yX2_cameWith]
def wsX8_best : List Cond := .code yX8_best cX8_best 8 (some .int) :: ((wsX8_best_r1 ++ (wsX8_best_r2 ++ (wsX8_best_r3 ++ (wsX8_best_r4 ++ (wsX8_best_r5 ++ (wsX8_best_r6 ++ (wsX8_best_r7 ++ (wsX8_best_r8 ++ wsX8_best_r9)))))))) ++ wsX80 ++ wsX20 ++ wsX10 ++ wsX50 ++ wsX40 ++ wsX00)
def wsX8_slotOf : List Cond := .code yX8_slotOf cX8_slotOf 2 (some (.object "LabelApplicator$Slot")) :: ([.fieldLink RX8 38 "LabelApplicator" "firstSlot" "LLabelApplicator$Slot;", .fieldLink RX8 42 "LabelApplicator" "secondSlot" "LLabelApplicator$Slot;"] ++ wsX80)
def wsX8_save_r1 : List Cond := [Cond.fieldLink RX8 191 "LabelApplicator$Slot" "machine" "LLabelApplicator$Machine;", Cond.fieldLink RX8 28 "LabelApplicator" "now" "LLabelApplicator$Machine;", Cond.fieldLink RX8 194 "LabelApplicator$Slot" "filled" "Z", Cond.fieldLink RX8 67 "LabelApplicator$Machine" "web" "LLabelApplicator$Items;", Cond.methodLink RX8 45 yX8_isWithin, Cond.static yX8_isWithin, Cond.initialized RX8, Cond.code yX8_isWithin cX8_isWithin 3 (some .boolean), Cond.methodLink RX8 187 yX8_slotOf, Cond.instanceMethod yX8_slotOf, Cond.selects RX8 yX8_slotOf yX8_slotOf, Cond.code yX8_slotOf cX8_slotOf 2 (some (.object "LabelApplicator$Slot")), Cond.fieldLink RX8 38 "LabelApplicator" "firstSlot" "LLabelApplicator$Slot;", Cond.fieldLink RX8 42 "LabelApplicator" "secondSlot" "LLabelApplicator$Slot;", Cond.methodLink RX8 163 yX2_copyFrom, Cond.instanceMethod yX2_copyFrom, Cond.selects RX2 yX2_copyFrom yX2_copyFrom, Cond.initialized RX2, Cond.code yX2_copyFrom cX2_copyFrom 3 none, Cond.fieldLink RX2 12 "LabelApplicator$Machine" "web" "LLabelApplicator$Items;", Cond.fieldLink RX2 21 "LabelApplicator$Machine" "settings" "LLabelApplicator$Settings;", Cond.fieldLink RX2 28 "LabelApplicator$Machine" "ring" "LLabelApplicator$Ring;", Cond.fieldLink RX2 35 "LabelApplicator$Machine" "cycle" "LLabelApplicator$Cycle;", Cond.fieldLink RX2 39 "LabelApplicator$Machine" "cameByReason" "[I"]
def wsX8_save_r2 : List Cond := [Cond.fieldLink RX2 44 "LabelApplicator$Machine" "pitch" "F", Cond.fieldLink RX2 65 "LabelApplicator$Machine" "speed" "I", Cond.fieldLink RX2 69 "LabelApplicator$Machine" "faults" "I", Cond.fieldLink RX2 72 "LabelApplicator$Machine" "stopped" "Z", Cond.fieldLink RX2 76 "LabelApplicator$Machine" "came" "I", Cond.fieldLink RX2 79 "LabelApplicator$Machine" "delivered" "I", Cond.fieldLink RX2 82 "LabelApplicator$Machine" "diverted" "I", Cond.fieldLink RX2 85 "LabelApplicator$Machine" "applied" "I", Cond.fieldLink RX2 88 "LabelApplicator$Machine" "rejected" "I", Cond.fieldLink RX2 91 "LabelApplicator$Machine" "splicedCycles" "I", Cond.fieldLink RX2 94 "LabelApplicator$Machine" "lateCycles" "I", Cond.methodLink RX2 48 yX1_copyFrom, Cond.instanceMethod yX1_copyFrom, Cond.selects RX1 yX1_copyFrom yX1_copyFrom, Cond.initialized RX1, Cond.code yX1_copyFrom cX1_copyFrom 2 none, Cond.methodLink RX1 43 yX1_removeAll, Cond.instanceMethod yX1_removeAll, Cond.selects RX1 yX1_removeAll yX1_removeAll, Cond.code yX1_removeAll cX1_removeAll 1 none, Cond.fieldLink RX1 22 "LabelApplicator$Items" "front" "I", Cond.fieldLink RX1 18 "LabelApplicator$Items" "end" "I", Cond.methodLink RX1 46 yX1_appendAll, Cond.instanceMethod yX1_appendAll]
def wsX8_save_r3 : List Cond := [Cond.selects RX1 yX1_appendAll yX1_appendAll, Cond.code yX1_appendAll cX1_appendAll 3 none, Cond.methodLink RX1 36 yX1_closeUp, Cond.instanceMethod yX1_closeUp, Cond.selects RX1 yX1_closeUp yX1_closeUp, Cond.code yX1_closeUp cX1_closeUp 4 none, Cond.methodLink RX1 29 yX1_size, Cond.instanceMethod yX1_size, Cond.selects RX1 yX1_size yX1_size, Cond.code yX1_size cX1_size 1 (some .int), Cond.methodLink RX1 33 yX1_kindOf, Cond.instanceMethod yX1_kindOf, Cond.selects RX1 yX1_kindOf yX1_kindOf, Cond.code yX1_kindOf cX1_kindOf 3 (some .int), Cond.fieldLink RX1 9 "LabelApplicator$Items" "kinds" "[I", Cond.methodLink RX1 25 yX1_lengthOf, Cond.instanceMethod yX1_lengthOf, Cond.selects RX1 yX1_lengthOf yX1_lengthOf, Cond.code yX1_lengthOf cX1_lengthOf 3 (some .int), Cond.fieldLink RX1 15 "LabelApplicator$Items" "lengths" "[I", Cond.methodLink RX1 39 yX1_append, Cond.instanceMethod yX1_append, Cond.selects RX1 yX1_append yX1_append, Cond.code yX1_append cX1_append 3 (some .boolean)]
def wsX8_save_r4 : List Cond := [Cond.methodLink RX2 52 yX5_copyFrom, Cond.instanceMethod yX5_copyFrom, Cond.selects RX5 yX5_copyFrom yX5_copyFrom, Cond.initialized RX5, Cond.code yX5_copyFrom cX5_copyFrom 3 none, Cond.fieldLink RX5 9 "LabelApplicator$Settings" "values" "[I", Cond.methodLink RX5 32 yX5_value, Cond.instanceMethod yX5_value, Cond.selects RX5 yX5_value yX5_value, Cond.code yX5_value cX5_value 2 (some .int), Cond.methodLink RX2 55 yX4_copyFrom, Cond.instanceMethod yX4_copyFrom, Cond.selects RX4 yX4_copyFrom yX4_copyFrom, Cond.initialized RX4, Cond.code yX4_copyFrom cX4_copyFrom 3 none, Cond.fieldLink RX4 19 "LabelApplicator$Ring" "stations" "I", Cond.fieldLink RX4 9 "LabelApplicator$Ring" "reasons" "[I", Cond.methodLink RX4 23 yX4_reasonAt, Cond.instanceMethod yX4_reasonAt, Cond.selects RX4 yX4_reasonAt yX4_reasonAt, Cond.code yX4_reasonAt cX4_reasonAt 2 (some .int), Cond.methodLink RX2 58 yX0_copyFrom, Cond.instanceMethod yX0_copyFrom, Cond.selects RX0 yX0_copyFrom yX0_copyFrom]
def wsX8_save_r5 : List Cond := [Cond.initialized RX0, Cond.code yX0_copyFrom cX0_copyFrom 2 none, Cond.fieldLink RX0 9 "LabelApplicator$Cycle" "travel" "I", Cond.fieldLink RX0 15 "LabelApplicator$Cycle" "labels" "I", Cond.fieldLink RX0 18 "LabelApplicator$Cycle" "splices" "I", Cond.fieldLink RX0 21 "LabelApplicator$Cycle" "taken" "I", Cond.fieldLink RX0 24 "LabelApplicator$Cycle" "ending" "I", Cond.fieldLink RX0 27 "LabelApplicator$Cycle" "speed" "I", Cond.fieldLink RX0 30 "LabelApplicator$Cycle" "reason" "I", Cond.fieldLink RX0 33 "LabelApplicator$Cycle" "late" "Z", Cond.methodLink RX2 61 yX2_cameWith, Cond.instanceMethod yX2_cameWith, Cond.selects RX2 yX2_cameWith yX2_cameWith, Cond.code yX2_cameWith cX2_cameWith 2 (some .int), Cond.methodLink RX8 71 yX1_size]
def wsX8_save : List Cond := .code yX8_save cX8_save 2 (some .int) :: ((wsX8_save_r1 ++ (wsX8_save_r2 ++ (wsX8_save_r3 ++ (wsX8_save_r4 ++ wsX8_save_r5)))) ++ wsX60 ++ wsX80 ++ wsX20 ++ wsX10 ++ wsX50 ++ wsX40 ++ wsX00)
def wsX8_restore_r1 : List Cond := [Cond.fieldLink RX8 194 "LabelApplicator$Slot" "filled" "Z", Cond.fieldLink RX8 28 "LabelApplicator" "now" "LLabelApplicator$Machine;", Cond.fieldLink RX8 191 "LabelApplicator$Slot" "machine" "LLabelApplicator$Machine;", Cond.fieldLink RX8 67 "LabelApplicator$Machine" "web" "LLabelApplicator$Items;", Cond.methodLink RX8 45 yX8_isWithin, Cond.static yX8_isWithin, Cond.initialized RX8, Cond.code yX8_isWithin cX8_isWithin 3 (some .boolean), Cond.methodLink RX8 187 yX8_slotOf, Cond.instanceMethod yX8_slotOf, Cond.selects RX8 yX8_slotOf yX8_slotOf, Cond.code yX8_slotOf cX8_slotOf 2 (some (.object "LabelApplicator$Slot")), Cond.fieldLink RX8 38 "LabelApplicator" "firstSlot" "LLabelApplicator$Slot;", Cond.fieldLink RX8 42 "LabelApplicator" "secondSlot" "LLabelApplicator$Slot;", Cond.methodLink RX8 163 yX2_copyFrom, Cond.instanceMethod yX2_copyFrom, Cond.selects RX2 yX2_copyFrom yX2_copyFrom, Cond.initialized RX2, Cond.code yX2_copyFrom cX2_copyFrom 3 none, Cond.fieldLink RX2 12 "LabelApplicator$Machine" "web" "LLabelApplicator$Items;", Cond.fieldLink RX2 21 "LabelApplicator$Machine" "settings" "LLabelApplicator$Settings;", Cond.fieldLink RX2 28 "LabelApplicator$Machine" "ring" "LLabelApplicator$Ring;", Cond.fieldLink RX2 35 "LabelApplicator$Machine" "cycle" "LLabelApplicator$Cycle;", Cond.fieldLink RX2 39 "LabelApplicator$Machine" "cameByReason" "[I"]
def wsX8_restore_r2 : List Cond := [Cond.fieldLink RX2 44 "LabelApplicator$Machine" "pitch" "F", Cond.fieldLink RX2 65 "LabelApplicator$Machine" "speed" "I", Cond.fieldLink RX2 69 "LabelApplicator$Machine" "faults" "I", Cond.fieldLink RX2 72 "LabelApplicator$Machine" "stopped" "Z", Cond.fieldLink RX2 76 "LabelApplicator$Machine" "came" "I", Cond.fieldLink RX2 79 "LabelApplicator$Machine" "delivered" "I", Cond.fieldLink RX2 82 "LabelApplicator$Machine" "diverted" "I", Cond.fieldLink RX2 85 "LabelApplicator$Machine" "applied" "I", Cond.fieldLink RX2 88 "LabelApplicator$Machine" "rejected" "I", Cond.fieldLink RX2 91 "LabelApplicator$Machine" "splicedCycles" "I", Cond.fieldLink RX2 94 "LabelApplicator$Machine" "lateCycles" "I", Cond.methodLink RX2 48 yX1_copyFrom, Cond.instanceMethod yX1_copyFrom, Cond.selects RX1 yX1_copyFrom yX1_copyFrom, Cond.initialized RX1, Cond.code yX1_copyFrom cX1_copyFrom 2 none, Cond.methodLink RX1 43 yX1_removeAll, Cond.instanceMethod yX1_removeAll, Cond.selects RX1 yX1_removeAll yX1_removeAll, Cond.code yX1_removeAll cX1_removeAll 1 none, Cond.fieldLink RX1 22 "LabelApplicator$Items" "front" "I", Cond.fieldLink RX1 18 "LabelApplicator$Items" "end" "I", Cond.methodLink RX1 46 yX1_appendAll, Cond.instanceMethod yX1_appendAll]
def wsX8_restore_r3 : List Cond := [Cond.selects RX1 yX1_appendAll yX1_appendAll, Cond.code yX1_appendAll cX1_appendAll 3 none, Cond.methodLink RX1 36 yX1_closeUp, Cond.instanceMethod yX1_closeUp, Cond.selects RX1 yX1_closeUp yX1_closeUp, Cond.code yX1_closeUp cX1_closeUp 4 none, Cond.methodLink RX1 29 yX1_size, Cond.instanceMethod yX1_size, Cond.selects RX1 yX1_size yX1_size, Cond.code yX1_size cX1_size 1 (some .int), Cond.methodLink RX1 33 yX1_kindOf, Cond.instanceMethod yX1_kindOf, Cond.selects RX1 yX1_kindOf yX1_kindOf, Cond.code yX1_kindOf cX1_kindOf 3 (some .int), Cond.fieldLink RX1 9 "LabelApplicator$Items" "kinds" "[I", Cond.methodLink RX1 25 yX1_lengthOf, Cond.instanceMethod yX1_lengthOf, Cond.selects RX1 yX1_lengthOf yX1_lengthOf, Cond.code yX1_lengthOf cX1_lengthOf 3 (some .int), Cond.fieldLink RX1 15 "LabelApplicator$Items" "lengths" "[I", Cond.methodLink RX1 39 yX1_append, Cond.instanceMethod yX1_append, Cond.selects RX1 yX1_append yX1_append, Cond.code yX1_append cX1_append 3 (some .boolean)]
def wsX8_restore_r4 : List Cond := [Cond.methodLink RX2 52 yX5_copyFrom, Cond.instanceMethod yX5_copyFrom, Cond.selects RX5 yX5_copyFrom yX5_copyFrom, Cond.initialized RX5, Cond.code yX5_copyFrom cX5_copyFrom 3 none, Cond.fieldLink RX5 9 "LabelApplicator$Settings" "values" "[I", Cond.methodLink RX5 32 yX5_value, Cond.instanceMethod yX5_value, Cond.selects RX5 yX5_value yX5_value, Cond.code yX5_value cX5_value 2 (some .int), Cond.methodLink RX2 55 yX4_copyFrom, Cond.instanceMethod yX4_copyFrom, Cond.selects RX4 yX4_copyFrom yX4_copyFrom, Cond.initialized RX4, Cond.code yX4_copyFrom cX4_copyFrom 3 none, Cond.fieldLink RX4 19 "LabelApplicator$Ring" "stations" "I", Cond.fieldLink RX4 9 "LabelApplicator$Ring" "reasons" "[I", Cond.methodLink RX4 23 yX4_reasonAt, Cond.instanceMethod yX4_reasonAt, Cond.selects RX4 yX4_reasonAt yX4_reasonAt, Cond.code yX4_reasonAt cX4_reasonAt 2 (some .int), Cond.methodLink RX2 58 yX0_copyFrom, Cond.instanceMethod yX0_copyFrom, Cond.selects RX0 yX0_copyFrom yX0_copyFrom]
def wsX8_restore_r5 : List Cond := [Cond.initialized RX0, Cond.code yX0_copyFrom cX0_copyFrom 2 none, Cond.fieldLink RX0 9 "LabelApplicator$Cycle" "travel" "I", Cond.fieldLink RX0 15 "LabelApplicator$Cycle" "labels" "I", Cond.fieldLink RX0 18 "LabelApplicator$Cycle" "splices" "I", Cond.fieldLink RX0 21 "LabelApplicator$Cycle" "taken" "I", Cond.fieldLink RX0 24 "LabelApplicator$Cycle" "ending" "I", Cond.fieldLink RX0 27 "LabelApplicator$Cycle" "speed" "I", Cond.fieldLink RX0 30 "LabelApplicator$Cycle" "reason" "I", Cond.fieldLink RX0 33 "LabelApplicator$Cycle" "late" "Z", Cond.methodLink RX2 61 yX2_cameWith, Cond.instanceMethod yX2_cameWith, Cond.selects RX2 yX2_cameWith yX2_cameWith, Cond.code yX2_cameWith cX2_cameWith 2 (some .int), Cond.methodLink RX8 71 yX1_size]
def wsX8_restore : List Cond := .code yX8_restore cX8_restore 2 (some .int) :: ((wsX8_restore_r1 ++ (wsX8_restore_r2 ++ (wsX8_restore_r3 ++ (wsX8_restore_r4 ++ wsX8_restore_r5)))) ++ wsX60 ++ wsX80 ++ wsX20 ++ wsX10 ++ wsX50 ++ wsX40 ++ wsX00)
def wsX8_count_r1 : List Cond := [Cond.fieldLink RX8 10 "LabelApplicator" "text" "LLabelApplicator$Text;", Cond.fieldLink RX8 53 "LabelApplicator$Text" "length" "I", Cond.fieldLink RX8 28 "LabelApplicator" "now" "LLabelApplicator$Machine;", Cond.methodLink RX8 45 yX8_isWithin, Cond.static yX8_isWithin, Cond.initialized RX8, Cond.code yX8_isWithin cX8_isWithin 3 (some .boolean), Cond.methodLink RX8 197 yX2_number, Cond.instanceMethod yX2_number, Cond.selects RX2 yX2_number yX2_number, Cond.initialized RX2, Cond.code yX2_number cX2_number 2 (some .int), Cond.fieldLink RX2 21 "LabelApplicator$Machine" "settings" "LLabelApplicator$Settings;", Cond.fieldLink RX2 12 "LabelApplicator$Machine" "web" "LLabelApplicator$Items;", Cond.fieldLink RX2 65 "LabelApplicator$Machine" "speed" "I", Cond.fieldLink RX2 28 "LabelApplicator$Machine" "ring" "LLabelApplicator$Ring;", Cond.fieldLink RX2 110 "LabelApplicator$Ring" "stations" "I", Cond.fieldLink RX2 76 "LabelApplicator$Machine" "came" "I", Cond.fieldLink RX2 79 "LabelApplicator$Machine" "delivered" "I", Cond.fieldLink RX2 82 "LabelApplicator$Machine" "diverted" "I", Cond.fieldLink RX2 85 "LabelApplicator$Machine" "applied" "I", Cond.fieldLink RX2 88 "LabelApplicator$Machine" "rejected" "I", Cond.fieldLink RX2 91 "LabelApplicator$Machine" "splicedCycles" "I", Cond.fieldLink RX2 94 "LabelApplicator$Machine" "lateCycles" "I"]
def wsX8_count_r2 : List Cond := [Cond.fieldLink RX2 69 "LabelApplicator$Machine" "faults" "I", Cond.fieldLink RX2 72 "LabelApplicator$Machine" "stopped" "Z", Cond.methodLink RX2 61 yX2_cameWith, Cond.instanceMethod yX2_cameWith, Cond.selects RX2 yX2_cameWith yX2_cameWith, Cond.code yX2_cameWith cX2_cameWith 2 (some .int), Cond.fieldLink RX2 39 "LabelApplicator$Machine" "cameByReason" "[I", Cond.methodLink RX2 97 yX5_value, Cond.instanceMethod yX5_value, Cond.selects RX5 yX5_value yX5_value, Cond.initialized RX5, Cond.code yX5_value cX5_value 2 (some .int), Cond.fieldLink RX5 9 "LabelApplicator$Settings" "values" "[I", Cond.methodLink RX2 100 yX1_size, Cond.instanceMethod yX1_size, Cond.selects RX1 yX1_size yX1_size, Cond.initialized RX1, Cond.code yX1_size cX1_size 1 (some .int), Cond.fieldLink RX1 18 "LabelApplicator$Items" "end" "I", Cond.fieldLink RX1 22 "LabelApplicator$Items" "front" "I", Cond.methodLink RX2 104 yX1_labels, Cond.instanceMethod yX1_labels, Cond.selects RX1 yX1_labels yX1_labels, Cond.code yX1_labels cX1_labels 3 (some .int)]
def wsX8_count_r3 : List Cond := [Cond.methodLink RX1 29 yX1_size, Cond.methodLink RX1 33 yX1_kindOf, Cond.instanceMethod yX1_kindOf, Cond.selects RX1 yX1_kindOf yX1_kindOf, Cond.code yX1_kindOf cX1_kindOf 3 (some .int), Cond.fieldLink RX1 9 "LabelApplicator$Items" "kinds" "[I", Cond.methodLink RX2 107 yX1_lengthAhead, Cond.instanceMethod yX1_lengthAhead, Cond.selects RX1 yX1_lengthAhead yX1_lengthAhead, Cond.code yX1_lengthAhead cX1_lengthAhead 4 (some .int), Cond.methodLink RX1 25 yX1_lengthOf, Cond.instanceMethod yX1_lengthOf, Cond.selects RX1 yX1_lengthOf yX1_lengthOf, Cond.code yX1_lengthOf cX1_lengthOf 3 (some .int), Cond.fieldLink RX1 15 "LabelApplicator$Items" "lengths" "[I", Cond.methodLink RX2 113 yX4_products, Cond.instanceMethod yX4_products, Cond.selects RX4 yX4_products yX4_products, Cond.initialized RX4, Cond.code yX4_products cX4_products 3 (some .int), Cond.fieldLink RX4 19 "LabelApplicator$Ring" "stations" "I", Cond.methodLink RX4 23 yX4_reasonAt, Cond.instanceMethod yX4_reasonAt, Cond.selects RX4 yX4_reasonAt yX4_reasonAt]
def wsX8_count_r4 : List Cond := [Cond.code yX4_reasonAt cX4_reasonAt 2 (some .int), Cond.fieldLink RX4 9 "LabelApplicator$Ring" "reasons" "[I"]
def wsX8_count : List Cond := .code yX8_count cX8_count 2 (some .int) :: ((wsX8_count_r1 ++ (wsX8_count_r2 ++ (wsX8_count_r3 ++ wsX8_count_r4))) ++ wsX80 ++ wsX70 ++ wsX20 ++ wsX40 ++ wsX50 ++ wsX10)
def wsX8_digest_r1 : List Cond := [Cond.constantLong RX8 198 (743), Cond.constantLong RX8 200 (31), Cond.fieldLink RX8 28 "LabelApplicator" "now" "LLabelApplicator$Machine;", Cond.fieldLink RX8 67 "LabelApplicator$Machine" "web" "LLabelApplicator$Items;", Cond.fieldLink RX8 151 "LabelApplicator$Machine" "ring" "LLabelApplicator$Ring;", Cond.fieldLink RX8 155 "LabelApplicator$Ring" "stations" "I", Cond.fieldLink RX8 10 "LabelApplicator" "text" "LLabelApplicator$Text;", Cond.fieldLink RX8 53 "LabelApplicator$Text" "length" "I", Cond.methodLink RX8 202 yX8_count, Cond.instanceMethod yX8_count, Cond.selects RX8 yX8_count yX8_count, Cond.initialized RX8, Cond.code yX8_count cX8_count 2 (some .int), Cond.methodLink RX8 45 yX8_isWithin, Cond.static yX8_isWithin, Cond.code yX8_isWithin cX8_isWithin 3 (some .boolean), Cond.methodLink RX8 197 yX2_number, Cond.instanceMethod yX2_number, Cond.selects RX2 yX2_number yX2_number, Cond.initialized RX2, Cond.code yX2_number cX2_number 2 (some .int), Cond.fieldLink RX2 21 "LabelApplicator$Machine" "settings" "LLabelApplicator$Settings;", Cond.fieldLink RX2 12 "LabelApplicator$Machine" "web" "LLabelApplicator$Items;", Cond.fieldLink RX2 65 "LabelApplicator$Machine" "speed" "I"]
def wsX8_digest_r2 : List Cond := [Cond.fieldLink RX2 28 "LabelApplicator$Machine" "ring" "LLabelApplicator$Ring;", Cond.fieldLink RX2 110 "LabelApplicator$Ring" "stations" "I", Cond.fieldLink RX2 76 "LabelApplicator$Machine" "came" "I", Cond.fieldLink RX2 79 "LabelApplicator$Machine" "delivered" "I", Cond.fieldLink RX2 82 "LabelApplicator$Machine" "diverted" "I", Cond.fieldLink RX2 85 "LabelApplicator$Machine" "applied" "I", Cond.fieldLink RX2 88 "LabelApplicator$Machine" "rejected" "I", Cond.fieldLink RX2 91 "LabelApplicator$Machine" "splicedCycles" "I", Cond.fieldLink RX2 94 "LabelApplicator$Machine" "lateCycles" "I", Cond.fieldLink RX2 69 "LabelApplicator$Machine" "faults" "I", Cond.fieldLink RX2 72 "LabelApplicator$Machine" "stopped" "Z", Cond.methodLink RX2 61 yX2_cameWith, Cond.instanceMethod yX2_cameWith, Cond.selects RX2 yX2_cameWith yX2_cameWith, Cond.code yX2_cameWith cX2_cameWith 2 (some .int), Cond.fieldLink RX2 39 "LabelApplicator$Machine" "cameByReason" "[I", Cond.methodLink RX2 97 yX5_value, Cond.instanceMethod yX5_value, Cond.selects RX5 yX5_value yX5_value, Cond.initialized RX5, Cond.code yX5_value cX5_value 2 (some .int), Cond.fieldLink RX5 9 "LabelApplicator$Settings" "values" "[I", Cond.methodLink RX2 100 yX1_size, Cond.instanceMethod yX1_size]
def wsX8_digest_r3 : List Cond := [Cond.selects RX1 yX1_size yX1_size, Cond.initialized RX1, Cond.code yX1_size cX1_size 1 (some .int), Cond.fieldLink RX1 18 "LabelApplicator$Items" "end" "I", Cond.fieldLink RX1 22 "LabelApplicator$Items" "front" "I", Cond.methodLink RX2 104 yX1_labels, Cond.instanceMethod yX1_labels, Cond.selects RX1 yX1_labels yX1_labels, Cond.code yX1_labels cX1_labels 3 (some .int), Cond.methodLink RX1 29 yX1_size, Cond.methodLink RX1 33 yX1_kindOf, Cond.instanceMethod yX1_kindOf, Cond.selects RX1 yX1_kindOf yX1_kindOf, Cond.code yX1_kindOf cX1_kindOf 3 (some .int), Cond.fieldLink RX1 9 "LabelApplicator$Items" "kinds" "[I", Cond.methodLink RX2 107 yX1_lengthAhead, Cond.instanceMethod yX1_lengthAhead, Cond.selects RX1 yX1_lengthAhead yX1_lengthAhead, Cond.code yX1_lengthAhead cX1_lengthAhead 4 (some .int), Cond.methodLink RX1 25 yX1_lengthOf, Cond.instanceMethod yX1_lengthOf, Cond.selects RX1 yX1_lengthOf yX1_lengthOf, Cond.code yX1_lengthOf cX1_lengthOf 3 (some .int), Cond.fieldLink RX1 15 "LabelApplicator$Items" "lengths" "[I"]
def wsX8_digest_r4 : List Cond := [Cond.methodLink RX2 113 yX4_products, Cond.instanceMethod yX4_products, Cond.selects RX4 yX4_products yX4_products, Cond.initialized RX4, Cond.code yX4_products cX4_products 3 (some .int), Cond.fieldLink RX4 19 "LabelApplicator$Ring" "stations" "I", Cond.methodLink RX4 23 yX4_reasonAt, Cond.instanceMethod yX4_reasonAt, Cond.selects RX4 yX4_reasonAt yX4_reasonAt, Cond.code yX4_reasonAt cX4_reasonAt 2 (some .int), Cond.fieldLink RX4 9 "LabelApplicator$Ring" "reasons" "[I", Cond.methodLink RX8 71 yX1_size, Cond.methodLink RX8 205 yX8_item, Cond.instanceMethod yX8_item, Cond.selects RX8 yX8_item yX8_item, Cond.code yX8_item cX8_item 3 (some .int), Cond.methodLink RX8 87 yX1_kindOf, Cond.methodLink RX8 91 yX1_lengthOf, Cond.methodLink RX8 94 yX1_lengthAhead, Cond.methodLink RX8 208 yX8_pitch, Cond.instanceMethod yX8_pitch, Cond.selects RX8 yX8_pitch yX8_pitch, Cond.code yX8_pitch cX8_pitch 1 (some .int), Cond.fieldLink RX8 114 "LabelApplicator$Machine" "pitch" "F"]
def wsX8_digest_r5 : List Cond := [Cond.methodLink RX8 118 yX8_bitsOf, Cond.static yX8_bitsOf, Cond.code yX8_bitsOf cX8_bitsOf 5 (some .int), Cond.constant RX8 223 (8388608), Cond.methodLink RX8 210 yX8_station, Cond.instanceMethod yX8_station, Cond.selects RX8 yX8_station yX8_station, Cond.code yX8_station cX8_station 2 (some .int), Cond.methodLink RX8 160 yX4_reasonAt, Cond.methodLink RX8 213 yX8_latest, Cond.instanceMethod yX8_latest, Cond.selects RX8 yX8_latest yX8_latest, Cond.code yX8_latest cX8_latest 2 (some .int), Cond.fieldLink RX8 139 "LabelApplicator$Machine" "cycle" "LLabelApplicator$Cycle;", Cond.fieldLink RX8 143 "LabelApplicator$Cycle" "ending" "I", Cond.methodLink RX8 148 yX0_number, Cond.instanceMethod yX0_number, Cond.selects RX0 yX0_number yX0_number, Cond.initialized RX0, Cond.code yX0_number cX0_number 2 (some .int), Cond.fieldLink RX0 9 "LabelApplicator$Cycle" "travel" "I", Cond.fieldLink RX0 15 "LabelApplicator$Cycle" "labels" "I", Cond.fieldLink RX0 30 "LabelApplicator$Cycle" "reason" "I", Cond.fieldLink RX0 27 "LabelApplicator$Cycle" "speed" "I"]
def wsX8_digest_r6 : List Cond := [Cond.fieldLink RX0 21 "LabelApplicator$Cycle" "taken" "I", Cond.fieldLink RX0 24 "LabelApplicator$Cycle" "ending" "I", Cond.methodLink RX8 216 yX8_foretell, Cond.instanceMethod yX8_foretell, Cond.selects RX8 yX8_foretell yX8_foretell, Cond.code yX8_foretell cX8_foretell 5 (some .int), Cond.fieldLink RX8 32 "LabelApplicator" "trial" "LLabelApplicator$Machine;", Cond.fieldLink RX8 174 "LabelApplicator$Machine" "rejected" "I", Cond.methodLink RX8 126 yX8_canCome, Cond.static yX8_canCome, Cond.code yX8_canCome cX8_canCome 2 (some .boolean), Cond.methodLink RX8 163 yX2_copyFrom, Cond.instanceMethod yX2_copyFrom, Cond.selects RX2 yX2_copyFrom yX2_copyFrom, Cond.code yX2_copyFrom cX2_copyFrom 3 none, Cond.fieldLink RX2 35 "LabelApplicator$Machine" "cycle" "LLabelApplicator$Cycle;", Cond.fieldLink RX2 44 "LabelApplicator$Machine" "pitch" "F", Cond.methodLink RX2 48 yX1_copyFrom, Cond.instanceMethod yX1_copyFrom, Cond.selects RX1 yX1_copyFrom yX1_copyFrom, Cond.code yX1_copyFrom cX1_copyFrom 2 none, Cond.methodLink RX1 43 yX1_removeAll, Cond.instanceMethod yX1_removeAll, Cond.selects RX1 yX1_removeAll yX1_removeAll]
def wsX8_digest_r7 : List Cond := [Cond.code yX1_removeAll cX1_removeAll 1 none, Cond.methodLink RX1 46 yX1_appendAll, Cond.instanceMethod yX1_appendAll, Cond.selects RX1 yX1_appendAll yX1_appendAll, Cond.code yX1_appendAll cX1_appendAll 3 none, Cond.methodLink RX1 36 yX1_closeUp, Cond.instanceMethod yX1_closeUp, Cond.selects RX1 yX1_closeUp yX1_closeUp, Cond.code yX1_closeUp cX1_closeUp 4 none, Cond.methodLink RX1 39 yX1_append, Cond.instanceMethod yX1_append, Cond.selects RX1 yX1_append yX1_append, Cond.code yX1_append cX1_append 3 (some .boolean), Cond.methodLink RX2 52 yX5_copyFrom, Cond.instanceMethod yX5_copyFrom, Cond.selects RX5 yX5_copyFrom yX5_copyFrom, Cond.code yX5_copyFrom cX5_copyFrom 3 none, Cond.methodLink RX5 32 yX5_value, Cond.methodLink RX2 55 yX4_copyFrom, Cond.instanceMethod yX4_copyFrom, Cond.selects RX4 yX4_copyFrom yX4_copyFrom, Cond.code yX4_copyFrom cX4_copyFrom 3 none, Cond.methodLink RX2 58 yX0_copyFrom, Cond.instanceMethod yX0_copyFrom]
def wsX8_digest_r8 : List Cond := [Cond.selects RX0 yX0_copyFrom yX0_copyFrom, Cond.code yX0_copyFrom cX0_copyFrom 2 none, Cond.fieldLink RX0 18 "LabelApplicator$Cycle" "splices" "I", Cond.fieldLink RX0 33 "LabelApplicator$Cycle" "late" "Z", Cond.methodLink RX8 167 yX2_serveAll, Cond.instanceMethod yX2_serveAll, Cond.selects RX2 yX2_serveAll yX2_serveAll, Cond.code yX2_serveAll cX2_serveAll 5 (some .int), Cond.methodLink RX2 126 yX2_serve, Cond.instanceMethod yX2_serve, Cond.selects RX2 yX2_serve yX2_serve, Cond.code yX2_serve cX2_serve 2 none, Cond.fieldLink RX2 142 "LabelApplicator$Cycle" "ending" "I", Cond.fieldLink RX2 145 "LabelApplicator$Cycle" "travel" "I", Cond.fieldLink RX2 148 "LabelApplicator$Cycle" "late" "Z", Cond.fieldLink RX2 152 "LabelApplicator$Cycle" "reason" "I", Cond.methodLink RX2 133 yX2_speedTowards, Cond.instanceMethod yX2_speedTowards, Cond.selects RX2 yX2_speedTowards yX2_speedTowards, Cond.code yX2_speedTowards cX2_speedTowards 6 (some .int), Cond.methodLink RX2 168 Lib.Math.max.name, Cond.static Lib.Math.max.name, Cond.initialized "java/lang/Math", Cond.code Lib.Math.max.name Lib.Math.max.code 2 (some .int)]
def wsX8_digest_r9 : List Cond := [Cond.methodLink RX2 174 Lib.Math.min.name, Cond.static Lib.Math.min.name, Cond.code Lib.Math.min.name Lib.Math.min.code 2 (some .int), Cond.methodLink RX2 136 yX0_begin, Cond.instanceMethod yX0_begin, Cond.selects RX0 yX0_begin yX0_begin, Cond.code yX0_begin cX0_begin 2 none, Cond.methodLink RX2 139 yX2_feed, Cond.instanceMethod yX2_feed, Cond.selects RX2 yX2_feed yX2_feed, Cond.code yX2_feed cX2_feed 3 none, Cond.fieldLink RX2 190 "LabelApplicator$Cycle" "taken" "I", Cond.methodLink RX2 177 yX1_kindOf, Cond.methodLink RX2 180 yX1_lengthOf, Cond.methodLink RX2 183 yX0_take, Cond.instanceMethod yX0_take, Cond.selects RX0 yX0_take yX0_take, Cond.code yX0_take cX0_take 3 none, Cond.methodLink RX2 187 yX2_endingBehind, Cond.instanceMethod yX2_endingBehind, Cond.selects RX2 yX2_endingBehind yX2_endingBehind, Cond.code yX2_endingBehind cX2_endingBehind 4 (some .int), Cond.methodLink RX2 193 yX1_removeFirst, Cond.instanceMethod yX1_removeFirst]
def wsX8_digest_r10 : List Cond := [Cond.selects RX1 yX1_removeFirst yX1_removeFirst, Cond.code yX1_removeFirst cX1_removeFirst 2 none, Cond.methodLink RX2 151 yX2_reasonAt, Cond.instanceMethod yX2_reasonAt, Cond.selects RX2 yX2_reasonAt yX2_reasonAt, Cond.code yX2_reasonAt cX2_reasonAt 3 (some .int), Cond.fieldLink RX2 196 "LabelApplicator$Cycle" "splices" "I", Cond.fieldLink RX2 199 "LabelApplicator$Cycle" "labels" "I", Cond.methodLink RX2 201 Lib.Math.abs.name, Cond.static Lib.Math.abs.name, Cond.code Lib.Math.abs.name Lib.Math.abs.code 1 (some .int), Cond.methodLink RX2 155 yX2_countCycle, Cond.instanceMethod yX2_countCycle, Cond.selects RX2 yX2_countCycle yX2_countCycle, Cond.code yX2_countCycle cX2_countCycle 2 none, Cond.methodLink RX2 158 yX2_learnPitch, Cond.instanceMethod yX2_learnPitch, Cond.selects RX2 yX2_learnPitch yX2_learnPitch, Cond.code yX2_learnPitch cX2_learnPitch 2 none, Cond.constantFloat RX2 204 (1090519040), Cond.methodLink RX2 161 yX4_moveOn, Cond.instanceMethod yX4_moveOn, Cond.selects RX4 yX4_moveOn yX4_moveOn, Cond.code yX4_moveOn cX4_moveOn 5 (some .int)]
def wsX8_digest_r11 : List Cond := [Cond.methodLink RX2 119 yX2_passGate, Cond.instanceMethod yX2_passGate, Cond.selects RX2 yX2_passGate yX2_passGate, Cond.code yX2_passGate cX2_passGate 2 none, Cond.methodLink RX2 164 yX2_isFault, Cond.static yX2_isFault, Cond.code yX2_isFault cX2_isFault 1 (some .boolean), Cond.methodLink RX2 129 yX2_hasTooManyFaults, Cond.instanceMethod yX2_hasTooManyFaults, Cond.selects RX2 yX2_hasTooManyFaults yX2_hasTooManyFaults, Cond.code yX2_hasTooManyFaults cX2_hasTooManyFaults 1 (some .boolean), Cond.methodLink RX8 171 yX2_cameWith, Cond.methodLink RX8 220 yX7_byteAt, Cond.instanceMethod yX7_byteAt, Cond.selects RX7 yX7_byteAt yX7_byteAt, Cond.initialized RX7, Cond.code yX7_byteAt cX7_byteAt 2 (some .int), Cond.fieldLink RX7 15 "LabelApplicator$Text" "length" "I", Cond.fieldLink RX7 9 "LabelApplicator$Text" "bytes" "[B"]
def wsX8_digest : List Cond := .code yX8_digest cX8_digest 5 (some .long) :: ((wsX8_digest_r1 ++ (wsX8_digest_r2 ++ (wsX8_digest_r3 ++ (wsX8_digest_r4 ++ (wsX8_digest_r5 ++ (wsX8_digest_r6 ++ (wsX8_digest_r7 ++ (wsX8_digest_r8 ++ (wsX8_digest_r9 ++ (wsX8_digest_r10 ++ wsX8_digest_r11)))))))))) ++ wsX80 ++ wsX20 ++ wsX40 ++ wsX70 ++ wsX50 ++ wsX10 ++ wsX00)
def wsX9_init : List Cond := .code yX9_init cX9_init 2 none :: ([.methodLink RX9 1 objectInit, .instanceMethod objectInit, .code objectInit ⟨#[0xb1]⟩ 1 none, .arrayClass .int, .fieldLink RX9 7 "LabelApplicatorModel" "m" "[I", .fieldLink RX9 13 "LabelApplicatorModel" "aside" "[I", .fieldLink RX9 16 "LabelApplicatorModel" "slots" "[I", .arrayClass .boolean, .fieldLink RX9 19 "LabelApplicatorModel" "isSaved" "[Z", .constantFloat RX9 23 (1112014848), .fieldLink RX9 24 "LabelApplicatorModel" "pitch" "F", .fieldLink RX9 28 "LabelApplicatorModel" "text" "[I", .fieldLink RX9 31 "LabelApplicatorModel" "kind" "[I", .fieldLink RX9 34 "LabelApplicatorModel" "length" "[I", .fieldLink RX9 37 "LabelApplicatorModel" "times" "[I", .fieldLink RX9 40 "LabelApplicatorModel" "begin" "[I"] ++ wsX90)
def wsX9_in : List Cond := .code yX9_in cX9_in 3 (some .boolean) :: ([])
def wsX9_type : List Cond := .code yX9_type cX9_type 2 (some .int) :: ([.fieldLink RX9 47 "LabelApplicatorModel" "textLength" "I", .fieldLink RX9 28 "LabelApplicatorModel" "text" "[I", .methodLink RX9 43 yX9_in, .static yX9_in, .initialized RX9, .code yX9_in cX9_in 3 (some .boolean)] ++ wsX90)
def wsX9_clear : List Cond := .code yX9_clear cX9_clear 2 (some .int) :: ([.fieldLink RX9 47 "LabelApplicatorModel" "textLength" "I"] ++ wsX90)
def wsX9_next : List Cond := .code yX9_next cX9_next 1 (some .int) :: ([.fieldLink RX9 51 "LabelApplicatorModel" "at" "I", .fieldLink RX9 47 "LabelApplicatorModel" "textLength" "I", .fieldLink RX9 28 "LabelApplicatorModel" "text" "[I"] ++ wsX90)
def wsX9_skips : List Cond := .code yX9_skips cX9_skips 1 none :: ([.fieldLink RX9 51 "LabelApplicatorModel" "at" "I", .methodLink RX9 54 yX9_next, .instanceMethod yX9_next, .selects RX9 yX9_next yX9_next, .initialized RX9, .code yX9_next cX9_next 1 (some .int), .fieldLink RX9 47 "LabelApplicatorModel" "textLength" "I", .fieldLink RX9 28 "LabelApplicatorModel" "text" "[I"] ++ wsX90)
def wsX9_passes : List Cond := .code yX9_passes cX9_passes 1 none :: ([.fieldLink RX9 51 "LabelApplicatorModel" "at" "I", .methodLink RX9 58 yX9_skips, .instanceMethod yX9_skips, .selects RX9 yX9_skips yX9_skips, .initialized RX9, .code yX9_skips cX9_skips 1 none, .methodLink RX9 54 yX9_next, .instanceMethod yX9_next, .selects RX9 yX9_next yX9_next, .code yX9_next cX9_next 1 (some .int), .fieldLink RX9 47 "LabelApplicatorModel" "textLength" "I", .fieldLink RX9 28 "LabelApplicatorModel" "text" "[I"] ++ wsX90)
def wsX9_fails : List Cond := .code yX9_fails cX9_fails 2 none :: ([.fieldLink RX9 61 "LabelApplicatorModel" "fault" "I"] ++ wsX90)
def wsX9_readsNumber : List Cond := .code yX9_readsNumber cX9_readsNumber 4 (some .int) :: ([.fieldLink RX9 51 "LabelApplicatorModel" "at" "I", .methodLink RX9 54 yX9_next, .instanceMethod yX9_next, .selects RX9 yX9_next yX9_next, .initialized RX9, .code yX9_next cX9_next 1 (some .int), .fieldLink RX9 47 "LabelApplicatorModel" "textLength" "I", .fieldLink RX9 28 "LabelApplicatorModel" "text" "[I", .methodLink RX9 43 yX9_in, .static yX9_in, .code yX9_in cX9_in 3 (some .boolean), .methodLink RX9 64 yX9_fails, .instanceMethod yX9_fails, .selects RX9 yX9_fails yX9_fails, .code yX9_fails cX9_fails 2 none, .fieldLink RX9 61 "LabelApplicatorModel" "fault" "I", .methodLink RX9 58 yX9_skips, .instanceMethod yX9_skips, .selects RX9 yX9_skips yX9_skips, .code yX9_skips cX9_skips 1 none] ++ wsX90)
def wsX9_repeats : List Cond := .code yX9_repeats cX9_repeats 5 none :: ([.fieldLink RX9 68 "LabelApplicatorModel" "items" "I", .fieldLink RX9 31 "LabelApplicatorModel" "kind" "[I", .fieldLink RX9 34 "LabelApplicatorModel" "length" "[I"] ++ wsX90)
def wsX9_kindOf : List Cond := .code yX9_kindOf cX9_kindOf 1 (some .int) :: ([])
def wsX9_readsItem_r1 : List Cond := [Cond.fieldLink RX9 68 "LabelApplicatorModel" "items" "I", Cond.fieldLink RX9 31 "LabelApplicatorModel" "kind" "[I", Cond.fieldLink RX9 34 "LabelApplicatorModel" "length" "[I", Cond.methodLink RX9 54 yX9_next, Cond.instanceMethod yX9_next, Cond.selects RX9 yX9_next yX9_next, Cond.initialized RX9, Cond.code yX9_next cX9_next 1 (some .int), Cond.fieldLink RX9 51 "LabelApplicatorModel" "at" "I", Cond.fieldLink RX9 47 "LabelApplicatorModel" "textLength" "I", Cond.fieldLink RX9 28 "LabelApplicatorModel" "text" "[I", Cond.methodLink RX9 71 yX9_kindOf, Cond.static yX9_kindOf, Cond.code yX9_kindOf cX9_kindOf 1 (some .int), Cond.methodLink RX9 75 yX9_passes, Cond.instanceMethod yX9_passes, Cond.selects RX9 yX9_passes yX9_passes, Cond.code yX9_passes cX9_passes 1 none, Cond.methodLink RX9 58 yX9_skips, Cond.instanceMethod yX9_skips, Cond.selects RX9 yX9_skips yX9_skips, Cond.code yX9_skips cX9_skips 1 none, Cond.methodLink RX9 78 yX9_readsNumber, Cond.instanceMethod yX9_readsNumber]
def wsX9_readsItem_r2 : List Cond := [Cond.selects RX9 yX9_readsNumber yX9_readsNumber, Cond.code yX9_readsNumber cX9_readsNumber 4 (some .int), Cond.methodLink RX9 43 yX9_in, Cond.static yX9_in, Cond.code yX9_in cX9_in 3 (some .boolean), Cond.methodLink RX9 64 yX9_fails, Cond.instanceMethod yX9_fails, Cond.selects RX9 yX9_fails yX9_fails, Cond.code yX9_fails cX9_fails 2 none, Cond.fieldLink RX9 61 "LabelApplicatorModel" "fault" "I", Cond.methodLink RX9 81 yX9_repeats, Cond.instanceMethod yX9_repeats, Cond.selects RX9 yX9_repeats yX9_repeats, Cond.code yX9_repeats cX9_repeats 5 none]
def wsX9_readsItem : List Cond := .code yX9_readsItem cX9_readsItem 5 none :: ((wsX9_readsItem_r1 ++ wsX9_readsItem_r2) ++ wsX90)
def wsX9_readsPart_r1 : List Cond := [Cond.fieldLink RX9 61 "LabelApplicatorModel" "fault" "I", Cond.fieldLink RX9 51 "LabelApplicatorModel" "at" "I", Cond.fieldLink RX9 88 "LabelApplicatorModel" "depth" "I", Cond.fieldLink RX9 37 "LabelApplicatorModel" "times" "[I", Cond.fieldLink RX9 40 "LabelApplicatorModel" "begin" "[I", Cond.fieldLink RX9 68 "LabelApplicatorModel" "items" "I", Cond.methodLink RX9 54 yX9_next, Cond.instanceMethod yX9_next, Cond.selects RX9 yX9_next yX9_next, Cond.initialized RX9, Cond.code yX9_next cX9_next 1 (some .int), Cond.fieldLink RX9 47 "LabelApplicatorModel" "textLength" "I", Cond.fieldLink RX9 28 "LabelApplicatorModel" "text" "[I", Cond.methodLink RX9 43 yX9_in, Cond.static yX9_in, Cond.code yX9_in cX9_in 3 (some .boolean), Cond.methodLink RX9 78 yX9_readsNumber, Cond.instanceMethod yX9_readsNumber, Cond.selects RX9 yX9_readsNumber yX9_readsNumber, Cond.code yX9_readsNumber cX9_readsNumber 4 (some .int), Cond.methodLink RX9 64 yX9_fails, Cond.instanceMethod yX9_fails, Cond.selects RX9 yX9_fails yX9_fails, Cond.code yX9_fails cX9_fails 2 none]
def wsX9_readsPart_r2 : List Cond := [Cond.methodLink RX9 58 yX9_skips, Cond.instanceMethod yX9_skips, Cond.selects RX9 yX9_skips yX9_skips, Cond.code yX9_skips cX9_skips 1 none, Cond.methodLink RX9 75 yX9_passes, Cond.instanceMethod yX9_passes, Cond.selects RX9 yX9_passes yX9_passes, Cond.code yX9_passes cX9_passes 1 none, Cond.methodLink RX9 71 yX9_kindOf, Cond.static yX9_kindOf, Cond.code yX9_kindOf cX9_kindOf 1 (some .int), Cond.methodLink RX9 85 yX9_readsItem, Cond.instanceMethod yX9_readsItem, Cond.selects RX9 yX9_readsItem yX9_readsItem, Cond.code yX9_readsItem cX9_readsItem 5 none, Cond.fieldLink RX9 31 "LabelApplicatorModel" "kind" "[I", Cond.fieldLink RX9 34 "LabelApplicatorModel" "length" "[I", Cond.methodLink RX9 81 yX9_repeats, Cond.instanceMethod yX9_repeats, Cond.selects RX9 yX9_repeats yX9_repeats, Cond.code yX9_repeats cX9_repeats 5 none]
def wsX9_readsPart : List Cond := .code yX9_readsPart cX9_readsPart 2 none :: ((wsX9_readsPart_r1 ++ wsX9_readsPart_r2) ++ wsX90)
def wsX9_reads_r1 : List Cond := [Cond.fieldLink RX9 51 "LabelApplicatorModel" "at" "I", Cond.fieldLink RX9 61 "LabelApplicatorModel" "fault" "I", Cond.fieldLink RX9 68 "LabelApplicatorModel" "items" "I", Cond.fieldLink RX9 88 "LabelApplicatorModel" "depth" "I", Cond.fieldLink RX9 47 "LabelApplicatorModel" "textLength" "I", Cond.fieldLink RX9 40 "LabelApplicatorModel" "begin" "[I", Cond.fieldLink RX9 37 "LabelApplicatorModel" "times" "[I", Cond.methodLink RX9 58 yX9_skips, Cond.instanceMethod yX9_skips, Cond.selects RX9 yX9_skips yX9_skips, Cond.initialized RX9, Cond.code yX9_skips cX9_skips 1 none, Cond.methodLink RX9 54 yX9_next, Cond.instanceMethod yX9_next, Cond.selects RX9 yX9_next yX9_next, Cond.code yX9_next cX9_next 1 (some .int), Cond.fieldLink RX9 28 "LabelApplicatorModel" "text" "[I", Cond.methodLink RX9 75 yX9_passes, Cond.instanceMethod yX9_passes, Cond.selects RX9 yX9_passes yX9_passes, Cond.code yX9_passes cX9_passes 1 none, Cond.methodLink RX9 81 yX9_repeats, Cond.instanceMethod yX9_repeats, Cond.selects RX9 yX9_repeats yX9_repeats]
def wsX9_reads_r2 : List Cond := [Cond.code yX9_repeats cX9_repeats 5 none, Cond.fieldLink RX9 31 "LabelApplicatorModel" "kind" "[I", Cond.fieldLink RX9 34 "LabelApplicatorModel" "length" "[I", Cond.methodLink RX9 91 yX9_readsPart, Cond.instanceMethod yX9_readsPart, Cond.selects RX9 yX9_readsPart yX9_readsPart, Cond.code yX9_readsPart cX9_readsPart 2 none, Cond.methodLink RX9 43 yX9_in, Cond.static yX9_in, Cond.code yX9_in cX9_in 3 (some .boolean), Cond.methodLink RX9 78 yX9_readsNumber, Cond.instanceMethod yX9_readsNumber, Cond.selects RX9 yX9_readsNumber yX9_readsNumber, Cond.code yX9_readsNumber cX9_readsNumber 4 (some .int), Cond.methodLink RX9 64 yX9_fails, Cond.instanceMethod yX9_fails, Cond.selects RX9 yX9_fails yX9_fails, Cond.code yX9_fails cX9_fails 2 none, Cond.methodLink RX9 71 yX9_kindOf, Cond.static yX9_kindOf, Cond.code yX9_kindOf cX9_kindOf 1 (some .int), Cond.methodLink RX9 85 yX9_readsItem, Cond.instanceMethod yX9_readsItem, Cond.selects RX9 yX9_readsItem yX9_readsItem]
def wsX9_reads_r3 : List Cond := [Cond.code yX9_readsItem cX9_readsItem 5 none]
def wsX9_reads : List Cond := .code yX9_reads cX9_reads 1 none :: ((wsX9_reads_r1 ++ (wsX9_reads_r2 ++ wsX9_reads_r3)) ++ wsX90)
def wsX9_load_r1 : List Cond := [Cond.fieldLink RX9 61 "LabelApplicatorModel" "fault" "I", Cond.fieldLink RX9 7 "LabelApplicatorModel" "m" "[I", Cond.fieldLink RX9 68 "LabelApplicatorModel" "items" "I", Cond.fieldLink RX9 31 "LabelApplicatorModel" "kind" "[I", Cond.fieldLink RX9 34 "LabelApplicatorModel" "length" "[I", Cond.methodLink RX9 94 yX9_reads, Cond.instanceMethod yX9_reads, Cond.selects RX9 yX9_reads yX9_reads, Cond.initialized RX9, Cond.code yX9_reads cX9_reads 1 none, Cond.fieldLink RX9 51 "LabelApplicatorModel" "at" "I", Cond.fieldLink RX9 88 "LabelApplicatorModel" "depth" "I", Cond.fieldLink RX9 47 "LabelApplicatorModel" "textLength" "I", Cond.fieldLink RX9 40 "LabelApplicatorModel" "begin" "[I", Cond.fieldLink RX9 37 "LabelApplicatorModel" "times" "[I", Cond.methodLink RX9 58 yX9_skips, Cond.instanceMethod yX9_skips, Cond.selects RX9 yX9_skips yX9_skips, Cond.code yX9_skips cX9_skips 1 none, Cond.methodLink RX9 54 yX9_next, Cond.instanceMethod yX9_next, Cond.selects RX9 yX9_next yX9_next, Cond.code yX9_next cX9_next 1 (some .int), Cond.fieldLink RX9 28 "LabelApplicatorModel" "text" "[I"]
def wsX9_load_r2 : List Cond := [Cond.methodLink RX9 75 yX9_passes, Cond.instanceMethod yX9_passes, Cond.selects RX9 yX9_passes yX9_passes, Cond.code yX9_passes cX9_passes 1 none, Cond.methodLink RX9 81 yX9_repeats, Cond.instanceMethod yX9_repeats, Cond.selects RX9 yX9_repeats yX9_repeats, Cond.code yX9_repeats cX9_repeats 5 none, Cond.methodLink RX9 91 yX9_readsPart, Cond.instanceMethod yX9_readsPart, Cond.selects RX9 yX9_readsPart yX9_readsPart, Cond.code yX9_readsPart cX9_readsPart 2 none, Cond.methodLink RX9 43 yX9_in, Cond.static yX9_in, Cond.code yX9_in cX9_in 3 (some .boolean), Cond.methodLink RX9 78 yX9_readsNumber, Cond.instanceMethod yX9_readsNumber, Cond.selects RX9 yX9_readsNumber yX9_readsNumber, Cond.code yX9_readsNumber cX9_readsNumber 4 (some .int), Cond.methodLink RX9 64 yX9_fails, Cond.instanceMethod yX9_fails, Cond.selects RX9 yX9_fails yX9_fails, Cond.code yX9_fails cX9_fails 2 none, Cond.methodLink RX9 71 yX9_kindOf]
def wsX9_load_r3 : List Cond := [Cond.static yX9_kindOf, Cond.code yX9_kindOf cX9_kindOf 1 (some .int), Cond.methodLink RX9 85 yX9_readsItem, Cond.instanceMethod yX9_readsItem, Cond.selects RX9 yX9_readsItem yX9_readsItem, Cond.code yX9_readsItem cX9_readsItem 5 none]
def wsX9_load : List Cond := .code yX9_load cX9_load 2 (some .int) :: ((wsX9_load_r1 ++ (wsX9_load_r2 ++ wsX9_load_r3)) ++ wsX90)
def wsX9_unload : List Cond := .code yX9_unload cX9_unload 2 (some .int) :: ([.fieldLink RX9 7 "LabelApplicatorModel" "m" "[I"] ++ wsX90)
def wsX9_lengthBefore : List Cond := .code yX9_lengthBefore cX9_lengthBefore 4 (some .int) :: ([.fieldLink RX9 7 "LabelApplicatorModel" "m" "[I"] ++ wsX90)
def wsX9_item : List Cond := .code yX9_item cX9_item 3 (some .int) :: ([.fieldLink RX9 7 "LabelApplicatorModel" "m" "[I", .methodLink RX9 43 yX9_in, .static yX9_in, .initialized RX9, .code yX9_in cX9_in 3 (some .boolean), .methodLink RX9 97 yX9_lengthBefore, .instanceMethod yX9_lengthBefore, .selects RX9 yX9_lengthBefore yX9_lengthBefore, .code yX9_lengthBefore cX9_lengthBefore 4 (some .int)] ++ wsX90)
def wsX9_least : List Cond := .code yX9_least cX9_least 1 (some .int) :: ([])
def wsX9_most : List Cond := .code yX9_most cX9_most 1 (some .int) :: ([])
def wsX9_set : List Cond := .code yX9_set cX9_set 4 (some .int) :: ([.fieldLink RX9 7 "LabelApplicatorModel" "m" "[I", .methodLink RX9 43 yX9_in, .static yX9_in, .initialized RX9, .code yX9_in cX9_in 3 (some .boolean), .methodLink RX9 100 yX9_least, .static yX9_least, .code yX9_least cX9_least 1 (some .int), .methodLink RX9 103 yX9_most, .static yX9_most, .code yX9_most cX9_most 1 (some .int)] ++ wsX90)
def wsJxf58ca_isNaN_12338 : List Cond := .code yJxf58ca_isNaN_12338 cJxf58ca_isNaN_12338 1 (some .boolean) :: ([])
def wsJxf58ca_floatToIntBits_5c35a : List Cond := .code yJxf58ca_floatToIntBits_5c35a cJxf58ca_floatToIntBits_5c35a 1 (some .int) :: ([.methodLink RJxf58ca 74 ⟨"java/lang/Float", "floatToRawIntBits", "(F)I"⟩, .native ⟨"java/lang/Float", "floatToRawIntBits", "(F)I"⟩, .static ⟨"java/lang/Float", "floatToRawIntBits", "(F)I"⟩, .initialized "java/lang/Float", .constant RJxf58ca 77 (2143289344), .methodLink RJxf58ca 59 yJxf58ca_isNaN_12338, .static yJxf58ca_isNaN_12338, .initialized RJxf58ca, .code yJxf58ca_isNaN_12338 cJxf58ca_isNaN_12338 1 (some .boolean)])
def wsX9_setPitch : List Cond := .code yX9_setPitch cX9_setPitch 3 (some .int) :: ([.fieldLink RX9 24 "LabelApplicatorModel" "pitch" "F", .constantFloat RX9 112 (1092616192), .methodLink RX9 43 yX9_in, .static yX9_in, .initialized RX9, .code yX9_in cX9_in 3 (some .boolean), .methodLink RX9 106 yJxf58ca_floatToIntBits_5c35a, .static yJxf58ca_floatToIntBits_5c35a, .initialized RJxf58ca, .code yJxf58ca_floatToIntBits_5c35a cJxf58ca_floatToIntBits_5c35a 1 (some .int), .methodLink RJxf58ca 74 ⟨"java/lang/Float", "floatToRawIntBits", "(F)I"⟩, .native ⟨"java/lang/Float", "floatToRawIntBits", "(F)I"⟩, .static ⟨"java/lang/Float", "floatToRawIntBits", "(F)I"⟩, .initialized "java/lang/Float", .constant RJxf58ca 77 (2143289344), .methodLink RJxf58ca 59 yJxf58ca_isNaN_12338, .static yJxf58ca_isNaN_12338, .code yJxf58ca_isNaN_12338 cJxf58ca_isNaN_12338 1 (some .boolean)] ++ wsX90)
def wsX9_leaves : List Cond := .code yX9_leaves cX9_leaves 2 none :: ([.fieldLink RX9 7 "LabelApplicatorModel" "m" "[I"] ++ wsX90)
def wsX9_setRing : List Cond := .code yX9_setRing cX9_setRing 4 (some .int) :: ([.fieldLink RX9 7 "LabelApplicatorModel" "m" "[I", .methodLink RX9 43 yX9_in, .static yX9_in, .initialized RX9, .code yX9_in cX9_in 3 (some .boolean), .methodLink RX9 113 yX9_leaves, .instanceMethod yX9_leaves, .selects RX9 yX9_leaves yX9_leaves, .code yX9_leaves cX9_leaves 2 none] ++ wsX90)
def wsX9_follows : List Cond := .code yX9_follows cX9_follows 4 none :: ([.fieldLink RX9 7 "LabelApplicatorModel" "m" "[I"] ++ wsX90)
def wsX9_feeds : List Cond := .code yX9_feeds cX9_feeds 4 none :: ([.fieldLink RX9 116 "LabelApplicatorModel" "travel" "I", .fieldLink RX9 119 "LabelApplicatorModel" "taken" "I", .fieldLink RX9 122 "LabelApplicatorModel" "labels" "I", .fieldLink RX9 125 "LabelApplicatorModel" "hasSplice" "Z", .fieldLink RX9 129 "LabelApplicatorModel" "end" "I", .fieldLink RX9 7 "LabelApplicatorModel" "m" "[I", .fieldLink RX9 24 "LabelApplicatorModel" "pitch" "F"] ++ wsX90)
def wsX9_reasonAt : List Cond := .code yX9_reasonAt cX9_reasonAt 4 (some .int) :: ([.fieldLink RX9 129 "LabelApplicatorModel" "end" "I", .fieldLink RX9 125 "LabelApplicatorModel" "hasSplice" "Z", .fieldLink RX9 122 "LabelApplicatorModel" "labels" "I", .fieldLink RX9 7 "LabelApplicatorModel" "m" "[I"] ++ wsX90)
def wsX9_turns : List Cond := .code yX9_turns cX9_turns 3 none :: ([.fieldLink RX9 7 "LabelApplicatorModel" "m" "[I", .methodLink RX9 113 yX9_leaves, .instanceMethod yX9_leaves, .selects RX9 yX9_leaves yX9_leaves, .initialized RX9, .code yX9_leaves cX9_leaves 2 none] ++ wsX90)
def wsX9_cycles_r1 : List Cond := [Cond.fieldLink RX9 129 "LabelApplicatorModel" "end" "I", Cond.fieldLink RX9 116 "LabelApplicatorModel" "travel" "I", Cond.fieldLink RX9 24 "LabelApplicatorModel" "pitch" "F", Cond.fieldLink RX9 7 "LabelApplicatorModel" "m" "[I", Cond.constantFloat RX9 142 (1090519040), Cond.fieldLink RX9 122 "LabelApplicatorModel" "labels" "I", Cond.fieldLink RX9 125 "LabelApplicatorModel" "hasSplice" "Z", Cond.fieldLink RX9 119 "LabelApplicatorModel" "taken" "I", Cond.methodLink RX9 132 yX9_follows, Cond.instanceMethod yX9_follows, Cond.selects RX9 yX9_follows yX9_follows, Cond.initialized RX9, Cond.code yX9_follows cX9_follows 4 none, Cond.methodLink RX9 135 yX9_feeds, Cond.instanceMethod yX9_feeds, Cond.selects RX9 yX9_feeds yX9_feeds, Cond.code yX9_feeds cX9_feeds 4 none, Cond.methodLink RX9 138 yX9_reasonAt, Cond.instanceMethod yX9_reasonAt, Cond.selects RX9 yX9_reasonAt yX9_reasonAt, Cond.code yX9_reasonAt cX9_reasonAt 4 (some .int), Cond.methodLink RX9 143 yX9_turns, Cond.instanceMethod yX9_turns, Cond.selects RX9 yX9_turns yX9_turns]
def wsX9_cycles_r2 : List Cond := [Cond.code yX9_turns cX9_turns 3 none, Cond.methodLink RX9 113 yX9_leaves, Cond.instanceMethod yX9_leaves, Cond.selects RX9 yX9_leaves yX9_leaves, Cond.code yX9_leaves cX9_leaves 2 none]
def wsX9_cycles : List Cond := .code yX9_cycles cX9_cycles 4 none :: ((wsX9_cycles_r1 ++ wsX9_cycles_r2) ++ wsX90)
def wsX9_run_r1 : List Cond := [Cond.fieldLink RX9 7 "LabelApplicatorModel" "m" "[I", Cond.methodLink RX9 43 yX9_in, Cond.static yX9_in, Cond.initialized RX9, Cond.code yX9_in cX9_in 3 (some .boolean), Cond.methodLink RX9 146 yX9_cycles, Cond.instanceMethod yX9_cycles, Cond.selects RX9 yX9_cycles yX9_cycles, Cond.code yX9_cycles cX9_cycles 4 none, Cond.fieldLink RX9 129 "LabelApplicatorModel" "end" "I", Cond.fieldLink RX9 116 "LabelApplicatorModel" "travel" "I", Cond.fieldLink RX9 24 "LabelApplicatorModel" "pitch" "F", Cond.constantFloat RX9 142 (1090519040), Cond.fieldLink RX9 122 "LabelApplicatorModel" "labels" "I", Cond.fieldLink RX9 125 "LabelApplicatorModel" "hasSplice" "Z", Cond.fieldLink RX9 119 "LabelApplicatorModel" "taken" "I", Cond.methodLink RX9 132 yX9_follows, Cond.instanceMethod yX9_follows, Cond.selects RX9 yX9_follows yX9_follows, Cond.code yX9_follows cX9_follows 4 none, Cond.methodLink RX9 135 yX9_feeds, Cond.instanceMethod yX9_feeds, Cond.selects RX9 yX9_feeds yX9_feeds, Cond.code yX9_feeds cX9_feeds 4 none]
def wsX9_run_r2 : List Cond := [Cond.methodLink RX9 138 yX9_reasonAt, Cond.instanceMethod yX9_reasonAt, Cond.selects RX9 yX9_reasonAt yX9_reasonAt, Cond.code yX9_reasonAt cX9_reasonAt 4 (some .int), Cond.methodLink RX9 143 yX9_turns, Cond.instanceMethod yX9_turns, Cond.selects RX9 yX9_turns yX9_turns, Cond.code yX9_turns cX9_turns 3 none, Cond.methodLink RX9 113 yX9_leaves, Cond.instanceMethod yX9_leaves, Cond.selects RX9 yX9_leaves yX9_leaves, Cond.code yX9_leaves cX9_leaves 2 none]
def wsX9_run : List Cond := .code yX9_run cX9_run 4 (some .int) :: ((wsX9_run_r1 ++ wsX9_run_r2) ++ wsX90)
def wsX9_clearFaults : List Cond := .code yX9_clearFaults cX9_clearFaults 2 (some .int) :: ([.fieldLink RX9 7 "LabelApplicatorModel" "m" "[I"] ++ wsX90)
def wsX9_latest : List Cond := .code yX9_latest cX9_latest 2 (some .int) :: ([.fieldLink RX9 7 "LabelApplicatorModel" "m" "[I", .methodLink RX9 43 yX9_in, .static yX9_in, .initialized RX9, .code yX9_in cX9_in 3 (some .boolean)] ++ wsX90)
def wsX9_station : List Cond := .code yX9_station cX9_station 2 (some .int) :: ([.fieldLink RX9 7 "LabelApplicatorModel" "m" "[I", .methodLink RX9 43 yX9_in, .static yX9_in, .initialized RX9, .code yX9_in cX9_in 3 (some .boolean)] ++ wsX90)
def wsX9_pitch : List Cond := .code yX9_pitch cX9_pitch 1 (some .int) :: ([.fieldLink RX9 24 "LabelApplicatorModel" "pitch" "F", .methodLink RX9 106 yJxf58ca_floatToIntBits_5c35a, .static yJxf58ca_floatToIntBits_5c35a, .initialized RJxf58ca, .code yJxf58ca_floatToIntBits_5c35a cJxf58ca_floatToIntBits_5c35a 1 (some .int), .methodLink RJxf58ca 74 ⟨"java/lang/Float", "floatToRawIntBits", "(F)I"⟩, .native ⟨"java/lang/Float", "floatToRawIntBits", "(F)I"⟩, .static ⟨"java/lang/Float", "floatToRawIntBits", "(F)I"⟩, .initialized "java/lang/Float", .constant RJxf58ca 77 (2143289344), .methodLink RJxf58ca 59 yJxf58ca_isNaN_12338, .static yJxf58ca_isNaN_12338, .code yJxf58ca_isNaN_12338 cJxf58ca_isNaN_12338 1 (some .boolean)] ++ wsX90)
def wsX9_keepsAside : List Cond := .code yX9_keepsAside cX9_keepsAside 2 none :: ([.fieldLink RX9 13 "LabelApplicatorModel" "aside" "[I", .fieldLink RX9 7 "LabelApplicatorModel" "m" "[I", .fieldLink RX9 24 "LabelApplicatorModel" "pitch" "F", .fieldLink RX9 149 "LabelApplicatorModel" "pitchAside" "F"] ++ wsX90)
def wsX9_returns : List Cond := .code yX9_returns cX9_returns 2 none :: ([.fieldLink RX9 7 "LabelApplicatorModel" "m" "[I", .fieldLink RX9 13 "LabelApplicatorModel" "aside" "[I", .fieldLink RX9 149 "LabelApplicatorModel" "pitchAside" "F", .fieldLink RX9 24 "LabelApplicatorModel" "pitch" "F"] ++ wsX90)
def wsX9_looksAhead_r1 : List Cond := [Cond.fieldLink RX9 7 "LabelApplicatorModel" "m" "[I", Cond.methodLink RX9 146 yX9_cycles, Cond.instanceMethod yX9_cycles, Cond.selects RX9 yX9_cycles yX9_cycles, Cond.initialized RX9, Cond.code yX9_cycles cX9_cycles 4 none, Cond.fieldLink RX9 129 "LabelApplicatorModel" "end" "I", Cond.fieldLink RX9 116 "LabelApplicatorModel" "travel" "I", Cond.fieldLink RX9 24 "LabelApplicatorModel" "pitch" "F", Cond.constantFloat RX9 142 (1090519040), Cond.fieldLink RX9 122 "LabelApplicatorModel" "labels" "I", Cond.fieldLink RX9 125 "LabelApplicatorModel" "hasSplice" "Z", Cond.fieldLink RX9 119 "LabelApplicatorModel" "taken" "I", Cond.methodLink RX9 132 yX9_follows, Cond.instanceMethod yX9_follows, Cond.selects RX9 yX9_follows yX9_follows, Cond.code yX9_follows cX9_follows 4 none, Cond.methodLink RX9 135 yX9_feeds, Cond.instanceMethod yX9_feeds, Cond.selects RX9 yX9_feeds yX9_feeds, Cond.code yX9_feeds cX9_feeds 4 none, Cond.methodLink RX9 138 yX9_reasonAt, Cond.instanceMethod yX9_reasonAt, Cond.selects RX9 yX9_reasonAt yX9_reasonAt]
def wsX9_looksAhead_r2 : List Cond := [Cond.code yX9_reasonAt cX9_reasonAt 4 (some .int), Cond.methodLink RX9 143 yX9_turns, Cond.instanceMethod yX9_turns, Cond.selects RX9 yX9_turns yX9_turns, Cond.code yX9_turns cX9_turns 3 none, Cond.methodLink RX9 113 yX9_leaves, Cond.instanceMethod yX9_leaves, Cond.selects RX9 yX9_leaves yX9_leaves, Cond.code yX9_leaves cX9_leaves 2 none]
def wsX9_looksAhead : List Cond := .code yX9_looksAhead cX9_looksAhead 8 (some .int) :: ((wsX9_looksAhead_r1 ++ wsX9_looksAhead_r2) ++ wsX90)
def wsX9_ahead_r1 : List Cond := [Cond.methodLink RX9 152 yX9_keepsAside, Cond.instanceMethod yX9_keepsAside, Cond.selects RX9 yX9_keepsAside yX9_keepsAside, Cond.initialized RX9, Cond.code yX9_keepsAside cX9_keepsAside 2 none, Cond.fieldLink RX9 13 "LabelApplicatorModel" "aside" "[I", Cond.fieldLink RX9 7 "LabelApplicatorModel" "m" "[I", Cond.fieldLink RX9 24 "LabelApplicatorModel" "pitch" "F", Cond.fieldLink RX9 149 "LabelApplicatorModel" "pitchAside" "F", Cond.methodLink RX9 155 yX9_looksAhead, Cond.instanceMethod yX9_looksAhead, Cond.selects RX9 yX9_looksAhead yX9_looksAhead, Cond.code yX9_looksAhead cX9_looksAhead 8 (some .int), Cond.methodLink RX9 146 yX9_cycles, Cond.instanceMethod yX9_cycles, Cond.selects RX9 yX9_cycles yX9_cycles, Cond.code yX9_cycles cX9_cycles 4 none, Cond.fieldLink RX9 129 "LabelApplicatorModel" "end" "I", Cond.fieldLink RX9 116 "LabelApplicatorModel" "travel" "I", Cond.constantFloat RX9 142 (1090519040), Cond.fieldLink RX9 122 "LabelApplicatorModel" "labels" "I", Cond.fieldLink RX9 125 "LabelApplicatorModel" "hasSplice" "Z", Cond.fieldLink RX9 119 "LabelApplicatorModel" "taken" "I", Cond.methodLink RX9 132 yX9_follows]
def wsX9_ahead_r2 : List Cond := [Cond.instanceMethod yX9_follows, Cond.selects RX9 yX9_follows yX9_follows, Cond.code yX9_follows cX9_follows 4 none, Cond.methodLink RX9 135 yX9_feeds, Cond.instanceMethod yX9_feeds, Cond.selects RX9 yX9_feeds yX9_feeds, Cond.code yX9_feeds cX9_feeds 4 none, Cond.methodLink RX9 138 yX9_reasonAt, Cond.instanceMethod yX9_reasonAt, Cond.selects RX9 yX9_reasonAt yX9_reasonAt, Cond.code yX9_reasonAt cX9_reasonAt 4 (some .int), Cond.methodLink RX9 143 yX9_turns, Cond.instanceMethod yX9_turns, Cond.selects RX9 yX9_turns yX9_turns, Cond.code yX9_turns cX9_turns 3 none, Cond.methodLink RX9 113 yX9_leaves, Cond.instanceMethod yX9_leaves, Cond.selects RX9 yX9_leaves yX9_leaves, Cond.code yX9_leaves cX9_leaves 2 none, Cond.methodLink RX9 159 yX9_returns, Cond.instanceMethod yX9_returns, Cond.selects RX9 yX9_returns yX9_returns, Cond.code yX9_returns cX9_returns 2 none]
def wsX9_ahead : List Cond := .code yX9_ahead cX9_ahead 5 (some .int) :: ((wsX9_ahead_r1 ++ wsX9_ahead_r2) ++ wsX90)
def wsX9_foretell_r1 : List Cond := [Cond.methodLink RX9 43 yX9_in, Cond.static yX9_in, Cond.initialized RX9, Cond.code yX9_in cX9_in 3 (some .boolean), Cond.methodLink RX9 162 yX9_ahead, Cond.instanceMethod yX9_ahead, Cond.selects RX9 yX9_ahead yX9_ahead, Cond.code yX9_ahead cX9_ahead 5 (some .int), Cond.methodLink RX9 152 yX9_keepsAside, Cond.instanceMethod yX9_keepsAside, Cond.selects RX9 yX9_keepsAside yX9_keepsAside, Cond.code yX9_keepsAside cX9_keepsAside 2 none, Cond.fieldLink RX9 13 "LabelApplicatorModel" "aside" "[I", Cond.fieldLink RX9 7 "LabelApplicatorModel" "m" "[I", Cond.fieldLink RX9 24 "LabelApplicatorModel" "pitch" "F", Cond.fieldLink RX9 149 "LabelApplicatorModel" "pitchAside" "F", Cond.methodLink RX9 155 yX9_looksAhead, Cond.instanceMethod yX9_looksAhead, Cond.selects RX9 yX9_looksAhead yX9_looksAhead, Cond.code yX9_looksAhead cX9_looksAhead 8 (some .int), Cond.methodLink RX9 146 yX9_cycles, Cond.instanceMethod yX9_cycles, Cond.selects RX9 yX9_cycles yX9_cycles, Cond.code yX9_cycles cX9_cycles 4 none]
def wsX9_foretell_r2 : List Cond := [Cond.fieldLink RX9 129 "LabelApplicatorModel" "end" "I", Cond.fieldLink RX9 116 "LabelApplicatorModel" "travel" "I", Cond.constantFloat RX9 142 (1090519040), Cond.fieldLink RX9 122 "LabelApplicatorModel" "labels" "I", Cond.fieldLink RX9 125 "LabelApplicatorModel" "hasSplice" "Z", Cond.fieldLink RX9 119 "LabelApplicatorModel" "taken" "I", Cond.methodLink RX9 132 yX9_follows, Cond.instanceMethod yX9_follows, Cond.selects RX9 yX9_follows yX9_follows, Cond.code yX9_follows cX9_follows 4 none, Cond.methodLink RX9 135 yX9_feeds, Cond.instanceMethod yX9_feeds, Cond.selects RX9 yX9_feeds yX9_feeds, Cond.code yX9_feeds cX9_feeds 4 none, Cond.methodLink RX9 138 yX9_reasonAt, Cond.instanceMethod yX9_reasonAt, Cond.selects RX9 yX9_reasonAt yX9_reasonAt, Cond.code yX9_reasonAt cX9_reasonAt 4 (some .int), Cond.methodLink RX9 143 yX9_turns, Cond.instanceMethod yX9_turns, Cond.selects RX9 yX9_turns yX9_turns, Cond.code yX9_turns cX9_turns 3 none, Cond.methodLink RX9 113 yX9_leaves, Cond.instanceMethod yX9_leaves]
def wsX9_foretell_r3 : List Cond := [Cond.selects RX9 yX9_leaves yX9_leaves, Cond.code yX9_leaves cX9_leaves 2 none, Cond.methodLink RX9 159 yX9_returns, Cond.instanceMethod yX9_returns, Cond.selects RX9 yX9_returns yX9_returns, Cond.code yX9_returns cX9_returns 2 none]
def wsX9_foretell : List Cond := .code yX9_foretell cX9_foretell 4 (some .int) :: ((wsX9_foretell_r1 ++ (wsX9_foretell_r2 ++ wsX9_foretell_r3)) ++ wsX90)
def wsX9_best_r1 : List Cond := [Cond.fieldLink RX9 7 "LabelApplicatorModel" "m" "[I", Cond.methodLink RX9 43 yX9_in, Cond.static yX9_in, Cond.initialized RX9, Cond.code yX9_in cX9_in 3 (some .boolean), Cond.methodLink RX9 100 yX9_least, Cond.static yX9_least, Cond.code yX9_least cX9_least 1 (some .int), Cond.methodLink RX9 103 yX9_most, Cond.static yX9_most, Cond.code yX9_most cX9_most 1 (some .int), Cond.methodLink RX9 162 yX9_ahead, Cond.instanceMethod yX9_ahead, Cond.selects RX9 yX9_ahead yX9_ahead, Cond.code yX9_ahead cX9_ahead 5 (some .int), Cond.methodLink RX9 152 yX9_keepsAside, Cond.instanceMethod yX9_keepsAside, Cond.selects RX9 yX9_keepsAside yX9_keepsAside, Cond.code yX9_keepsAside cX9_keepsAside 2 none, Cond.fieldLink RX9 13 "LabelApplicatorModel" "aside" "[I", Cond.fieldLink RX9 24 "LabelApplicatorModel" "pitch" "F", Cond.fieldLink RX9 149 "LabelApplicatorModel" "pitchAside" "F", Cond.methodLink RX9 155 yX9_looksAhead, Cond.instanceMethod yX9_looksAhead]
def wsX9_best_r2 : List Cond := [Cond.selects RX9 yX9_looksAhead yX9_looksAhead, Cond.code yX9_looksAhead cX9_looksAhead 8 (some .int), Cond.methodLink RX9 146 yX9_cycles, Cond.instanceMethod yX9_cycles, Cond.selects RX9 yX9_cycles yX9_cycles, Cond.code yX9_cycles cX9_cycles 4 none, Cond.fieldLink RX9 129 "LabelApplicatorModel" "end" "I", Cond.fieldLink RX9 116 "LabelApplicatorModel" "travel" "I", Cond.constantFloat RX9 142 (1090519040), Cond.fieldLink RX9 122 "LabelApplicatorModel" "labels" "I", Cond.fieldLink RX9 125 "LabelApplicatorModel" "hasSplice" "Z", Cond.fieldLink RX9 119 "LabelApplicatorModel" "taken" "I", Cond.methodLink RX9 132 yX9_follows, Cond.instanceMethod yX9_follows, Cond.selects RX9 yX9_follows yX9_follows, Cond.code yX9_follows cX9_follows 4 none, Cond.methodLink RX9 135 yX9_feeds, Cond.instanceMethod yX9_feeds, Cond.selects RX9 yX9_feeds yX9_feeds, Cond.code yX9_feeds cX9_feeds 4 none, Cond.methodLink RX9 138 yX9_reasonAt, Cond.instanceMethod yX9_reasonAt, Cond.selects RX9 yX9_reasonAt yX9_reasonAt, Cond.code yX9_reasonAt cX9_reasonAt 4 (some .int)]
def wsX9_best_r3 : List Cond := [Cond.methodLink RX9 143 yX9_turns, Cond.instanceMethod yX9_turns, Cond.selects RX9 yX9_turns yX9_turns, Cond.code yX9_turns cX9_turns 3 none, Cond.methodLink RX9 113 yX9_leaves, Cond.instanceMethod yX9_leaves, Cond.selects RX9 yX9_leaves yX9_leaves, Cond.code yX9_leaves cX9_leaves 2 none, Cond.methodLink RX9 159 yX9_returns, Cond.instanceMethod yX9_returns, Cond.selects RX9 yX9_returns yX9_returns, Cond.code yX9_returns cX9_returns 2 none]
def wsX9_best : List Cond := .code yX9_best cX9_best 9 (some .int) :: ((wsX9_best_r1 ++ (wsX9_best_r2 ++ wsX9_best_r3)) ++ wsX90)
def wsX9_save : List Cond := .code yX9_save cX9_save 3 (some .int) :: ([.fieldLink RX9 16 "LabelApplicatorModel" "slots" "[I", .fieldLink RX9 7 "LabelApplicatorModel" "m" "[I", .fieldLink RX9 24 "LabelApplicatorModel" "pitch" "F", .fieldLink RX9 165 "LabelApplicatorModel" "pitchFirst" "F", .fieldLink RX9 168 "LabelApplicatorModel" "pitchSecond" "F", .fieldLink RX9 19 "LabelApplicatorModel" "isSaved" "[Z", .methodLink RX9 43 yX9_in, .static yX9_in, .initialized RX9, .code yX9_in cX9_in 3 (some .boolean)] ++ wsX90)
def wsX9_restore : List Cond := .code yX9_restore cX9_restore 3 (some .int) :: ([.fieldLink RX9 19 "LabelApplicatorModel" "isSaved" "[Z", .fieldLink RX9 7 "LabelApplicatorModel" "m" "[I", .fieldLink RX9 16 "LabelApplicatorModel" "slots" "[I", .fieldLink RX9 165 "LabelApplicatorModel" "pitchFirst" "F", .fieldLink RX9 168 "LabelApplicatorModel" "pitchSecond" "F", .fieldLink RX9 24 "LabelApplicatorModel" "pitch" "F", .methodLink RX9 43 yX9_in, .static yX9_in, .initialized RX9, .code yX9_in cX9_in 3 (some .boolean)] ++ wsX90)
def wsX9_labelsOnWeb : List Cond := .code yX9_labelsOnWeb cX9_labelsOnWeb 3 (some .int) :: ([.fieldLink RX9 7 "LabelApplicatorModel" "m" "[I"] ++ wsX90)
def wsX9_productsInRing : List Cond := .code yX9_productsInRing cX9_productsInRing 3 (some .int) :: ([.fieldLink RX9 7 "LabelApplicatorModel" "m" "[I"] ++ wsX90)
def wsX9_number : List Cond := .code yX9_number cX9_number 2 (some .int) :: ([.fieldLink RX9 7 "LabelApplicatorModel" "m" "[I", .fieldLink RX9 47 "LabelApplicatorModel" "textLength" "I", .methodLink RX9 171 yX9_labelsOnWeb, .instanceMethod yX9_labelsOnWeb, .selects RX9 yX9_labelsOnWeb yX9_labelsOnWeb, .initialized RX9, .code yX9_labelsOnWeb cX9_labelsOnWeb 3 (some .int), .methodLink RX9 97 yX9_lengthBefore, .instanceMethod yX9_lengthBefore, .selects RX9 yX9_lengthBefore yX9_lengthBefore, .code yX9_lengthBefore cX9_lengthBefore 4 (some .int), .methodLink RX9 174 yX9_productsInRing, .instanceMethod yX9_productsInRing, .selects RX9 yX9_productsInRing yX9_productsInRing, .code yX9_productsInRing cX9_productsInRing 3 (some .int)] ++ wsX90)
def wsX9_count : List Cond := .code yX9_count cX9_count 2 (some .int) :: ([.methodLink RX9 43 yX9_in, .static yX9_in, .initialized RX9, .code yX9_in cX9_in 3 (some .boolean), .methodLink RX9 177 yX9_number, .instanceMethod yX9_number, .selects RX9 yX9_number yX9_number, .code yX9_number cX9_number 2 (some .int), .fieldLink RX9 7 "LabelApplicatorModel" "m" "[I", .fieldLink RX9 47 "LabelApplicatorModel" "textLength" "I", .methodLink RX9 171 yX9_labelsOnWeb, .instanceMethod yX9_labelsOnWeb, .selects RX9 yX9_labelsOnWeb yX9_labelsOnWeb, .code yX9_labelsOnWeb cX9_labelsOnWeb 3 (some .int), .methodLink RX9 97 yX9_lengthBefore, .instanceMethod yX9_lengthBefore, .selects RX9 yX9_lengthBefore yX9_lengthBefore, .code yX9_lengthBefore cX9_lengthBefore 4 (some .int), .methodLink RX9 174 yX9_productsInRing, .instanceMethod yX9_productsInRing, .selects RX9 yX9_productsInRing yX9_productsInRing, .code yX9_productsInRing cX9_productsInRing 3 (some .int)] ++ wsX90)
def wsX9_mixes : List Cond := .code yX9_mixes cX9_mixes 3 none :: ([.constantLong RX9 180 (31), .fieldLink RX9 182 "LabelApplicatorModel" "hash" "J"] ++ wsX90)
def wsX9_digest_r1 : List Cond := [Cond.constantLong RX9 186 (743), Cond.fieldLink RX9 182 "LabelApplicatorModel" "hash" "J", Cond.fieldLink RX9 7 "LabelApplicatorModel" "m" "[I", Cond.fieldLink RX9 47 "LabelApplicatorModel" "textLength" "I", Cond.fieldLink RX9 28 "LabelApplicatorModel" "text" "[I", Cond.methodLink RX9 177 yX9_number, Cond.instanceMethod yX9_number, Cond.selects RX9 yX9_number yX9_number, Cond.initialized RX9, Cond.code yX9_number cX9_number 2 (some .int), Cond.methodLink RX9 171 yX9_labelsOnWeb, Cond.instanceMethod yX9_labelsOnWeb, Cond.selects RX9 yX9_labelsOnWeb yX9_labelsOnWeb, Cond.code yX9_labelsOnWeb cX9_labelsOnWeb 3 (some .int), Cond.methodLink RX9 97 yX9_lengthBefore, Cond.instanceMethod yX9_lengthBefore, Cond.selects RX9 yX9_lengthBefore yX9_lengthBefore, Cond.code yX9_lengthBefore cX9_lengthBefore 4 (some .int), Cond.methodLink RX9 174 yX9_productsInRing, Cond.instanceMethod yX9_productsInRing, Cond.selects RX9 yX9_productsInRing yX9_productsInRing, Cond.code yX9_productsInRing cX9_productsInRing 3 (some .int), Cond.methodLink RX9 188 yX9_mixes, Cond.instanceMethod yX9_mixes]
def wsX9_digest_r2 : List Cond := [Cond.selects RX9 yX9_mixes yX9_mixes, Cond.code yX9_mixes cX9_mixes 3 none, Cond.constantLong RX9 180 (31), Cond.methodLink RX9 192 yX9_item, Cond.instanceMethod yX9_item, Cond.selects RX9 yX9_item yX9_item, Cond.code yX9_item cX9_item 3 (some .int), Cond.methodLink RX9 43 yX9_in, Cond.static yX9_in, Cond.code yX9_in cX9_in 3 (some .boolean), Cond.methodLink RX9 196 yX9_pitch, Cond.instanceMethod yX9_pitch, Cond.selects RX9 yX9_pitch yX9_pitch, Cond.code yX9_pitch cX9_pitch 1 (some .int), Cond.fieldLink RX9 24 "LabelApplicatorModel" "pitch" "F", Cond.methodLink RX9 106 yJxf58ca_floatToIntBits_5c35a, Cond.static yJxf58ca_floatToIntBits_5c35a, Cond.initialized RJxf58ca, Cond.code yJxf58ca_floatToIntBits_5c35a cJxf58ca_floatToIntBits_5c35a 1 (some .int), Cond.methodLink RJxf58ca 74 ⟨"java/lang/Float", "floatToRawIntBits", "(F)I"⟩, Cond.native ⟨"java/lang/Float", "floatToRawIntBits", "(F)I"⟩, Cond.static ⟨"java/lang/Float", "floatToRawIntBits", "(F)I"⟩, Cond.initialized "java/lang/Float", Cond.constant RJxf58ca 77 (2143289344)]
def wsX9_digest_r3 : List Cond := [Cond.methodLink RJxf58ca 59 yJxf58ca_isNaN_12338, Cond.static yJxf58ca_isNaN_12338, Cond.code yJxf58ca_isNaN_12338 cJxf58ca_isNaN_12338 1 (some .boolean), Cond.methodLink RX9 198 yX9_foretell, Cond.instanceMethod yX9_foretell, Cond.selects RX9 yX9_foretell yX9_foretell, Cond.code yX9_foretell cX9_foretell 4 (some .int), Cond.methodLink RX9 162 yX9_ahead, Cond.instanceMethod yX9_ahead, Cond.selects RX9 yX9_ahead yX9_ahead, Cond.code yX9_ahead cX9_ahead 5 (some .int), Cond.methodLink RX9 152 yX9_keepsAside, Cond.instanceMethod yX9_keepsAside, Cond.selects RX9 yX9_keepsAside yX9_keepsAside, Cond.code yX9_keepsAside cX9_keepsAside 2 none, Cond.fieldLink RX9 13 "LabelApplicatorModel" "aside" "[I", Cond.fieldLink RX9 149 "LabelApplicatorModel" "pitchAside" "F", Cond.methodLink RX9 155 yX9_looksAhead, Cond.instanceMethod yX9_looksAhead, Cond.selects RX9 yX9_looksAhead yX9_looksAhead, Cond.code yX9_looksAhead cX9_looksAhead 8 (some .int), Cond.methodLink RX9 146 yX9_cycles, Cond.instanceMethod yX9_cycles, Cond.selects RX9 yX9_cycles yX9_cycles]
def wsX9_digest_r4 : List Cond := [Cond.code yX9_cycles cX9_cycles 4 none, Cond.fieldLink RX9 129 "LabelApplicatorModel" "end" "I", Cond.fieldLink RX9 116 "LabelApplicatorModel" "travel" "I", Cond.constantFloat RX9 142 (1090519040), Cond.fieldLink RX9 122 "LabelApplicatorModel" "labels" "I", Cond.fieldLink RX9 125 "LabelApplicatorModel" "hasSplice" "Z", Cond.fieldLink RX9 119 "LabelApplicatorModel" "taken" "I", Cond.methodLink RX9 132 yX9_follows, Cond.instanceMethod yX9_follows, Cond.selects RX9 yX9_follows yX9_follows, Cond.code yX9_follows cX9_follows 4 none, Cond.methodLink RX9 135 yX9_feeds, Cond.instanceMethod yX9_feeds, Cond.selects RX9 yX9_feeds yX9_feeds, Cond.code yX9_feeds cX9_feeds 4 none, Cond.methodLink RX9 138 yX9_reasonAt, Cond.instanceMethod yX9_reasonAt, Cond.selects RX9 yX9_reasonAt yX9_reasonAt, Cond.code yX9_reasonAt cX9_reasonAt 4 (some .int), Cond.methodLink RX9 143 yX9_turns, Cond.instanceMethod yX9_turns, Cond.selects RX9 yX9_turns yX9_turns, Cond.code yX9_turns cX9_turns 3 none, Cond.methodLink RX9 113 yX9_leaves]
def wsX9_digest_r5 : List Cond := [Cond.instanceMethod yX9_leaves, Cond.selects RX9 yX9_leaves yX9_leaves, Cond.code yX9_leaves cX9_leaves 2 none, Cond.methodLink RX9 159 yX9_returns, Cond.instanceMethod yX9_returns, Cond.selects RX9 yX9_returns yX9_returns, Cond.code yX9_returns cX9_returns 2 none]
def wsX9_digest : List Cond := .code yX9_digest cX9_digest 2 (some .long) :: ((wsX9_digest_r1 ++ (wsX9_digest_r2 ++ (wsX9_digest_r3 ++ (wsX9_digest_r4 ++ wsX9_digest_r5)))) ++ wsX90)
def wsJ9_abs_0f7a4 : List Cond := .code yJ9_abs_0f7a4 cJ9_abs_0f7a4 1 (some .int) :: ([])
def wsJ9_max_7cf53 : List Cond := .code yJ9_max_7cf53 cJ9_max_7cf53 2 (some .int) :: ([])
def wsJ9_min_7cf53 : List Cond := .code yJ9_min_7cf53 cJ9_min_7cf53 2 (some .int) :: ([])
def wsL_law_r1 : List Cond := [Cond.classLink RL 7 RX8, Cond.instantiable RX8 6, Cond.initialized RX8, Cond.classLink RL 10 RX9, Cond.instantiable RX9 24, Cond.initialized RX9, Cond.methodLink RL 9 yX8_init, Cond.instanceMethod yX8_init, Cond.code yX8_init cX8_init 1 none, Cond.methodLink RX8 1 objectInit, Cond.instanceMethod objectInit, Cond.code objectInit ⟨#[0xb1]⟩ 1 none, Cond.classLink RX8 7 RX7, Cond.instantiable RX7 2, Cond.initialized RX7, Cond.fieldLink RX8 10 "LabelApplicator" "text" "LLabelApplicator$Text;", Cond.classLink RX8 16 RX3, Cond.instantiable RX3 8, Cond.initialized RX3, Cond.fieldLink RX8 21 "LabelApplicator" "reader" "LLabelApplicator$Reader;", Cond.classLink RX8 25 RX2, Cond.instantiable RX2 16, Cond.initialized RX2, Cond.fieldLink RX8 28 "LabelApplicator" "now" "LLabelApplicator$Machine;"]
def wsL_law_r2 : List Cond := [Cond.fieldLink RX8 32 "LabelApplicator" "trial" "LLabelApplicator$Machine;", Cond.classLink RX8 35 RX6, Cond.instantiable RX6 2, Cond.initialized RX6, Cond.fieldLink RX8 38 "LabelApplicator" "firstSlot" "LLabelApplicator$Slot;", Cond.fieldLink RX8 42 "LabelApplicator" "secondSlot" "LLabelApplicator$Slot;", Cond.methodLink RX8 9 yX7_init, Cond.instanceMethod yX7_init, Cond.code yX7_init cX7_init 1 none, Cond.methodLink RX7 3 objectInit, Cond.arrayClass .byte, Cond.fieldLink RX7 9 "LabelApplicator$Text" "bytes" "[B", Cond.methodLink RX8 18 yX3_init, Cond.instanceMethod yX3_init, Cond.code yX3_init cX3_init 2 none, Cond.methodLink RX3 3 objectInit, Cond.fieldLink RX3 9 "LabelApplicator$Reader" "text" "LLabelApplicator$Text;", Cond.classLink RX3 15 RX1, Cond.instantiable RX1 4, Cond.initialized RX1, Cond.fieldLink RX3 18 "LabelApplicator$Reader" "items" "LLabelApplicator$Items;", Cond.arrayClass .int, Cond.fieldLink RX3 22 "LabelApplicator$Reader" "firstInside" "[I", Cond.fieldLink RX3 26 "LabelApplicator$Reader" "timesInside" "[I"]
def wsL_law_r3 : List Cond := [Cond.methodLink RX3 17 yX1_init, Cond.instanceMethod yX1_init, Cond.code yX1_init cX1_init 1 none, Cond.methodLink RX1 3 objectInit, Cond.fieldLink RX1 9 "LabelApplicator$Items" "kinds" "[I", Cond.fieldLink RX1 15 "LabelApplicator$Items" "lengths" "[I", Cond.methodLink RX8 27 yX2_init, Cond.instanceMethod yX2_init, Cond.code yX2_init cX2_init 1 none, Cond.methodLink RX2 3 objectInit, Cond.classLink RX2 9 RX1, Cond.fieldLink RX2 12 "LabelApplicator$Machine" "web" "LLabelApplicator$Items;", Cond.classLink RX2 18 RX5, Cond.instantiable RX5 1, Cond.initialized RX5, Cond.fieldLink RX2 21 "LabelApplicator$Machine" "settings" "LLabelApplicator$Settings;", Cond.classLink RX2 25 RX4, Cond.instantiable RX4 2, Cond.initialized RX4, Cond.fieldLink RX2 28 "LabelApplicator$Machine" "ring" "LLabelApplicator$Ring;", Cond.classLink RX2 32 RX0, Cond.instantiable RX0 8, Cond.initialized RX0, Cond.fieldLink RX2 35 "LabelApplicator$Machine" "cycle" "LLabelApplicator$Cycle;"]
def wsL_law_r4 : List Cond := [Cond.fieldLink RX2 39 "LabelApplicator$Machine" "cameByReason" "[I", Cond.constantFloat RX2 43 (1112014848), Cond.fieldLink RX2 44 "LabelApplicator$Machine" "pitch" "F", Cond.methodLink RX2 11 yX1_init, Cond.methodLink RX2 20 yX5_init, Cond.instanceMethod yX5_init, Cond.code yX5_init cX5_init 1 none, Cond.methodLink RX5 3 objectInit, Cond.fieldLink RX5 9 "LabelApplicator$Settings" "values" "[I", Cond.methodLink RX2 27 yX4_init, Cond.instanceMethod yX4_init, Cond.code yX4_init cX4_init 1 none, Cond.methodLink RX4 3 objectInit, Cond.fieldLink RX4 9 "LabelApplicator$Ring" "reasons" "[I", Cond.methodLink RX4 15 yX4_makeEmpty, Cond.instanceMethod yX4_makeEmpty, Cond.selects RX4 yX4_makeEmpty yX4_makeEmpty, Cond.code yX4_makeEmpty cX4_makeEmpty 3 none, Cond.fieldLink RX4 19 "LabelApplicator$Ring" "stations" "I", Cond.instanceMethod yX0_init, Cond.code yX0_init cX0_init 1 none, Cond.methodLink RX0 3 objectInit, Cond.methodLink RX8 37 yX6_init, Cond.instanceMethod yX6_init]
def wsL_law_r5 : List Cond := [Cond.code yX6_init cX6_init 1 none, Cond.methodLink RX6 1 objectInit, Cond.classLink RX6 7 RX2, Cond.fieldLink RX6 10 "LabelApplicator$Slot" "machine" "LLabelApplicator$Machine;", Cond.methodLink RX6 9 yX2_init, Cond.methodLink RL 12 yX9_init, Cond.instanceMethod yX9_init, Cond.code yX9_init cX9_init 2 none, Cond.methodLink RX9 1 objectInit, Cond.fieldLink RX9 7 "LabelApplicatorModel" "m" "[I", Cond.fieldLink RX9 13 "LabelApplicatorModel" "aside" "[I", Cond.fieldLink RX9 16 "LabelApplicatorModel" "slots" "[I", Cond.arrayClass .boolean, Cond.fieldLink RX9 19 "LabelApplicatorModel" "isSaved" "[Z", Cond.constantFloat RX9 23 (1112014848), Cond.fieldLink RX9 24 "LabelApplicatorModel" "pitch" "F", Cond.fieldLink RX9 28 "LabelApplicatorModel" "text" "[I", Cond.fieldLink RX9 31 "LabelApplicatorModel" "kind" "[I", Cond.fieldLink RX9 34 "LabelApplicatorModel" "length" "[I", Cond.fieldLink RX9 37 "LabelApplicatorModel" "times" "[I", Cond.fieldLink RX9 40 "LabelApplicatorModel" "begin" "[I", Cond.methodLink RL 13 yX8_type, Cond.instanceMethod yX8_type, Cond.selects RX8 yX8_type yX8_type]
def wsL_law_r6 : List Cond := [Cond.code yX8_type cX8_type 2 (some .int), Cond.fieldLink RX8 53 "LabelApplicator$Text" "length" "I", Cond.methodLink RX8 45 yX8_isWithin, Cond.static yX8_isWithin, Cond.code yX8_isWithin cX8_isWithin 3 (some .boolean), Cond.methodLink RX8 49 yX7_append, Cond.instanceMethod yX7_append, Cond.selects RX7 yX7_append yX7_append, Cond.code yX7_append cX7_append 2 (some .boolean), Cond.fieldLink RX7 15 "LabelApplicator$Text" "length" "I", Cond.methodLink RL 17 yX9_type, Cond.instanceMethod yX9_type, Cond.selects RX9 yX9_type yX9_type, Cond.code yX9_type cX9_type 2 (some .int), Cond.fieldLink RX9 47 "LabelApplicatorModel" "textLength" "I", Cond.methodLink RX9 43 yX9_in, Cond.static yX9_in, Cond.code yX9_in cX9_in 3 (some .boolean), Cond.methodLink RL 18 yX8_clear, Cond.instanceMethod yX8_clear, Cond.selects RX8 yX8_clear yX8_clear, Cond.code yX8_clear cX8_clear 2 (some .int), Cond.methodLink RL 22 yX9_clear, Cond.instanceMethod yX9_clear]
def wsL_law_r7 : List Cond := [Cond.selects RX9 yX9_clear yX9_clear, Cond.code yX9_clear cX9_clear 2 (some .int), Cond.methodLink RL 23 yX8_load, Cond.instanceMethod yX8_load, Cond.selects RX8 yX8_load yX8_load, Cond.code yX8_load cX8_load 1 (some .int), Cond.fieldLink RX8 60 "LabelApplicator$Reader" "fault" "I", Cond.fieldLink RX8 63 "LabelApplicator$Reader" "tooMany" "Z", Cond.fieldLink RX8 67 "LabelApplicator$Machine" "web" "LLabelApplicator$Items;", Cond.fieldLink RX8 77 "LabelApplicator$Reader" "items" "LLabelApplicator$Items;", Cond.methodLink RX8 57 yX3_read, Cond.instanceMethod yX3_read, Cond.selects RX3 yX3_read yX3_read, Cond.code yX3_read cX3_read 2 none, Cond.fieldLink RX3 32 "LabelApplicator$Reader" "tooMany" "Z", Cond.fieldLink RX3 36 "LabelApplicator$Reader" "fault" "I", Cond.fieldLink RX3 40 "LabelApplicator$Reader" "depth" "I", Cond.fieldLink RX3 43 "LabelApplicator$Reader" "at" "I", Cond.fieldLink RX3 49 "LabelApplicator$Text" "length" "I", Cond.methodLink RX3 29 yX1_removeAll, Cond.instanceMethod yX1_removeAll, Cond.selects RX1 yX1_removeAll yX1_removeAll, Cond.code yX1_removeAll cX1_removeAll 1 none, Cond.fieldLink RX1 22 "LabelApplicator$Items" "front" "I"]
def wsL_law_r8 : List Cond := [Cond.fieldLink RX1 18 "LabelApplicator$Items" "end" "I", Cond.methodLink RX3 46 yX3_skipBlanks, Cond.instanceMethod yX3_skipBlanks, Cond.selects RX3 yX3_skipBlanks yX3_skipBlanks, Cond.code yX3_skipBlanks cX3_skipBlanks 1 none, Cond.methodLink RX3 54 yX7_byteAt, Cond.instanceMethod yX7_byteAt, Cond.selects RX7 yX7_byteAt yX7_byteAt, Cond.code yX7_byteAt cX7_byteAt 2 (some .int), Cond.methodLink RX3 58 yX3_closeParenthesis, Cond.instanceMethod yX3_closeParenthesis, Cond.selects RX3 yX3_closeParenthesis yX3_closeParenthesis, Cond.code yX3_closeParenthesis cX3_closeParenthesis 2 none, Cond.methodLink RX3 91 yX3_repeat, Cond.instanceMethod yX3_repeat, Cond.selects RX3 yX3_repeat yX3_repeat, Cond.code yX3_repeat cX3_repeat 5 none, Cond.methodLink RX3 84 yX1_size, Cond.instanceMethod yX1_size, Cond.selects RX1 yX1_size yX1_size, Cond.code yX1_size cX1_size 1 (some .int), Cond.methodLink RX3 95 yX1_kindOf, Cond.instanceMethod yX1_kindOf, Cond.selects RX1 yX1_kindOf yX1_kindOf]
def wsL_law_r9 : List Cond := [Cond.code yX1_kindOf cX1_kindOf 3 (some .int), Cond.methodLink RX3 98 yX1_lengthOf, Cond.instanceMethod yX1_lengthOf, Cond.selects RX1 yX1_lengthOf yX1_lengthOf, Cond.code yX1_lengthOf cX1_lengthOf 3 (some .int), Cond.methodLink RX3 87 yX1_append, Cond.instanceMethod yX1_append, Cond.selects RX1 yX1_append yX1_append, Cond.code yX1_append cX1_append 3 (some .boolean), Cond.methodLink RX3 61 yX3_readPart, Cond.instanceMethod yX3_readPart, Cond.selects RX3 yX3_readPart yX3_readPart, Cond.code yX3_readPart cX3_readPart 2 none, Cond.methodLink RX3 64 yX3_digitAt, Cond.instanceMethod yX3_digitAt, Cond.selects RX3 yX3_digitAt yX3_digitAt, Cond.code yX3_digitAt cX3_digitAt 3 (some .int), Cond.methodLink RX3 67 yX3_readTimes, Cond.instanceMethod yX3_readTimes, Cond.selects RX3 yX3_readTimes yX3_readTimes, Cond.code yX3_readTimes cX3_readTimes 2 (some .int), Cond.methodLink RX3 78 yX3_readNumber, Cond.instanceMethod yX3_readNumber, Cond.selects RX3 yX3_readNumber yX3_readNumber]
def wsL_law_r10 : List Cond := [Cond.code yX3_readNumber cX3_readNumber 4 (some .int), Cond.methodLink RX3 71 yX3_openParenthesis, Cond.instanceMethod yX3_openParenthesis, Cond.selects RX3 yX3_openParenthesis yX3_openParenthesis, Cond.code yX3_openParenthesis cX3_openParenthesis 2 none, Cond.methodLink RX3 75 yX3_readItem, Cond.instanceMethod yX3_readItem, Cond.selects RX3 yX3_readItem yX3_readItem, Cond.code yX3_readItem cX3_readItem 5 none, Cond.methodLink RX3 81 yX3_kindNamed, Cond.static yX3_kindNamed, Cond.code yX3_kindNamed cX3_kindNamed 1 (some .int), Cond.methodLink RX8 71 yX1_size, Cond.methodLink RX8 80 yX1_appendAll, Cond.instanceMethod yX1_appendAll, Cond.selects RX1 yX1_appendAll yX1_appendAll, Cond.code yX1_appendAll cX1_appendAll 3 none, Cond.methodLink RX1 36 yX1_closeUp, Cond.instanceMethod yX1_closeUp, Cond.selects RX1 yX1_closeUp yX1_closeUp, Cond.code yX1_closeUp cX1_closeUp 4 none, Cond.methodLink RX1 29 yX1_size, Cond.methodLink RX1 43 yX1_removeAll, Cond.methodLink RX1 33 yX1_kindOf]
def wsL_law_r11 : List Cond := [Cond.methodLink RX1 25 yX1_lengthOf, Cond.methodLink RX1 39 yX1_append, Cond.methodLink RL 26 yX9_load, Cond.instanceMethod yX9_load, Cond.selects RX9 yX9_load yX9_load, Cond.code yX9_load cX9_load 2 (some .int), Cond.fieldLink RX9 61 "LabelApplicatorModel" "fault" "I", Cond.fieldLink RX9 68 "LabelApplicatorModel" "items" "I", Cond.methodLink RX9 94 yX9_reads, Cond.instanceMethod yX9_reads, Cond.selects RX9 yX9_reads yX9_reads, Cond.code yX9_reads cX9_reads 1 none, Cond.fieldLink RX9 51 "LabelApplicatorModel" "at" "I", Cond.fieldLink RX9 88 "LabelApplicatorModel" "depth" "I", Cond.methodLink RX9 58 yX9_skips, Cond.instanceMethod yX9_skips, Cond.selects RX9 yX9_skips yX9_skips, Cond.code yX9_skips cX9_skips 1 none, Cond.methodLink RX9 54 yX9_next, Cond.instanceMethod yX9_next, Cond.selects RX9 yX9_next yX9_next, Cond.code yX9_next cX9_next 1 (some .int), Cond.methodLink RX9 75 yX9_passes, Cond.instanceMethod yX9_passes]
def wsL_law_r12 : List Cond := [Cond.selects RX9 yX9_passes yX9_passes, Cond.code yX9_passes cX9_passes 1 none, Cond.methodLink RX9 81 yX9_repeats, Cond.instanceMethod yX9_repeats, Cond.selects RX9 yX9_repeats yX9_repeats, Cond.code yX9_repeats cX9_repeats 5 none, Cond.methodLink RX9 91 yX9_readsPart, Cond.instanceMethod yX9_readsPart, Cond.selects RX9 yX9_readsPart yX9_readsPart, Cond.code yX9_readsPart cX9_readsPart 2 none, Cond.methodLink RX9 78 yX9_readsNumber, Cond.instanceMethod yX9_readsNumber, Cond.selects RX9 yX9_readsNumber yX9_readsNumber, Cond.code yX9_readsNumber cX9_readsNumber 4 (some .int), Cond.methodLink RX9 64 yX9_fails, Cond.instanceMethod yX9_fails, Cond.selects RX9 yX9_fails yX9_fails, Cond.code yX9_fails cX9_fails 2 none, Cond.methodLink RX9 71 yX9_kindOf, Cond.static yX9_kindOf, Cond.code yX9_kindOf cX9_kindOf 1 (some .int), Cond.methodLink RX9 85 yX9_readsItem, Cond.instanceMethod yX9_readsItem, Cond.selects RX9 yX9_readsItem yX9_readsItem]
def wsL_law_r13 : List Cond := [Cond.code yX9_readsItem cX9_readsItem 5 none, Cond.methodLink RL 27 yX8_unload, Cond.instanceMethod yX8_unload, Cond.selects RX8 yX8_unload yX8_unload, Cond.code yX8_unload cX8_unload 2 (some .int), Cond.methodLink RX8 84 yX1_removeAll, Cond.methodLink RL 30 yX9_unload, Cond.instanceMethod yX9_unload, Cond.selects RX9 yX9_unload yX9_unload, Cond.code yX9_unload cX9_unload 2 (some .int), Cond.methodLink RL 31 yX8_item, Cond.instanceMethod yX8_item, Cond.selects RX8 yX8_item yX8_item, Cond.code yX8_item cX8_item 3 (some .int), Cond.methodLink RX8 87 yX1_kindOf, Cond.methodLink RX8 91 yX1_lengthOf, Cond.methodLink RX8 94 yX1_lengthAhead, Cond.instanceMethod yX1_lengthAhead, Cond.selects RX1 yX1_lengthAhead yX1_lengthAhead, Cond.code yX1_lengthAhead cX1_lengthAhead 4 (some .int), Cond.methodLink RL 35 yX9_item, Cond.instanceMethod yX9_item, Cond.selects RX9 yX9_item yX9_item, Cond.code yX9_item cX9_item 3 (some .int)]
def wsL_law_r14 : List Cond := [Cond.methodLink RX9 97 yX9_lengthBefore, Cond.instanceMethod yX9_lengthBefore, Cond.selects RX9 yX9_lengthBefore yX9_lengthBefore, Cond.code yX9_lengthBefore cX9_lengthBefore 4 (some .int), Cond.methodLink RL 36 yX8_set, Cond.instanceMethod yX8_set, Cond.selects RX8 yX8_set yX8_set, Cond.code yX8_set cX8_set 4 (some .int), Cond.fieldLink RX8 97 "LabelApplicator$Machine" "settings" "LLabelApplicator$Settings;", Cond.methodLink RX8 101 yX5_allows, Cond.instanceMethod yX5_allows, Cond.selects RX5 yX5_allows yX5_allows, Cond.code yX5_allows cX5_allows 3 (some .boolean), Cond.methodLink RX5 19 yX5_least, Cond.instanceMethod yX5_least, Cond.selects RX5 yX5_least yX5_least, Cond.code yX5_least cX5_least 2 (some .int), Cond.fieldLink RX5 26 "LabelApplicator$Settings" "LEAST" "[I", Cond.methodLink RX5 23 yX5_greatest, Cond.instanceMethod yX5_greatest, Cond.selects RX5 yX5_greatest yX5_greatest, Cond.code yX5_greatest cX5_greatest 2 (some .int), Cond.fieldLink RX5 29 "LabelApplicator$Settings" "GREATEST" "[I", Cond.methodLink RX8 107 yX5_value]
def wsL_law_r15 : List Cond := [Cond.instanceMethod yX5_value, Cond.selects RX5 yX5_value yX5_value, Cond.code yX5_value cX5_value 2 (some .int), Cond.methodLink RX8 110 yX5_put, Cond.instanceMethod yX5_put, Cond.selects RX5 yX5_put yX5_put, Cond.code yX5_put cX5_put 3 none, Cond.methodLink RL 39 yX9_set, Cond.instanceMethod yX9_set, Cond.selects RX9 yX9_set yX9_set, Cond.code yX9_set cX9_set 4 (some .int), Cond.methodLink RX9 100 yX9_least, Cond.static yX9_least, Cond.code yX9_least cX9_least 1 (some .int), Cond.methodLink RX9 103 yX9_most, Cond.static yX9_most, Cond.code yX9_most cX9_most 1 (some .int), Cond.methodLink RL 40 yX8_setPitch, Cond.instanceMethod yX8_setPitch, Cond.selects RX8 yX8_setPitch yX8_setPitch, Cond.code yX8_setPitch cX8_setPitch 3 (some .int), Cond.fieldLink RX8 114 "LabelApplicator$Machine" "pitch" "F", Cond.constantFloat RX8 122 (1092616192), Cond.methodLink RX8 118 yX8_bitsOf]
def wsL_law_r16 : List Cond := [Cond.static yX8_bitsOf, Cond.code yX8_bitsOf cX8_bitsOf 5 (some .int), Cond.constant RX8 223 (8388608), Cond.methodLink RL 43 yX9_setPitch, Cond.instanceMethod yX9_setPitch, Cond.selects RX9 yX9_setPitch yX9_setPitch, Cond.code yX9_setPitch cX9_setPitch 3 (some .int), Cond.constantFloat RX9 112 (1092616192), Cond.methodLink RX9 106 yJxf58ca_floatToIntBits_5c35a, Cond.static yJxf58ca_floatToIntBits_5c35a, Cond.initialized RJxf58ca, Cond.code yJxf58ca_floatToIntBits_5c35a cJxf58ca_floatToIntBits_5c35a 1 (some .int), Cond.methodLink RJxf58ca 74 ⟨"java/lang/Float", "floatToRawIntBits", "(F)I"⟩, Cond.native ⟨"java/lang/Float", "floatToRawIntBits", "(F)I"⟩, Cond.static ⟨"java/lang/Float", "floatToRawIntBits", "(F)I"⟩, Cond.initialized "java/lang/Float", Cond.constant RJxf58ca 77 (2143289344), Cond.methodLink RJxf58ca 59 yJxf58ca_isNaN_12338, Cond.static yJxf58ca_isNaN_12338, Cond.code yJxf58ca_isNaN_12338 cJxf58ca_isNaN_12338 1 (some .boolean), Cond.methodLink RL 44 yX8_setRing, Cond.instanceMethod yX8_setRing, Cond.selects RX8 yX8_setRing yX8_setRing, Cond.code yX8_setRing cX8_setRing 2 (some .int)]
def wsL_law_r17 : List Cond := [Cond.methodLink RX8 123 yX2_rebuildRing, Cond.instanceMethod yX2_rebuildRing, Cond.selects RX2 yX2_rebuildRing yX2_rebuildRing, Cond.code yX2_rebuildRing cX2_rebuildRing 4 (some .int), Cond.fieldLink RX2 110 "LabelApplicator$Ring" "stations" "I", Cond.methodLink RX2 113 yX4_products, Cond.instanceMethod yX4_products, Cond.selects RX4 yX4_products yX4_products, Cond.code yX4_products cX4_products 3 (some .int), Cond.methodLink RX4 23 yX4_reasonAt, Cond.instanceMethod yX4_reasonAt, Cond.selects RX4 yX4_reasonAt yX4_reasonAt, Cond.code yX4_reasonAt cX4_reasonAt 2 (some .int), Cond.methodLink RX2 116 yX4_reasonAt, Cond.methodLink RX2 119 yX2_passGate, Cond.instanceMethod yX2_passGate, Cond.selects RX2 yX2_passGate yX2_passGate, Cond.code yX2_passGate cX2_passGate 2 none, Cond.fieldLink RX2 79 "LabelApplicator$Machine" "delivered" "I", Cond.fieldLink RX2 82 "LabelApplicator$Machine" "diverted" "I", Cond.methodLink RX2 123 yX4_makeEmpty, Cond.methodLink RL 47 yX9_setRing, Cond.instanceMethod yX9_setRing, Cond.selects RX9 yX9_setRing yX9_setRing]
def wsL_law_r18 : List Cond := [Cond.code yX9_setRing cX9_setRing 4 (some .int), Cond.methodLink RX9 113 yX9_leaves, Cond.instanceMethod yX9_leaves, Cond.selects RX9 yX9_leaves yX9_leaves, Cond.code yX9_leaves cX9_leaves 2 none, Cond.methodLink RL 48 yX8_run, Cond.instanceMethod yX8_run, Cond.selects RX8 yX8_run yX8_run, Cond.code yX8_run cX8_run 4 (some .int), Cond.fieldLink RX8 129 "LabelApplicator$Machine" "stopped" "Z", Cond.methodLink RX8 126 yX8_canCome, Cond.static yX8_canCome, Cond.code yX8_canCome cX8_canCome 2 (some .boolean), Cond.methodLink RX8 132 yX2_serve, Cond.instanceMethod yX2_serve, Cond.selects RX2 yX2_serve yX2_serve, Cond.code yX2_serve cX2_serve 2 none, Cond.fieldLink RX2 65 "LabelApplicator$Machine" "speed" "I", Cond.fieldLink RX2 142 "LabelApplicator$Cycle" "ending" "I", Cond.fieldLink RX2 145 "LabelApplicator$Cycle" "travel" "I", Cond.fieldLink RX2 148 "LabelApplicator$Cycle" "late" "Z", Cond.fieldLink RX2 152 "LabelApplicator$Cycle" "reason" "I", Cond.fieldLink RX2 69 "LabelApplicator$Machine" "faults" "I", Cond.fieldLink RX2 72 "LabelApplicator$Machine" "stopped" "Z"]
def wsL_law_r19 : List Cond := [Cond.methodLink RX2 133 yX2_speedTowards, Cond.instanceMethod yX2_speedTowards, Cond.selects RX2 yX2_speedTowards yX2_speedTowards, Cond.code yX2_speedTowards cX2_speedTowards 6 (some .int), Cond.methodLink RX2 168 Lib.Math.max.name, Cond.static Lib.Math.max.name, Cond.initialized "java/lang/Math", Cond.code Lib.Math.max.name Lib.Math.max.code 2 (some .int), Cond.methodLink RX2 174 Lib.Math.min.name, Cond.static Lib.Math.min.name, Cond.code Lib.Math.min.name Lib.Math.min.code 2 (some .int), Cond.methodLink RX2 97 yX5_value, Cond.methodLink RX2 136 yX0_begin, Cond.instanceMethod yX0_begin, Cond.selects RX0 yX0_begin yX0_begin, Cond.code yX0_begin cX0_begin 2 none, Cond.fieldLink RX0 9 "LabelApplicator$Cycle" "travel" "I", Cond.fieldLink RX0 15 "LabelApplicator$Cycle" "labels" "I", Cond.fieldLink RX0 18 "LabelApplicator$Cycle" "splices" "I", Cond.fieldLink RX0 21 "LabelApplicator$Cycle" "taken" "I", Cond.fieldLink RX0 24 "LabelApplicator$Cycle" "ending" "I", Cond.fieldLink RX0 27 "LabelApplicator$Cycle" "speed" "I", Cond.methodLink RX2 139 yX2_feed, Cond.instanceMethod yX2_feed]
def wsL_law_r20 : List Cond := [Cond.selects RX2 yX2_feed yX2_feed, Cond.code yX2_feed cX2_feed 3 none, Cond.fieldLink RX2 190 "LabelApplicator$Cycle" "taken" "I", Cond.methodLink RX2 100 yX1_size, Cond.methodLink RX2 177 yX1_kindOf, Cond.methodLink RX2 180 yX1_lengthOf, Cond.methodLink RX2 183 yX0_take, Cond.instanceMethod yX0_take, Cond.selects RX0 yX0_take yX0_take, Cond.code yX0_take cX0_take 3 none, Cond.methodLink RX2 187 yX2_endingBehind, Cond.instanceMethod yX2_endingBehind, Cond.selects RX2 yX2_endingBehind yX2_endingBehind, Cond.code yX2_endingBehind cX2_endingBehind 4 (some .int), Cond.methodLink RX2 193 yX1_removeFirst, Cond.instanceMethod yX1_removeFirst, Cond.selects RX1 yX1_removeFirst yX1_removeFirst, Cond.code yX1_removeFirst cX1_removeFirst 2 none, Cond.methodLink RX2 151 yX2_reasonAt, Cond.instanceMethod yX2_reasonAt, Cond.selects RX2 yX2_reasonAt yX2_reasonAt, Cond.code yX2_reasonAt cX2_reasonAt 3 (some .int), Cond.fieldLink RX2 196 "LabelApplicator$Cycle" "splices" "I", Cond.fieldLink RX2 199 "LabelApplicator$Cycle" "labels" "I"]
def wsL_law_r21 : List Cond := [Cond.methodLink RX2 201 Lib.Math.abs.name, Cond.static Lib.Math.abs.name, Cond.code Lib.Math.abs.name Lib.Math.abs.code 1 (some .int), Cond.methodLink RX2 155 yX2_countCycle, Cond.instanceMethod yX2_countCycle, Cond.selects RX2 yX2_countCycle yX2_countCycle, Cond.code yX2_countCycle cX2_countCycle 2 none, Cond.fieldLink RX2 76 "LabelApplicator$Machine" "came" "I", Cond.fieldLink RX2 85 "LabelApplicator$Machine" "applied" "I", Cond.fieldLink RX2 88 "LabelApplicator$Machine" "rejected" "I", Cond.fieldLink RX2 91 "LabelApplicator$Machine" "splicedCycles" "I", Cond.fieldLink RX2 94 "LabelApplicator$Machine" "lateCycles" "I", Cond.methodLink RX2 158 yX2_learnPitch, Cond.instanceMethod yX2_learnPitch, Cond.selects RX2 yX2_learnPitch yX2_learnPitch, Cond.code yX2_learnPitch cX2_learnPitch 2 none, Cond.constantFloat RX2 204 (1090519040), Cond.methodLink RX2 161 yX4_moveOn, Cond.instanceMethod yX4_moveOn, Cond.selects RX4 yX4_moveOn yX4_moveOn, Cond.code yX4_moveOn cX4_moveOn 5 (some .int), Cond.methodLink RX2 164 yX2_isFault, Cond.static yX2_isFault, Cond.code yX2_isFault cX2_isFault 1 (some .boolean)]
def wsL_law_r22 : List Cond := [Cond.methodLink RX2 129 yX2_hasTooManyFaults, Cond.instanceMethod yX2_hasTooManyFaults, Cond.selects RX2 yX2_hasTooManyFaults yX2_hasTooManyFaults, Cond.code yX2_hasTooManyFaults cX2_hasTooManyFaults 1 (some .boolean), Cond.methodLink RL 51 yX9_run, Cond.instanceMethod yX9_run, Cond.selects RX9 yX9_run yX9_run, Cond.code yX9_run cX9_run 4 (some .int), Cond.methodLink RX9 146 yX9_cycles, Cond.instanceMethod yX9_cycles, Cond.selects RX9 yX9_cycles yX9_cycles, Cond.code yX9_cycles cX9_cycles 4 none, Cond.fieldLink RX9 129 "LabelApplicatorModel" "end" "I", Cond.fieldLink RX9 116 "LabelApplicatorModel" "travel" "I", Cond.constantFloat RX9 142 (1090519040), Cond.fieldLink RX9 122 "LabelApplicatorModel" "labels" "I", Cond.fieldLink RX9 125 "LabelApplicatorModel" "hasSplice" "Z", Cond.fieldLink RX9 119 "LabelApplicatorModel" "taken" "I", Cond.methodLink RX9 132 yX9_follows, Cond.instanceMethod yX9_follows, Cond.selects RX9 yX9_follows yX9_follows, Cond.code yX9_follows cX9_follows 4 none, Cond.methodLink RX9 135 yX9_feeds, Cond.instanceMethod yX9_feeds]
def wsL_law_r23 : List Cond := [Cond.selects RX9 yX9_feeds yX9_feeds, Cond.code yX9_feeds cX9_feeds 4 none, Cond.methodLink RX9 138 yX9_reasonAt, Cond.instanceMethod yX9_reasonAt, Cond.selects RX9 yX9_reasonAt yX9_reasonAt, Cond.code yX9_reasonAt cX9_reasonAt 4 (some .int), Cond.methodLink RX9 143 yX9_turns, Cond.instanceMethod yX9_turns, Cond.selects RX9 yX9_turns yX9_turns, Cond.code yX9_turns cX9_turns 3 none, Cond.methodLink RL 52 yX8_clearFaults, Cond.instanceMethod yX8_clearFaults, Cond.selects RX8 yX8_clearFaults yX8_clearFaults, Cond.code yX8_clearFaults cX8_clearFaults 2 (some .int), Cond.fieldLink RX8 136 "LabelApplicator$Machine" "faults" "I", Cond.methodLink RL 55 yX9_clearFaults, Cond.instanceMethod yX9_clearFaults, Cond.selects RX9 yX9_clearFaults yX9_clearFaults, Cond.code yX9_clearFaults cX9_clearFaults 2 (some .int), Cond.methodLink RL 56 yX8_latest, Cond.instanceMethod yX8_latest, Cond.selects RX8 yX8_latest yX8_latest, Cond.code yX8_latest cX8_latest 2 (some .int), Cond.fieldLink RX8 139 "LabelApplicator$Machine" "cycle" "LLabelApplicator$Cycle;"]
def wsL_law_r24 : List Cond := [Cond.fieldLink RX8 143 "LabelApplicator$Cycle" "ending" "I", Cond.methodLink RX8 148 yX0_number, Cond.instanceMethod yX0_number, Cond.selects RX0 yX0_number yX0_number, Cond.code yX0_number cX0_number 2 (some .int), Cond.fieldLink RX0 30 "LabelApplicator$Cycle" "reason" "I", Cond.methodLink RL 59 yX9_latest, Cond.instanceMethod yX9_latest, Cond.selects RX9 yX9_latest yX9_latest, Cond.code yX9_latest cX9_latest 2 (some .int), Cond.methodLink RL 60 yX8_station, Cond.instanceMethod yX8_station, Cond.selects RX8 yX8_station yX8_station, Cond.code yX8_station cX8_station 2 (some .int), Cond.fieldLink RX8 151 "LabelApplicator$Machine" "ring" "LLabelApplicator$Ring;", Cond.fieldLink RX8 155 "LabelApplicator$Ring" "stations" "I", Cond.methodLink RX8 160 yX4_reasonAt, Cond.methodLink RL 63 yX9_station, Cond.instanceMethod yX9_station, Cond.selects RX9 yX9_station yX9_station, Cond.code yX9_station cX9_station 2 (some .int), Cond.methodLink RL 64 yX8_pitch, Cond.instanceMethod yX8_pitch, Cond.selects RX8 yX8_pitch yX8_pitch]
def wsL_law_r25 : List Cond := [Cond.code yX8_pitch cX8_pitch 1 (some .int), Cond.methodLink RL 67 yX9_pitch, Cond.instanceMethod yX9_pitch, Cond.selects RX9 yX9_pitch yX9_pitch, Cond.code yX9_pitch cX9_pitch 1 (some .int), Cond.methodLink RL 68 yX8_foretell, Cond.instanceMethod yX8_foretell, Cond.selects RX8 yX8_foretell yX8_foretell, Cond.code yX8_foretell cX8_foretell 5 (some .int), Cond.fieldLink RX8 174 "LabelApplicator$Machine" "rejected" "I", Cond.methodLink RX8 163 yX2_copyFrom, Cond.instanceMethod yX2_copyFrom, Cond.selects RX2 yX2_copyFrom yX2_copyFrom, Cond.code yX2_copyFrom cX2_copyFrom 3 none, Cond.methodLink RX2 48 yX1_copyFrom, Cond.instanceMethod yX1_copyFrom, Cond.selects RX1 yX1_copyFrom yX1_copyFrom, Cond.code yX1_copyFrom cX1_copyFrom 2 none, Cond.methodLink RX1 46 yX1_appendAll, Cond.methodLink RX2 52 yX5_copyFrom, Cond.instanceMethod yX5_copyFrom, Cond.selects RX5 yX5_copyFrom yX5_copyFrom, Cond.code yX5_copyFrom cX5_copyFrom 3 none, Cond.methodLink RX5 32 yX5_value]
def wsL_law_r26 : List Cond := [Cond.methodLink RX2 55 yX4_copyFrom, Cond.instanceMethod yX4_copyFrom, Cond.selects RX4 yX4_copyFrom yX4_copyFrom, Cond.code yX4_copyFrom cX4_copyFrom 3 none, Cond.methodLink RX2 58 yX0_copyFrom, Cond.instanceMethod yX0_copyFrom, Cond.selects RX0 yX0_copyFrom yX0_copyFrom, Cond.code yX0_copyFrom cX0_copyFrom 2 none, Cond.fieldLink RX0 33 "LabelApplicator$Cycle" "late" "Z", Cond.methodLink RX2 61 yX2_cameWith, Cond.instanceMethod yX2_cameWith, Cond.selects RX2 yX2_cameWith yX2_cameWith, Cond.code yX2_cameWith cX2_cameWith 2 (some .int), Cond.methodLink RX8 167 yX2_serveAll, Cond.instanceMethod yX2_serveAll, Cond.selects RX2 yX2_serveAll yX2_serveAll, Cond.code yX2_serveAll cX2_serveAll 5 (some .int), Cond.methodLink RX2 126 yX2_serve, Cond.methodLink RX8 171 yX2_cameWith, Cond.methodLink RL 72 yX9_foretell, Cond.instanceMethod yX9_foretell, Cond.selects RX9 yX9_foretell yX9_foretell, Cond.code yX9_foretell cX9_foretell 4 (some .int), Cond.methodLink RX9 162 yX9_ahead]
def wsL_law_r27 : List Cond := [Cond.instanceMethod yX9_ahead, Cond.selects RX9 yX9_ahead yX9_ahead, Cond.code yX9_ahead cX9_ahead 5 (some .int), Cond.methodLink RX9 152 yX9_keepsAside, Cond.instanceMethod yX9_keepsAside, Cond.selects RX9 yX9_keepsAside yX9_keepsAside, Cond.code yX9_keepsAside cX9_keepsAside 2 none, Cond.fieldLink RX9 149 "LabelApplicatorModel" "pitchAside" "F", Cond.methodLink RX9 155 yX9_looksAhead, Cond.instanceMethod yX9_looksAhead, Cond.selects RX9 yX9_looksAhead yX9_looksAhead, Cond.code yX9_looksAhead cX9_looksAhead 8 (some .int), Cond.methodLink RX9 159 yX9_returns, Cond.instanceMethod yX9_returns, Cond.selects RX9 yX9_returns yX9_returns, Cond.code yX9_returns cX9_returns 2 none, Cond.methodLink RL 73 yX8_best, Cond.instanceMethod yX8_best, Cond.selects RX8 yX8_best yX8_best, Cond.code yX8_best cX8_best 8 (some .int), Cond.methodLink RX8 177 yX5_least, Cond.methodLink RX8 180 yX5_greatest, Cond.methodLink RX8 183 yX8_goodWith, Cond.instanceMethod yX8_goodWith]
def wsL_law_r28 : List Cond := [Cond.selects RX8 yX8_goodWith yX8_goodWith, Cond.code yX8_goodWith cX8_goodWith 5 (some .int), Cond.methodLink RL 76 yX9_best, Cond.instanceMethod yX9_best, Cond.selects RX9 yX9_best yX9_best, Cond.code yX9_best cX9_best 9 (some .int), Cond.methodLink RL 77 yX8_save, Cond.instanceMethod yX8_save, Cond.selects RX8 yX8_save yX8_save, Cond.code yX8_save cX8_save 2 (some .int), Cond.fieldLink RX8 191 "LabelApplicator$Slot" "machine" "LLabelApplicator$Machine;", Cond.fieldLink RX8 194 "LabelApplicator$Slot" "filled" "Z", Cond.methodLink RX8 187 yX8_slotOf, Cond.instanceMethod yX8_slotOf, Cond.selects RX8 yX8_slotOf yX8_slotOf, Cond.code yX8_slotOf cX8_slotOf 2 (some (.object "LabelApplicator$Slot")), Cond.methodLink RL 80 yX9_save, Cond.instanceMethod yX9_save, Cond.selects RX9 yX9_save yX9_save, Cond.code yX9_save cX9_save 3 (some .int), Cond.fieldLink RX9 165 "LabelApplicatorModel" "pitchFirst" "F", Cond.fieldLink RX9 168 "LabelApplicatorModel" "pitchSecond" "F", Cond.methodLink RL 81 yX8_restore, Cond.instanceMethod yX8_restore]
def wsL_law_r29 : List Cond := [Cond.selects RX8 yX8_restore yX8_restore, Cond.code yX8_restore cX8_restore 2 (some .int), Cond.methodLink RL 84 yX9_restore, Cond.instanceMethod yX9_restore, Cond.selects RX9 yX9_restore yX9_restore, Cond.code yX9_restore cX9_restore 3 (some .int), Cond.methodLink RL 85 yX8_count, Cond.instanceMethod yX8_count, Cond.selects RX8 yX8_count yX8_count, Cond.code yX8_count cX8_count 2 (some .int), Cond.methodLink RX8 197 yX2_number, Cond.instanceMethod yX2_number, Cond.selects RX2 yX2_number yX2_number, Cond.code yX2_number cX2_number 2 (some .int), Cond.methodLink RX2 104 yX1_labels, Cond.instanceMethod yX1_labels, Cond.selects RX1 yX1_labels yX1_labels, Cond.code yX1_labels cX1_labels 3 (some .int), Cond.methodLink RX2 107 yX1_lengthAhead, Cond.methodLink RL 88 yX9_count, Cond.instanceMethod yX9_count, Cond.selects RX9 yX9_count yX9_count, Cond.code yX9_count cX9_count 2 (some .int), Cond.methodLink RX9 177 yX9_number]
def wsL_law_r30 : List Cond := [Cond.instanceMethod yX9_number, Cond.selects RX9 yX9_number yX9_number, Cond.code yX9_number cX9_number 2 (some .int), Cond.methodLink RX9 171 yX9_labelsOnWeb, Cond.instanceMethod yX9_labelsOnWeb, Cond.selects RX9 yX9_labelsOnWeb yX9_labelsOnWeb, Cond.code yX9_labelsOnWeb cX9_labelsOnWeb 3 (some .int), Cond.methodLink RX9 174 yX9_productsInRing, Cond.instanceMethod yX9_productsInRing, Cond.selects RX9 yX9_productsInRing yX9_productsInRing, Cond.code yX9_productsInRing cX9_productsInRing 3 (some .int), Cond.methodLink RL 89 yX8_digest, Cond.instanceMethod yX8_digest, Cond.selects RX8 yX8_digest yX8_digest, Cond.code yX8_digest cX8_digest 5 (some .long), Cond.constantLong RX8 198 (743), Cond.constantLong RX8 200 (31), Cond.methodLink RX8 202 yX8_count, Cond.methodLink RX8 205 yX8_item, Cond.methodLink RX8 208 yX8_pitch, Cond.methodLink RX8 210 yX8_station, Cond.methodLink RX8 213 yX8_latest, Cond.methodLink RX8 216 yX8_foretell, Cond.methodLink RX8 220 yX7_byteAt]
def wsL_law_r31 : List Cond := [Cond.methodLink RL 93 yX9_digest, Cond.instanceMethod yX9_digest, Cond.selects RX9 yX9_digest yX9_digest, Cond.code yX9_digest cX9_digest 2 (some .long), Cond.constantLong RX9 186 (743), Cond.fieldLink RX9 182 "LabelApplicatorModel" "hash" "J", Cond.methodLink RX9 188 yX9_mixes, Cond.instanceMethod yX9_mixes, Cond.selects RX9 yX9_mixes yX9_mixes, Cond.code yX9_mixes cX9_mixes 3 none, Cond.constantLong RX9 180 (31), Cond.methodLink RX9 192 yX9_item, Cond.methodLink RX9 196 yX9_pitch, Cond.methodLink RX9 198 yX9_foretell]
def wsL_law : List Cond := (wsL_law_r1 ++ (wsL_law_r2 ++ (wsL_law_r3 ++ (wsL_law_r4 ++ (wsL_law_r5 ++ (wsL_law_r6 ++ (wsL_law_r7 ++ (wsL_law_r8 ++ (wsL_law_r9 ++ (wsL_law_r10 ++ (wsL_law_r11 ++ (wsL_law_r12 ++ (wsL_law_r13 ++ (wsL_law_r14 ++ (wsL_law_r15 ++ (wsL_law_r16 ++ (wsL_law_r17 ++ (wsL_law_r18 ++ (wsL_law_r19 ++ (wsL_law_r20 ++ (wsL_law_r21 ++ (wsL_law_r22 ++ (wsL_law_r23 ++ (wsL_law_r24 ++ (wsL_law_r25 ++ (wsL_law_r26 ++ (wsL_law_r27 ++ (wsL_law_r28 ++ (wsL_law_r29 ++ (wsL_law_r30 ++ wsL_law_r31)))))))))))))))))))))))))))))) ++ wsX80 ++ wsX90 ++ wsX70 ++ wsX30 ++ wsX20 ++ wsX60 ++ wsX10 ++ wsX50 ++ wsX40 ++ wsX00 ++ ([] : List Cond)
end
section
set_option maxRecDepth 100000 in
theorem wsL_law_r1_in : ∀ w ∈ wsL_law_r1, w ∈ lw_tbl := fun w h => (goodIn_r wsL_law_r1 [57, 58, 45, 657, 658, 54, 59, 60, 61, 62, 63, 64, 65, 66, 46, 285, 81, 82, 47, 286, 135, 136, 49, 287] (by decide +kernel) (by decide +kernel) w h).1
set_option maxRecDepth 100000 in
theorem wsL_law_r2_in : ∀ w ∈ wsL_law_r2, w ∈ lw_tbl := fun w h => (goodIn_r wsL_law_r2 [288, 269, 270, 53, 289, 290, 67, 68, 69, 70, 80, 71, 83, 84, 85, 86, 113, 87, 88, 48, 107, 106, 114, 115] (by decide +kernel) (by decide +kernel) w h).1
set_option maxRecDepth 100000 in
theorem wsL_law_r3_in : ∀ w ∈ wsL_law_r3, w ∈ lw_tbl := fun w h => (goodIn_r wsL_law_r3 [89, 90, 91, 92, 93, 94, 137, 138, 139, 140, 141, 212, 143, 144, 50, 214, 153, 154, 51, 216, 172, 173, 52, 218] (by decide +kernel) (by decide +kernel) w h).1
set_option maxRecDepth 100000 in
theorem wsL_law_r4_in : ∀ w ∈ wsL_law_r4, w ∈ lw_tbl := fun w h => (goodIn_r wsL_law_r4 [220, 211, 221, 142, 145, 146, 147, 148, 149, 155, 156, 157, 158, 163, 159, 160, 161, 162, 164, 175, 176, 177, 271, 272] (by decide +kernel) (by decide +kernel) w h).1
set_option maxRecDepth 100000 in
theorem wsL_law_r5_in : ∀ w ∈ wsL_law_r5, w ∈ lw_tbl := fun w h => (goodIn_r wsL_law_r5 [273, 274, 275, 277, 276, 659, 660, 661, 662, 664, 665, 666, 737, 667, 663, 668, 672, 676, 677, 679, 680, 304, 305, 306] (by decide +kernel) (by decide +kernel) w h).1
set_option maxRecDepth 100000 in
theorem wsL_law_r6_in : ∀ w ∈ wsL_law_r6, w ∈ lw_tbl := fun w h => (goodIn_r wsL_law_r6 [307, 73, 308, 309, 310, 311, 312, 313, 314, 72, 738, 739, 740, 741, 673, 742, 743, 744, 315, 316, 317, 318, 745, 746] (by decide +kernel) (by decide +kernel) w h).1
set_option maxRecDepth 100000 in
theorem wsL_law_r7_in : ∀ w ∈ wsL_law_r7, w ∈ lw_tbl := fun w h => (goodIn_r wsL_law_r7 [747, 748, 319, 320, 321, 322, 112, 110, 213, 108, 323, 324, 325, 326, 109, 111, 116, 117, 74, 327, 328, 329, 330, 95] (by decide +kernel) (by decide +kernel) w h).1
set_option maxRecDepth 100000 in
theorem wsL_law_r8_in : ∀ w ∈ wsL_law_r8, w ∈ lw_tbl := fun w h => (goodIn_r wsL_law_r8 [96, 331, 333, 0, 334, 335, 336, 337, 338, 339, 341, 1, 342, 343, 345, 2, 346, 347, 348, 349, 350, 351, 352, 353] (by decide +kernel) (by decide +kernel) w h).1
set_option maxRecDepth 100000 in
theorem wsL_law_r9_in : ∀ w ∈ wsL_law_r9, w ∈ lw_tbl := fun w h => (goodIn_r wsL_law_r9 [354, 355, 356, 357, 358, 359, 360, 361, 362, 363, 365, 3, 366, 367, 369, 4, 370, 372, 374, 5, 375, 376, 378, 6] (by decide +kernel) (by decide +kernel) w h).1
set_option maxRecDepth 100000 in
theorem wsL_law_r10_in : ∀ w ∈ wsL_law_r10, w ∈ lw_tbl := fun w h => (goodIn_r wsL_law_r10 [379, 380, 382, 7, 383, 384, 386, 8, 387, 388, 389, 390, 391, 392, 393, 394, 395, 396, 398, 9, 399, 400, 401, 402] (by decide +kernel) (by decide +kernel) w h).1
set_option maxRecDepth 100000 in
theorem wsL_law_r11_in : ∀ w ∈ wsL_law_r11, w ∈ lw_tbl := fun w h => (goodIn_r wsL_law_r11 [403, 404, 749, 750, 751, 752, 675, 678, 753, 755, 20, 756, 674, 681, 757, 759, 21, 760, 761, 763, 22, 764, 765, 767] (by decide +kernel) (by decide +kernel) w h).1
set_option maxRecDepth 100000 in
theorem wsL_law_r12_in : ∀ w ∈ wsL_law_r12, w ∈ lw_tbl := fun w h => (goodIn_r wsL_law_r12 [23, 768, 769, 771, 24, 772, 773, 775, 25, 776, 777, 779, 26, 780, 781, 783, 27, 784, 785, 786, 787, 788, 790, 28] (by decide +kernel) (by decide +kernel) w h).1
set_option maxRecDepth 100000 in
theorem wsL_law_r13_in : ∀ w ∈ wsL_law_r13, w ∈ lw_tbl := fun w h => (goodIn_r wsL_law_r13 [791, 405, 406, 407, 408, 409, 792, 793, 794, 795, 410, 411, 412, 413, 414, 415, 416, 417, 418, 419, 796, 797, 798, 799] (by decide +kernel) (by decide +kernel) w h).1
set_option maxRecDepth 100000 in
theorem wsL_law_r14_in : ∀ w ∈ wsL_law_r14, w ∈ lw_tbl := fun w h => (goodIn_r wsL_law_r14 [800, 802, 29, 803, 420, 421, 422, 423, 215, 424, 425, 426, 427, 429, 430, 431, 432, 433, 435, 436, 437, 438, 439, 441] (by decide +kernel) (by decide +kernel) w h).1
set_option maxRecDepth 100000 in
theorem wsL_law_r15_in : ∀ w ∈ wsL_law_r15, w ∈ lw_tbl := fun w h => (goodIn_r wsL_law_r15 [442, 443, 444, 445, 446, 447, 448, 804, 805, 806, 807, 808, 809, 810, 811, 812, 813, 449, 450, 451, 452, 222, 457, 453] (by decide +kernel) (by decide +kernel) w h).1
set_option maxRecDepth 100000 in
theorem wsL_law_r16_in : ∀ w ∈ wsL_law_r16, w ∈ lw_tbl := fun w h => (goodIn_r wsL_law_r16 [454, 455, 456, 814, 815, 816, 817, 828, 818, 819, 55, 820, 824, 826, 825, 55, 827, 821, 822, 823, 458, 459, 460, 461] (by decide +kernel) (by decide +kernel) w h).1
set_option maxRecDepth 100000 in
theorem wsL_law_r17_in : ∀ w ∈ wsL_law_r17, w ∈ lw_tbl := fun w h => (goodIn_r wsL_law_r17 [462, 463, 464, 465, 165, 466, 467, 468, 469, 470, 471, 472, 473, 474, 475, 477, 10, 478, 229, 230, 479, 829, 830, 831] (by decide +kernel) (by decide +kernel) w h).1
set_option maxRecDepth 100000 in
theorem wsL_law_r18_in : ∀ w ∈ wsL_law_r18, w ∈ lw_tbl := fun w h => (goodIn_r wsL_law_r18 [832, 833, 835, 30, 836, 480, 481, 482, 483, 227, 484, 485, 486, 487, 488, 489, 490, 223, 187, 179, 193, 191, 224, 226] (by decide +kernel) (by decide +kernel) w h).1
set_option maxRecDepth 100000 in
theorem wsL_law_r19_in : ∀ w ∈ wsL_law_r19, w ∈ lw_tbl := fun w h => (goodIn_r wsL_law_r19 [491, 493, 11, 494, 496, 497, 56, 498, 499, 500, 501, 495, 502, 503, 504, 505, 178, 180, 182, 184, 186, 189, 506, 508] (by decide +kernel) (by decide +kernel) w h).1
set_option maxRecDepth 100000 in
theorem wsL_law_r20_in : ∀ w ∈ wsL_law_r20, w ∈ lw_tbl := fun w h => (goodIn_r wsL_law_r20 [12, 509, 185, 510, 511, 512, 513, 514, 515, 516, 517, 519, 13, 520, 521, 522, 523, 524, 525, 527, 14, 528, 183, 181] (by decide +kernel) (by decide +kernel) w h).1
set_option maxRecDepth 100000 in
theorem wsL_law_r21_in : ∀ w ∈ wsL_law_r21, w ∈ lw_tbl := fun w h => (goodIn_r wsL_law_r21 [529, 530, 531, 532, 534, 15, 535, 228, 231, 232, 234, 235, 536, 538, 16, 539, 540, 541, 542, 543, 544, 545, 546, 547] (by decide +kernel) (by decide +kernel) w h).1
set_option maxRecDepth 100000 in
theorem wsL_law_r22_in : ∀ w ∈ wsL_law_r22, w ∈ lw_tbl := fun w h => (goodIn_r wsL_law_r22 [548, 550, 17, 551, 837, 838, 839, 840, 841, 843, 31, 844, 686, 682, 857, 684, 685, 683, 845, 847, 32, 848, 849, 851] (by decide +kernel) (by decide +kernel) w h).1
set_option maxRecDepth 100000 in
theorem wsL_law_r23_in : ∀ w ∈ wsL_law_r23, w ∈ lw_tbl := fun w h => (goodIn_r wsL_law_r23 [33, 852, 853, 855, 34, 856, 858, 860, 35, 861, 552, 553, 554, 555, 225, 862, 863, 864, 865, 556, 557, 558, 559, 219] (by decide +kernel) (by decide +kernel) w h).1
set_option maxRecDepth 100000 in
theorem wsL_law_r24_in : ∀ w ∈ wsL_law_r24, w ∈ lw_tbl := fun w h => (goodIn_r wsL_law_r24 [188, 560, 561, 562, 563, 190, 866, 867, 868, 869, 564, 565, 566, 567, 217, 166, 568, 870, 871, 872, 873, 569, 570, 571] (by decide +kernel) (by decide +kernel) w h).1
set_option maxRecDepth 100000 in
theorem wsL_law_r25_in : ∀ w ∈ wsL_law_r25, w ∈ lw_tbl := fun w h => (goodIn_r wsL_law_r25 [572, 874, 875, 876, 877, 573, 574, 575, 576, 233, 577, 578, 579, 580, 581, 582, 583, 584, 585, 586, 587, 588, 589, 590] (by decide +kernel) (by decide +kernel) w h).1
set_option maxRecDepth 100000 in
theorem wsL_law_r26_in : ∀ w ∈ wsL_law_r26, w ∈ lw_tbl := fun w h => (goodIn_r wsL_law_r26 [591, 592, 593, 594, 595, 596, 597, 598, 192, 599, 600, 601, 602, 603, 604, 605, 606, 607, 608, 878, 879, 880, 881, 882] (by decide +kernel) (by decide +kernel) w h).1
set_option maxRecDepth 100000 in
theorem wsL_law_r27_in : ∀ w ∈ wsL_law_r27, w ∈ lw_tbl := fun w h => (goodIn_r wsL_law_r27 [884, 36, 885, 886, 888, 37, 889, 669, 890, 892, 38, 893, 894, 896, 39, 897, 609, 610, 611, 612, 613, 614, 615, 617] (by decide +kernel) (by decide +kernel) w h).1
set_option maxRecDepth 100000 in
theorem wsL_law_r28_in : ∀ w ∈ wsL_law_r28, w ∈ lw_tbl := fun w h => (goodIn_r wsL_law_r28 [18, 618, 898, 899, 900, 901, 619, 620, 621, 622, 278, 279, 623, 625, 19, 626, 902, 903, 904, 905, 670, 671, 627, 628] (by decide +kernel) (by decide +kernel) w h).1
set_option maxRecDepth 100000 in
theorem wsL_law_r29_in : ∀ w ∈ wsL_law_r29, w ∈ lw_tbl := fun w h => (goodIn_r wsL_law_r29 [629, 630, 906, 907, 908, 909, 631, 632, 633, 634, 635, 636, 637, 638, 639, 640, 641, 642, 643, 910, 911, 912, 913, 914] (by decide +kernel) (by decide +kernel) w h).1
set_option maxRecDepth 100000 in
theorem wsL_law_r30_in : ∀ w ∈ wsL_law_r30, w ∈ lw_tbl := fun w h => (goodIn_r wsL_law_r30 [916, 40, 917, 918, 920, 41, 921, 922, 924, 42, 925, 644, 645, 646, 647, 648, 649, 650, 651, 652, 653, 654, 655, 656] (by decide +kernel) (by decide +kernel) w h).1
set_option maxRecDepth 100000 in
theorem wsL_law_r31_in : ∀ w ∈ wsL_law_r31, w ∈ lw_tbl := fun w h => (goodIn_r wsL_law_r31 [926, 927, 928, 929, 930, 687, 931, 933, 43, 934, 935, 936, 937, 938] (by decide +kernel) (by decide +kernel) w h).1
set_option maxRecDepth 100000 in
theorem inX0 : ∀ w ∈ wsX00, w ∈ lw_tbl := fun w h => (goodIn_r wsX00 [194, 196, 198, 200, 202, 204, 206, 208] (by decide +kernel) (by decide +kernel) w h).1
set_option maxRecDepth 100000 in
theorem inX1 : ∀ w ∈ wsX10, w ∈ lw_tbl := fun w h => (goodIn_r wsX10 [97, 99, 101, 103] (by decide +kernel) (by decide +kernel) w h).1
set_option maxRecDepth 100000 in
theorem inX2 : ∀ w ∈ wsX20, w ∈ lw_tbl := fun w h => (goodIn_r wsX20 [236, 238, 240, 242, 244, 246, 248, 250, 252, 254, 256, 258, 260, 262, 264, 266] (by decide +kernel) (by decide +kernel) w h).1
set_option maxRecDepth 100000 in
theorem inX3 : ∀ w ∈ wsX30, w ∈ lw_tbl := fun w h => (goodIn_r wsX30 [118, 120, 122, 124, 126, 128, 130, 132] (by decide +kernel) (by decide +kernel) w h).1
set_option maxRecDepth 100000 in
theorem inX4 : ∀ w ∈ wsX40, w ∈ lw_tbl := fun w h => (goodIn_r wsX40 [167, 169] (by decide +kernel) (by decide +kernel) w h).1
set_option maxRecDepth 100000 in
theorem inX5 : ∀ w ∈ wsX50, w ∈ lw_tbl := fun w h => (goodIn_r wsX50 [150] (by decide +kernel) (by decide +kernel) w h).1
set_option maxRecDepth 100000 in
theorem inX6 : ∀ w ∈ wsX60, w ∈ lw_tbl := fun w h => (goodIn_r wsX60 [280, 282] (by decide +kernel) (by decide +kernel) w h).1
set_option maxRecDepth 100000 in
theorem inX7 : ∀ w ∈ wsX70, w ∈ lw_tbl := fun w h => (goodIn_r wsX70 [75, 77] (by decide +kernel) (by decide +kernel) w h).1
set_option maxRecDepth 100000 in
theorem inX8 : ∀ w ∈ wsX80, w ∈ lw_tbl := fun w h => (goodIn_r wsX80 [291, 293, 295, 297, 299, 301] (by decide +kernel) (by decide +kernel) w h).1
set_option maxRecDepth 100000 in
theorem inX9 : ∀ w ∈ wsX90, w ∈ lw_tbl := fun w h => (goodIn_r wsX90 [688, 690, 692, 694, 696, 698, 700, 702, 704, 706, 708, 710, 712, 714, 716, 718, 720, 722, 724, 726, 728, 730, 732, 734] (by decide +kernel) (by decide +kernel) w h).1
set_option maxRecDepth 100000 in
theorem wsL_law_in : ∀ w ∈ wsL_law, w ∈ lw_tbl := fun w h => (fun h => (List.mem_append.mp h).elim (fun h => (List.mem_append.mp h).elim (fun h => (List.mem_append.mp h).elim (fun h => (List.mem_append.mp h).elim (fun h => (List.mem_append.mp h).elim (fun h => (List.mem_append.mp h).elim (fun h => (List.mem_append.mp h).elim (fun h => (List.mem_append.mp h).elim (fun h => (List.mem_append.mp h).elim (fun h => (List.mem_append.mp h).elim (fun h => (List.mem_append.mp h).elim (wsL_law_r1_in w) (fun h => (List.mem_append.mp h).elim (wsL_law_r2_in w) (fun h => (List.mem_append.mp h).elim (wsL_law_r3_in w) (fun h => (List.mem_append.mp h).elim (wsL_law_r4_in w) (fun h => (List.mem_append.mp h).elim (wsL_law_r5_in w) (fun h => (List.mem_append.mp h).elim (wsL_law_r6_in w) (fun h => (List.mem_append.mp h).elim (wsL_law_r7_in w) (fun h => (List.mem_append.mp h).elim (wsL_law_r8_in w) (fun h => (List.mem_append.mp h).elim (wsL_law_r9_in w) (fun h => (List.mem_append.mp h).elim (wsL_law_r10_in w) (fun h => (List.mem_append.mp h).elim (wsL_law_r11_in w) (fun h => (List.mem_append.mp h).elim (wsL_law_r12_in w) (fun h => (List.mem_append.mp h).elim (wsL_law_r13_in w) (fun h => (List.mem_append.mp h).elim (wsL_law_r14_in w) (fun h => (List.mem_append.mp h).elim (wsL_law_r15_in w) (fun h => (List.mem_append.mp h).elim (wsL_law_r16_in w) (fun h => (List.mem_append.mp h).elim (wsL_law_r17_in w) (fun h => (List.mem_append.mp h).elim (wsL_law_r18_in w) (fun h => (List.mem_append.mp h).elim (wsL_law_r19_in w) (fun h => (List.mem_append.mp h).elim (wsL_law_r20_in w) (fun h => (List.mem_append.mp h).elim (wsL_law_r21_in w) (fun h => (List.mem_append.mp h).elim (wsL_law_r22_in w) (fun h => (List.mem_append.mp h).elim (wsL_law_r23_in w) (fun h => (List.mem_append.mp h).elim (wsL_law_r24_in w) (fun h => (List.mem_append.mp h).elim (wsL_law_r25_in w) (fun h => (List.mem_append.mp h).elim (wsL_law_r26_in w) (fun h => (List.mem_append.mp h).elim (wsL_law_r27_in w) (fun h => (List.mem_append.mp h).elim (wsL_law_r28_in w) (fun h => (List.mem_append.mp h).elim (wsL_law_r29_in w) (fun h => (List.mem_append.mp h).elim (wsL_law_r30_in w) (fun h => wsL_law_r31_in w h))))))))))))))))))))))))))))))) (inX8 w)) (inX9 w)) (inX7 w)) (inX3 w)) (inX2 w)) (inX6 w)) (inX1 w)) (inX5 w)) (inX4 w)) (inX0 w)) h
theorem inlX0 : ∀ w ∈ wsX00, w ∈ wsL_law := fun _ h => List.mem_append_left _ (List.mem_append_right _ h)
theorem inlX1 : ∀ w ∈ wsX10, w ∈ wsL_law := fun _ h => List.mem_append_left _ (List.mem_append_left _ (List.mem_append_left _ (List.mem_append_left _ (List.mem_append_right _ h))))
theorem inlX2 : ∀ w ∈ wsX20, w ∈ wsL_law := fun _ h => List.mem_append_left _ (List.mem_append_left _ (List.mem_append_left _ (List.mem_append_left _ (List.mem_append_left _ (List.mem_append_left _ (List.mem_append_right _ h))))))
theorem inlX3 : ∀ w ∈ wsX30, w ∈ wsL_law := fun _ h => List.mem_append_left _ (List.mem_append_left _ (List.mem_append_left _ (List.mem_append_left _ (List.mem_append_left _ (List.mem_append_left _ (List.mem_append_left _ (List.mem_append_right _ h)))))))
theorem inlX4 : ∀ w ∈ wsX40, w ∈ wsL_law := fun _ h => List.mem_append_left _ (List.mem_append_left _ (List.mem_append_right _ h))
theorem inlX5 : ∀ w ∈ wsX50, w ∈ wsL_law := fun _ h => List.mem_append_left _ (List.mem_append_left _ (List.mem_append_left _ (List.mem_append_right _ h)))
theorem inlX6 : ∀ w ∈ wsX60, w ∈ wsL_law := fun _ h => List.mem_append_left _ (List.mem_append_left _ (List.mem_append_left _ (List.mem_append_left _ (List.mem_append_left _ (List.mem_append_right _ h)))))
theorem inlX7 : ∀ w ∈ wsX70, w ∈ wsL_law := fun _ h => List.mem_append_left _ (List.mem_append_left _ (List.mem_append_left _ (List.mem_append_left _ (List.mem_append_left _ (List.mem_append_left _ (List.mem_append_left _ (List.mem_append_left _ (List.mem_append_right _ h))))))))
theorem inlX8 : ∀ w ∈ wsX80, w ∈ wsL_law := fun _ h => List.mem_append_left _ (List.mem_append_left _ (List.mem_append_left _ (List.mem_append_left _ (List.mem_append_left _ (List.mem_append_left _ (List.mem_append_left _ (List.mem_append_left _ (List.mem_append_left _ (List.mem_append_left _ (List.mem_append_right _ h))))))))))
theorem inlX9 : ∀ w ∈ wsX90, w ∈ wsL_law := fun _ h => List.mem_append_left _ (List.mem_append_left _ (List.mem_append_left _ (List.mem_append_left _ (List.mem_append_left _ (List.mem_append_left _ (List.mem_append_left _ (List.mem_append_left _ (List.mem_append_left _ (List.mem_append_right _ h)))))))))
theorem inJxf58ca : ∀ w ∈ wsJxf58ca0, w ∈ lw_tbl := by decide +kernel
theorem inJ9 : ∀ w ∈ wsJ90, w ∈ lw_tbl := by decide +kernel
theorem dX0_init_0 : decode cX0_init 0 = .ok (.aload_n 0, 1) := by decide +kernel
theorem dX0_init_1 : decode cX0_init 1 = .ok (.invokespecial 3, 3) := by decide +kernel
theorem dX0_init_4 : decode cX0_init 4 = .ok (.return_, 1) := by decide +kernel
theorem dX0_begin_0 : decode cX0_begin 0 = .ok (.aload_n 0, 1) := by decide +kernel
theorem dX0_begin_1 : decode cX0_begin 1 = .ok (.iconst 0, 1) := by decide +kernel
theorem dX0_begin_2 : decode cX0_begin 2 = .ok (.putfield 9, 3) := by decide +kernel
theorem dX0_begin_5 : decode cX0_begin 5 = .ok (.aload_n 0, 1) := by decide +kernel
theorem dX0_begin_6 : decode cX0_begin 6 = .ok (.iconst 0, 1) := by decide +kernel
theorem dX0_begin_7 : decode cX0_begin 7 = .ok (.putfield 15, 3) := by decide +kernel
theorem dX0_begin_10 : decode cX0_begin 10 = .ok (.aload_n 0, 1) := by decide +kernel
theorem dX0_begin_11 : decode cX0_begin 11 = .ok (.iconst 0, 1) := by decide +kernel
theorem dX0_begin_12 : decode cX0_begin 12 = .ok (.putfield 18, 3) := by decide +kernel
theorem dX0_begin_15 : decode cX0_begin 15 = .ok (.aload_n 0, 1) := by decide +kernel
theorem dX0_begin_16 : decode cX0_begin 16 = .ok (.iconst 0, 1) := by decide +kernel
theorem dX0_begin_17 : decode cX0_begin 17 = .ok (.putfield 21, 3) := by decide +kernel
theorem dX0_begin_20 : decode cX0_begin 20 = .ok (.aload_n 0, 1) := by decide +kernel
theorem dX0_begin_21 : decode cX0_begin 21 = .ok (.iconst 0, 1) := by decide +kernel
theorem dX0_begin_22 : decode cX0_begin 22 = .ok (.putfield 24, 3) := by decide +kernel
theorem dX0_begin_25 : decode cX0_begin 25 = .ok (.aload_n 0, 1) := by decide +kernel
theorem dX0_begin_26 : decode cX0_begin 26 = .ok (.iload_n 1, 1) := by decide +kernel
theorem dX0_begin_27 : decode cX0_begin 27 = .ok (.putfield 27, 3) := by decide +kernel
theorem dX0_begin_30 : decode cX0_begin 30 = .ok (.return_, 1) := by decide +kernel
theorem dX0_take_0 : decode cX0_take 0 = .ok (.aload_n 0, 1) := by decide +kernel
theorem dX0_take_1 : decode cX0_take 1 = .ok (.dup, 1) := by decide +kernel
theorem dX0_take_2 : decode cX0_take 2 = .ok (.getfield 21, 3) := by decide +kernel
theorem dX0_take_5 : decode cX0_take 5 = .ok (.iconst 1, 1) := by decide +kernel
theorem dX0_take_6 : decode cX0_take 6 = .ok (.iadd, 1) := by decide +kernel
theorem dX0_take_7 : decode cX0_take 7 = .ok (.putfield 21, 3) := by decide +kernel
theorem dX0_take_10 : decode cX0_take 10 = .ok (.aload_n 0, 1) := by decide +kernel
theorem dX0_take_11 : decode cX0_take 11 = .ok (.dup, 1) := by decide +kernel
theorem dX0_take_12 : decode cX0_take 12 = .ok (.getfield 9, 3) := by decide +kernel
theorem dX0_take_15 : decode cX0_take 15 = .ok (.iload_n 2, 1) := by decide +kernel
theorem dX0_take_16 : decode cX0_take 16 = .ok (.iadd, 1) := by decide +kernel
theorem dX0_take_17 : decode cX0_take 17 = .ok (.putfield 9, 3) := by decide +kernel
theorem dX0_take_20 : decode cX0_take 20 = .ok (.iload_n 1, 1) := by decide +kernel
theorem dX0_take_21 : decode cX0_take 21 = .ok (.ifCond .ne 13, 3) := by decide +kernel
theorem dX0_take_24 : decode cX0_take 24 = .ok (.aload_n 0, 1) := by decide +kernel
theorem dX0_take_25 : decode cX0_take 25 = .ok (.dup, 1) := by decide +kernel
theorem dX0_take_26 : decode cX0_take 26 = .ok (.getfield 15, 3) := by decide +kernel
theorem dX0_take_29 : decode cX0_take 29 = .ok (.iconst 1, 1) := by decide +kernel
theorem dX0_take_30 : decode cX0_take 30 = .ok (.iadd, 1) := by decide +kernel
theorem dX0_take_31 : decode cX0_take 31 = .ok (.putfield 15, 3) := by decide +kernel
theorem dX0_take_34 : decode cX0_take 34 = .ok (.iload_n 1, 1) := by decide +kernel
theorem dX0_take_35 : decode cX0_take 35 = .ok (.iconst 3, 1) := by decide +kernel
theorem dX0_take_36 : decode cX0_take 36 = .ok (.if_icmp .ne 13, 3) := by decide +kernel
theorem dX0_take_39 : decode cX0_take 39 = .ok (.aload_n 0, 1) := by decide +kernel
theorem dX0_take_40 : decode cX0_take 40 = .ok (.dup, 1) := by decide +kernel
theorem dX0_take_41 : decode cX0_take 41 = .ok (.getfield 18, 3) := by decide +kernel
theorem dX0_take_44 : decode cX0_take 44 = .ok (.iconst 1, 1) := by decide +kernel
theorem dX0_take_45 : decode cX0_take 45 = .ok (.iadd, 1) := by decide +kernel
theorem dX0_take_46 : decode cX0_take 46 = .ok (.putfield 18, 3) := by decide +kernel
theorem dX0_take_49 : decode cX0_take 49 = .ok (.return_, 1) := by decide +kernel
theorem dX0_number_0 : decode cX0_number 0 = .ok (.iload_n 1, 1) := by decide +kernel
theorem dX0_number_1 : decode cX0_number 1 = .ok (.tableswitch 60 0 4 #[35, 40, 45, 50, 55], 35) := by decide +kernel
theorem dX0_number_36 : decode cX0_number 36 = .ok (.aload_n 0, 1) := by decide +kernel
theorem dX0_number_37 : decode cX0_number 37 = .ok (.getfield 9, 3) := by decide +kernel
theorem dX0_number_40 : decode cX0_number 40 = .ok (.ireturn, 1) := by decide +kernel
theorem dX0_number_41 : decode cX0_number 41 = .ok (.aload_n 0, 1) := by decide +kernel
theorem dX0_number_42 : decode cX0_number 42 = .ok (.getfield 15, 3) := by decide +kernel
theorem dX0_number_45 : decode cX0_number 45 = .ok (.ireturn, 1) := by decide +kernel
theorem dX0_number_46 : decode cX0_number 46 = .ok (.aload_n 0, 1) := by decide +kernel
theorem dX0_number_47 : decode cX0_number 47 = .ok (.getfield 30, 3) := by decide +kernel
theorem dX0_number_50 : decode cX0_number 50 = .ok (.ireturn, 1) := by decide +kernel
theorem dX0_number_51 : decode cX0_number 51 = .ok (.aload_n 0, 1) := by decide +kernel
theorem dX0_number_52 : decode cX0_number 52 = .ok (.getfield 27, 3) := by decide +kernel
theorem dX0_number_55 : decode cX0_number 55 = .ok (.ireturn, 1) := by decide +kernel
theorem dX0_number_56 : decode cX0_number 56 = .ok (.aload_n 0, 1) := by decide +kernel
theorem dX0_number_57 : decode cX0_number 57 = .ok (.getfield 21, 3) := by decide +kernel
theorem dX0_number_60 : decode cX0_number 60 = .ok (.ireturn, 1) := by decide +kernel
theorem dX0_number_61 : decode cX0_number 61 = .ok (.aload_n 0, 1) := by decide +kernel
theorem dX0_number_62 : decode cX0_number 62 = .ok (.getfield 24, 3) := by decide +kernel
theorem dX0_number_65 : decode cX0_number 65 = .ok (.ireturn, 1) := by decide +kernel
theorem dX0_copyFrom_0 : decode cX0_copyFrom 0 = .ok (.aload_n 0, 1) := by decide +kernel
theorem dX0_copyFrom_1 : decode cX0_copyFrom 1 = .ok (.aload_n 1, 1) := by decide +kernel
theorem dX0_copyFrom_2 : decode cX0_copyFrom 2 = .ok (.getfield 9, 3) := by decide +kernel
theorem dX0_copyFrom_5 : decode cX0_copyFrom 5 = .ok (.putfield 9, 3) := by decide +kernel
theorem dX0_copyFrom_8 : decode cX0_copyFrom 8 = .ok (.aload_n 0, 1) := by decide +kernel
theorem dX0_copyFrom_9 : decode cX0_copyFrom 9 = .ok (.aload_n 1, 1) := by decide +kernel
theorem dX0_copyFrom_10 : decode cX0_copyFrom 10 = .ok (.getfield 15, 3) := by decide +kernel
theorem dX0_copyFrom_13 : decode cX0_copyFrom 13 = .ok (.putfield 15, 3) := by decide +kernel
theorem dX0_copyFrom_16 : decode cX0_copyFrom 16 = .ok (.aload_n 0, 1) := by decide +kernel
theorem dX0_copyFrom_17 : decode cX0_copyFrom 17 = .ok (.aload_n 1, 1) := by decide +kernel
theorem dX0_copyFrom_18 : decode cX0_copyFrom 18 = .ok (.getfield 18, 3) := by decide +kernel
theorem dX0_copyFrom_21 : decode cX0_copyFrom 21 = .ok (.putfield 18, 3) := by decide +kernel
theorem dX0_copyFrom_24 : decode cX0_copyFrom 24 = .ok (.aload_n 0, 1) := by decide +kernel
theorem dX0_copyFrom_25 : decode cX0_copyFrom 25 = .ok (.aload_n 1, 1) := by decide +kernel
theorem dX0_copyFrom_26 : decode cX0_copyFrom 26 = .ok (.getfield 21, 3) := by decide +kernel
theorem dX0_copyFrom_29 : decode cX0_copyFrom 29 = .ok (.putfield 21, 3) := by decide +kernel
theorem dX0_copyFrom_32 : decode cX0_copyFrom 32 = .ok (.aload_n 0, 1) := by decide +kernel
theorem dX0_copyFrom_33 : decode cX0_copyFrom 33 = .ok (.aload_n 1, 1) := by decide +kernel
theorem dX0_copyFrom_34 : decode cX0_copyFrom 34 = .ok (.getfield 24, 3) := by decide +kernel
theorem dX0_copyFrom_37 : decode cX0_copyFrom 37 = .ok (.putfield 24, 3) := by decide +kernel
theorem dX0_copyFrom_40 : decode cX0_copyFrom 40 = .ok (.aload_n 0, 1) := by decide +kernel
theorem dX0_copyFrom_41 : decode cX0_copyFrom 41 = .ok (.aload_n 1, 1) := by decide +kernel
theorem dX0_copyFrom_42 : decode cX0_copyFrom 42 = .ok (.getfield 27, 3) := by decide +kernel
theorem dX0_copyFrom_45 : decode cX0_copyFrom 45 = .ok (.putfield 27, 3) := by decide +kernel
theorem dX0_copyFrom_48 : decode cX0_copyFrom 48 = .ok (.aload_n 0, 1) := by decide +kernel
theorem dX0_copyFrom_49 : decode cX0_copyFrom 49 = .ok (.aload_n 1, 1) := by decide +kernel
theorem dX0_copyFrom_50 : decode cX0_copyFrom 50 = .ok (.getfield 30, 3) := by decide +kernel
theorem dX0_copyFrom_53 : decode cX0_copyFrom 53 = .ok (.putfield 30, 3) := by decide +kernel
theorem dX0_copyFrom_56 : decode cX0_copyFrom 56 = .ok (.aload_n 0, 1) := by decide +kernel
theorem dX0_copyFrom_57 : decode cX0_copyFrom 57 = .ok (.aload_n 1, 1) := by decide +kernel
theorem dX0_copyFrom_58 : decode cX0_copyFrom 58 = .ok (.getfield 33, 3) := by decide +kernel
theorem dX0_copyFrom_61 : decode cX0_copyFrom 61 = .ok (.putfield 33, 3) := by decide +kernel
theorem dX0_copyFrom_64 : decode cX0_copyFrom 64 = .ok (.return_, 1) := by decide +kernel
theorem dX1_init_0 : decode cX1_init 0 = .ok (.aload_n 0, 1) := by decide +kernel
theorem dX1_init_1 : decode cX1_init 1 = .ok (.invokespecial 3, 3) := by decide +kernel
theorem dX1_init_4 : decode cX1_init 4 = .ok (.aload_n 0, 1) := by decide +kernel
theorem dX1_init_5 : decode cX1_init 5 = .ok (.bipush 80, 2) := by decide +kernel
theorem dX1_init_7 : decode cX1_init 7 = .ok (.newarray .int, 2) := by decide +kernel
theorem dX1_init_9 : decode cX1_init 9 = .ok (.putfield 9, 3) := by decide +kernel
theorem dX1_init_12 : decode cX1_init 12 = .ok (.aload_n 0, 1) := by decide +kernel
theorem dX1_init_13 : decode cX1_init 13 = .ok (.bipush 80, 2) := by decide +kernel
theorem dX1_init_15 : decode cX1_init 15 = .ok (.newarray .int, 2) := by decide +kernel
theorem dX1_init_17 : decode cX1_init 17 = .ok (.putfield 15, 3) := by decide +kernel
theorem dX1_init_20 : decode cX1_init 20 = .ok (.return_, 1) := by decide +kernel
theorem dX1_size_0 : decode cX1_size 0 = .ok (.aload_n 0, 1) := by decide +kernel
theorem dX1_size_1 : decode cX1_size 1 = .ok (.getfield 18, 3) := by decide +kernel
theorem dX1_size_4 : decode cX1_size 4 = .ok (.aload_n 0, 1) := by decide +kernel
theorem dX1_size_5 : decode cX1_size 5 = .ok (.getfield 22, 3) := by decide +kernel
theorem dX1_size_8 : decode cX1_size 8 = .ok (.isub, 1) := by decide +kernel
theorem dX1_size_9 : decode cX1_size 9 = .ok (.ireturn, 1) := by decide +kernel
theorem dX1_kindOf_0 : decode cX1_kindOf 0 = .ok (.aload_n 0, 1) := by decide +kernel
theorem dX1_kindOf_1 : decode cX1_kindOf 1 = .ok (.getfield 22, 3) := by decide +kernel
theorem dX1_kindOf_4 : decode cX1_kindOf 4 = .ok (.iload_n 1, 1) := by decide +kernel
theorem dX1_kindOf_5 : decode cX1_kindOf 5 = .ok (.iadd, 1) := by decide +kernel
theorem dX1_kindOf_6 : decode cX1_kindOf 6 = .ok (.istore_n 2, 1) := by decide +kernel
theorem dX1_kindOf_7 : decode cX1_kindOf 7 = .ok (.iload_n 2, 1) := by decide +kernel
theorem dX1_kindOf_8 : decode cX1_kindOf 8 = .ok (.ifCond .lt 21, 3) := by decide +kernel
theorem dX1_kindOf_11 : decode cX1_kindOf 11 = .ok (.iload_n 2, 1) := by decide +kernel
theorem dX1_kindOf_12 : decode cX1_kindOf 12 = .ok (.aload_n 0, 1) := by decide +kernel
theorem dX1_kindOf_13 : decode cX1_kindOf 13 = .ok (.getfield 9, 3) := by decide +kernel
theorem dX1_kindOf_16 : decode cX1_kindOf 16 = .ok (.arraylength, 1) := by decide +kernel
theorem dX1_kindOf_17 : decode cX1_kindOf 17 = .ok (.if_icmp .ge 12, 3) := by decide +kernel
theorem dX1_kindOf_20 : decode cX1_kindOf 20 = .ok (.aload_n 0, 1) := by decide +kernel
theorem dX1_kindOf_21 : decode cX1_kindOf 21 = .ok (.getfield 9, 3) := by decide +kernel
theorem dX1_kindOf_24 : decode cX1_kindOf 24 = .ok (.iload_n 2, 1) := by decide +kernel
theorem dX1_kindOf_25 : decode cX1_kindOf 25 = .ok (.iaload, 1) := by decide +kernel
theorem dX1_kindOf_26 : decode cX1_kindOf 26 = .ok (.goto 4, 3) := by decide +kernel
theorem dX1_kindOf_29 : decode cX1_kindOf 29 = .ok (.iconst (-1), 1) := by decide +kernel
theorem dX1_kindOf_30 : decode cX1_kindOf 30 = .ok (.ireturn, 1) := by decide +kernel
theorem dX1_lengthOf_0 : decode cX1_lengthOf 0 = .ok (.aload_n 0, 1) := by decide +kernel
theorem dX1_lengthOf_1 : decode cX1_lengthOf 1 = .ok (.getfield 22, 3) := by decide +kernel
theorem dX1_lengthOf_4 : decode cX1_lengthOf 4 = .ok (.iload_n 1, 1) := by decide +kernel
theorem dX1_lengthOf_5 : decode cX1_lengthOf 5 = .ok (.iadd, 1) := by decide +kernel
theorem dX1_lengthOf_6 : decode cX1_lengthOf 6 = .ok (.istore_n 2, 1) := by decide +kernel
theorem dX1_lengthOf_7 : decode cX1_lengthOf 7 = .ok (.iload_n 2, 1) := by decide +kernel
theorem dX1_lengthOf_8 : decode cX1_lengthOf 8 = .ok (.ifCond .lt 21, 3) := by decide +kernel
theorem dX1_lengthOf_11 : decode cX1_lengthOf 11 = .ok (.iload_n 2, 1) := by decide +kernel
theorem dX1_lengthOf_12 : decode cX1_lengthOf 12 = .ok (.aload_n 0, 1) := by decide +kernel
theorem dX1_lengthOf_13 : decode cX1_lengthOf 13 = .ok (.getfield 15, 3) := by decide +kernel
theorem dX1_lengthOf_16 : decode cX1_lengthOf 16 = .ok (.arraylength, 1) := by decide +kernel
theorem dX1_lengthOf_17 : decode cX1_lengthOf 17 = .ok (.if_icmp .ge 12, 3) := by decide +kernel
theorem dX1_lengthOf_20 : decode cX1_lengthOf 20 = .ok (.aload_n 0, 1) := by decide +kernel
theorem dX1_lengthOf_21 : decode cX1_lengthOf 21 = .ok (.getfield 15, 3) := by decide +kernel
theorem dX1_lengthOf_24 : decode cX1_lengthOf 24 = .ok (.iload_n 2, 1) := by decide +kernel
theorem dX1_lengthOf_25 : decode cX1_lengthOf 25 = .ok (.iaload, 1) := by decide +kernel
theorem dX1_lengthOf_26 : decode cX1_lengthOf 26 = .ok (.goto 4, 3) := by decide +kernel
theorem dX1_lengthOf_29 : decode cX1_lengthOf 29 = .ok (.iconst 0, 1) := by decide +kernel
theorem dX1_lengthOf_30 : decode cX1_lengthOf 30 = .ok (.ireturn, 1) := by decide +kernel
set_option maxRecDepth 20000 in
theorem ggX1_lengthAhead_X1_lengthOf : GoodIn wsX1_lengthAhead wsX1_lengthOf := goodIn_r _ [5, 6, 7, 8, 9, 10, 11] (by decide +kernel) (by decide +kernel)
set_option maxRecDepth 20000 in
theorem gX1_lengthAhead_X1_lengthOf : GoodIn wsX1_lengthAhead (wsV RX1 25 RX1 yX1_lengthOf wsX1_lengthOf) := goodIn_app (goodIn_of _ (by decide +kernel)) ggX1_lengthAhead_X1_lengthOf
theorem dX1_lengthAhead_0 : decode cX1_lengthAhead 0 = .ok (.iconst 0, 1) := by decide +kernel
theorem dX1_lengthAhead_1 : decode cX1_lengthAhead 1 = .ok (.istore_n 2, 1) := by decide +kernel
theorem dX1_lengthAhead_2 : decode cX1_lengthAhead 2 = .ok (.iconst 0, 1) := by decide +kernel
theorem dX1_lengthAhead_3 : decode cX1_lengthAhead 3 = .ok (.istore_n 3, 1) := by decide +kernel
theorem dX1_lengthAhead_4 : decode cX1_lengthAhead 4 = .ok (.iload_n 3, 1) := by decide +kernel
theorem dX1_lengthAhead_5 : decode cX1_lengthAhead 5 = .ok (.iload_n 1, 1) := by decide +kernel
theorem dX1_lengthAhead_6 : decode cX1_lengthAhead 6 = .ok (.if_icmp .ge 17, 3) := by decide +kernel
theorem dX1_lengthAhead_9 : decode cX1_lengthAhead 9 = .ok (.iload_n 2, 1) := by decide +kernel
theorem dX1_lengthAhead_10 : decode cX1_lengthAhead 10 = .ok (.aload_n 0, 1) := by decide +kernel
theorem dX1_lengthAhead_11 : decode cX1_lengthAhead 11 = .ok (.iload_n 3, 1) := by decide +kernel
theorem dX1_lengthAhead_12 : decode cX1_lengthAhead 12 = .ok (.invokevirtual 25, 3) := by decide +kernel
theorem dX1_lengthAhead_15 : decode cX1_lengthAhead 15 = .ok (.iadd, 1) := by decide +kernel
theorem dX1_lengthAhead_16 : decode cX1_lengthAhead 16 = .ok (.istore_n 2, 1) := by decide +kernel
theorem dX1_lengthAhead_17 : decode cX1_lengthAhead 17 = .ok (.iinc 3 1, 3) := by decide +kernel
theorem dX1_lengthAhead_20 : decode cX1_lengthAhead 20 = .ok (.goto (-16), 3) := by decide +kernel
theorem dX1_lengthAhead_23 : decode cX1_lengthAhead 23 = .ok (.iload_n 2, 1) := by decide +kernel
theorem dX1_lengthAhead_24 : decode cX1_lengthAhead 24 = .ok (.ireturn, 1) := by decide +kernel
set_option maxRecDepth 20000 in
theorem ggX1_labels_X1_size : GoodIn wsX1_labels wsX1_size := goodIn_r _ [5, 6, 7, 13, 14, 15, 16] (by decide +kernel) (by decide +kernel)
set_option maxRecDepth 20000 in
theorem gX1_labels_X1_size : GoodIn wsX1_labels (wsV RX1 29 RX1 yX1_size wsX1_size) := goodIn_app (goodIn_of _ (by decide +kernel)) ggX1_labels_X1_size
set_option maxRecDepth 20000 in
theorem ggX1_labels_X1_kindOf : GoodIn wsX1_labels wsX1_kindOf := goodIn_r _ [11, 7, 12, 13, 14, 15, 16] (by decide +kernel) (by decide +kernel)
set_option maxRecDepth 20000 in
theorem gX1_labels_X1_kindOf : GoodIn wsX1_labels (wsV RX1 33 RX1 yX1_kindOf wsX1_kindOf) := goodIn_app (goodIn_of _ (by decide +kernel)) ggX1_labels_X1_kindOf
theorem dX1_labels_0 : decode cX1_labels 0 = .ok (.iconst 0, 1) := by decide +kernel
theorem dX1_labels_1 : decode cX1_labels 1 = .ok (.istore_n 1, 1) := by decide +kernel
theorem dX1_labels_2 : decode cX1_labels 2 = .ok (.iconst 0, 1) := by decide +kernel
theorem dX1_labels_3 : decode cX1_labels 3 = .ok (.istore_n 2, 1) := by decide +kernel
theorem dX1_labels_4 : decode cX1_labels 4 = .ok (.iload_n 2, 1) := by decide +kernel
theorem dX1_labels_5 : decode cX1_labels 5 = .ok (.aload_n 0, 1) := by decide +kernel
theorem dX1_labels_6 : decode cX1_labels 6 = .ok (.invokevirtual 29, 3) := by decide +kernel
theorem dX1_labels_9 : decode cX1_labels 9 = .ok (.if_icmp .ge 20, 3) := by decide +kernel
theorem dX1_labels_12 : decode cX1_labels 12 = .ok (.aload_n 0, 1) := by decide +kernel
theorem dX1_labels_13 : decode cX1_labels 13 = .ok (.iload_n 2, 1) := by decide +kernel
theorem dX1_labels_14 : decode cX1_labels 14 = .ok (.invokevirtual 33, 3) := by decide +kernel
theorem dX1_labels_17 : decode cX1_labels 17 = .ok (.ifCond .ne 6, 3) := by decide +kernel
theorem dX1_labels_20 : decode cX1_labels 20 = .ok (.iinc 1 1, 3) := by decide +kernel
theorem dX1_labels_23 : decode cX1_labels 23 = .ok (.iinc 2 1, 3) := by decide +kernel
theorem dX1_labels_26 : decode cX1_labels 26 = .ok (.goto (-22), 3) := by decide +kernel
theorem dX1_labels_29 : decode cX1_labels 29 = .ok (.iload_n 1, 1) := by decide +kernel
theorem dX1_labels_30 : decode cX1_labels 30 = .ok (.ireturn, 1) := by decide +kernel
theorem dX1_removeAll_0 : decode cX1_removeAll 0 = .ok (.aload_n 0, 1) := by decide +kernel
theorem dX1_removeAll_1 : decode cX1_removeAll 1 = .ok (.iconst 0, 1) := by decide +kernel
theorem dX1_removeAll_2 : decode cX1_removeAll 2 = .ok (.putfield 22, 3) := by decide +kernel
theorem dX1_removeAll_5 : decode cX1_removeAll 5 = .ok (.aload_n 0, 1) := by decide +kernel
theorem dX1_removeAll_6 : decode cX1_removeAll 6 = .ok (.iconst 0, 1) := by decide +kernel
theorem dX1_removeAll_7 : decode cX1_removeAll 7 = .ok (.putfield 18, 3) := by decide +kernel
theorem dX1_removeAll_10 : decode cX1_removeAll 10 = .ok (.return_, 1) := by decide +kernel
theorem dX1_removeFirst_0 : decode cX1_removeFirst 0 = .ok (.aload_n 0, 1) := by decide +kernel
theorem dX1_removeFirst_1 : decode cX1_removeFirst 1 = .ok (.dup, 1) := by decide +kernel
theorem dX1_removeFirst_2 : decode cX1_removeFirst 2 = .ok (.getfield 22, 3) := by decide +kernel
theorem dX1_removeFirst_5 : decode cX1_removeFirst 5 = .ok (.iload_n 1, 1) := by decide +kernel
theorem dX1_removeFirst_6 : decode cX1_removeFirst 6 = .ok (.iadd, 1) := by decide +kernel
theorem dX1_removeFirst_7 : decode cX1_removeFirst 7 = .ok (.putfield 22, 3) := by decide +kernel
theorem dX1_removeFirst_10 : decode cX1_removeFirst 10 = .ok (.return_, 1) := by decide +kernel
theorem dX1_append_0 : decode cX1_append 0 = .ok (.aload_n 0, 1) := by decide +kernel
theorem dX1_append_1 : decode cX1_append 1 = .ok (.getfield 18, 3) := by decide +kernel
theorem dX1_append_4 : decode cX1_append 4 = .ok (.ifCond .lt 27, 3) := by decide +kernel
theorem dX1_append_7 : decode cX1_append 7 = .ok (.aload_n 0, 1) := by decide +kernel
theorem dX1_append_8 : decode cX1_append 8 = .ok (.getfield 18, 3) := by decide +kernel
theorem dX1_append_11 : decode cX1_append 11 = .ok (.aload_n 0, 1) := by decide +kernel
theorem dX1_append_12 : decode cX1_append 12 = .ok (.getfield 9, 3) := by decide +kernel
theorem dX1_append_15 : decode cX1_append 15 = .ok (.arraylength, 1) := by decide +kernel
theorem dX1_append_16 : decode cX1_append 16 = .ok (.if_icmp .ge 15, 3) := by decide +kernel
theorem dX1_append_19 : decode cX1_append 19 = .ok (.aload_n 0, 1) := by decide +kernel
theorem dX1_append_20 : decode cX1_append 20 = .ok (.getfield 18, 3) := by decide +kernel
theorem dX1_append_23 : decode cX1_append 23 = .ok (.aload_n 0, 1) := by decide +kernel
theorem dX1_append_24 : decode cX1_append 24 = .ok (.getfield 15, 3) := by decide +kernel
theorem dX1_append_27 : decode cX1_append 27 = .ok (.arraylength, 1) := by decide +kernel
theorem dX1_append_28 : decode cX1_append 28 = .ok (.if_icmp .lt 5, 3) := by decide +kernel
theorem dX1_append_31 : decode cX1_append 31 = .ok (.iconst 0, 1) := by decide +kernel
theorem dX1_append_32 : decode cX1_append 32 = .ok (.ireturn, 1) := by decide +kernel
theorem dX1_append_33 : decode cX1_append 33 = .ok (.aload_n 0, 1) := by decide +kernel
theorem dX1_append_34 : decode cX1_append 34 = .ok (.getfield 9, 3) := by decide +kernel
theorem dX1_append_37 : decode cX1_append 37 = .ok (.aload_n 0, 1) := by decide +kernel
theorem dX1_append_38 : decode cX1_append 38 = .ok (.getfield 18, 3) := by decide +kernel
theorem dX1_append_41 : decode cX1_append 41 = .ok (.iload_n 1, 1) := by decide +kernel
theorem dX1_append_42 : decode cX1_append 42 = .ok (.iastore, 1) := by decide +kernel
theorem dX1_append_43 : decode cX1_append 43 = .ok (.aload_n 0, 1) := by decide +kernel
theorem dX1_append_44 : decode cX1_append 44 = .ok (.getfield 15, 3) := by decide +kernel
theorem dX1_append_47 : decode cX1_append 47 = .ok (.aload_n 0, 1) := by decide +kernel
theorem dX1_append_48 : decode cX1_append 48 = .ok (.getfield 18, 3) := by decide +kernel
theorem dX1_append_51 : decode cX1_append 51 = .ok (.iload_n 2, 1) := by decide +kernel
theorem dX1_append_52 : decode cX1_append 52 = .ok (.iastore, 1) := by decide +kernel
theorem dX1_append_53 : decode cX1_append 53 = .ok (.aload_n 0, 1) := by decide +kernel
theorem dX1_append_54 : decode cX1_append 54 = .ok (.dup, 1) := by decide +kernel
theorem dX1_append_55 : decode cX1_append 55 = .ok (.getfield 18, 3) := by decide +kernel
theorem dX1_append_58 : decode cX1_append 58 = .ok (.iconst 1, 1) := by decide +kernel
theorem dX1_append_59 : decode cX1_append 59 = .ok (.iadd, 1) := by decide +kernel
theorem dX1_append_60 : decode cX1_append 60 = .ok (.putfield 18, 3) := by decide +kernel
theorem dX1_append_63 : decode cX1_append 63 = .ok (.iconst 1, 1) := by decide +kernel
theorem dX1_append_64 : decode cX1_append 64 = .ok (.ireturn, 1) := by decide +kernel
set_option maxRecDepth 20000 in
theorem ggX1_appendAll_X1_closeUp : GoodIn wsX1_appendAll wsX1_closeUp := goodIn_r _ [5, 6, 7, 8, 9, 4, 10, 11, 12, 13, 14, 15, 16, 17, 18, 19, 20, 21, 22, 23, 24, 25, 26, 27, 28, 29, 30, 31, 32, 33] (by decide +kernel) (by decide +kernel)
set_option maxRecDepth 20000 in
theorem gX1_appendAll_X1_closeUp : GoodIn wsX1_appendAll (wsV RX1 36 RX1 yX1_closeUp wsX1_closeUp) := goodIn_app (goodIn_of _ (by decide +kernel)) ggX1_appendAll_X1_closeUp
set_option maxRecDepth 20000 in
theorem ggX1_appendAll_X1_size : GoodIn wsX1_appendAll wsX1_size := goodIn_r _ [10, 11, 6, 30, 31, 32, 33] (by decide +kernel) (by decide +kernel)
set_option maxRecDepth 20000 in
theorem gX1_appendAll_X1_size : GoodIn wsX1_appendAll (wsV RX1 29 RX1 yX1_size wsX1_size) := goodIn_app (goodIn_of _ (by decide +kernel)) ggX1_appendAll_X1_size
set_option maxRecDepth 20000 in
theorem ggX1_appendAll_X1_kindOf : GoodIn wsX1_appendAll wsX1_kindOf := goodIn_r _ [19, 6, 20, 30, 31, 32, 33] (by decide +kernel) (by decide +kernel)
set_option maxRecDepth 20000 in
theorem gX1_appendAll_X1_kindOf : GoodIn wsX1_appendAll (wsV RX1 33 RX1 yX1_kindOf wsX1_kindOf) := goodIn_app (goodIn_of _ (by decide +kernel)) ggX1_appendAll_X1_kindOf
set_option maxRecDepth 20000 in
theorem ggX1_appendAll_X1_lengthOf : GoodIn wsX1_appendAll wsX1_lengthOf := goodIn_r _ [24, 6, 25, 30, 31, 32, 33] (by decide +kernel) (by decide +kernel)
set_option maxRecDepth 20000 in
theorem gX1_appendAll_X1_lengthOf : GoodIn wsX1_appendAll (wsV RX1 25 RX1 yX1_lengthOf wsX1_lengthOf) := goodIn_app (goodIn_of _ (by decide +kernel)) ggX1_appendAll_X1_lengthOf
set_option maxRecDepth 20000 in
theorem ggX1_appendAll_X1_append : GoodIn wsX1_appendAll wsX1_append := goodIn_r _ [29, 11, 20, 25, 30, 31, 32, 33] (by decide +kernel) (by decide +kernel)
set_option maxRecDepth 20000 in
theorem gX1_appendAll_X1_append : GoodIn wsX1_appendAll (wsV RX1 39 RX1 yX1_append wsX1_append) := goodIn_app (goodIn_of _ (by decide +kernel)) ggX1_appendAll_X1_append
theorem dX1_appendAll_0 : decode cX1_appendAll 0 = .ok (.aload_n 0, 1) := by decide +kernel
theorem dX1_appendAll_1 : decode cX1_appendAll 1 = .ok (.invokevirtual 36, 3) := by decide +kernel
theorem dX1_appendAll_4 : decode cX1_appendAll 4 = .ok (.iconst 0, 1) := by decide +kernel
theorem dX1_appendAll_5 : decode cX1_appendAll 5 = .ok (.istore_n 2, 1) := by decide +kernel
theorem dX1_appendAll_6 : decode cX1_appendAll 6 = .ok (.iload_n 2, 1) := by decide +kernel
theorem dX1_appendAll_7 : decode cX1_appendAll 7 = .ok (.aload_n 1, 1) := by decide +kernel
theorem dX1_appendAll_8 : decode cX1_appendAll 8 = .ok (.invokevirtual 29, 3) := by decide +kernel
theorem dX1_appendAll_11 : decode cX1_appendAll 11 = .ok (.if_icmp .ge 24, 3) := by decide +kernel
theorem dX1_appendAll_14 : decode cX1_appendAll 14 = .ok (.aload_n 0, 1) := by decide +kernel
theorem dX1_appendAll_15 : decode cX1_appendAll 15 = .ok (.aload_n 1, 1) := by decide +kernel
theorem dX1_appendAll_16 : decode cX1_appendAll 16 = .ok (.iload_n 2, 1) := by decide +kernel
theorem dX1_appendAll_17 : decode cX1_appendAll 17 = .ok (.invokevirtual 33, 3) := by decide +kernel
theorem dX1_appendAll_20 : decode cX1_appendAll 20 = .ok (.aload_n 1, 1) := by decide +kernel
theorem dX1_appendAll_21 : decode cX1_appendAll 21 = .ok (.iload_n 2, 1) := by decide +kernel
theorem dX1_appendAll_22 : decode cX1_appendAll 22 = .ok (.invokevirtual 25, 3) := by decide +kernel
theorem dX1_appendAll_25 : decode cX1_appendAll 25 = .ok (.invokevirtual 39, 3) := by decide +kernel
theorem dX1_appendAll_28 : decode cX1_appendAll 28 = .ok (.pop, 1) := by decide +kernel
theorem dX1_appendAll_29 : decode cX1_appendAll 29 = .ok (.iinc 2 1, 3) := by decide +kernel
theorem dX1_appendAll_32 : decode cX1_appendAll 32 = .ok (.goto (-26), 3) := by decide +kernel
theorem dX1_appendAll_35 : decode cX1_appendAll 35 = .ok (.return_, 1) := by decide +kernel
set_option maxRecDepth 20000 in
theorem ggX1_copyFrom_X1_removeAll : GoodIn wsX1_copyFrom wsX1_removeAll := goodIn_r _ [5, 6, 7, 34, 35, 36, 37] (by decide +kernel) (by decide +kernel)
set_option maxRecDepth 20000 in
theorem gX1_copyFrom_X1_removeAll : GoodIn wsX1_copyFrom (wsV RX1 43 RX1 yX1_removeAll wsX1_removeAll) := goodIn_app (goodIn_of _ (by decide +kernel)) ggX1_copyFrom_X1_removeAll
set_option maxRecDepth 20000 in
theorem ggX1_copyFrom_X1_appendAll : GoodIn wsX1_copyFrom wsX1_appendAll := goodIn_r _ [11, 12, 13, 14, 4, 15, 6, 16, 17, 18, 19, 7, 1, 2, 3, 5, 20, 21, 22, 23, 24, 25, 26, 27, 28, 29, 30, 31, 32, 33, 34, 35, 36, 37] (by decide +kernel) (by decide +kernel)
set_option maxRecDepth 20000 in
theorem gX1_copyFrom_X1_appendAll : GoodIn wsX1_copyFrom (wsV RX1 46 RX1 yX1_appendAll wsX1_appendAll) := goodIn_app (goodIn_of _ (by decide +kernel)) ggX1_copyFrom_X1_appendAll
theorem dX1_copyFrom_0 : decode cX1_copyFrom 0 = .ok (.aload_n 0, 1) := by decide +kernel
theorem dX1_copyFrom_1 : decode cX1_copyFrom 1 = .ok (.invokevirtual 43, 3) := by decide +kernel
theorem dX1_copyFrom_4 : decode cX1_copyFrom 4 = .ok (.aload_n 0, 1) := by decide +kernel
theorem dX1_copyFrom_5 : decode cX1_copyFrom 5 = .ok (.aload_n 1, 1) := by decide +kernel
theorem dX1_copyFrom_6 : decode cX1_copyFrom 6 = .ok (.invokevirtual 46, 3) := by decide +kernel
theorem dX1_copyFrom_9 : decode cX1_copyFrom 9 = .ok (.return_, 1) := by decide +kernel
set_option maxRecDepth 20000 in
theorem ggX1_closeUp_X1_size : GoodIn wsX1_closeUp wsX1_size := goodIn_r _ [6, 7, 1, 26, 27, 28, 29] (by decide +kernel) (by decide +kernel)
set_option maxRecDepth 20000 in
theorem gX1_closeUp_X1_size : GoodIn wsX1_closeUp (wsV RX1 29 RX1 yX1_size wsX1_size) := goodIn_app (goodIn_of _ (by decide +kernel)) ggX1_closeUp_X1_size
set_option maxRecDepth 20000 in
theorem ggX1_closeUp_X1_removeAll : GoodIn wsX1_closeUp wsX1_removeAll := goodIn_r _ [11, 1, 7, 26, 27, 28, 29] (by decide +kernel) (by decide +kernel)
set_option maxRecDepth 20000 in
theorem gX1_closeUp_X1_removeAll : GoodIn wsX1_closeUp (wsV RX1 43 RX1 yX1_removeAll wsX1_removeAll) := goodIn_app (goodIn_of _ (by decide +kernel)) ggX1_closeUp_X1_removeAll
set_option maxRecDepth 20000 in
theorem ggX1_closeUp_X1_kindOf : GoodIn wsX1_closeUp wsX1_kindOf := goodIn_r _ [15, 1, 16, 26, 27, 28, 29] (by decide +kernel) (by decide +kernel)
set_option maxRecDepth 20000 in
theorem gX1_closeUp_X1_kindOf : GoodIn wsX1_closeUp (wsV RX1 33 RX1 yX1_kindOf wsX1_kindOf) := goodIn_app (goodIn_of _ (by decide +kernel)) ggX1_closeUp_X1_kindOf
set_option maxRecDepth 20000 in
theorem ggX1_closeUp_X1_lengthOf : GoodIn wsX1_closeUp wsX1_lengthOf := goodIn_r _ [20, 1, 21, 26, 27, 28, 29] (by decide +kernel) (by decide +kernel)
set_option maxRecDepth 20000 in
theorem gX1_closeUp_X1_lengthOf : GoodIn wsX1_closeUp (wsV RX1 25 RX1 yX1_lengthOf wsX1_lengthOf) := goodIn_app (goodIn_of _ (by decide +kernel)) ggX1_closeUp_X1_lengthOf
set_option maxRecDepth 20000 in
theorem ggX1_closeUp_X1_append : GoodIn wsX1_closeUp wsX1_append := goodIn_r _ [25, 7, 16, 21, 26, 27, 28, 29] (by decide +kernel) (by decide +kernel)
set_option maxRecDepth 20000 in
theorem gX1_closeUp_X1_append : GoodIn wsX1_closeUp (wsV RX1 39 RX1 yX1_append wsX1_append) := goodIn_app (goodIn_of _ (by decide +kernel)) ggX1_closeUp_X1_append
theorem dX1_closeUp_0 : decode cX1_closeUp 0 = .ok (.aload_n 0, 1) := by decide +kernel
theorem dX1_closeUp_1 : decode cX1_closeUp 1 = .ok (.getfield 22, 3) := by decide +kernel
theorem dX1_closeUp_4 : decode cX1_closeUp 4 = .ok (.istore_n 1, 1) := by decide +kernel
theorem dX1_closeUp_5 : decode cX1_closeUp 5 = .ok (.aload_n 0, 1) := by decide +kernel
theorem dX1_closeUp_6 : decode cX1_closeUp 6 = .ok (.invokevirtual 29, 3) := by decide +kernel
theorem dX1_closeUp_9 : decode cX1_closeUp 9 = .ok (.istore_n 2, 1) := by decide +kernel
theorem dX1_closeUp_10 : decode cX1_closeUp 10 = .ok (.aload_n 0, 1) := by decide +kernel
theorem dX1_closeUp_11 : decode cX1_closeUp 11 = .ok (.invokevirtual 43, 3) := by decide +kernel
theorem dX1_closeUp_14 : decode cX1_closeUp 14 = .ok (.iconst 0, 1) := by decide +kernel
theorem dX1_closeUp_15 : decode cX1_closeUp 15 = .ok (.istore_n 3, 1) := by decide +kernel
theorem dX1_closeUp_16 : decode cX1_closeUp 16 = .ok (.iload_n 3, 1) := by decide +kernel
theorem dX1_closeUp_17 : decode cX1_closeUp 17 = .ok (.iload_n 2, 1) := by decide +kernel
theorem dX1_closeUp_18 : decode cX1_closeUp 18 = .ok (.if_icmp .ge 28, 3) := by decide +kernel
theorem dX1_closeUp_21 : decode cX1_closeUp 21 = .ok (.aload_n 0, 1) := by decide +kernel
theorem dX1_closeUp_22 : decode cX1_closeUp 22 = .ok (.aload_n 0, 1) := by decide +kernel
theorem dX1_closeUp_23 : decode cX1_closeUp 23 = .ok (.iload_n 1, 1) := by decide +kernel
theorem dX1_closeUp_24 : decode cX1_closeUp 24 = .ok (.iload_n 3, 1) := by decide +kernel
theorem dX1_closeUp_25 : decode cX1_closeUp 25 = .ok (.iadd, 1) := by decide +kernel
theorem dX1_closeUp_26 : decode cX1_closeUp 26 = .ok (.invokevirtual 33, 3) := by decide +kernel
theorem dX1_closeUp_29 : decode cX1_closeUp 29 = .ok (.aload_n 0, 1) := by decide +kernel
theorem dX1_closeUp_30 : decode cX1_closeUp 30 = .ok (.iload_n 1, 1) := by decide +kernel
theorem dX1_closeUp_31 : decode cX1_closeUp 31 = .ok (.iload_n 3, 1) := by decide +kernel
theorem dX1_closeUp_32 : decode cX1_closeUp 32 = .ok (.iadd, 1) := by decide +kernel
theorem dX1_closeUp_33 : decode cX1_closeUp 33 = .ok (.invokevirtual 25, 3) := by decide +kernel
theorem dX1_closeUp_36 : decode cX1_closeUp 36 = .ok (.invokevirtual 39, 3) := by decide +kernel
theorem dX1_closeUp_39 : decode cX1_closeUp 39 = .ok (.pop, 1) := by decide +kernel
theorem dX1_closeUp_40 : decode cX1_closeUp 40 = .ok (.iinc 3 1, 3) := by decide +kernel
theorem dX1_closeUp_43 : decode cX1_closeUp 43 = .ok (.goto (-27), 3) := by decide +kernel
theorem dX1_closeUp_46 : decode cX1_closeUp 46 = .ok (.return_, 1) := by decide +kernel
set_option maxRecDepth 20000 in
theorem ggX2_init_X1_init : GoodIn wsX2_init wsX1_init := goodIn_r _ [26, 27, 2, 3, 20, 28, 29, 48, 49, 50, 51] (by decide +kernel) (by decide +kernel)
set_option maxRecDepth 20000 in
theorem gX2_init_X1_init : GoodIn wsX2_init (wsX1_init) := ggX2_init_X1_init
set_option maxRecDepth 20000 in
theorem ggX2_init_X5_init : GoodIn wsX2_init wsX5_init := goodIn_r _ [32, 33, 2, 3, 20, 34, 68] (by decide +kernel) (by decide +kernel)
set_option maxRecDepth 20000 in
theorem gX2_init_X5_init : GoodIn wsX2_init (wsX5_init) := ggX2_init_X5_init
set_option maxRecDepth 20000 in
theorem ggX2_init_X4_init : GoodIn wsX2_init wsX4_init := goodIn_r _ [37, 38, 2, 3, 20, 39, 40, 41, 42, 14, 43, 44, 69, 70] (by decide +kernel) (by decide +kernel)
set_option maxRecDepth 20000 in
theorem gX2_init_X4_init : GoodIn wsX2_init (wsX4_init) := ggX2_init_X4_init
set_option maxRecDepth 20000 in
theorem ggX2_init_X0_init : GoodIn wsX2_init wsX0_init := goodIn_r _ [46, 47, 2, 3] (by decide +kernel) (by decide +kernel)
set_option maxRecDepth 20000 in
theorem gX2_init_X0_init_n34 : GoodIn wsX2_init (wsX0_init) := ggX2_init_X0_init
theorem dX2_init_0 : decode cX2_init 0 = .ok (.aload_n 0, 1) := by decide +kernel
theorem dX2_init_1 : decode cX2_init 1 = .ok (.invokespecial 3, 3) := by decide +kernel
theorem dX2_init_4 : decode cX2_init 4 = .ok (.aload_n 0, 1) := by decide +kernel
theorem dX2_init_5 : decode cX2_init 5 = .ok (.new 9, 3) := by decide +kernel
theorem dX2_init_8 : decode cX2_init 8 = .ok (.dup, 1) := by decide +kernel
theorem dX2_init_9 : decode cX2_init 9 = .ok (.invokespecial 11, 3) := by decide +kernel
theorem dX2_init_12 : decode cX2_init 12 = .ok (.putfield 12, 3) := by decide +kernel
theorem dX2_init_15 : decode cX2_init 15 = .ok (.aload_n 0, 1) := by decide +kernel
theorem dX2_init_16 : decode cX2_init 16 = .ok (.new 18, 3) := by decide +kernel
theorem dX2_init_19 : decode cX2_init 19 = .ok (.dup, 1) := by decide +kernel
theorem dX2_init_20 : decode cX2_init 20 = .ok (.invokespecial 20, 3) := by decide +kernel
theorem dX2_init_23 : decode cX2_init 23 = .ok (.putfield 21, 3) := by decide +kernel
theorem dX2_init_26 : decode cX2_init 26 = .ok (.aload_n 0, 1) := by decide +kernel
theorem dX2_init_27 : decode cX2_init 27 = .ok (.new 25, 3) := by decide +kernel
theorem dX2_init_30 : decode cX2_init 30 = .ok (.dup, 1) := by decide +kernel
theorem dX2_init_31 : decode cX2_init 31 = .ok (.invokespecial 27, 3) := by decide +kernel
theorem dX2_init_34 : decode cX2_init 34 = .ok (.putfield 28, 3) := by decide +kernel
theorem dX2_init_37 : decode cX2_init 37 = .ok (.aload_n 0, 1) := by decide +kernel
theorem dX2_init_38 : decode cX2_init 38 = .ok (.new 32, 3) := by decide +kernel
theorem dX2_init_41 : decode cX2_init 41 = .ok (.dup, 1) := by decide +kernel
theorem dX2_init_42 : decode cX2_init 42 = .ok (.invokespecial 34, 3) := by decide +kernel
theorem dX2_init_45 : decode cX2_init 45 = .ok (.putfield 35, 3) := by decide +kernel
theorem dX2_init_48 : decode cX2_init 48 = .ok (.aload_n 0, 1) := by decide +kernel
theorem dX2_init_49 : decode cX2_init 49 = .ok (.bipush 8, 2) := by decide +kernel
theorem dX2_init_51 : decode cX2_init 51 = .ok (.newarray .int, 2) := by decide +kernel
theorem dX2_init_53 : decode cX2_init 53 = .ok (.putfield 39, 3) := by decide +kernel
theorem dX2_init_56 : decode cX2_init 56 = .ok (.aload_n 0, 1) := by decide +kernel
theorem dX2_init_57 : decode cX2_init 57 = .ok (.ldc 43, 2) := by decide +kernel
theorem dX2_init_59 : decode cX2_init 59 = .ok (.putfield 44, 3) := by decide +kernel
theorem dX2_init_62 : decode cX2_init 62 = .ok (.return_, 1) := by decide +kernel
set_option maxRecDepth 20000 in
theorem ggX2_copyFrom_X1_copyFrom : GoodIn wsX2_copyFrom wsX1_copyFrom := goodIn_r _ [21, 22, 23, 24, 20, 25, 26, 27, 28, 29, 30, 31, 32, 33, 34, 35, 36, 37, 38, 39, 40, 41, 42, 43, 44, 45, 46, 47, 48, 49, 50, 51, 52, 53, 109, 110, 111, 112] (by decide +kernel) (by decide +kernel)
set_option maxRecDepth 20000 in
theorem gX2_copyFrom_X1_copyFrom : GoodIn wsX2_copyFrom (wsV RX2 48 RX1 yX1_copyFrom wsX1_copyFrom) := goodIn_app (goodIn_of _ (by decide +kernel)) ggX2_copyFrom_X1_copyFrom
set_option maxRecDepth 20000 in
theorem ggX2_copyFrom_X5_copyFrom : GoodIn wsX2_copyFrom wsX5_copyFrom := goodIn_r _ [58, 59, 60, 61, 62, 57, 63, 113] (by decide +kernel) (by decide +kernel)
set_option maxRecDepth 20000 in
theorem gX2_copyFrom_X5_copyFrom : GoodIn wsX2_copyFrom (wsV RX2 52 RX5 yX5_copyFrom wsX5_copyFrom) := goodIn_app (goodIn_of _ (by decide +kernel)) ggX2_copyFrom_X5_copyFrom
set_option maxRecDepth 20000 in
theorem ggX2_copyFrom_X4_copyFrom : GoodIn wsX2_copyFrom wsX4_copyFrom := goodIn_r _ [68, 69, 70, 71, 72, 73, 67, 74, 114, 115] (by decide +kernel) (by decide +kernel)
set_option maxRecDepth 20000 in
theorem gX2_copyFrom_X4_copyFrom : GoodIn wsX2_copyFrom (wsV RX2 55 RX4 yX4_copyFrom wsX4_copyFrom) := goodIn_app (goodIn_of _ (by decide +kernel)) ggX2_copyFrom_X4_copyFrom
set_option maxRecDepth 20000 in
theorem ggX2_copyFrom_X0_copyFrom : GoodIn wsX2_copyFrom wsX0_copyFrom := goodIn_r _ [79, 80, 81, 82, 83, 84, 85, 86, 87, 116, 117, 118, 119, 120, 121, 122, 123] (by decide +kernel) (by decide +kernel)
set_option maxRecDepth 20000 in
theorem gX2_copyFrom_X0_copyFrom : GoodIn wsX2_copyFrom (wsV RX2 58 RX0 yX0_copyFrom wsX0_copyFrom) := goodIn_app (goodIn_of _ (by decide +kernel)) ggX2_copyFrom_X0_copyFrom
set_option maxRecDepth 20000 in
theorem ggX2_copyFrom_X2_cameWith : GoodIn wsX2_copyFrom wsX2_cameWith := goodIn_r _ [92, 5, 93, 94, 95, 96, 97, 98, 99, 100, 101, 102, 103, 104, 105, 106, 107, 108] (by decide +kernel) (by decide +kernel)
set_option maxRecDepth 20000 in
theorem gX2_copyFrom_X2_cameWith : GoodIn wsX2_copyFrom (wsV RX2 61 RX2 yX2_cameWith wsX2_cameWith) := goodIn_app (goodIn_of _ (by decide +kernel)) ggX2_copyFrom_X2_cameWith
theorem dX2_copyFrom_0 : decode cX2_copyFrom 0 = .ok (.aload_n 0, 1) := by decide +kernel
theorem dX2_copyFrom_1 : decode cX2_copyFrom 1 = .ok (.getfield 12, 3) := by decide +kernel
theorem dX2_copyFrom_4 : decode cX2_copyFrom 4 = .ok (.aload_n 1, 1) := by decide +kernel
theorem dX2_copyFrom_5 : decode cX2_copyFrom 5 = .ok (.getfield 12, 3) := by decide +kernel
theorem dX2_copyFrom_8 : decode cX2_copyFrom 8 = .ok (.invokevirtual 48, 3) := by decide +kernel
theorem dX2_copyFrom_11 : decode cX2_copyFrom 11 = .ok (.aload_n 0, 1) := by decide +kernel
theorem dX2_copyFrom_12 : decode cX2_copyFrom 12 = .ok (.getfield 21, 3) := by decide +kernel
theorem dX2_copyFrom_15 : decode cX2_copyFrom 15 = .ok (.aload_n 1, 1) := by decide +kernel
theorem dX2_copyFrom_16 : decode cX2_copyFrom 16 = .ok (.getfield 21, 3) := by decide +kernel
theorem dX2_copyFrom_19 : decode cX2_copyFrom 19 = .ok (.invokevirtual 52, 3) := by decide +kernel
theorem dX2_copyFrom_22 : decode cX2_copyFrom 22 = .ok (.aload_n 0, 1) := by decide +kernel
theorem dX2_copyFrom_23 : decode cX2_copyFrom 23 = .ok (.getfield 28, 3) := by decide +kernel
theorem dX2_copyFrom_26 : decode cX2_copyFrom 26 = .ok (.aload_n 1, 1) := by decide +kernel
theorem dX2_copyFrom_27 : decode cX2_copyFrom 27 = .ok (.getfield 28, 3) := by decide +kernel
theorem dX2_copyFrom_30 : decode cX2_copyFrom 30 = .ok (.invokevirtual 55, 3) := by decide +kernel
theorem dX2_copyFrom_33 : decode cX2_copyFrom 33 = .ok (.aload_n 0, 1) := by decide +kernel
theorem dX2_copyFrom_34 : decode cX2_copyFrom 34 = .ok (.getfield 35, 3) := by decide +kernel
theorem dX2_copyFrom_37 : decode cX2_copyFrom 37 = .ok (.aload_n 1, 1) := by decide +kernel
theorem dX2_copyFrom_38 : decode cX2_copyFrom 38 = .ok (.getfield 35, 3) := by decide +kernel
theorem dX2_copyFrom_41 : decode cX2_copyFrom 41 = .ok (.invokevirtual 58, 3) := by decide +kernel
theorem dX2_copyFrom_44 : decode cX2_copyFrom 44 = .ok (.iconst 0, 1) := by decide +kernel
theorem dX2_copyFrom_45 : decode cX2_copyFrom 45 = .ok (.istore_n 2, 1) := by decide +kernel
theorem dX2_copyFrom_46 : decode cX2_copyFrom 46 = .ok (.iload_n 2, 1) := by decide +kernel
theorem dX2_copyFrom_47 : decode cX2_copyFrom 47 = .ok (.aload_n 0, 1) := by decide +kernel
theorem dX2_copyFrom_48 : decode cX2_copyFrom 48 = .ok (.getfield 39, 3) := by decide +kernel
theorem dX2_copyFrom_51 : decode cX2_copyFrom 51 = .ok (.arraylength, 1) := by decide +kernel
theorem dX2_copyFrom_52 : decode cX2_copyFrom 52 = .ok (.if_icmp .ge 20, 3) := by decide +kernel
theorem dX2_copyFrom_55 : decode cX2_copyFrom 55 = .ok (.aload_n 0, 1) := by decide +kernel
theorem dX2_copyFrom_56 : decode cX2_copyFrom 56 = .ok (.getfield 39, 3) := by decide +kernel
theorem dX2_copyFrom_59 : decode cX2_copyFrom 59 = .ok (.iload_n 2, 1) := by decide +kernel
theorem dX2_copyFrom_60 : decode cX2_copyFrom 60 = .ok (.aload_n 1, 1) := by decide +kernel
theorem dX2_copyFrom_61 : decode cX2_copyFrom 61 = .ok (.iload_n 2, 1) := by decide +kernel
theorem dX2_copyFrom_62 : decode cX2_copyFrom 62 = .ok (.invokevirtual 61, 3) := by decide +kernel
theorem dX2_copyFrom_65 : decode cX2_copyFrom 65 = .ok (.iastore, 1) := by decide +kernel
theorem dX2_copyFrom_66 : decode cX2_copyFrom 66 = .ok (.iinc 2 1, 3) := by decide +kernel
theorem dX2_copyFrom_69 : decode cX2_copyFrom 69 = .ok (.goto (-23), 3) := by decide +kernel
theorem dX2_copyFrom_72 : decode cX2_copyFrom 72 = .ok (.aload_n 0, 1) := by decide +kernel
theorem dX2_copyFrom_73 : decode cX2_copyFrom 73 = .ok (.aload_n 1, 1) := by decide +kernel
theorem dX2_copyFrom_74 : decode cX2_copyFrom 74 = .ok (.getfield 44, 3) := by decide +kernel
theorem dX2_copyFrom_77 : decode cX2_copyFrom 77 = .ok (.putfield 44, 3) := by decide +kernel
theorem dX2_copyFrom_80 : decode cX2_copyFrom 80 = .ok (.aload_n 0, 1) := by decide +kernel
theorem dX2_copyFrom_81 : decode cX2_copyFrom 81 = .ok (.aload_n 1, 1) := by decide +kernel
theorem dX2_copyFrom_82 : decode cX2_copyFrom 82 = .ok (.getfield 65, 3) := by decide +kernel
theorem dX2_copyFrom_85 : decode cX2_copyFrom 85 = .ok (.putfield 65, 3) := by decide +kernel
theorem dX2_copyFrom_88 : decode cX2_copyFrom 88 = .ok (.aload_n 0, 1) := by decide +kernel
theorem dX2_copyFrom_89 : decode cX2_copyFrom 89 = .ok (.aload_n 1, 1) := by decide +kernel
theorem dX2_copyFrom_90 : decode cX2_copyFrom 90 = .ok (.getfield 69, 3) := by decide +kernel
theorem dX2_copyFrom_93 : decode cX2_copyFrom 93 = .ok (.putfield 69, 3) := by decide +kernel
theorem dX2_copyFrom_96 : decode cX2_copyFrom 96 = .ok (.aload_n 0, 1) := by decide +kernel
theorem dX2_copyFrom_97 : decode cX2_copyFrom 97 = .ok (.aload_n 1, 1) := by decide +kernel
theorem dX2_copyFrom_98 : decode cX2_copyFrom 98 = .ok (.getfield 72, 3) := by decide +kernel
theorem dX2_copyFrom_101 : decode cX2_copyFrom 101 = .ok (.putfield 72, 3) := by decide +kernel
theorem dX2_copyFrom_104 : decode cX2_copyFrom 104 = .ok (.aload_n 0, 1) := by decide +kernel
theorem dX2_copyFrom_105 : decode cX2_copyFrom 105 = .ok (.aload_n 1, 1) := by decide +kernel
theorem dX2_copyFrom_106 : decode cX2_copyFrom 106 = .ok (.getfield 76, 3) := by decide +kernel
theorem dX2_copyFrom_109 : decode cX2_copyFrom 109 = .ok (.putfield 76, 3) := by decide +kernel
theorem dX2_copyFrom_112 : decode cX2_copyFrom 112 = .ok (.aload_n 0, 1) := by decide +kernel
theorem dX2_copyFrom_113 : decode cX2_copyFrom 113 = .ok (.aload_n 1, 1) := by decide +kernel
theorem dX2_copyFrom_114 : decode cX2_copyFrom 114 = .ok (.getfield 79, 3) := by decide +kernel
theorem dX2_copyFrom_117 : decode cX2_copyFrom 117 = .ok (.putfield 79, 3) := by decide +kernel
theorem dX2_copyFrom_120 : decode cX2_copyFrom 120 = .ok (.aload_n 0, 1) := by decide +kernel
theorem dX2_copyFrom_121 : decode cX2_copyFrom 121 = .ok (.aload_n 1, 1) := by decide +kernel
theorem dX2_copyFrom_122 : decode cX2_copyFrom 122 = .ok (.getfield 82, 3) := by decide +kernel
theorem dX2_copyFrom_125 : decode cX2_copyFrom 125 = .ok (.putfield 82, 3) := by decide +kernel
theorem dX2_copyFrom_128 : decode cX2_copyFrom 128 = .ok (.aload_n 0, 1) := by decide +kernel
theorem dX2_copyFrom_129 : decode cX2_copyFrom 129 = .ok (.aload_n 1, 1) := by decide +kernel
theorem dX2_copyFrom_130 : decode cX2_copyFrom 130 = .ok (.getfield 85, 3) := by decide +kernel
theorem dX2_copyFrom_133 : decode cX2_copyFrom 133 = .ok (.putfield 85, 3) := by decide +kernel
theorem dX2_copyFrom_136 : decode cX2_copyFrom 136 = .ok (.aload_n 0, 1) := by decide +kernel
theorem dX2_copyFrom_137 : decode cX2_copyFrom 137 = .ok (.aload_n 1, 1) := by decide +kernel
theorem dX2_copyFrom_138 : decode cX2_copyFrom 138 = .ok (.getfield 88, 3) := by decide +kernel
theorem dX2_copyFrom_141 : decode cX2_copyFrom 141 = .ok (.putfield 88, 3) := by decide +kernel
theorem dX2_copyFrom_144 : decode cX2_copyFrom 144 = .ok (.aload_n 0, 1) := by decide +kernel
theorem dX2_copyFrom_145 : decode cX2_copyFrom 145 = .ok (.aload_n 1, 1) := by decide +kernel
theorem dX2_copyFrom_146 : decode cX2_copyFrom 146 = .ok (.getfield 91, 3) := by decide +kernel
theorem dX2_copyFrom_149 : decode cX2_copyFrom 149 = .ok (.putfield 91, 3) := by decide +kernel
theorem dX2_copyFrom_152 : decode cX2_copyFrom 152 = .ok (.aload_n 0, 1) := by decide +kernel
theorem dX2_copyFrom_153 : decode cX2_copyFrom 153 = .ok (.aload_n 1, 1) := by decide +kernel
theorem dX2_copyFrom_154 : decode cX2_copyFrom 154 = .ok (.getfield 94, 3) := by decide +kernel
theorem dX2_copyFrom_157 : decode cX2_copyFrom 157 = .ok (.putfield 94, 3) := by decide +kernel
theorem dX2_copyFrom_160 : decode cX2_copyFrom 160 = .ok (.return_, 1) := by decide +kernel
theorem dX2_cameWith_0 : decode cX2_cameWith 0 = .ok (.iload_n 1, 1) := by decide +kernel
theorem dX2_cameWith_1 : decode cX2_cameWith 1 = .ok (.ifCond .lt 21, 3) := by decide +kernel
theorem dX2_cameWith_4 : decode cX2_cameWith 4 = .ok (.iload_n 1, 1) := by decide +kernel
theorem dX2_cameWith_5 : decode cX2_cameWith 5 = .ok (.aload_n 0, 1) := by decide +kernel
theorem dX2_cameWith_6 : decode cX2_cameWith 6 = .ok (.getfield 39, 3) := by decide +kernel
theorem dX2_cameWith_9 : decode cX2_cameWith 9 = .ok (.arraylength, 1) := by decide +kernel
theorem dX2_cameWith_10 : decode cX2_cameWith 10 = .ok (.if_icmp .ge 12, 3) := by decide +kernel
theorem dX2_cameWith_13 : decode cX2_cameWith 13 = .ok (.aload_n 0, 1) := by decide +kernel
theorem dX2_cameWith_14 : decode cX2_cameWith 14 = .ok (.getfield 39, 3) := by decide +kernel
theorem dX2_cameWith_17 : decode cX2_cameWith 17 = .ok (.iload_n 1, 1) := by decide +kernel
theorem dX2_cameWith_18 : decode cX2_cameWith 18 = .ok (.iaload, 1) := by decide +kernel
theorem dX2_cameWith_19 : decode cX2_cameWith 19 = .ok (.goto 4, 3) := by decide +kernel
theorem dX2_cameWith_22 : decode cX2_cameWith 22 = .ok (.iconst 0, 1) := by decide +kernel
theorem dX2_cameWith_23 : decode cX2_cameWith 23 = .ok (.ireturn, 1) := by decide +kernel
set_option maxRecDepth 20000 in
theorem ggX2_number_X2_cameWith : GoodIn wsX2_number wsX2_cameWith := goodIn_r _ [19, 20, 64, 65, 66, 67, 68, 69, 70, 71, 72, 73, 74, 75, 76, 77, 78, 79] (by decide +kernel) (by decide +kernel)
set_option maxRecDepth 20000 in
theorem gX2_number_X2_cameWith : GoodIn wsX2_number (wsV RX2 61 RX2 yX2_cameWith wsX2_cameWith) := goodIn_app (goodIn_of _ (by decide +kernel)) ggX2_number_X2_cameWith
set_option maxRecDepth 20000 in
theorem ggX2_number_X5_value : GoodIn wsX2_number wsX5_value := goodIn_r _ [25, 26, 82] (by decide +kernel) (by decide +kernel)
set_option maxRecDepth 20000 in
theorem gX2_number_X5_value : GoodIn wsX2_number (wsV RX2 97 RX5 yX5_value wsX5_value) := goodIn_app (goodIn_of _ (by decide +kernel)) ggX2_number_X5_value
set_option maxRecDepth 20000 in
theorem ggX2_number_X1_size : GoodIn wsX2_number wsX1_size := goodIn_r _ [31, 32, 33, 83, 84, 85, 86] (by decide +kernel) (by decide +kernel)
set_option maxRecDepth 20000 in
theorem gX2_number_X1_size : GoodIn wsX2_number (wsV RX2 100 RX1 yX1_size wsX1_size) := goodIn_app (goodIn_of _ (by decide +kernel)) ggX2_number_X1_size
set_option maxRecDepth 20000 in
theorem ggX2_number_X1_labels : GoodIn wsX2_number wsX1_labels := goodIn_r _ [37, 38, 28, 29, 30, 31, 32, 33, 39, 40, 41, 42, 43, 83, 84, 85, 86] (by decide +kernel) (by decide +kernel)
set_option maxRecDepth 20000 in
theorem gX2_number_X1_labels : GoodIn wsX2_number (wsV RX2 104 RX1 yX1_labels wsX1_labels) := goodIn_app (goodIn_of _ (by decide +kernel)) ggX2_number_X1_labels
set_option maxRecDepth 20000 in
theorem ggX2_number_X1_lengthAhead : GoodIn wsX2_number wsX1_lengthAhead := goodIn_r _ [47, 48, 49, 50, 30, 51, 33, 52, 83, 84, 85, 86] (by decide +kernel) (by decide +kernel)
set_option maxRecDepth 20000 in
theorem gX2_number_X1_lengthAhead : GoodIn wsX2_number (wsV RX2 107 RX1 yX1_lengthAhead wsX1_lengthAhead) := goodIn_app (goodIn_of _ (by decide +kernel)) ggX2_number_X1_lengthAhead
set_option maxRecDepth 20000 in
theorem ggX2_number_X4_products : GoodIn wsX2_number wsX4_products := goodIn_r _ [57, 58, 59, 60, 61, 56, 62, 63, 80, 81] (by decide +kernel) (by decide +kernel)
set_option maxRecDepth 20000 in
theorem gX2_number_X4_products : GoodIn wsX2_number (wsV RX2 113 RX4 yX4_products wsX4_products) := goodIn_app (goodIn_of _ (by decide +kernel)) ggX2_number_X4_products
theorem dX2_number_0 : decode cX2_number 0 = .ok (.iload_n 1, 1) := by decide +kernel
theorem dX2_number_1 : decode cX2_number 1 = .ok (.bipush 24, 2) := by decide +kernel
theorem dX2_number_3 : decode cX2_number 3 = .ok (.if_icmp .lt 12, 3) := by decide +kernel
theorem dX2_number_6 : decode cX2_number 6 = .ok (.aload_n 0, 1) := by decide +kernel
theorem dX2_number_7 : decode cX2_number 7 = .ok (.iload_n 1, 1) := by decide +kernel
theorem dX2_number_8 : decode cX2_number 8 = .ok (.bipush 24, 2) := by decide +kernel
theorem dX2_number_10 : decode cX2_number 10 = .ok (.isub, 1) := by decide +kernel
theorem dX2_number_11 : decode cX2_number 11 = .ok (.invokevirtual 61, 3) := by decide +kernel
theorem dX2_number_14 : decode cX2_number 14 = .ok (.ireturn, 1) := by decide +kernel
theorem dX2_number_15 : decode cX2_number 15 = .ok (.iload_n 1, 1) := by decide +kernel
theorem dX2_number_16 : decode cX2_number 16 = .ok (.bipush 15, 2) := by decide +kernel
theorem dX2_number_18 : decode cX2_number 18 = .ok (.if_icmp .lt 15, 3) := by decide +kernel
theorem dX2_number_21 : decode cX2_number 21 = .ok (.aload_n 0, 1) := by decide +kernel
theorem dX2_number_22 : decode cX2_number 22 = .ok (.getfield 21, 3) := by decide +kernel
theorem dX2_number_25 : decode cX2_number 25 = .ok (.iload_n 1, 1) := by decide +kernel
theorem dX2_number_26 : decode cX2_number 26 = .ok (.bipush 15, 2) := by decide +kernel
theorem dX2_number_28 : decode cX2_number 28 = .ok (.isub, 1) := by decide +kernel
theorem dX2_number_29 : decode cX2_number 29 = .ok (.invokevirtual 97, 3) := by decide +kernel
theorem dX2_number_32 : decode cX2_number 32 = .ok (.ireturn, 1) := by decide +kernel
theorem dX2_number_33 : decode cX2_number 33 = .ok (.iload_n 1, 1) := by decide +kernel
theorem dX2_number_34 : decode cX2_number 34 = .ok (.tableswitch 162 0 13 #[70, 78, 86, 101, 106, 114, 122, 127, 132, 137, 142, 147, 152, 157], 70) := by decide +kernel
theorem dX2_number_104 : decode cX2_number 104 = .ok (.aload_n 0, 1) := by decide +kernel
theorem dX2_number_105 : decode cX2_number 105 = .ok (.getfield 12, 3) := by decide +kernel
theorem dX2_number_108 : decode cX2_number 108 = .ok (.invokevirtual 100, 3) := by decide +kernel
theorem dX2_number_111 : decode cX2_number 111 = .ok (.ireturn, 1) := by decide +kernel
theorem dX2_number_112 : decode cX2_number 112 = .ok (.aload_n 0, 1) := by decide +kernel
theorem dX2_number_113 : decode cX2_number 113 = .ok (.getfield 12, 3) := by decide +kernel
theorem dX2_number_116 : decode cX2_number 116 = .ok (.invokevirtual 104, 3) := by decide +kernel
theorem dX2_number_119 : decode cX2_number 119 = .ok (.ireturn, 1) := by decide +kernel
theorem dX2_number_120 : decode cX2_number 120 = .ok (.aload_n 0, 1) := by decide +kernel
theorem dX2_number_121 : decode cX2_number 121 = .ok (.getfield 12, 3) := by decide +kernel
theorem dX2_number_124 : decode cX2_number 124 = .ok (.aload_n 0, 1) := by decide +kernel
theorem dX2_number_125 : decode cX2_number 125 = .ok (.getfield 12, 3) := by decide +kernel
theorem dX2_number_128 : decode cX2_number 128 = .ok (.invokevirtual 100, 3) := by decide +kernel
theorem dX2_number_131 : decode cX2_number 131 = .ok (.invokevirtual 107, 3) := by decide +kernel
theorem dX2_number_134 : decode cX2_number 134 = .ok (.ireturn, 1) := by decide +kernel
theorem dX2_number_135 : decode cX2_number 135 = .ok (.aload_n 0, 1) := by decide +kernel
theorem dX2_number_136 : decode cX2_number 136 = .ok (.getfield 65, 3) := by decide +kernel
theorem dX2_number_139 : decode cX2_number 139 = .ok (.ireturn, 1) := by decide +kernel
theorem dX2_number_140 : decode cX2_number 140 = .ok (.aload_n 0, 1) := by decide +kernel
theorem dX2_number_141 : decode cX2_number 141 = .ok (.getfield 28, 3) := by decide +kernel
theorem dX2_number_144 : decode cX2_number 144 = .ok (.getfield 110, 3) := by decide +kernel
theorem dX2_number_147 : decode cX2_number 147 = .ok (.ireturn, 1) := by decide +kernel
theorem dX2_number_148 : decode cX2_number 148 = .ok (.aload_n 0, 1) := by decide +kernel
theorem dX2_number_149 : decode cX2_number 149 = .ok (.getfield 28, 3) := by decide +kernel
theorem dX2_number_152 : decode cX2_number 152 = .ok (.invokevirtual 113, 3) := by decide +kernel
theorem dX2_number_155 : decode cX2_number 155 = .ok (.ireturn, 1) := by decide +kernel
theorem dX2_number_156 : decode cX2_number 156 = .ok (.aload_n 0, 1) := by decide +kernel
theorem dX2_number_157 : decode cX2_number 157 = .ok (.getfield 76, 3) := by decide +kernel
theorem dX2_number_160 : decode cX2_number 160 = .ok (.ireturn, 1) := by decide +kernel
theorem dX2_number_161 : decode cX2_number 161 = .ok (.aload_n 0, 1) := by decide +kernel
theorem dX2_number_162 : decode cX2_number 162 = .ok (.getfield 79, 3) := by decide +kernel
theorem dX2_number_165 : decode cX2_number 165 = .ok (.ireturn, 1) := by decide +kernel
theorem dX2_number_166 : decode cX2_number 166 = .ok (.aload_n 0, 1) := by decide +kernel
theorem dX2_number_167 : decode cX2_number 167 = .ok (.getfield 82, 3) := by decide +kernel
theorem dX2_number_170 : decode cX2_number 170 = .ok (.ireturn, 1) := by decide +kernel
theorem dX2_number_171 : decode cX2_number 171 = .ok (.aload_n 0, 1) := by decide +kernel
theorem dX2_number_172 : decode cX2_number 172 = .ok (.getfield 85, 3) := by decide +kernel
theorem dX2_number_175 : decode cX2_number 175 = .ok (.ireturn, 1) := by decide +kernel
theorem dX2_number_176 : decode cX2_number 176 = .ok (.aload_n 0, 1) := by decide +kernel
theorem dX2_number_177 : decode cX2_number 177 = .ok (.getfield 88, 3) := by decide +kernel
theorem dX2_number_180 : decode cX2_number 180 = .ok (.ireturn, 1) := by decide +kernel
theorem dX2_number_181 : decode cX2_number 181 = .ok (.aload_n 0, 1) := by decide +kernel
theorem dX2_number_182 : decode cX2_number 182 = .ok (.getfield 91, 3) := by decide +kernel
theorem dX2_number_185 : decode cX2_number 185 = .ok (.ireturn, 1) := by decide +kernel
theorem dX2_number_186 : decode cX2_number 186 = .ok (.aload_n 0, 1) := by decide +kernel
theorem dX2_number_187 : decode cX2_number 187 = .ok (.getfield 94, 3) := by decide +kernel
theorem dX2_number_190 : decode cX2_number 190 = .ok (.ireturn, 1) := by decide +kernel
theorem dX2_number_191 : decode cX2_number 191 = .ok (.aload_n 0, 1) := by decide +kernel
theorem dX2_number_192 : decode cX2_number 192 = .ok (.getfield 69, 3) := by decide +kernel
theorem dX2_number_195 : decode cX2_number 195 = .ok (.ireturn, 1) := by decide +kernel
theorem dX2_number_196 : decode cX2_number 196 = .ok (.aload_n 0, 1) := by decide +kernel
theorem dX2_number_197 : decode cX2_number 197 = .ok (.getfield 72, 3) := by decide +kernel
theorem dX2_number_200 : decode cX2_number 200 = .ok (.ifCond .eq 7, 3) := by decide +kernel
theorem dX2_number_203 : decode cX2_number 203 = .ok (.iconst 1, 1) := by decide +kernel
theorem dX2_number_204 : decode cX2_number 204 = .ok (.goto 4, 3) := by decide +kernel
theorem dX2_number_207 : decode cX2_number 207 = .ok (.iconst 0, 1) := by decide +kernel
theorem dX2_number_208 : decode cX2_number 208 = .ok (.ireturn, 1) := by decide +kernel
set_option maxRecDepth 20000 in
theorem ggX2_rebuildRing_X4_products : GoodIn wsX2_rebuildRing wsX4_products := goodIn_r _ [7, 8, 9, 10, 11, 6, 12, 13, 42, 43] (by decide +kernel) (by decide +kernel)
set_option maxRecDepth 20000 in
theorem gX2_rebuildRing_X4_products : GoodIn wsX2_rebuildRing (wsV RX2 113 RX4 yX4_products wsX4_products) := goodIn_app (goodIn_of _ (by decide +kernel)) ggX2_rebuildRing_X4_products
set_option maxRecDepth 20000 in
theorem ggX2_rebuildRing_X4_reasonAt : GoodIn wsX2_rebuildRing wsX4_reasonAt := goodIn_r _ [12, 13, 42, 43] (by decide +kernel) (by decide +kernel)
set_option maxRecDepth 20000 in
theorem gX2_rebuildRing_X4_reasonAt : GoodIn wsX2_rebuildRing (wsV RX2 116 RX4 yX4_reasonAt wsX4_reasonAt) := goodIn_app (goodIn_of _ (by decide +kernel)) ggX2_rebuildRing_X4_reasonAt
set_option maxRecDepth 20000 in
theorem ggX2_rebuildRing_X2_passGate : GoodIn wsX2_rebuildRing wsX2_passGate := goodIn_r _ [19, 20, 21, 26, 27, 28, 29, 30, 31, 32, 33, 34, 35, 36, 37, 38, 39, 40, 41] (by decide +kernel) (by decide +kernel)
set_option maxRecDepth 20000 in
theorem gX2_rebuildRing_X2_passGate : GoodIn wsX2_rebuildRing (wsV RX2 119 RX2 yX2_passGate wsX2_passGate) := goodIn_app (goodIn_of _ (by decide +kernel)) ggX2_rebuildRing_X2_passGate
set_option maxRecDepth 20000 in
theorem ggX2_rebuildRing_X4_makeEmpty : GoodIn wsX2_rebuildRing wsX4_makeEmpty := goodIn_r _ [25, 8, 13, 42, 43] (by decide +kernel) (by decide +kernel)
set_option maxRecDepth 20000 in
theorem gX2_rebuildRing_X4_makeEmpty : GoodIn wsX2_rebuildRing (wsV RX2 123 RX4 yX4_makeEmpty wsX4_makeEmpty) := goodIn_app (goodIn_of _ (by decide +kernel)) ggX2_rebuildRing_X4_makeEmpty
theorem dX2_rebuildRing_0 : decode cX2_rebuildRing 0 = .ok (.aload_n 0, 1) := by decide +kernel
theorem dX2_rebuildRing_1 : decode cX2_rebuildRing 1 = .ok (.getfield 28, 3) := by decide +kernel
theorem dX2_rebuildRing_4 : decode cX2_rebuildRing 4 = .ok (.invokevirtual 113, 3) := by decide +kernel
theorem dX2_rebuildRing_7 : decode cX2_rebuildRing 7 = .ok (.istore_n 2, 1) := by decide +kernel
theorem dX2_rebuildRing_8 : decode cX2_rebuildRing 8 = .ok (.aload_n 0, 1) := by decide +kernel
theorem dX2_rebuildRing_9 : decode cX2_rebuildRing 9 = .ok (.getfield 28, 3) := by decide +kernel
theorem dX2_rebuildRing_12 : decode cX2_rebuildRing 12 = .ok (.getfield 110, 3) := by decide +kernel
theorem dX2_rebuildRing_15 : decode cX2_rebuildRing 15 = .ok (.iconst 1, 1) := by decide +kernel
theorem dX2_rebuildRing_16 : decode cX2_rebuildRing 16 = .ok (.isub, 1) := by decide +kernel
theorem dX2_rebuildRing_17 : decode cX2_rebuildRing 17 = .ok (.istore_n 3, 1) := by decide +kernel
theorem dX2_rebuildRing_18 : decode cX2_rebuildRing 18 = .ok (.iload_n 3, 1) := by decide +kernel
theorem dX2_rebuildRing_19 : decode cX2_rebuildRing 19 = .ok (.ifCond .lt 21, 3) := by decide +kernel
theorem dX2_rebuildRing_22 : decode cX2_rebuildRing 22 = .ok (.aload_n 0, 1) := by decide +kernel
theorem dX2_rebuildRing_23 : decode cX2_rebuildRing 23 = .ok (.aload_n 0, 1) := by decide +kernel
theorem dX2_rebuildRing_24 : decode cX2_rebuildRing 24 = .ok (.getfield 28, 3) := by decide +kernel
theorem dX2_rebuildRing_27 : decode cX2_rebuildRing 27 = .ok (.iload_n 3, 1) := by decide +kernel
theorem dX2_rebuildRing_28 : decode cX2_rebuildRing 28 = .ok (.invokevirtual 116, 3) := by decide +kernel
theorem dX2_rebuildRing_31 : decode cX2_rebuildRing 31 = .ok (.invokevirtual 119, 3) := by decide +kernel
theorem dX2_rebuildRing_34 : decode cX2_rebuildRing 34 = .ok (.iinc 3 (-1), 3) := by decide +kernel
theorem dX2_rebuildRing_37 : decode cX2_rebuildRing 37 = .ok (.goto (-19), 3) := by decide +kernel
theorem dX2_rebuildRing_40 : decode cX2_rebuildRing 40 = .ok (.aload_n 0, 1) := by decide +kernel
theorem dX2_rebuildRing_41 : decode cX2_rebuildRing 41 = .ok (.getfield 28, 3) := by decide +kernel
theorem dX2_rebuildRing_44 : decode cX2_rebuildRing 44 = .ok (.iload_n 1, 1) := by decide +kernel
theorem dX2_rebuildRing_45 : decode cX2_rebuildRing 45 = .ok (.invokevirtual 123, 3) := by decide +kernel
theorem dX2_rebuildRing_48 : decode cX2_rebuildRing 48 = .ok (.iload_n 2, 1) := by decide +kernel
theorem dX2_rebuildRing_49 : decode cX2_rebuildRing 49 = .ok (.ireturn, 1) := by decide +kernel
set_option maxRecDepth 20000 in
theorem ggX2_serveAll_X2_serve : GoodIn wsX2_serveAll wsX2_serve := goodIn_r _ [5, 6, 7, 8, 9, 10, 11, 12, 13, 14, 15, 16, 17, 18, 19, 4, 20, 21, 22, 23, 24, 25, 26, 27, 28, 29, 30, 31, 32, 33, 34, 35, 36, 37, 38, 39, 40, 41, 42, 43, 44, 45, 46, 47, 48, 49, 50, 51, 52, 53, 54, 55, 56, 57, 58, 59, 60, 61, 62, 63, 64, 65, 66, 67, 68, 69, 70, 71, 72, 73, 74, 75, 76, 77, 78, 79, 80, 81, 82, 83, 84, 85, 86, 87, 88, 89, 90, 91, 92, 93, 94, 95, 96, 97, 98, 99, 100, 101, 102, 103, 104, 105, 106, 107, 108, 109, 110, 111, 112, 113, 114, 115, 116, 117, 118, 119, 120, 121, 122, 123, 124, 125, 126, 127, 128, 129, 130, 131, 132, 133, 134, 135, 136, 137, 138, 139, 140, 141, 142, 143, 144, 145, 146, 147, 148, 149, 150, 151, 152, 153, 154] (by decide +kernel) (by decide +kernel)
set_option maxRecDepth 20000 in
theorem gX2_serveAll_X2_serve : GoodIn wsX2_serveAll (wsV RX2 126 RX2 yX2_serve wsX2_serve) := goodIn_app (goodIn_of _ (by decide +kernel)) ggX2_serveAll_X2_serve
set_option maxRecDepth 20000 in
theorem ggX2_serveAll_X2_hasTooManyFaults : GoodIn wsX2_serveAll wsX2_hasTooManyFaults := goodIn_r _ [123, 15, 11, 28, 29, 30, 31, 32, 33, 124, 125, 126, 127, 128, 129, 130, 131, 132, 133, 134, 135, 136, 137, 138, 139, 148] (by decide +kernel) (by decide +kernel)
set_option maxRecDepth 20000 in
theorem gX2_serveAll_X2_hasTooManyFaults : GoodIn wsX2_serveAll (wsV RX2 129 RX2 yX2_hasTooManyFaults wsX2_hasTooManyFaults) := goodIn_app (goodIn_of _ (by decide +kernel)) ggX2_serveAll_X2_hasTooManyFaults
theorem dX2_serveAll_0 : decode cX2_serveAll 0 = .ok (.iconst (-1), 1) := by decide +kernel
theorem dX2_serveAll_1 : decode cX2_serveAll 1 = .ok (.istore_n 3, 1) := by decide +kernel
theorem dX2_serveAll_2 : decode cX2_serveAll 2 = .ok (.iconst 1, 1) := by decide +kernel
theorem dX2_serveAll_3 : decode cX2_serveAll 3 = .ok (.istore 4, 2) := by decide +kernel
theorem dX2_serveAll_5 : decode cX2_serveAll 5 = .ok (.iload 4, 2) := by decide +kernel
theorem dX2_serveAll_7 : decode cX2_serveAll 7 = .ok (.iload_n 1, 1) := by decide +kernel
theorem dX2_serveAll_8 : decode cX2_serveAll 8 = .ok (.if_icmp .gt 29, 3) := by decide +kernel
theorem dX2_serveAll_11 : decode cX2_serveAll 11 = .ok (.aload_n 0, 1) := by decide +kernel
theorem dX2_serveAll_12 : decode cX2_serveAll 12 = .ok (.iload_n 2, 1) := by decide +kernel
theorem dX2_serveAll_13 : decode cX2_serveAll 13 = .ok (.invokevirtual 126, 3) := by decide +kernel
theorem dX2_serveAll_16 : decode cX2_serveAll 16 = .ok (.iload_n 3, 1) := by decide +kernel
theorem dX2_serveAll_17 : decode cX2_serveAll 17 = .ok (.iconst (-1), 1) := by decide +kernel
theorem dX2_serveAll_18 : decode cX2_serveAll 18 = .ok (.if_icmp .ne 13, 3) := by decide +kernel
theorem dX2_serveAll_21 : decode cX2_serveAll 21 = .ok (.aload_n 0, 1) := by decide +kernel
theorem dX2_serveAll_22 : decode cX2_serveAll 22 = .ok (.invokevirtual 129, 3) := by decide +kernel
theorem dX2_serveAll_25 : decode cX2_serveAll 25 = .ok (.ifCond .eq 6, 3) := by decide +kernel
theorem dX2_serveAll_28 : decode cX2_serveAll 28 = .ok (.iload 4, 2) := by decide +kernel
theorem dX2_serveAll_30 : decode cX2_serveAll 30 = .ok (.istore_n 3, 1) := by decide +kernel
theorem dX2_serveAll_31 : decode cX2_serveAll 31 = .ok (.iinc 4 1, 3) := by decide +kernel
theorem dX2_serveAll_34 : decode cX2_serveAll 34 = .ok (.goto (-29), 3) := by decide +kernel
theorem dX2_serveAll_37 : decode cX2_serveAll 37 = .ok (.iload_n 3, 1) := by decide +kernel
theorem dX2_serveAll_38 : decode cX2_serveAll 38 = .ok (.ireturn, 1) := by decide +kernel
set_option maxRecDepth 20000 in
theorem ggX2_serve_X2_speedTowards : GoodIn wsX2_serve wsX2_speedTowards := goodIn_r _ [16, 6, 1, 17, 18, 19, 20, 21, 22, 23, 24, 25, 26, 27, 28, 29, 120, 121, 122, 123, 124, 125, 126, 127, 128, 129, 130, 131, 132, 133, 134, 135, 144] (by decide +kernel) (by decide +kernel)
set_option maxRecDepth 20000 in
theorem gX2_serve_X2_speedTowards : GoodIn wsX2_serve (wsV RX2 133 RX2 yX2_speedTowards wsX2_speedTowards) := goodIn_app (goodIn_of _ (by decide +kernel)) ggX2_serve_X2_speedTowards
set_option maxRecDepth 20000 in
theorem ggX2_serve_X0_begin : GoodIn wsX2_serve wsX0_begin := goodIn_r _ [34, 35, 36, 37, 38, 39, 40, 136, 137, 138, 139, 140, 141, 142, 143] (by decide +kernel) (by decide +kernel)
set_option maxRecDepth 20000 in
theorem gX2_serve_X0_begin : GoodIn wsX2_serve (wsV RX2 136 RX0 yX0_begin wsX0_begin) := goodIn_app (goodIn_of _ (by decide +kernel)) ggX2_serve_X0_begin
set_option maxRecDepth 20000 in
theorem ggX2_serve_X2_feed : GoodIn wsX2_serve wsX2_feed := goodIn_r _ [44, 45, 2, 3, 46, 47, 48, 49, 50, 51, 52, 53, 54, 55, 56, 57, 58, 59, 60, 61, 62, 63, 64, 65, 66, 33, 67, 38, 35, 36, 37, 68, 69, 70, 15, 71, 6, 4, 5, 24, 25, 26, 27, 28, 29, 72, 73, 74, 75, 120, 121, 122, 123, 124, 125, 126, 127, 128, 129, 130, 131, 132, 133, 134, 135, 136, 137, 138, 139, 140, 141, 142, 143, 145, 146, 147, 148, 144] (by decide +kernel) (by decide +kernel)
set_option maxRecDepth 20000 in
theorem gX2_serve_X2_feed : GoodIn wsX2_serve (wsV RX2 139 RX2 yX2_feed wsX2_feed) := goodIn_app (goodIn_of _ (by decide +kernel)) ggX2_serve_X2_feed
set_option maxRecDepth 20000 in
theorem ggX2_serve_X5_value : GoodIn wsX2_serve wsX5_value := goodIn_r _ [28, 29, 144] (by decide +kernel) (by decide +kernel)
set_option maxRecDepth 20000 in
theorem gX2_serve_X5_value : GoodIn wsX2_serve (wsV RX2 97 RX5 yX5_value wsX5_value) := goodIn_app (goodIn_of _ (by decide +kernel)) ggX2_serve_X5_value
set_option maxRecDepth 20000 in
theorem ggX2_serve_X2_reasonAt : GoodIn wsX2_serve wsX2_reasonAt := goodIn_r _ [79, 2, 3, 80, 81, 7, 1, 82, 83, 19, 84, 6, 24, 25, 26, 27, 28, 29, 120, 121, 122, 123, 124, 125, 126, 127, 128, 129, 130, 131, 132, 133, 134, 135, 136, 137, 138, 139, 140, 141, 142, 143, 144] (by decide +kernel) (by decide +kernel)
set_option maxRecDepth 20000 in
theorem gX2_serve_X2_reasonAt : GoodIn wsX2_serve (wsV RX2 151 RX2 yX2_reasonAt wsX2_reasonAt) := goodIn_app (goodIn_of _ (by decide +kernel)) ggX2_serve_X2_reasonAt
set_option maxRecDepth 20000 in
theorem ggX2_serve_X2_countCycle : GoodIn wsX2_serve wsX2_countCycle := goodIn_r _ [88, 2, 8, 89, 90, 91, 81, 92, 80, 93, 7, 94, 120, 121, 122, 123, 124, 125, 126, 127, 128, 129, 130, 131, 132, 133, 134, 135, 136, 137, 138, 139, 140, 141, 142, 143] (by decide +kernel) (by decide +kernel)
set_option maxRecDepth 20000 in
theorem gX2_serve_X2_countCycle : GoodIn wsX2_serve (wsV RX2 155 RX2 yX2_countCycle wsX2_countCycle) := goodIn_app (goodIn_of _ (by decide +kernel)) ggX2_serve_X2_countCycle
set_option maxRecDepth 20000 in
theorem ggX2_serve_X2_learnPitch : GoodIn wsX2_serve wsX2_learnPitch := goodIn_r _ [98, 6, 99, 5, 2, 4, 24, 25, 26, 27, 28, 29, 120, 121, 122, 123, 124, 125, 126, 127, 128, 129, 130, 131, 132, 133, 134, 135, 136, 137, 138, 139, 140, 141, 142, 143, 144] (by decide +kernel) (by decide +kernel)
set_option maxRecDepth 20000 in
theorem gX2_serve_X2_learnPitch : GoodIn wsX2_serve (wsV RX2 158 RX2 yX2_learnPitch wsX2_learnPitch) := goodIn_app (goodIn_of _ (by decide +kernel)) ggX2_serve_X2_learnPitch
set_option maxRecDepth 20000 in
theorem ggX2_serve_X4_moveOn : GoodIn wsX2_serve wsX4_moveOn := goodIn_r _ [104, 105, 106, 149, 150] (by decide +kernel) (by decide +kernel)
set_option maxRecDepth 20000 in
theorem gX2_serve_X4_moveOn : GoodIn wsX2_serve (wsV RX2 161 RX4 yX4_moveOn wsX4_moveOn) := goodIn_app (goodIn_of _ (by decide +kernel)) ggX2_serve_X4_moveOn
set_option maxRecDepth 20000 in
theorem ggX2_serve_X2_passGate : GoodIn wsX2_serve wsX2_passGate := goodIn_r _ [110, 111, 112, 120, 121, 122, 123, 124, 125, 126, 127, 128, 129, 130, 131, 132, 133, 134, 135] (by decide +kernel) (by decide +kernel)
set_option maxRecDepth 20000 in
theorem gX2_serve_X2_passGate : GoodIn wsX2_serve (wsV RX2 119 RX2 yX2_passGate wsX2_passGate) := goodIn_app (goodIn_of _ (by decide +kernel)) ggX2_serve_X2_passGate
set_option maxRecDepth 20000 in
theorem ggX2_serve_X2_isFault : GoodIn wsX2_serve wsX2_isFault := goodIn_r _ [115] (by decide +kernel) (by decide +kernel)
set_option maxRecDepth 20000 in
theorem gX2_serve_X2_isFault : GoodIn wsX2_serve (va_wsS RX2 164 yX2_isFault wsX2_isFault) := goodIn_app (goodIn_of _ (by decide +kernel)) ggX2_serve_X2_isFault
set_option maxRecDepth 20000 in
theorem ggX2_serve_X2_hasTooManyFaults : GoodIn wsX2_serve wsX2_hasTooManyFaults := goodIn_r _ [119, 10, 6, 24, 25, 26, 27, 28, 29, 120, 121, 122, 123, 124, 125, 126, 127, 128, 129, 130, 131, 132, 133, 134, 135, 144] (by decide +kernel) (by decide +kernel)
set_option maxRecDepth 20000 in
theorem gX2_serve_X2_hasTooManyFaults : GoodIn wsX2_serve (wsV RX2 129 RX2 yX2_hasTooManyFaults wsX2_hasTooManyFaults) := goodIn_app (goodIn_of _ (by decide +kernel)) ggX2_serve_X2_hasTooManyFaults
theorem dX2_serve_0 : decode cX2_serve 0 = .ok (.aload_n 0, 1) := by decide +kernel
theorem dX2_serve_1 : decode cX2_serve 1 = .ok (.aload_n 0, 1) := by decide +kernel
theorem dX2_serve_2 : decode cX2_serve 2 = .ok (.iload_n 1, 1) := by decide +kernel
theorem dX2_serve_3 : decode cX2_serve 3 = .ok (.invokevirtual 133, 3) := by decide +kernel
theorem dX2_serve_6 : decode cX2_serve 6 = .ok (.putfield 65, 3) := by decide +kernel
theorem dX2_serve_9 : decode cX2_serve 9 = .ok (.aload_n 0, 1) := by decide +kernel
theorem dX2_serve_10 : decode cX2_serve 10 = .ok (.getfield 35, 3) := by decide +kernel
theorem dX2_serve_13 : decode cX2_serve 13 = .ok (.aload_n 0, 1) := by decide +kernel
theorem dX2_serve_14 : decode cX2_serve 14 = .ok (.getfield 65, 3) := by decide +kernel
theorem dX2_serve_17 : decode cX2_serve 17 = .ok (.invokevirtual 136, 3) := by decide +kernel
theorem dX2_serve_20 : decode cX2_serve 20 = .ok (.aload_n 0, 1) := by decide +kernel
theorem dX2_serve_21 : decode cX2_serve 21 = .ok (.invokevirtual 139, 3) := by decide +kernel
theorem dX2_serve_24 : decode cX2_serve 24 = .ok (.aload_n 0, 1) := by decide +kernel
theorem dX2_serve_25 : decode cX2_serve 25 = .ok (.getfield 35, 3) := by decide +kernel
theorem dX2_serve_28 : decode cX2_serve 28 = .ok (.aload_n 0, 1) := by decide +kernel
theorem dX2_serve_29 : decode cX2_serve 29 = .ok (.getfield 35, 3) := by decide +kernel
theorem dX2_serve_32 : decode cX2_serve 32 = .ok (.getfield 142, 3) := by decide +kernel
theorem dX2_serve_35 : decode cX2_serve 35 = .ok (.iconst 1, 1) := by decide +kernel
theorem dX2_serve_36 : decode cX2_serve 36 = .ok (.if_icmp .ne 33, 3) := by decide +kernel
theorem dX2_serve_39 : decode cX2_serve 39 = .ok (.aload_n 0, 1) := by decide +kernel
theorem dX2_serve_40 : decode cX2_serve 40 = .ok (.getfield 35, 3) := by decide +kernel
theorem dX2_serve_43 : decode cX2_serve 43 = .ok (.getfield 145, 3) := by decide +kernel
theorem dX2_serve_46 : decode cX2_serve 46 = .ok (.i2f, 1) := by decide +kernel
theorem dX2_serve_47 : decode cX2_serve 47 = .ok (.aload_n 0, 1) := by decide +kernel
theorem dX2_serve_48 : decode cX2_serve 48 = .ok (.getfield 44, 3) := by decide +kernel
theorem dX2_serve_51 : decode cX2_serve 51 = .ok (.aload_n 0, 1) := by decide +kernel
theorem dX2_serve_52 : decode cX2_serve 52 = .ok (.getfield 21, 3) := by decide +kernel
theorem dX2_serve_55 : decode cX2_serve 55 = .ok (.iconst 1, 1) := by decide +kernel
theorem dX2_serve_56 : decode cX2_serve 56 = .ok (.invokevirtual 97, 3) := by decide +kernel
theorem dX2_serve_59 : decode cX2_serve 59 = .ok (.i2f, 1) := by decide +kernel
theorem dX2_serve_60 : decode cX2_serve 60 = .ok (.fadd, 1) := by decide +kernel
theorem dX2_serve_61 : decode cX2_serve 61 = .ok (.fcmp .l, 1) := by decide +kernel
theorem dX2_serve_62 : decode cX2_serve 62 = .ok (.ifCond .le 7, 3) := by decide +kernel
theorem dX2_serve_65 : decode cX2_serve 65 = .ok (.iconst 1, 1) := by decide +kernel
theorem dX2_serve_66 : decode cX2_serve 66 = .ok (.goto 4, 3) := by decide +kernel
theorem dX2_serve_69 : decode cX2_serve 69 = .ok (.iconst 0, 1) := by decide +kernel
theorem dX2_serve_70 : decode cX2_serve 70 = .ok (.putfield 148, 3) := by decide +kernel
theorem dX2_serve_73 : decode cX2_serve 73 = .ok (.aload_n 0, 1) := by decide +kernel
theorem dX2_serve_74 : decode cX2_serve 74 = .ok (.getfield 35, 3) := by decide +kernel
theorem dX2_serve_77 : decode cX2_serve 77 = .ok (.aload_n 0, 1) := by decide +kernel
theorem dX2_serve_78 : decode cX2_serve 78 = .ok (.iload_n 1, 1) := by decide +kernel
theorem dX2_serve_79 : decode cX2_serve 79 = .ok (.invokevirtual 151, 3) := by decide +kernel
theorem dX2_serve_82 : decode cX2_serve 82 = .ok (.putfield 152, 3) := by decide +kernel
theorem dX2_serve_85 : decode cX2_serve 85 = .ok (.aload_n 0, 1) := by decide +kernel
theorem dX2_serve_86 : decode cX2_serve 86 = .ok (.invokevirtual 155, 3) := by decide +kernel
theorem dX2_serve_89 : decode cX2_serve 89 = .ok (.aload_n 0, 1) := by decide +kernel
theorem dX2_serve_90 : decode cX2_serve 90 = .ok (.getfield 35, 3) := by decide +kernel
theorem dX2_serve_93 : decode cX2_serve 93 = .ok (.getfield 152, 3) := by decide +kernel
theorem dX2_serve_96 : decode cX2_serve 96 = .ok (.ifCond .ne 7, 3) := by decide +kernel
theorem dX2_serve_99 : decode cX2_serve 99 = .ok (.aload_n 0, 1) := by decide +kernel
theorem dX2_serve_100 : decode cX2_serve 100 = .ok (.invokevirtual 158, 3) := by decide +kernel
theorem dX2_serve_103 : decode cX2_serve 103 = .ok (.aload_n 0, 1) := by decide +kernel
theorem dX2_serve_104 : decode cX2_serve 104 = .ok (.aload_n 0, 1) := by decide +kernel
theorem dX2_serve_105 : decode cX2_serve 105 = .ok (.getfield 28, 3) := by decide +kernel
theorem dX2_serve_108 : decode cX2_serve 108 = .ok (.aload_n 0, 1) := by decide +kernel
theorem dX2_serve_109 : decode cX2_serve 109 = .ok (.getfield 35, 3) := by decide +kernel
theorem dX2_serve_112 : decode cX2_serve 112 = .ok (.getfield 152, 3) := by decide +kernel
theorem dX2_serve_115 : decode cX2_serve 115 = .ok (.invokevirtual 161, 3) := by decide +kernel
theorem dX2_serve_118 : decode cX2_serve 118 = .ok (.invokevirtual 119, 3) := by decide +kernel
theorem dX2_serve_121 : decode cX2_serve 121 = .ok (.aload_n 0, 1) := by decide +kernel
theorem dX2_serve_122 : decode cX2_serve 122 = .ok (.aload_n 0, 1) := by decide +kernel
theorem dX2_serve_123 : decode cX2_serve 123 = .ok (.getfield 35, 3) := by decide +kernel
theorem dX2_serve_126 : decode cX2_serve 126 = .ok (.getfield 152, 3) := by decide +kernel
theorem dX2_serve_129 : decode cX2_serve 129 = .ok (.invokestatic 164, 3) := by decide +kernel
theorem dX2_serve_132 : decode cX2_serve 132 = .ok (.ifCond .eq 12, 3) := by decide +kernel
theorem dX2_serve_135 : decode cX2_serve 135 = .ok (.aload_n 0, 1) := by decide +kernel
theorem dX2_serve_136 : decode cX2_serve 136 = .ok (.getfield 69, 3) := by decide +kernel
theorem dX2_serve_139 : decode cX2_serve 139 = .ok (.iconst 1, 1) := by decide +kernel
theorem dX2_serve_140 : decode cX2_serve 140 = .ok (.iadd, 1) := by decide +kernel
theorem dX2_serve_141 : decode cX2_serve 141 = .ok (.goto 4, 3) := by decide +kernel
theorem dX2_serve_144 : decode cX2_serve 144 = .ok (.iconst 0, 1) := by decide +kernel
theorem dX2_serve_145 : decode cX2_serve 145 = .ok (.putfield 69, 3) := by decide +kernel
theorem dX2_serve_148 : decode cX2_serve 148 = .ok (.aload_n 0, 1) := by decide +kernel
theorem dX2_serve_149 : decode cX2_serve 149 = .ok (.invokevirtual 129, 3) := by decide +kernel
theorem dX2_serve_152 : decode cX2_serve 152 = .ok (.ifCond .eq 8, 3) := by decide +kernel
theorem dX2_serve_155 : decode cX2_serve 155 = .ok (.aload_n 0, 1) := by decide +kernel
theorem dX2_serve_156 : decode cX2_serve 156 = .ok (.iconst 1, 1) := by decide +kernel
theorem dX2_serve_157 : decode cX2_serve 157 = .ok (.putfield 72, 3) := by decide +kernel
theorem dX2_serve_160 : decode cX2_serve 160 = .ok (.return_, 1) := by decide +kernel
set_option maxRecDepth 20000 in
theorem ggX2_speedTowards_X5_value : GoodIn wsX2_speedTowards wsX5_value := goodIn_r _ [14, 15, 32] (by decide +kernel) (by decide +kernel)
set_option maxRecDepth 20000 in
theorem gX2_speedTowards_X5_value : GoodIn wsX2_speedTowards (wsV RX2 97 RX5 yX5_value wsX5_value) := goodIn_app (goodIn_of _ (by decide +kernel)) ggX2_speedTowards_X5_value
theorem dX2_speedTowards_0 : decode cX2_speedTowards 0 = .ok (.aload_n 0, 1) := by decide +kernel
theorem dX2_speedTowards_1 : decode cX2_speedTowards 1 = .ok (.getfield 21, 3) := by decide +kernel
theorem dX2_speedTowards_4 : decode cX2_speedTowards 4 = .ok (.iconst 4, 1) := by decide +kernel
theorem dX2_speedTowards_5 : decode cX2_speedTowards 5 = .ok (.invokevirtual 97, 3) := by decide +kernel
theorem dX2_speedTowards_8 : decode cX2_speedTowards 8 = .ok (.istore_n 2, 1) := by decide +kernel
theorem dX2_speedTowards_9 : decode cX2_speedTowards 9 = .ok (.aload_n 0, 1) := by decide +kernel
theorem dX2_speedTowards_10 : decode cX2_speedTowards 10 = .ok (.getfield 21, 3) := by decide +kernel
theorem dX2_speedTowards_13 : decode cX2_speedTowards 13 = .ok (.iconst 3, 1) := by decide +kernel
theorem dX2_speedTowards_14 : decode cX2_speedTowards 14 = .ok (.invokevirtual 97, 3) := by decide +kernel
theorem dX2_speedTowards_17 : decode cX2_speedTowards 17 = .ok (.istore_n 3, 1) := by decide +kernel
theorem dX2_speedTowards_18 : decode cX2_speedTowards 18 = .ok (.aload_n 0, 1) := by decide +kernel
theorem dX2_speedTowards_19 : decode cX2_speedTowards 19 = .ok (.getfield 65, 3) := by decide +kernel
theorem dX2_speedTowards_22 : decode cX2_speedTowards 22 = .ok (.iload_n 2, 1) := by decide +kernel
theorem dX2_speedTowards_23 : decode cX2_speedTowards 23 = .ok (.isub, 1) := by decide +kernel
theorem dX2_speedTowards_24 : decode cX2_speedTowards 24 = .ok (.iconst 0, 1) := by decide +kernel
theorem dX2_speedTowards_25 : decode cX2_speedTowards 25 = .ok (.invokestatic 168, 3) := by decide +kernel
theorem dX2_speedTowards_28 : decode cX2_speedTowards 28 = .ok (.istore 4, 2) := by decide +kernel
theorem dX2_speedTowards_30 : decode cX2_speedTowards 30 = .ok (.aload_n 0, 1) := by decide +kernel
theorem dX2_speedTowards_31 : decode cX2_speedTowards 31 = .ok (.getfield 65, 3) := by decide +kernel
theorem dX2_speedTowards_34 : decode cX2_speedTowards 34 = .ok (.iload_n 2, 1) := by decide +kernel
theorem dX2_speedTowards_35 : decode cX2_speedTowards 35 = .ok (.iadd, 1) := by decide +kernel
theorem dX2_speedTowards_36 : decode cX2_speedTowards 36 = .ok (.iload_n 3, 1) := by decide +kernel
theorem dX2_speedTowards_37 : decode cX2_speedTowards 37 = .ok (.invokestatic 174, 3) := by decide +kernel
theorem dX2_speedTowards_40 : decode cX2_speedTowards 40 = .ok (.istore 5, 2) := by decide +kernel
theorem dX2_speedTowards_42 : decode cX2_speedTowards 42 = .ok (.iload 4, 2) := by decide +kernel
theorem dX2_speedTowards_44 : decode cX2_speedTowards 44 = .ok (.iload 5, 2) := by decide +kernel
theorem dX2_speedTowards_46 : decode cX2_speedTowards 46 = .ok (.if_icmp .le 5, 3) := by decide +kernel
theorem dX2_speedTowards_49 : decode cX2_speedTowards 49 = .ok (.iload_n 3, 1) := by decide +kernel
theorem dX2_speedTowards_50 : decode cX2_speedTowards 50 = .ok (.ireturn, 1) := by decide +kernel
theorem dX2_speedTowards_51 : decode cX2_speedTowards 51 = .ok (.iload 4, 2) := by decide +kernel
theorem dX2_speedTowards_53 : decode cX2_speedTowards 53 = .ok (.iload 5, 2) := by decide +kernel
theorem dX2_speedTowards_55 : decode cX2_speedTowards 55 = .ok (.iload_n 1, 1) := by decide +kernel
theorem dX2_speedTowards_56 : decode cX2_speedTowards 56 = .ok (.invokestatic 174, 3) := by decide +kernel
theorem dX2_speedTowards_59 : decode cX2_speedTowards 59 = .ok (.invokestatic 168, 3) := by decide +kernel
theorem dX2_speedTowards_62 : decode cX2_speedTowards 62 = .ok (.ireturn, 1) := by decide +kernel
set_option maxRecDepth 20000 in
theorem ggX2_feed_X1_size : GoodIn wsX2_feed wsX1_size := goodIn_r _ [9, 10, 11, 73, 74, 75, 76] (by decide +kernel) (by decide +kernel)
set_option maxRecDepth 20000 in
theorem gX2_feed_X1_size : GoodIn wsX2_feed (wsV RX2 100 RX1 yX1_size wsX1_size) := goodIn_app (goodIn_of _ (by decide +kernel)) ggX2_feed_X1_size
set_option maxRecDepth 20000 in
theorem ggX2_feed_X1_kindOf : GoodIn wsX2_feed wsX1_kindOf := goodIn_r _ [15, 11, 16, 73, 74, 75, 76] (by decide +kernel) (by decide +kernel)
set_option maxRecDepth 20000 in
theorem gX2_feed_X1_kindOf : GoodIn wsX2_feed (wsV RX2 177 RX1 yX1_kindOf wsX1_kindOf) := goodIn_app (goodIn_of _ (by decide +kernel)) ggX2_feed_X1_kindOf
set_option maxRecDepth 20000 in
theorem ggX2_feed_X1_lengthOf : GoodIn wsX2_feed wsX1_lengthOf := goodIn_r _ [20, 11, 21, 73, 74, 75, 76] (by decide +kernel) (by decide +kernel)
set_option maxRecDepth 20000 in
theorem gX2_feed_X1_lengthOf : GoodIn wsX2_feed (wsV RX2 180 RX1 yX1_lengthOf wsX1_lengthOf) := goodIn_app (goodIn_of _ (by decide +kernel)) ggX2_feed_X1_lengthOf
set_option maxRecDepth 20000 in
theorem ggX2_feed_X0_take : GoodIn wsX2_feed wsX0_take := goodIn_r _ [26, 27, 28, 29, 30, 65, 66, 67, 68, 69, 70, 71, 72] (by decide +kernel) (by decide +kernel)
set_option maxRecDepth 20000 in
theorem gX2_feed_X0_take : GoodIn wsX2_feed (wsV RX2 183 RX0 yX0_take wsX0_take) := goodIn_app (goodIn_of _ (by decide +kernel)) ggX2_feed_X0_take
set_option maxRecDepth 20000 in
theorem ggX2_feed_X2_endingBehind : GoodIn wsX2_feed wsX2_endingBehind := goodIn_r _ [35, 36, 2, 37, 38, 39, 40, 41, 42, 43, 44, 49, 50, 51, 52, 53, 54, 55, 56, 57, 58, 59, 60, 61, 62, 63, 64, 65, 66, 67, 68, 69, 70, 71, 72, 77] (by decide +kernel) (by decide +kernel)
set_option maxRecDepth 20000 in
theorem gX2_feed_X2_endingBehind : GoodIn wsX2_feed (wsV RX2 187 RX2 yX2_endingBehind wsX2_endingBehind) := goodIn_app (goodIn_of _ (by decide +kernel)) ggX2_feed_X2_endingBehind
end
section
set_option maxRecDepth 20000 in
theorem ggX2_feed_X1_removeFirst : GoodIn wsX2_feed wsX1_removeFirst := goodIn_r _ [48, 11, 73, 74, 75, 76] (by decide +kernel) (by decide +kernel)
set_option maxRecDepth 20000 in
theorem gX2_feed_X1_removeFirst : GoodIn wsX2_feed (wsV RX2 193 RX1 yX1_removeFirst wsX1_removeFirst) := goodIn_app (goodIn_of _ (by decide +kernel)) ggX2_feed_X1_removeFirst
theorem dX2_feed_0 : decode cX2_feed 0 = .ok (.aload_n 0, 1) := by decide +kernel
theorem dX2_feed_1 : decode cX2_feed 1 = .ok (.getfield 12, 3) := by decide +kernel
theorem dX2_feed_4 : decode cX2_feed 4 = .ok (.invokevirtual 100, 3) := by decide +kernel
theorem dX2_feed_7 : decode cX2_feed 7 = .ok (.istore_n 1, 1) := by decide +kernel
theorem dX2_feed_8 : decode cX2_feed 8 = .ok (.iconst 0, 1) := by decide +kernel
theorem dX2_feed_9 : decode cX2_feed 9 = .ok (.istore_n 2, 1) := by decide +kernel
theorem dX2_feed_10 : decode cX2_feed 10 = .ok (.iload_n 2, 1) := by decide +kernel
theorem dX2_feed_11 : decode cX2_feed 11 = .ok (.iload_n 1, 1) := by decide +kernel
theorem dX2_feed_12 : decode cX2_feed 12 = .ok (.if_icmp .ge 69, 3) := by decide +kernel
theorem dX2_feed_15 : decode cX2_feed 15 = .ok (.aload_n 0, 1) := by decide +kernel
theorem dX2_feed_16 : decode cX2_feed 16 = .ok (.getfield 35, 3) := by decide +kernel
theorem dX2_feed_19 : decode cX2_feed 19 = .ok (.getfield 142, 3) := by decide +kernel
theorem dX2_feed_22 : decode cX2_feed 22 = .ok (.ifCond .ne 59, 3) := by decide +kernel
theorem dX2_feed_25 : decode cX2_feed 25 = .ok (.aload_n 0, 1) := by decide +kernel
theorem dX2_feed_26 : decode cX2_feed 26 = .ok (.getfield 35, 3) := by decide +kernel
theorem dX2_feed_29 : decode cX2_feed 29 = .ok (.aload_n 0, 1) := by decide +kernel
theorem dX2_feed_30 : decode cX2_feed 30 = .ok (.getfield 12, 3) := by decide +kernel
theorem dX2_feed_33 : decode cX2_feed 33 = .ok (.iload_n 2, 1) := by decide +kernel
theorem dX2_feed_34 : decode cX2_feed 34 = .ok (.invokevirtual 177, 3) := by decide +kernel
theorem dX2_feed_37 : decode cX2_feed 37 = .ok (.aload_n 0, 1) := by decide +kernel
theorem dX2_feed_38 : decode cX2_feed 38 = .ok (.getfield 12, 3) := by decide +kernel
theorem dX2_feed_41 : decode cX2_feed 41 = .ok (.iload_n 2, 1) := by decide +kernel
theorem dX2_feed_42 : decode cX2_feed 42 = .ok (.invokevirtual 180, 3) := by decide +kernel
theorem dX2_feed_45 : decode cX2_feed 45 = .ok (.invokevirtual 183, 3) := by decide +kernel
theorem dX2_feed_48 : decode cX2_feed 48 = .ok (.aload_n 0, 1) := by decide +kernel
theorem dX2_feed_49 : decode cX2_feed 49 = .ok (.getfield 35, 3) := by decide +kernel
theorem dX2_feed_52 : decode cX2_feed 52 = .ok (.aload_n 0, 1) := by decide +kernel
theorem dX2_feed_53 : decode cX2_feed 53 = .ok (.aload_n 0, 1) := by decide +kernel
theorem dX2_feed_54 : decode cX2_feed 54 = .ok (.getfield 12, 3) := by decide +kernel
theorem dX2_feed_57 : decode cX2_feed 57 = .ok (.iload_n 2, 1) := by decide +kernel
theorem dX2_feed_58 : decode cX2_feed 58 = .ok (.invokevirtual 177, 3) := by decide +kernel
theorem dX2_feed_61 : decode cX2_feed 61 = .ok (.aload_n 0, 1) := by decide +kernel
theorem dX2_feed_62 : decode cX2_feed 62 = .ok (.getfield 12, 3) := by decide +kernel
theorem dX2_feed_65 : decode cX2_feed 65 = .ok (.iload_n 2, 1) := by decide +kernel
theorem dX2_feed_66 : decode cX2_feed 66 = .ok (.invokevirtual 180, 3) := by decide +kernel
theorem dX2_feed_69 : decode cX2_feed 69 = .ok (.invokevirtual 187, 3) := by decide +kernel
theorem dX2_feed_72 : decode cX2_feed 72 = .ok (.putfield 142, 3) := by decide +kernel
theorem dX2_feed_75 : decode cX2_feed 75 = .ok (.iinc 2 1, 3) := by decide +kernel
theorem dX2_feed_78 : decode cX2_feed 78 = .ok (.goto (-68), 3) := by decide +kernel
theorem dX2_feed_81 : decode cX2_feed 81 = .ok (.aload_n 0, 1) := by decide +kernel
theorem dX2_feed_82 : decode cX2_feed 82 = .ok (.getfield 35, 3) := by decide +kernel
theorem dX2_feed_85 : decode cX2_feed 85 = .ok (.getfield 142, 3) := by decide +kernel
theorem dX2_feed_88 : decode cX2_feed 88 = .ok (.ifCond .ne 11, 3) := by decide +kernel
theorem dX2_feed_91 : decode cX2_feed 91 = .ok (.aload_n 0, 1) := by decide +kernel
theorem dX2_feed_92 : decode cX2_feed 92 = .ok (.getfield 35, 3) := by decide +kernel
theorem dX2_feed_95 : decode cX2_feed 95 = .ok (.iconst 3, 1) := by decide +kernel
theorem dX2_feed_96 : decode cX2_feed 96 = .ok (.putfield 142, 3) := by decide +kernel
theorem dX2_feed_99 : decode cX2_feed 99 = .ok (.aload_n 0, 1) := by decide +kernel
theorem dX2_feed_100 : decode cX2_feed 100 = .ok (.getfield 12, 3) := by decide +kernel
theorem dX2_feed_103 : decode cX2_feed 103 = .ok (.aload_n 0, 1) := by decide +kernel
theorem dX2_feed_104 : decode cX2_feed 104 = .ok (.getfield 35, 3) := by decide +kernel
theorem dX2_feed_107 : decode cX2_feed 107 = .ok (.getfield 190, 3) := by decide +kernel
theorem dX2_feed_110 : decode cX2_feed 110 = .ok (.invokevirtual 193, 3) := by decide +kernel
theorem dX2_feed_113 : decode cX2_feed 113 = .ok (.return_, 1) := by decide +kernel
set_option maxRecDepth 20000 in
theorem ggX2_endingBehind_X5_value : GoodIn wsX2_endingBehind wsX5_value := goodIn_r _ [9, 10, 35] (by decide +kernel) (by decide +kernel)
set_option maxRecDepth 20000 in
theorem gX2_endingBehind_X5_value : GoodIn wsX2_endingBehind (wsV RX2 97 RX5 yX5_value wsX5_value) := goodIn_app (goodIn_of _ (by decide +kernel)) ggX2_endingBehind_X5_value
theorem dX2_endingBehind_0 : decode cX2_endingBehind 0 = .ok (.iload_n 1, 1) := by decide +kernel
theorem dX2_endingBehind_1 : decode cX2_endingBehind 1 = .ok (.iconst 1, 1) := by decide +kernel
theorem dX2_endingBehind_2 : decode cX2_endingBehind 2 = .ok (.if_icmp .ne 19, 3) := by decide +kernel
theorem dX2_endingBehind_5 : decode cX2_endingBehind 5 = .ok (.iload_n 2, 1) := by decide +kernel
theorem dX2_endingBehind_6 : decode cX2_endingBehind 6 = .ok (.aload_n 0, 1) := by decide +kernel
theorem dX2_endingBehind_7 : decode cX2_endingBehind 7 = .ok (.getfield 21, 3) := by decide +kernel
theorem dX2_endingBehind_10 : decode cX2_endingBehind 10 = .ok (.iconst 0, 1) := by decide +kernel
theorem dX2_endingBehind_11 : decode cX2_endingBehind 11 = .ok (.invokevirtual 97, 3) := by decide +kernel
theorem dX2_endingBehind_14 : decode cX2_endingBehind 14 = .ok (.if_icmp .lt 7, 3) := by decide +kernel
theorem dX2_endingBehind_17 : decode cX2_endingBehind 17 = .ok (.iconst 1, 1) := by decide +kernel
theorem dX2_endingBehind_18 : decode cX2_endingBehind 18 = .ok (.goto 4, 3) := by decide +kernel
theorem dX2_endingBehind_21 : decode cX2_endingBehind 21 = .ok (.iconst 0, 1) := by decide +kernel
theorem dX2_endingBehind_22 : decode cX2_endingBehind 22 = .ok (.istore_n 3, 1) := by decide +kernel
theorem dX2_endingBehind_23 : decode cX2_endingBehind 23 = .ok (.iload_n 3, 1) := by decide +kernel
theorem dX2_endingBehind_24 : decode cX2_endingBehind 24 = .ok (.ifCond .eq 31, 3) := by decide +kernel
theorem dX2_endingBehind_27 : decode cX2_endingBehind 27 = .ok (.aload_n 0, 1) := by decide +kernel
theorem dX2_endingBehind_28 : decode cX2_endingBehind 28 = .ok (.getfield 35, 3) := by decide +kernel
theorem dX2_endingBehind_31 : decode cX2_endingBehind 31 = .ok (.getfield 145, 3) := by decide +kernel
theorem dX2_endingBehind_34 : decode cX2_endingBehind 34 = .ok (.i2f, 1) := by decide +kernel
theorem dX2_endingBehind_35 : decode cX2_endingBehind 35 = .ok (.aload_n 0, 1) := by decide +kernel
theorem dX2_endingBehind_36 : decode cX2_endingBehind 36 = .ok (.getfield 44, 3) := by decide +kernel
theorem dX2_endingBehind_39 : decode cX2_endingBehind 39 = .ok (.aload_n 0, 1) := by decide +kernel
theorem dX2_endingBehind_40 : decode cX2_endingBehind 40 = .ok (.getfield 21, 3) := by decide +kernel
theorem dX2_endingBehind_43 : decode cX2_endingBehind 43 = .ok (.iconst 1, 1) := by decide +kernel
theorem dX2_endingBehind_44 : decode cX2_endingBehind 44 = .ok (.invokevirtual 97, 3) := by decide +kernel
theorem dX2_endingBehind_47 : decode cX2_endingBehind 47 = .ok (.i2f, 1) := by decide +kernel
theorem dX2_endingBehind_48 : decode cX2_endingBehind 48 = .ok (.fsub, 1) := by decide +kernel
theorem dX2_endingBehind_49 : decode cX2_endingBehind 49 = .ok (.fcmp .l, 1) := by decide +kernel
theorem dX2_endingBehind_50 : decode cX2_endingBehind 50 = .ok (.ifCond .lt 5, 3) := by decide +kernel
theorem dX2_endingBehind_53 : decode cX2_endingBehind 53 = .ok (.iconst 1, 1) := by decide +kernel
theorem dX2_endingBehind_54 : decode cX2_endingBehind 54 = .ok (.ireturn, 1) := by decide +kernel
theorem dX2_endingBehind_55 : decode cX2_endingBehind 55 = .ok (.aload_n 0, 1) := by decide +kernel
theorem dX2_endingBehind_56 : decode cX2_endingBehind 56 = .ok (.getfield 35, 3) := by decide +kernel
theorem dX2_endingBehind_59 : decode cX2_endingBehind 59 = .ok (.getfield 145, 3) := by decide +kernel
theorem dX2_endingBehind_62 : decode cX2_endingBehind 62 = .ok (.aload_n 0, 1) := by decide +kernel
theorem dX2_endingBehind_63 : decode cX2_endingBehind 63 = .ok (.getfield 21, 3) := by decide +kernel
theorem dX2_endingBehind_66 : decode cX2_endingBehind 66 = .ok (.iconst 2, 1) := by decide +kernel
theorem dX2_endingBehind_67 : decode cX2_endingBehind 67 = .ok (.invokevirtual 97, 3) := by decide +kernel
theorem dX2_endingBehind_70 : decode cX2_endingBehind 70 = .ok (.if_icmp .le 7, 3) := by decide +kernel
theorem dX2_endingBehind_73 : decode cX2_endingBehind 73 = .ok (.iconst 2, 1) := by decide +kernel
theorem dX2_endingBehind_74 : decode cX2_endingBehind 74 = .ok (.goto 4, 3) := by decide +kernel
theorem dX2_endingBehind_77 : decode cX2_endingBehind 77 = .ok (.iconst 0, 1) := by decide +kernel
theorem dX2_endingBehind_78 : decode cX2_endingBehind 78 = .ok (.ireturn, 1) := by decide +kernel
set_option maxRecDepth 20000 in
theorem ggX2_reasonAt_X5_value : GoodIn wsX2_reasonAt wsX5_value := goodIn_r _ [16, 17, 42] (by decide +kernel) (by decide +kernel)
set_option maxRecDepth 20000 in
theorem gX2_reasonAt_X5_value : GoodIn wsX2_reasonAt (wsV RX2 97 RX5 yX5_value wsX5_value) := goodIn_app (goodIn_of _ (by decide +kernel)) ggX2_reasonAt_X5_value
theorem dX2_reasonAt_0 : decode cX2_reasonAt 0 = .ok (.aload_n 0, 1) := by decide +kernel
theorem dX2_reasonAt_1 : decode cX2_reasonAt 1 = .ok (.getfield 35, 3) := by decide +kernel
theorem dX2_reasonAt_4 : decode cX2_reasonAt 4 = .ok (.getfield 142, 3) := by decide +kernel
theorem dX2_reasonAt_7 : decode cX2_reasonAt 7 = .ok (.iconst 3, 1) := by decide +kernel
theorem dX2_reasonAt_8 : decode cX2_reasonAt 8 = .ok (.if_icmp .ne 5, 3) := by decide +kernel
theorem dX2_reasonAt_11 : decode cX2_reasonAt 11 = .ok (.iconst 1, 1) := by decide +kernel
theorem dX2_reasonAt_12 : decode cX2_reasonAt 12 = .ok (.ireturn, 1) := by decide +kernel
theorem dX2_reasonAt_13 : decode cX2_reasonAt 13 = .ok (.aload_n 0, 1) := by decide +kernel
theorem dX2_reasonAt_14 : decode cX2_reasonAt 14 = .ok (.getfield 35, 3) := by decide +kernel
theorem dX2_reasonAt_17 : decode cX2_reasonAt 17 = .ok (.getfield 142, 3) := by decide +kernel
theorem dX2_reasonAt_20 : decode cX2_reasonAt 20 = .ok (.iconst 2, 1) := by decide +kernel
theorem dX2_reasonAt_21 : decode cX2_reasonAt 21 = .ok (.if_icmp .ne 5, 3) := by decide +kernel
theorem dX2_reasonAt_24 : decode cX2_reasonAt 24 = .ok (.iconst 2, 1) := by decide +kernel
theorem dX2_reasonAt_25 : decode cX2_reasonAt 25 = .ok (.ireturn, 1) := by decide +kernel
theorem dX2_reasonAt_26 : decode cX2_reasonAt 26 = .ok (.aload_n 0, 1) := by decide +kernel
theorem dX2_reasonAt_27 : decode cX2_reasonAt 27 = .ok (.getfield 35, 3) := by decide +kernel
theorem dX2_reasonAt_30 : decode cX2_reasonAt 30 = .ok (.getfield 196, 3) := by decide +kernel
theorem dX2_reasonAt_33 : decode cX2_reasonAt 33 = .ok (.ifCond .le 5, 3) := by decide +kernel
theorem dX2_reasonAt_36 : decode cX2_reasonAt 36 = .ok (.iconst 3, 1) := by decide +kernel
theorem dX2_reasonAt_37 : decode cX2_reasonAt 37 = .ok (.ireturn, 1) := by decide +kernel
theorem dX2_reasonAt_38 : decode cX2_reasonAt 38 = .ok (.aload_n 0, 1) := by decide +kernel
theorem dX2_reasonAt_39 : decode cX2_reasonAt 39 = .ok (.getfield 35, 3) := by decide +kernel
theorem dX2_reasonAt_42 : decode cX2_reasonAt 42 = .ok (.getfield 199, 3) := by decide +kernel
theorem dX2_reasonAt_45 : decode cX2_reasonAt 45 = .ok (.ifCond .ne 5, 3) := by decide +kernel
theorem dX2_reasonAt_48 : decode cX2_reasonAt 48 = .ok (.iconst 4, 1) := by decide +kernel
theorem dX2_reasonAt_49 : decode cX2_reasonAt 49 = .ok (.ireturn, 1) := by decide +kernel
theorem dX2_reasonAt_50 : decode cX2_reasonAt 50 = .ok (.aload_n 0, 1) := by decide +kernel
theorem dX2_reasonAt_51 : decode cX2_reasonAt 51 = .ok (.getfield 35, 3) := by decide +kernel
theorem dX2_reasonAt_54 : decode cX2_reasonAt 54 = .ok (.getfield 199, 3) := by decide +kernel
theorem dX2_reasonAt_57 : decode cX2_reasonAt 57 = .ok (.iconst 1, 1) := by decide +kernel
theorem dX2_reasonAt_58 : decode cX2_reasonAt 58 = .ok (.if_icmp .le 5, 3) := by decide +kernel
theorem dX2_reasonAt_61 : decode cX2_reasonAt 61 = .ok (.iconst 5, 1) := by decide +kernel
theorem dX2_reasonAt_62 : decode cX2_reasonAt 62 = .ok (.ireturn, 1) := by decide +kernel
theorem dX2_reasonAt_63 : decode cX2_reasonAt 63 = .ok (.aload_n 0, 1) := by decide +kernel
theorem dX2_reasonAt_64 : decode cX2_reasonAt 64 = .ok (.getfield 35, 3) := by decide +kernel
theorem dX2_reasonAt_67 : decode cX2_reasonAt 67 = .ok (.getfield 148, 3) := by decide +kernel
theorem dX2_reasonAt_70 : decode cX2_reasonAt 70 = .ok (.ifCond .eq 6, 3) := by decide +kernel
theorem dX2_reasonAt_73 : decode cX2_reasonAt 73 = .ok (.bipush 6, 2) := by decide +kernel
theorem dX2_reasonAt_75 : decode cX2_reasonAt 75 = .ok (.ireturn, 1) := by decide +kernel
theorem dX2_reasonAt_76 : decode cX2_reasonAt 76 = .ok (.aload_n 0, 1) := by decide +kernel
theorem dX2_reasonAt_77 : decode cX2_reasonAt 77 = .ok (.getfield 65, 3) := by decide +kernel
theorem dX2_reasonAt_80 : decode cX2_reasonAt 80 = .ok (.iload_n 1, 1) := by decide +kernel
theorem dX2_reasonAt_81 : decode cX2_reasonAt 81 = .ok (.isub, 1) := by decide +kernel
theorem dX2_reasonAt_82 : decode cX2_reasonAt 82 = .ok (.invokestatic 201, 3) := by decide +kernel
theorem dX2_reasonAt_85 : decode cX2_reasonAt 85 = .ok (.istore_n 2, 1) := by decide +kernel
theorem dX2_reasonAt_86 : decode cX2_reasonAt 86 = .ok (.iload_n 2, 1) := by decide +kernel
theorem dX2_reasonAt_87 : decode cX2_reasonAt 87 = .ok (.aload_n 0, 1) := by decide +kernel
theorem dX2_reasonAt_88 : decode cX2_reasonAt 88 = .ok (.getfield 21, 3) := by decide +kernel
theorem dX2_reasonAt_91 : decode cX2_reasonAt 91 = .ok (.iconst 5, 1) := by decide +kernel
theorem dX2_reasonAt_92 : decode cX2_reasonAt 92 = .ok (.invokevirtual 97, 3) := by decide +kernel
theorem dX2_reasonAt_95 : decode cX2_reasonAt 95 = .ok (.if_icmp .le 8, 3) := by decide +kernel
theorem dX2_reasonAt_98 : decode cX2_reasonAt 98 = .ok (.bipush 7, 2) := by decide +kernel
theorem dX2_reasonAt_100 : decode cX2_reasonAt 100 = .ok (.goto 4, 3) := by decide +kernel
theorem dX2_reasonAt_103 : decode cX2_reasonAt 103 = .ok (.iconst 0, 1) := by decide +kernel
theorem dX2_reasonAt_104 : decode cX2_reasonAt 104 = .ok (.ireturn, 1) := by decide +kernel
theorem dX2_countCycle_0 : decode cX2_countCycle 0 = .ok (.aload_n 0, 1) := by decide +kernel
theorem dX2_countCycle_1 : decode cX2_countCycle 1 = .ok (.getfield 35, 3) := by decide +kernel
theorem dX2_countCycle_4 : decode cX2_countCycle 4 = .ok (.getfield 152, 3) := by decide +kernel
theorem dX2_countCycle_7 : decode cX2_countCycle 7 = .ok (.istore_n 1, 1) := by decide +kernel
theorem dX2_countCycle_8 : decode cX2_countCycle 8 = .ok (.aload_n 0, 1) := by decide +kernel
theorem dX2_countCycle_9 : decode cX2_countCycle 9 = .ok (.dup, 1) := by decide +kernel
theorem dX2_countCycle_10 : decode cX2_countCycle 10 = .ok (.getfield 76, 3) := by decide +kernel
theorem dX2_countCycle_13 : decode cX2_countCycle 13 = .ok (.iconst 1, 1) := by decide +kernel
theorem dX2_countCycle_14 : decode cX2_countCycle 14 = .ok (.iadd, 1) := by decide +kernel
theorem dX2_countCycle_15 : decode cX2_countCycle 15 = .ok (.putfield 76, 3) := by decide +kernel
theorem dX2_countCycle_18 : decode cX2_countCycle 18 = .ok (.iload_n 1, 1) := by decide +kernel
theorem dX2_countCycle_19 : decode cX2_countCycle 19 = .ok (.ifCond .lt 22, 3) := by decide +kernel
theorem dX2_countCycle_22 : decode cX2_countCycle 22 = .ok (.iload_n 1, 1) := by decide +kernel
theorem dX2_countCycle_23 : decode cX2_countCycle 23 = .ok (.aload_n 0, 1) := by decide +kernel
theorem dX2_countCycle_24 : decode cX2_countCycle 24 = .ok (.getfield 39, 3) := by decide +kernel
theorem dX2_countCycle_27 : decode cX2_countCycle 27 = .ok (.arraylength, 1) := by decide +kernel
theorem dX2_countCycle_28 : decode cX2_countCycle 28 = .ok (.if_icmp .ge 13, 3) := by decide +kernel
theorem dX2_countCycle_31 : decode cX2_countCycle 31 = .ok (.aload_n 0, 1) := by decide +kernel
theorem dX2_countCycle_32 : decode cX2_countCycle 32 = .ok (.getfield 39, 3) := by decide +kernel
theorem dX2_countCycle_35 : decode cX2_countCycle 35 = .ok (.iload_n 1, 1) := by decide +kernel
theorem dX2_countCycle_36 : decode cX2_countCycle 36 = .ok (.dup2, 1) := by decide +kernel
theorem dX2_countCycle_37 : decode cX2_countCycle 37 = .ok (.iaload, 1) := by decide +kernel
theorem dX2_countCycle_38 : decode cX2_countCycle 38 = .ok (.iconst 1, 1) := by decide +kernel
theorem dX2_countCycle_39 : decode cX2_countCycle 39 = .ok (.iadd, 1) := by decide +kernel
theorem dX2_countCycle_40 : decode cX2_countCycle 40 = .ok (.iastore, 1) := by decide +kernel
theorem dX2_countCycle_41 : decode cX2_countCycle 41 = .ok (.iload_n 1, 1) := by decide +kernel
theorem dX2_countCycle_42 : decode cX2_countCycle 42 = .ok (.ifCond .ne 22, 3) := by decide +kernel
theorem dX2_countCycle_45 : decode cX2_countCycle 45 = .ok (.aload_n 0, 1) := by decide +kernel
theorem dX2_countCycle_46 : decode cX2_countCycle 46 = .ok (.dup, 1) := by decide +kernel
theorem dX2_countCycle_47 : decode cX2_countCycle 47 = .ok (.getfield 85, 3) := by decide +kernel
theorem dX2_countCycle_50 : decode cX2_countCycle 50 = .ok (.aload_n 0, 1) := by decide +kernel
theorem dX2_countCycle_51 : decode cX2_countCycle 51 = .ok (.getfield 35, 3) := by decide +kernel
theorem dX2_countCycle_54 : decode cX2_countCycle 54 = .ok (.getfield 199, 3) := by decide +kernel
theorem dX2_countCycle_57 : decode cX2_countCycle 57 = .ok (.iadd, 1) := by decide +kernel
theorem dX2_countCycle_58 : decode cX2_countCycle 58 = .ok (.putfield 85, 3) := by decide +kernel
theorem dX2_countCycle_61 : decode cX2_countCycle 61 = .ok (.goto 19, 3) := by decide +kernel
theorem dX2_countCycle_64 : decode cX2_countCycle 64 = .ok (.aload_n 0, 1) := by decide +kernel
theorem dX2_countCycle_65 : decode cX2_countCycle 65 = .ok (.dup, 1) := by decide +kernel
theorem dX2_countCycle_66 : decode cX2_countCycle 66 = .ok (.getfield 88, 3) := by decide +kernel
theorem dX2_countCycle_69 : decode cX2_countCycle 69 = .ok (.aload_n 0, 1) := by decide +kernel
theorem dX2_countCycle_70 : decode cX2_countCycle 70 = .ok (.getfield 35, 3) := by decide +kernel
theorem dX2_countCycle_73 : decode cX2_countCycle 73 = .ok (.getfield 199, 3) := by decide +kernel
theorem dX2_countCycle_76 : decode cX2_countCycle 76 = .ok (.iadd, 1) := by decide +kernel
theorem dX2_countCycle_77 : decode cX2_countCycle 77 = .ok (.putfield 88, 3) := by decide +kernel
theorem dX2_countCycle_80 : decode cX2_countCycle 80 = .ok (.aload_n 0, 1) := by decide +kernel
theorem dX2_countCycle_81 : decode cX2_countCycle 81 = .ok (.getfield 35, 3) := by decide +kernel
theorem dX2_countCycle_84 : decode cX2_countCycle 84 = .ok (.getfield 196, 3) := by decide +kernel
theorem dX2_countCycle_87 : decode cX2_countCycle 87 = .ok (.ifCond .le 13, 3) := by decide +kernel
theorem dX2_countCycle_90 : decode cX2_countCycle 90 = .ok (.aload_n 0, 1) := by decide +kernel
theorem dX2_countCycle_91 : decode cX2_countCycle 91 = .ok (.dup, 1) := by decide +kernel
theorem dX2_countCycle_92 : decode cX2_countCycle 92 = .ok (.getfield 91, 3) := by decide +kernel
theorem dX2_countCycle_95 : decode cX2_countCycle 95 = .ok (.iconst 1, 1) := by decide +kernel
theorem dX2_countCycle_96 : decode cX2_countCycle 96 = .ok (.iadd, 1) := by decide +kernel
theorem dX2_countCycle_97 : decode cX2_countCycle 97 = .ok (.putfield 91, 3) := by decide +kernel
theorem dX2_countCycle_100 : decode cX2_countCycle 100 = .ok (.aload_n 0, 1) := by decide +kernel
theorem dX2_countCycle_101 : decode cX2_countCycle 101 = .ok (.getfield 35, 3) := by decide +kernel
theorem dX2_countCycle_104 : decode cX2_countCycle 104 = .ok (.getfield 148, 3) := by decide +kernel
theorem dX2_countCycle_107 : decode cX2_countCycle 107 = .ok (.ifCond .eq 13, 3) := by decide +kernel
theorem dX2_countCycle_110 : decode cX2_countCycle 110 = .ok (.aload_n 0, 1) := by decide +kernel
theorem dX2_countCycle_111 : decode cX2_countCycle 111 = .ok (.dup, 1) := by decide +kernel
theorem dX2_countCycle_112 : decode cX2_countCycle 112 = .ok (.getfield 94, 3) := by decide +kernel
theorem dX2_countCycle_115 : decode cX2_countCycle 115 = .ok (.iconst 1, 1) := by decide +kernel
theorem dX2_countCycle_116 : decode cX2_countCycle 116 = .ok (.iadd, 1) := by decide +kernel
theorem dX2_countCycle_117 : decode cX2_countCycle 117 = .ok (.putfield 94, 3) := by decide +kernel
theorem dX2_countCycle_120 : decode cX2_countCycle 120 = .ok (.return_, 1) := by decide +kernel
set_option maxRecDepth 20000 in
theorem ggX2_learnPitch_X5_value : GoodIn wsX2_learnPitch wsX5_value := goodIn_r _ [10, 11, 36] (by decide +kernel) (by decide +kernel)
set_option maxRecDepth 20000 in
theorem gX2_learnPitch_X5_value : GoodIn wsX2_learnPitch (wsV RX2 97 RX5 yX5_value wsX5_value) := goodIn_app (goodIn_of _ (by decide +kernel)) ggX2_learnPitch_X5_value
theorem dX2_learnPitch_0 : decode cX2_learnPitch 0 = .ok (.aload_n 0, 1) := by decide +kernel
theorem dX2_learnPitch_1 : decode cX2_learnPitch 1 = .ok (.getfield 21, 3) := by decide +kernel
theorem dX2_learnPitch_4 : decode cX2_learnPitch 4 = .ok (.bipush 6, 2) := by decide +kernel
theorem dX2_learnPitch_6 : decode cX2_learnPitch 6 = .ok (.invokevirtual 97, 3) := by decide +kernel
theorem dX2_learnPitch_9 : decode cX2_learnPitch 9 = .ok (.i2f, 1) := by decide +kernel
theorem dX2_learnPitch_10 : decode cX2_learnPitch 10 = .ok (.ldc 204, 2) := by decide +kernel
theorem dX2_learnPitch_12 : decode cX2_learnPitch 12 = .ok (.fdiv, 1) := by decide +kernel
theorem dX2_learnPitch_13 : decode cX2_learnPitch 13 = .ok (.fstore_n 1, 1) := by decide +kernel
theorem dX2_learnPitch_14 : decode cX2_learnPitch 14 = .ok (.aload_n 0, 1) := by decide +kernel
theorem dX2_learnPitch_15 : decode cX2_learnPitch 15 = .ok (.aload_n 0, 1) := by decide +kernel
theorem dX2_learnPitch_16 : decode cX2_learnPitch 16 = .ok (.getfield 44, 3) := by decide +kernel
theorem dX2_learnPitch_19 : decode cX2_learnPitch 19 = .ok (.aload_n 0, 1) := by decide +kernel
theorem dX2_learnPitch_20 : decode cX2_learnPitch 20 = .ok (.getfield 35, 3) := by decide +kernel
theorem dX2_learnPitch_23 : decode cX2_learnPitch 23 = .ok (.getfield 145, 3) := by decide +kernel
theorem dX2_learnPitch_26 : decode cX2_learnPitch 26 = .ok (.i2f, 1) := by decide +kernel
theorem dX2_learnPitch_27 : decode cX2_learnPitch 27 = .ok (.aload_n 0, 1) := by decide +kernel
theorem dX2_learnPitch_28 : decode cX2_learnPitch 28 = .ok (.getfield 44, 3) := by decide +kernel
theorem dX2_learnPitch_31 : decode cX2_learnPitch 31 = .ok (.fsub, 1) := by decide +kernel
theorem dX2_learnPitch_32 : decode cX2_learnPitch 32 = .ok (.fload_n 1, 1) := by decide +kernel
theorem dX2_learnPitch_33 : decode cX2_learnPitch 33 = .ok (.fmul, 1) := by decide +kernel
theorem dX2_learnPitch_34 : decode cX2_learnPitch 34 = .ok (.fadd, 1) := by decide +kernel
theorem dX2_learnPitch_35 : decode cX2_learnPitch 35 = .ok (.putfield 44, 3) := by decide +kernel
theorem dX2_learnPitch_38 : decode cX2_learnPitch 38 = .ok (.return_, 1) := by decide +kernel
theorem dX2_passGate_0 : decode cX2_passGate 0 = .ok (.iload_n 1, 1) := by decide +kernel
theorem dX2_passGate_1 : decode cX2_passGate 1 = .ok (.ifCond .ne 16, 3) := by decide +kernel
theorem dX2_passGate_4 : decode cX2_passGate 4 = .ok (.aload_n 0, 1) := by decide +kernel
theorem dX2_passGate_5 : decode cX2_passGate 5 = .ok (.dup, 1) := by decide +kernel
theorem dX2_passGate_6 : decode cX2_passGate 6 = .ok (.getfield 79, 3) := by decide +kernel
theorem dX2_passGate_9 : decode cX2_passGate 9 = .ok (.iconst 1, 1) := by decide +kernel
theorem dX2_passGate_10 : decode cX2_passGate 10 = .ok (.iadd, 1) := by decide +kernel
theorem dX2_passGate_11 : decode cX2_passGate 11 = .ok (.putfield 79, 3) := by decide +kernel
theorem dX2_passGate_14 : decode cX2_passGate 14 = .ok (.goto 18, 3) := by decide +kernel
theorem dX2_passGate_17 : decode cX2_passGate 17 = .ok (.iload_n 1, 1) := by decide +kernel
theorem dX2_passGate_18 : decode cX2_passGate 18 = .ok (.iconst (-1), 1) := by decide +kernel
theorem dX2_passGate_19 : decode cX2_passGate 19 = .ok (.if_icmp .eq 13, 3) := by decide +kernel
theorem dX2_passGate_22 : decode cX2_passGate 22 = .ok (.aload_n 0, 1) := by decide +kernel
theorem dX2_passGate_23 : decode cX2_passGate 23 = .ok (.dup, 1) := by decide +kernel
theorem dX2_passGate_24 : decode cX2_passGate 24 = .ok (.getfield 82, 3) := by decide +kernel
theorem dX2_passGate_27 : decode cX2_passGate 27 = .ok (.iconst 1, 1) := by decide +kernel
theorem dX2_passGate_28 : decode cX2_passGate 28 = .ok (.iadd, 1) := by decide +kernel
theorem dX2_passGate_29 : decode cX2_passGate 29 = .ok (.putfield 82, 3) := by decide +kernel
theorem dX2_passGate_32 : decode cX2_passGate 32 = .ok (.return_, 1) := by decide +kernel
set_option maxRecDepth 20000 in
theorem ggX2_hasTooManyFaults_X5_value : GoodIn wsX2_hasTooManyFaults wsX5_value := goodIn_r _ [7, 8, 25] (by decide +kernel) (by decide +kernel)
set_option maxRecDepth 20000 in
theorem gX2_hasTooManyFaults_X5_value : GoodIn wsX2_hasTooManyFaults (wsV RX2 97 RX5 yX5_value wsX5_value) := goodIn_app (goodIn_of _ (by decide +kernel)) ggX2_hasTooManyFaults_X5_value
theorem dX2_hasTooManyFaults_0 : decode cX2_hasTooManyFaults 0 = .ok (.aload_n 0, 1) := by decide +kernel
theorem dX2_hasTooManyFaults_1 : decode cX2_hasTooManyFaults 1 = .ok (.getfield 69, 3) := by decide +kernel
theorem dX2_hasTooManyFaults_4 : decode cX2_hasTooManyFaults 4 = .ok (.aload_n 0, 1) := by decide +kernel
theorem dX2_hasTooManyFaults_5 : decode cX2_hasTooManyFaults 5 = .ok (.getfield 21, 3) := by decide +kernel
theorem dX2_hasTooManyFaults_8 : decode cX2_hasTooManyFaults 8 = .ok (.bipush 7, 2) := by decide +kernel
theorem dX2_hasTooManyFaults_10 : decode cX2_hasTooManyFaults 10 = .ok (.invokevirtual 97, 3) := by decide +kernel
theorem dX2_hasTooManyFaults_13 : decode cX2_hasTooManyFaults 13 = .ok (.if_icmp .lt 7, 3) := by decide +kernel
theorem dX2_hasTooManyFaults_16 : decode cX2_hasTooManyFaults 16 = .ok (.iconst 1, 1) := by decide +kernel
theorem dX2_hasTooManyFaults_17 : decode cX2_hasTooManyFaults 17 = .ok (.goto 4, 3) := by decide +kernel
theorem dX2_hasTooManyFaults_20 : decode cX2_hasTooManyFaults 20 = .ok (.iconst 0, 1) := by decide +kernel
theorem dX2_hasTooManyFaults_21 : decode cX2_hasTooManyFaults 21 = .ok (.ireturn, 1) := by decide +kernel
theorem dX2_isFault_0 : decode cX2_isFault 0 = .ok (.iload_n 0, 1) := by decide +kernel
theorem dX2_isFault_1 : decode cX2_isFault 1 = .ok (.iconst 1, 1) := by decide +kernel
theorem dX2_isFault_2 : decode cX2_isFault 2 = .ok (.if_icmp .eq 19, 3) := by decide +kernel
theorem dX2_isFault_5 : decode cX2_isFault 5 = .ok (.iload_n 0, 1) := by decide +kernel
theorem dX2_isFault_6 : decode cX2_isFault 6 = .ok (.iconst 2, 1) := by decide +kernel
theorem dX2_isFault_7 : decode cX2_isFault 7 = .ok (.if_icmp .eq 14, 3) := by decide +kernel
theorem dX2_isFault_10 : decode cX2_isFault 10 = .ok (.iload_n 0, 1) := by decide +kernel
theorem dX2_isFault_11 : decode cX2_isFault 11 = .ok (.iconst 4, 1) := by decide +kernel
theorem dX2_isFault_12 : decode cX2_isFault 12 = .ok (.if_icmp .eq 9, 3) := by decide +kernel
theorem dX2_isFault_15 : decode cX2_isFault 15 = .ok (.iload_n 0, 1) := by decide +kernel
theorem dX2_isFault_16 : decode cX2_isFault 16 = .ok (.bipush 6, 2) := by decide +kernel
theorem dX2_isFault_18 : decode cX2_isFault 18 = .ok (.if_icmp .ne 7, 3) := by decide +kernel
theorem dX2_isFault_21 : decode cX2_isFault 21 = .ok (.iconst 1, 1) := by decide +kernel
theorem dX2_isFault_22 : decode cX2_isFault 22 = .ok (.goto 4, 3) := by decide +kernel
theorem dX2_isFault_25 : decode cX2_isFault 25 = .ok (.iconst 0, 1) := by decide +kernel
theorem dX2_isFault_26 : decode cX2_isFault 26 = .ok (.ireturn, 1) := by decide +kernel
set_option maxRecDepth 20000 in
theorem ggX3_init_X1_init : GoodIn wsX3_init wsX1_init := goodIn_r _ [14, 15, 2, 3, 9, 16, 17, 26, 27, 28, 29] (by decide +kernel) (by decide +kernel)
set_option maxRecDepth 20000 in
theorem gX3_init_X1_init : GoodIn wsX3_init (wsX1_init) := ggX3_init_X1_init
theorem dX3_init_0 : decode cX3_init 0 = .ok (.aload_n 0, 1) := by decide +kernel
theorem dX3_init_1 : decode cX3_init 1 = .ok (.invokespecial 3, 3) := by decide +kernel
theorem dX3_init_4 : decode cX3_init 4 = .ok (.aload_n 0, 1) := by decide +kernel
theorem dX3_init_5 : decode cX3_init 5 = .ok (.aload_n 1, 1) := by decide +kernel
theorem dX3_init_6 : decode cX3_init 6 = .ok (.putfield 9, 3) := by decide +kernel
theorem dX3_init_9 : decode cX3_init 9 = .ok (.aload_n 0, 1) := by decide +kernel
theorem dX3_init_10 : decode cX3_init 10 = .ok (.new 15, 3) := by decide +kernel
theorem dX3_init_13 : decode cX3_init 13 = .ok (.dup, 1) := by decide +kernel
theorem dX3_init_14 : decode cX3_init 14 = .ok (.invokespecial 17, 3) := by decide +kernel
theorem dX3_init_17 : decode cX3_init 17 = .ok (.putfield 18, 3) := by decide +kernel
theorem dX3_init_20 : decode cX3_init 20 = .ok (.aload_n 0, 1) := by decide +kernel
theorem dX3_init_21 : decode cX3_init 21 = .ok (.iconst 3, 1) := by decide +kernel
theorem dX3_init_22 : decode cX3_init 22 = .ok (.newarray .int, 2) := by decide +kernel
theorem dX3_init_24 : decode cX3_init 24 = .ok (.putfield 22, 3) := by decide +kernel
theorem dX3_init_27 : decode cX3_init 27 = .ok (.aload_n 0, 1) := by decide +kernel
theorem dX3_init_28 : decode cX3_init 28 = .ok (.iconst 3, 1) := by decide +kernel
theorem dX3_init_29 : decode cX3_init 29 = .ok (.newarray .int, 2) := by decide +kernel
theorem dX3_init_31 : decode cX3_init 31 = .ok (.putfield 26, 3) := by decide +kernel
theorem dX3_init_34 : decode cX3_init 34 = .ok (.return_, 1) := by decide +kernel
set_option maxRecDepth 20000 in
theorem ggX3_read_X1_removeAll : GoodIn wsX3_read wsX1_removeAll := goodIn_r _ [12, 13, 14, 95, 96, 97, 98] (by decide +kernel) (by decide +kernel)
set_option maxRecDepth 20000 in
theorem gX3_read_X1_removeAll : GoodIn wsX3_read (wsV RX3 29 RX1 yX1_removeAll wsX1_removeAll) := goodIn_app (goodIn_of _ (by decide +kernel)) ggX3_read_X1_removeAll
set_option maxRecDepth 20000 in
theorem ggX3_read_X3_skipBlanks : GoodIn wsX3_read wsX3_skipBlanks := goodIn_r _ [19, 5, 6, 7, 20, 21, 22, 23, 24, 25, 26, 85, 86, 87, 88, 89, 90, 91, 92, 93, 94] (by decide +kernel) (by decide +kernel)
set_option maxRecDepth 20000 in
theorem gX3_read_X3_skipBlanks : GoodIn wsX3_read (wsV RX3 46 RX3 yX3_skipBlanks wsX3_skipBlanks) := goodIn_app (goodIn_of _ (by decide +kernel)) ggX3_read_X3_skipBlanks
set_option maxRecDepth 20000 in
theorem ggX3_read_X7_byteAt : GoodIn wsX3_read wsX7_byteAt := goodIn_r _ [24, 25, 26, 93, 94] (by decide +kernel) (by decide +kernel)
set_option maxRecDepth 20000 in
theorem gX3_read_X7_byteAt : GoodIn wsX3_read (wsV RX3 54 RX7 yX7_byteAt wsX7_byteAt) := goodIn_app (goodIn_of _ (by decide +kernel)) ggX3_read_X7_byteAt
set_option maxRecDepth 20000 in
theorem ggX3_read_X3_closeParenthesis : GoodIn wsX3_read wsX3_closeParenthesis := goodIn_r _ [30, 4, 31, 32, 5, 3, 33, 34, 35, 18, 36, 1, 2, 37, 38, 39, 11, 40, 14, 13, 41, 42, 43, 44, 45, 46, 47, 48, 49, 50, 51, 52, 53, 54, 85, 86, 87, 88, 89, 90, 91, 92, 95, 96, 97, 98] (by decide +kernel) (by decide +kernel)
set_option maxRecDepth 20000 in
theorem gX3_read_X3_closeParenthesis : GoodIn wsX3_read (wsV RX3 58 RX3 yX3_closeParenthesis wsX3_closeParenthesis) := goodIn_app (goodIn_of _ (by decide +kernel)) ggX3_read_X3_closeParenthesis
set_option maxRecDepth 20000 in
theorem ggX3_read_X3_readPart : GoodIn wsX3_read wsX3_readPart := goodIn_r _ [58, 5, 3, 6, 59, 60, 61, 18, 62, 20, 21, 22, 23, 24, 25, 26, 63, 64, 65, 66, 67, 68, 69, 70, 71, 72, 73, 15, 16, 17, 19, 7, 74, 75, 76, 77, 4, 31, 32, 1, 37, 38, 39, 11, 40, 14, 13, 78, 79, 80, 81, 2, 82, 83, 84, 51, 52, 53, 54, 45, 50, 33, 34, 35, 36, 41, 42, 43, 44, 46, 47, 48, 49, 85, 86, 87, 88, 89, 90, 91, 92, 93, 94, 95, 96, 97, 98] (by decide +kernel) (by decide +kernel)
set_option maxRecDepth 20000 in
theorem gX3_read_X3_readPart : GoodIn wsX3_read (wsV RX3 61 RX3 yX3_readPart wsX3_readPart) := goodIn_app (goodIn_of _ (by decide +kernel)) ggX3_read_X3_readPart
theorem dX3_read_0 : decode cX3_read 0 = .ok (.aload_n 0, 1) := by decide +kernel
theorem dX3_read_1 : decode cX3_read 1 = .ok (.getfield 18, 3) := by decide +kernel
theorem dX3_read_4 : decode cX3_read 4 = .ok (.invokevirtual 29, 3) := by decide +kernel
theorem dX3_read_7 : decode cX3_read 7 = .ok (.aload_n 0, 1) := by decide +kernel
theorem dX3_read_8 : decode cX3_read 8 = .ok (.iconst 0, 1) := by decide +kernel
theorem dX3_read_9 : decode cX3_read 9 = .ok (.putfield 32, 3) := by decide +kernel
theorem dX3_read_12 : decode cX3_read 12 = .ok (.aload_n 0, 1) := by decide +kernel
theorem dX3_read_13 : decode cX3_read 13 = .ok (.iconst (-1), 1) := by decide +kernel
theorem dX3_read_14 : decode cX3_read 14 = .ok (.putfield 36, 3) := by decide +kernel
theorem dX3_read_17 : decode cX3_read 17 = .ok (.aload_n 0, 1) := by decide +kernel
theorem dX3_read_18 : decode cX3_read 18 = .ok (.iconst 0, 1) := by decide +kernel
theorem dX3_read_19 : decode cX3_read 19 = .ok (.putfield 40, 3) := by decide +kernel
theorem dX3_read_22 : decode cX3_read 22 = .ok (.aload_n 0, 1) := by decide +kernel
theorem dX3_read_23 : decode cX3_read 23 = .ok (.iconst 0, 1) := by decide +kernel
theorem dX3_read_24 : decode cX3_read 24 = .ok (.putfield 43, 3) := by decide +kernel
theorem dX3_read_27 : decode cX3_read 27 = .ok (.aload_n 0, 1) := by decide +kernel
theorem dX3_read_28 : decode cX3_read 28 = .ok (.invokevirtual 46, 3) := by decide +kernel
theorem dX3_read_31 : decode cX3_read 31 = .ok (.iconst 0, 1) := by decide +kernel
theorem dX3_read_32 : decode cX3_read 32 = .ok (.istore_n 1, 1) := by decide +kernel
theorem dX3_read_33 : decode cX3_read 33 = .ok (.iload_n 1, 1) := by decide +kernel
theorem dX3_read_34 : decode cX3_read 34 = .ok (.bipush 80, 2) := by decide +kernel
theorem dX3_read_36 : decode cX3_read 36 = .ok (.if_icmp .ge 62, 3) := by decide +kernel
theorem dX3_read_39 : decode cX3_read 39 = .ok (.aload_n 0, 1) := by decide +kernel
theorem dX3_read_40 : decode cX3_read 40 = .ok (.getfield 43, 3) := by decide +kernel
theorem dX3_read_43 : decode cX3_read 43 = .ok (.aload_n 0, 1) := by decide +kernel
theorem dX3_read_44 : decode cX3_read 44 = .ok (.getfield 9, 3) := by decide +kernel
theorem dX3_read_47 : decode cX3_read 47 = .ok (.getfield 49, 3) := by decide +kernel
theorem dX3_read_50 : decode cX3_read 50 = .ok (.if_icmp .ge 48, 3) := by decide +kernel
theorem dX3_read_53 : decode cX3_read 53 = .ok (.aload_n 0, 1) := by decide +kernel
theorem dX3_read_54 : decode cX3_read 54 = .ok (.getfield 36, 3) := by decide +kernel
theorem dX3_read_57 : decode cX3_read 57 = .ok (.iconst (-1), 1) := by decide +kernel
theorem dX3_read_58 : decode cX3_read 58 = .ok (.if_icmp .ne 40, 3) := by decide +kernel
theorem dX3_read_61 : decode cX3_read 61 = .ok (.aload_n 0, 1) := by decide +kernel
theorem dX3_read_62 : decode cX3_read 62 = .ok (.getfield 9, 3) := by decide +kernel
theorem dX3_read_65 : decode cX3_read 65 = .ok (.aload_n 0, 1) := by decide +kernel
theorem dX3_read_66 : decode cX3_read 66 = .ok (.getfield 43, 3) := by decide +kernel
theorem dX3_read_69 : decode cX3_read 69 = .ok (.invokevirtual 54, 3) := by decide +kernel
theorem dX3_read_72 : decode cX3_read 72 = .ok (.bipush 41, 2) := by decide +kernel
theorem dX3_read_74 : decode cX3_read 74 = .ok (.if_icmp .ne 10, 3) := by decide +kernel
theorem dX3_read_77 : decode cX3_read 77 = .ok (.aload_n 0, 1) := by decide +kernel
theorem dX3_read_78 : decode cX3_read 78 = .ok (.invokevirtual 58, 3) := by decide +kernel
theorem dX3_read_81 : decode cX3_read 81 = .ok (.goto 7, 3) := by decide +kernel
theorem dX3_read_84 : decode cX3_read 84 = .ok (.aload_n 0, 1) := by decide +kernel
theorem dX3_read_85 : decode cX3_read 85 = .ok (.invokevirtual 61, 3) := by decide +kernel
theorem dX3_read_88 : decode cX3_read 88 = .ok (.aload_n 0, 1) := by decide +kernel
theorem dX3_read_89 : decode cX3_read 89 = .ok (.invokevirtual 46, 3) := by decide +kernel
theorem dX3_read_92 : decode cX3_read 92 = .ok (.iinc 1 1, 3) := by decide +kernel
theorem dX3_read_95 : decode cX3_read 95 = .ok (.goto (-62), 3) := by decide +kernel
theorem dX3_read_98 : decode cX3_read 98 = .ok (.aload_n 0, 1) := by decide +kernel
theorem dX3_read_99 : decode cX3_read 99 = .ok (.getfield 36, 3) := by decide +kernel
theorem dX3_read_102 : decode cX3_read 102 = .ok (.iconst (-1), 1) := by decide +kernel
theorem dX3_read_103 : decode cX3_read 103 = .ok (.if_icmp .ne 21, 3) := by decide +kernel
theorem dX3_read_106 : decode cX3_read 106 = .ok (.aload_n 0, 1) := by decide +kernel
theorem dX3_read_107 : decode cX3_read 107 = .ok (.getfield 40, 3) := by decide +kernel
theorem dX3_read_110 : decode cX3_read 110 = .ok (.ifCond .le 14, 3) := by decide +kernel
theorem dX3_read_113 : decode cX3_read 113 = .ok (.aload_n 0, 1) := by decide +kernel
theorem dX3_read_114 : decode cX3_read 114 = .ok (.aload_n 0, 1) := by decide +kernel
theorem dX3_read_115 : decode cX3_read 115 = .ok (.getfield 9, 3) := by decide +kernel
theorem dX3_read_118 : decode cX3_read 118 = .ok (.getfield 49, 3) := by decide +kernel
theorem dX3_read_121 : decode cX3_read 121 = .ok (.putfield 36, 3) := by decide +kernel
theorem dX3_read_124 : decode cX3_read 124 = .ok (.return_, 1) := by decide +kernel
set_option maxRecDepth 20000 in
theorem ggX3_readPart_X3_digitAt : GoodIn wsX3_readPart wsX3_digitAt := goodIn_r _ [8, 3, 9, 10, 11, 12, 13, 14, 15, 16, 17, 18, 73, 74, 75, 76, 77, 78, 79, 80, 81, 82] (by decide +kernel) (by decide +kernel)
set_option maxRecDepth 20000 in
theorem gX3_readPart_X3_digitAt : GoodIn wsX3_readPart (wsV RX3 64 RX3 yX3_digitAt wsX3_digitAt) := goodIn_app (goodIn_of _ (by decide +kernel)) ggX3_readPart_X3_digitAt
set_option maxRecDepth 20000 in
theorem ggX3_readPart_X3_readTimes : GoodIn wsX3_readPart wsX3_readTimes := goodIn_r _ [22, 2, 3, 1, 23, 24, 25, 7, 26, 4, 5, 6, 8, 9, 10, 11, 12, 13, 14, 15, 16, 17, 18, 27, 28, 29, 30, 31, 73, 74, 75, 76, 77, 78, 79, 80, 81, 82] (by decide +kernel) (by decide +kernel)
set_option maxRecDepth 20000 in
theorem gX3_readPart_X3_readTimes : GoodIn wsX3_readPart (wsV RX3 67 RX3 yX3_readTimes wsX3_readTimes) := goodIn_app (goodIn_of _ (by decide +kernel)) ggX3_readPart_X3_readTimes
set_option maxRecDepth 20000 in
theorem ggX3_readPart_X7_byteAt : GoodIn wsX3_readPart wsX7_byteAt := goodIn_r _ [13, 14, 15, 81, 82] (by decide +kernel) (by decide +kernel)
set_option maxRecDepth 20000 in
theorem gX3_readPart_X7_byteAt : GoodIn wsX3_readPart (wsV RX3 54 RX7 yX7_byteAt wsX7_byteAt) := goodIn_app (goodIn_of _ (by decide +kernel)) ggX3_readPart_X7_byteAt
set_option maxRecDepth 20000 in
theorem ggX3_readPart_X3_openParenthesis : GoodIn wsX3_readPart wsX3_openParenthesis := goodIn_r _ [35, 36, 37, 38, 1, 2, 39, 40, 41, 42, 43, 44, 45, 46, 73, 74, 75, 76, 77, 78, 79, 80, 83, 84, 85, 86] (by decide +kernel) (by decide +kernel)
set_option maxRecDepth 20000 in
theorem gX3_readPart_X3_openParenthesis : GoodIn wsX3_readPart (wsV RX3 71 RX3 yX3_openParenthesis wsX3_openParenthesis) := goodIn_app (goodIn_of _ (by decide +kernel)) ggX3_readPart_X3_openParenthesis
set_option maxRecDepth 20000 in
theorem ggX3_readPart_X3_readItem : GoodIn wsX3_readPart wsX3_readItem := goodIn_r _ [50, 3, 1, 2, 39, 51, 9, 10, 11, 12, 13, 14, 15, 52, 53, 7, 54, 27, 28, 29, 30, 31, 23, 24, 25, 26, 4, 5, 6, 8, 16, 17, 18, 40, 41, 42, 43, 44, 45, 46, 55, 56, 57, 58, 59, 60, 61, 62, 63, 64, 65, 66, 67, 68, 69, 70, 71, 72, 73, 74, 75, 76, 77, 78, 79, 80, 81, 82, 83, 84, 85, 86] (by decide +kernel) (by decide +kernel)
set_option maxRecDepth 20000 in
theorem gX3_readPart_X3_readItem : GoodIn wsX3_readPart (wsV RX3 75 RX3 yX3_readItem wsX3_readItem) := goodIn_app (goodIn_of _ (by decide +kernel)) ggX3_readPart_X3_readItem
theorem dX3_readPart_0 : decode cX3_readPart 0 = .ok (.aload_n 0, 1) := by decide +kernel
theorem dX3_readPart_1 : decode cX3_readPart 1 = .ok (.aload_n 0, 1) := by decide +kernel
theorem dX3_readPart_2 : decode cX3_readPart 2 = .ok (.getfield 43, 3) := by decide +kernel
theorem dX3_readPart_5 : decode cX3_readPart 5 = .ok (.invokevirtual 64, 3) := by decide +kernel
theorem dX3_readPart_8 : decode cX3_readPart 8 = .ok (.iconst (-1), 1) := by decide +kernel
theorem dX3_readPart_9 : decode cX3_readPart 9 = .ok (.if_icmp .ne 7, 3) := by decide +kernel
theorem dX3_readPart_12 : decode cX3_readPart 12 = .ok (.iconst 1, 1) := by decide +kernel
theorem dX3_readPart_13 : decode cX3_readPart 13 = .ok (.goto 7, 3) := by decide +kernel
theorem dX3_readPart_16 : decode cX3_readPart 16 = .ok (.aload_n 0, 1) := by decide +kernel
theorem dX3_readPart_17 : decode cX3_readPart 17 = .ok (.invokevirtual 67, 3) := by decide +kernel
theorem dX3_readPart_20 : decode cX3_readPart 20 = .ok (.istore_n 1, 1) := by decide +kernel
theorem dX3_readPart_21 : decode cX3_readPart 21 = .ok (.aload_n 0, 1) := by decide +kernel
theorem dX3_readPart_22 : decode cX3_readPart 22 = .ok (.getfield 36, 3) := by decide +kernel
theorem dX3_readPart_25 : decode cX3_readPart 25 = .ok (.iconst (-1), 1) := by decide +kernel
theorem dX3_readPart_26 : decode cX3_readPart 26 = .ok (.if_icmp .eq 4, 3) := by decide +kernel
theorem dX3_readPart_29 : decode cX3_readPart 29 = .ok (.return_, 1) := by decide +kernel
theorem dX3_readPart_30 : decode cX3_readPart 30 = .ok (.aload_n 0, 1) := by decide +kernel
theorem dX3_readPart_31 : decode cX3_readPart 31 = .ok (.getfield 9, 3) := by decide +kernel
theorem dX3_readPart_34 : decode cX3_readPart 34 = .ok (.aload_n 0, 1) := by decide +kernel
theorem dX3_readPart_35 : decode cX3_readPart 35 = .ok (.getfield 43, 3) := by decide +kernel
theorem dX3_readPart_38 : decode cX3_readPart 38 = .ok (.invokevirtual 54, 3) := by decide +kernel
theorem dX3_readPart_41 : decode cX3_readPart 41 = .ok (.bipush 40, 2) := by decide +kernel
theorem dX3_readPart_43 : decode cX3_readPart 43 = .ok (.if_icmp .ne 11, 3) := by decide +kernel
theorem dX3_readPart_46 : decode cX3_readPart 46 = .ok (.aload_n 0, 1) := by decide +kernel
theorem dX3_readPart_47 : decode cX3_readPart 47 = .ok (.iload_n 1, 1) := by decide +kernel
theorem dX3_readPart_48 : decode cX3_readPart 48 = .ok (.invokevirtual 71, 3) := by decide +kernel
theorem dX3_readPart_51 : decode cX3_readPart 51 = .ok (.goto 8, 3) := by decide +kernel
theorem dX3_readPart_54 : decode cX3_readPart 54 = .ok (.aload_n 0, 1) := by decide +kernel
theorem dX3_readPart_55 : decode cX3_readPart 55 = .ok (.iload_n 1, 1) := by decide +kernel
theorem dX3_readPart_56 : decode cX3_readPart 56 = .ok (.invokevirtual 75, 3) := by decide +kernel
theorem dX3_readPart_59 : decode cX3_readPart 59 = .ok (.return_, 1) := by decide +kernel
set_option maxRecDepth 20000 in
theorem ggX3_readTimes_X3_readNumber : GoodIn wsX3_readTimes wsX3_readNumber := goodIn_r _ [8, 3, 1, 9, 10, 11, 7, 12, 2, 13, 14, 15, 16, 17, 18, 19, 20, 21, 22, 28, 29, 30, 31, 32, 33, 34, 35, 36, 37] (by decide +kernel) (by decide +kernel)
set_option maxRecDepth 20000 in
theorem gX3_readTimes_X3_readNumber : GoodIn wsX3_readTimes (wsV RX3 78 RX3 yX3_readNumber wsX3_readNumber) := goodIn_app (goodIn_of _ (by decide +kernel)) ggX3_readTimes_X3_readNumber
set_option maxRecDepth 20000 in
theorem ggX3_readTimes_X3_skipBlanks : GoodIn wsX3_readTimes wsX3_skipBlanks := goodIn_r _ [26, 3, 2, 27, 13, 14, 15, 16, 17, 18, 19, 28, 29, 30, 31, 32, 33, 34, 35, 36, 37] (by decide +kernel) (by decide +kernel)
set_option maxRecDepth 20000 in
theorem gX3_readTimes_X3_skipBlanks : GoodIn wsX3_readTimes (wsV RX3 46 RX3 yX3_skipBlanks wsX3_skipBlanks) := goodIn_app (goodIn_of _ (by decide +kernel)) ggX3_readTimes_X3_skipBlanks
set_option maxRecDepth 20000 in
theorem ggX3_readTimes_X7_byteAt : GoodIn wsX3_readTimes wsX7_byteAt := goodIn_r _ [17, 18, 19, 36, 37] (by decide +kernel) (by decide +kernel)
set_option maxRecDepth 20000 in
theorem gX3_readTimes_X7_byteAt : GoodIn wsX3_readTimes (wsV RX3 54 RX7 yX7_byteAt wsX7_byteAt) := goodIn_app (goodIn_of _ (by decide +kernel)) ggX3_readTimes_X7_byteAt
theorem dX3_readTimes_0 : decode cX3_readTimes 0 = .ok (.aload_n 0, 1) := by decide +kernel
theorem dX3_readTimes_1 : decode cX3_readTimes 1 = .ok (.bipush 99, 2) := by decide +kernel
theorem dX3_readTimes_3 : decode cX3_readTimes 3 = .ok (.invokevirtual 78, 3) := by decide +kernel
theorem dX3_readTimes_6 : decode cX3_readTimes 6 = .ok (.istore_n 1, 1) := by decide +kernel
theorem dX3_readTimes_7 : decode cX3_readTimes 7 = .ok (.aload_n 0, 1) := by decide +kernel
theorem dX3_readTimes_8 : decode cX3_readTimes 8 = .ok (.invokevirtual 46, 3) := by decide +kernel
theorem dX3_readTimes_11 : decode cX3_readTimes 11 = .ok (.aload_n 0, 1) := by decide +kernel
theorem dX3_readTimes_12 : decode cX3_readTimes 12 = .ok (.getfield 36, 3) := by decide +kernel
theorem dX3_readTimes_15 : decode cX3_readTimes 15 = .ok (.iconst (-1), 1) := by decide +kernel
theorem dX3_readTimes_16 : decode cX3_readTimes 16 = .ok (.if_icmp .ne 27, 3) := by decide +kernel
theorem dX3_readTimes_19 : decode cX3_readTimes 19 = .ok (.aload_n 0, 1) := by decide +kernel
theorem dX3_readTimes_20 : decode cX3_readTimes 20 = .ok (.getfield 9, 3) := by decide +kernel
theorem dX3_readTimes_23 : decode cX3_readTimes 23 = .ok (.aload_n 0, 1) := by decide +kernel
theorem dX3_readTimes_24 : decode cX3_readTimes 24 = .ok (.getfield 43, 3) := by decide +kernel
theorem dX3_readTimes_27 : decode cX3_readTimes 27 = .ok (.invokevirtual 54, 3) := by decide +kernel
theorem dX3_readTimes_30 : decode cX3_readTimes 30 = .ok (.bipush 42, 2) := by decide +kernel
theorem dX3_readTimes_32 : decode cX3_readTimes 32 = .ok (.if_icmp .eq 11, 3) := by decide +kernel
theorem dX3_readTimes_35 : decode cX3_readTimes 35 = .ok (.aload_n 0, 1) := by decide +kernel
theorem dX3_readTimes_36 : decode cX3_readTimes 36 = .ok (.aload_n 0, 1) := by decide +kernel
theorem dX3_readTimes_37 : decode cX3_readTimes 37 = .ok (.getfield 43, 3) := by decide +kernel
theorem dX3_readTimes_40 : decode cX3_readTimes 40 = .ok (.putfield 36, 3) := by decide +kernel
theorem dX3_readTimes_43 : decode cX3_readTimes 43 = .ok (.aload_n 0, 1) := by decide +kernel
theorem dX3_readTimes_44 : decode cX3_readTimes 44 = .ok (.dup, 1) := by decide +kernel
theorem dX3_readTimes_45 : decode cX3_readTimes 45 = .ok (.getfield 43, 3) := by decide +kernel
theorem dX3_readTimes_48 : decode cX3_readTimes 48 = .ok (.iconst 1, 1) := by decide +kernel
theorem dX3_readTimes_49 : decode cX3_readTimes 49 = .ok (.iadd, 1) := by decide +kernel
theorem dX3_readTimes_50 : decode cX3_readTimes 50 = .ok (.putfield 43, 3) := by decide +kernel
theorem dX3_readTimes_53 : decode cX3_readTimes 53 = .ok (.aload_n 0, 1) := by decide +kernel
theorem dX3_readTimes_54 : decode cX3_readTimes 54 = .ok (.invokevirtual 46, 3) := by decide +kernel
theorem dX3_readTimes_57 : decode cX3_readTimes 57 = .ok (.iload_n 1, 1) := by decide +kernel
theorem dX3_readTimes_58 : decode cX3_readTimes 58 = .ok (.ireturn, 1) := by decide +kernel
set_option maxRecDepth 20000 in
theorem ggX3_readItem_X7_byteAt : GoodIn wsX3_readItem wsX7_byteAt := goodIn_r _ [10, 11, 12, 66, 67] (by decide +kernel) (by decide +kernel)
set_option maxRecDepth 20000 in
theorem gX3_readItem_X7_byteAt : GoodIn wsX3_readItem (wsV RX3 54 RX7 yX7_byteAt wsX7_byteAt) := goodIn_app (goodIn_of _ (by decide +kernel)) ggX3_readItem_X7_byteAt
set_option maxRecDepth 20000 in
theorem ggX3_readItem_X3_kindNamed : GoodIn wsX3_readItem wsX3_kindNamed := goodIn_r _ [16] (by decide +kernel) (by decide +kernel)
set_option maxRecDepth 20000 in
theorem gX3_readItem_X3_kindNamed : GoodIn wsX3_readItem (va_wsS RX3 81 yX3_kindNamed wsX3_kindNamed) := goodIn_app (goodIn_of _ (by decide +kernel)) ggX3_readItem_X3_kindNamed
set_option maxRecDepth 20000 in
theorem ggX3_readItem_X3_skipBlanks : GoodIn wsX3_readItem wsX3_skipBlanks := goodIn_r _ [20, 2, 1, 21, 6, 7, 8, 9, 10, 11, 12, 58, 59, 60, 61, 62, 63, 64, 65, 66, 67] (by decide +kernel) (by decide +kernel)
set_option maxRecDepth 20000 in
theorem gX3_readItem_X3_skipBlanks : GoodIn wsX3_readItem (wsV RX3 46 RX3 yX3_skipBlanks wsX3_skipBlanks) := goodIn_app (goodIn_of _ (by decide +kernel)) ggX3_readItem_X3_skipBlanks
set_option maxRecDepth 20000 in
theorem ggX3_readItem_X3_readNumber : GoodIn wsX3_readItem wsX3_readNumber := goodIn_r _ [25, 2, 3, 26, 27, 28, 15, 29, 1, 6, 7, 8, 9, 10, 11, 12, 30, 31, 32, 58, 59, 60, 61, 62, 63, 64, 65, 66, 67] (by decide +kernel) (by decide +kernel)
set_option maxRecDepth 20000 in
theorem gX3_readItem_X3_readNumber : GoodIn wsX3_readItem (wsV RX3 78 RX3 yX3_readNumber wsX3_readNumber) := goodIn_app (goodIn_of _ (by decide +kernel)) ggX3_readItem_X3_readNumber
set_option maxRecDepth 20000 in
theorem ggX3_readItem_X1_size : GoodIn wsX3_readItem wsX1_size := goodIn_r _ [37, 38, 39, 68, 69, 70, 71] (by decide +kernel) (by decide +kernel)
set_option maxRecDepth 20000 in
theorem gX3_readItem_X1_size : GoodIn wsX3_readItem (wsV RX3 84 RX1 yX1_size wsX1_size) := goodIn_app (goodIn_of _ (by decide +kernel)) ggX3_readItem_X1_size
set_option maxRecDepth 20000 in
theorem ggX3_readItem_X1_append : GoodIn wsX3_readItem wsX1_append := goodIn_r _ [43, 38, 44, 45, 68, 69, 70, 71] (by decide +kernel) (by decide +kernel)
set_option maxRecDepth 20000 in
theorem gX3_readItem_X1_append : GoodIn wsX3_readItem (wsV RX3 87 RX1 yX1_append wsX1_append) := goodIn_app (goodIn_of _ (by decide +kernel)) ggX3_readItem_X1_append
set_option maxRecDepth 20000 in
theorem ggX3_readItem_X3_repeat : GoodIn wsX3_readItem wsX3_repeat := goodIn_r _ [49, 4, 5, 33, 34, 35, 36, 37, 38, 39, 50, 51, 52, 53, 44, 54, 55, 56, 57, 45, 40, 41, 42, 43, 58, 59, 60, 61, 62, 63, 64, 65, 68, 69, 70, 71] (by decide +kernel) (by decide +kernel)
set_option maxRecDepth 20000 in
theorem gX3_readItem_X3_repeat : GoodIn wsX3_readItem (wsV RX3 91 RX3 yX3_repeat wsX3_repeat) := goodIn_app (goodIn_of _ (by decide +kernel)) ggX3_readItem_X3_repeat
theorem dX3_readItem_0 : decode cX3_readItem 0 = .ok (.aload_n 0, 1) := by decide +kernel
theorem dX3_readItem_1 : decode cX3_readItem 1 = .ok (.getfield 9, 3) := by decide +kernel
theorem dX3_readItem_4 : decode cX3_readItem 4 = .ok (.aload_n 0, 1) := by decide +kernel
theorem dX3_readItem_5 : decode cX3_readItem 5 = .ok (.getfield 43, 3) := by decide +kernel
theorem dX3_readItem_8 : decode cX3_readItem 8 = .ok (.invokevirtual 54, 3) := by decide +kernel
theorem dX3_readItem_11 : decode cX3_readItem 11 = .ok (.invokestatic 81, 3) := by decide +kernel
theorem dX3_readItem_14 : decode cX3_readItem 14 = .ok (.istore_n 2, 1) := by decide +kernel
theorem dX3_readItem_15 : decode cX3_readItem 15 = .ok (.iload_n 2, 1) := by decide +kernel
theorem dX3_readItem_16 : decode cX3_readItem 16 = .ok (.iconst (-1), 1) := by decide +kernel
theorem dX3_readItem_17 : decode cX3_readItem 17 = .ok (.if_icmp .ne 12, 3) := by decide +kernel
theorem dX3_readItem_20 : decode cX3_readItem 20 = .ok (.aload_n 0, 1) := by decide +kernel
theorem dX3_readItem_21 : decode cX3_readItem 21 = .ok (.aload_n 0, 1) := by decide +kernel
theorem dX3_readItem_22 : decode cX3_readItem 22 = .ok (.getfield 43, 3) := by decide +kernel
theorem dX3_readItem_25 : decode cX3_readItem 25 = .ok (.putfield 36, 3) := by decide +kernel
theorem dX3_readItem_28 : decode cX3_readItem 28 = .ok (.return_, 1) := by decide +kernel
theorem dX3_readItem_29 : decode cX3_readItem 29 = .ok (.aload_n 0, 1) := by decide +kernel
theorem dX3_readItem_30 : decode cX3_readItem 30 = .ok (.dup, 1) := by decide +kernel
theorem dX3_readItem_31 : decode cX3_readItem 31 = .ok (.getfield 43, 3) := by decide +kernel
theorem dX3_readItem_34 : decode cX3_readItem 34 = .ok (.iconst 1, 1) := by decide +kernel
theorem dX3_readItem_35 : decode cX3_readItem 35 = .ok (.iadd, 1) := by decide +kernel
theorem dX3_readItem_36 : decode cX3_readItem 36 = .ok (.putfield 43, 3) := by decide +kernel
theorem dX3_readItem_39 : decode cX3_readItem 39 = .ok (.aload_n 0, 1) := by decide +kernel
theorem dX3_readItem_40 : decode cX3_readItem 40 = .ok (.invokevirtual 46, 3) := by decide +kernel
theorem dX3_readItem_43 : decode cX3_readItem 43 = .ok (.aload_n 0, 1) := by decide +kernel
theorem dX3_readItem_44 : decode cX3_readItem 44 = .ok (.iload_n 2, 1) := by decide +kernel
theorem dX3_readItem_45 : decode cX3_readItem 45 = .ok (.iconst 1, 1) := by decide +kernel
theorem dX3_readItem_46 : decode cX3_readItem 46 = .ok (.if_icmp .eq 8, 3) := by decide +kernel
theorem dX3_readItem_49 : decode cX3_readItem 49 = .ok (.iload_n 2, 1) := by decide +kernel
theorem dX3_readItem_50 : decode cX3_readItem 50 = .ok (.iconst 3, 1) := by decide +kernel
theorem dX3_readItem_51 : decode cX3_readItem 51 = .ok (.if_icmp .ne 8, 3) := by decide +kernel
theorem dX3_readItem_54 : decode cX3_readItem 54 = .ok (.bipush 30, 2) := by decide +kernel
theorem dX3_readItem_56 : decode cX3_readItem 56 = .ok (.goto 5, 3) := by decide +kernel
theorem dX3_readItem_59 : decode cX3_readItem 59 = .ok (.bipush 99, 2) := by decide +kernel
theorem dX3_readItem_61 : decode cX3_readItem 61 = .ok (.invokevirtual 78, 3) := by decide +kernel
theorem dX3_readItem_64 : decode cX3_readItem 64 = .ok (.istore_n 3, 1) := by decide +kernel
theorem dX3_readItem_65 : decode cX3_readItem 65 = .ok (.aload_n 0, 1) := by decide +kernel
theorem dX3_readItem_66 : decode cX3_readItem 66 = .ok (.getfield 36, 3) := by decide +kernel
theorem dX3_readItem_69 : decode cX3_readItem 69 = .ok (.iconst (-1), 1) := by decide +kernel
theorem dX3_readItem_70 : decode cX3_readItem 70 = .ok (.if_icmp .eq 4, 3) := by decide +kernel
theorem dX3_readItem_73 : decode cX3_readItem 73 = .ok (.return_, 1) := by decide +kernel
theorem dX3_readItem_74 : decode cX3_readItem 74 = .ok (.aload_n 0, 1) := by decide +kernel
theorem dX3_readItem_75 : decode cX3_readItem 75 = .ok (.getfield 18, 3) := by decide +kernel
theorem dX3_readItem_78 : decode cX3_readItem 78 = .ok (.invokevirtual 84, 3) := by decide +kernel
theorem dX3_readItem_81 : decode cX3_readItem 81 = .ok (.istore 4, 2) := by decide +kernel
theorem dX3_readItem_83 : decode cX3_readItem 83 = .ok (.aload_n 0, 1) := by decide +kernel
theorem dX3_readItem_84 : decode cX3_readItem 84 = .ok (.getfield 18, 3) := by decide +kernel
theorem dX3_readItem_87 : decode cX3_readItem 87 = .ok (.iload_n 2, 1) := by decide +kernel
theorem dX3_readItem_88 : decode cX3_readItem 88 = .ok (.iload_n 3, 1) := by decide +kernel
theorem dX3_readItem_89 : decode cX3_readItem 89 = .ok (.invokevirtual 87, 3) := by decide +kernel
theorem dX3_readItem_92 : decode cX3_readItem 92 = .ok (.ifCond .ne 8, 3) := by decide +kernel
theorem dX3_readItem_95 : decode cX3_readItem 95 = .ok (.aload_n 0, 1) := by decide +kernel
theorem dX3_readItem_96 : decode cX3_readItem 96 = .ok (.iconst 1, 1) := by decide +kernel
theorem dX3_readItem_97 : decode cX3_readItem 97 = .ok (.putfield 32, 3) := by decide +kernel
theorem dX3_readItem_100 : decode cX3_readItem 100 = .ok (.aload_n 0, 1) := by decide +kernel
theorem dX3_readItem_101 : decode cX3_readItem 101 = .ok (.iload 4, 2) := by decide +kernel
theorem dX3_readItem_103 : decode cX3_readItem 103 = .ok (.iload_n 1, 1) := by decide +kernel
theorem dX3_readItem_104 : decode cX3_readItem 104 = .ok (.invokevirtual 91, 3) := by decide +kernel
theorem dX3_readItem_107 : decode cX3_readItem 107 = .ok (.return_, 1) := by decide +kernel
set_option maxRecDepth 20000 in
theorem ggX3_openParenthesis_X1_size : GoodIn wsX3_openParenthesis wsX1_size := goodIn_r _ [11, 12, 13, 22, 23, 24, 25] (by decide +kernel) (by decide +kernel)
set_option maxRecDepth 20000 in
theorem gX3_openParenthesis_X1_size : GoodIn wsX3_openParenthesis (wsV RX3 84 RX1 yX1_size wsX1_size) := goodIn_app (goodIn_of _ (by decide +kernel)) ggX3_openParenthesis_X1_size
theorem dX3_openParenthesis_0 : decode cX3_openParenthesis 0 = .ok (.aload_n 0, 1) := by decide +kernel
theorem dX3_openParenthesis_1 : decode cX3_openParenthesis 1 = .ok (.getfield 40, 3) := by decide +kernel
theorem dX3_openParenthesis_4 : decode cX3_openParenthesis 4 = .ok (.ifCond .lt 27, 3) := by decide +kernel
theorem dX3_openParenthesis_7 : decode cX3_openParenthesis 7 = .ok (.aload_n 0, 1) := by decide +kernel
theorem dX3_openParenthesis_8 : decode cX3_openParenthesis 8 = .ok (.getfield 40, 3) := by decide +kernel
theorem dX3_openParenthesis_11 : decode cX3_openParenthesis 11 = .ok (.aload_n 0, 1) := by decide +kernel
theorem dX3_openParenthesis_12 : decode cX3_openParenthesis 12 = .ok (.getfield 22, 3) := by decide +kernel
theorem dX3_openParenthesis_15 : decode cX3_openParenthesis 15 = .ok (.arraylength, 1) := by decide +kernel
theorem dX3_openParenthesis_16 : decode cX3_openParenthesis 16 = .ok (.if_icmp .ge 15, 3) := by decide +kernel
theorem dX3_openParenthesis_19 : decode cX3_openParenthesis 19 = .ok (.aload_n 0, 1) := by decide +kernel
theorem dX3_openParenthesis_20 : decode cX3_openParenthesis 20 = .ok (.getfield 40, 3) := by decide +kernel
theorem dX3_openParenthesis_23 : decode cX3_openParenthesis 23 = .ok (.aload_n 0, 1) := by decide +kernel
theorem dX3_openParenthesis_24 : decode cX3_openParenthesis 24 = .ok (.getfield 26, 3) := by decide +kernel
theorem dX3_openParenthesis_27 : decode cX3_openParenthesis 27 = .ok (.arraylength, 1) := by decide +kernel
theorem dX3_openParenthesis_28 : decode cX3_openParenthesis 28 = .ok (.if_icmp .lt 12, 3) := by decide +kernel
theorem dX3_openParenthesis_31 : decode cX3_openParenthesis 31 = .ok (.aload_n 0, 1) := by decide +kernel
theorem dX3_openParenthesis_32 : decode cX3_openParenthesis 32 = .ok (.aload_n 0, 1) := by decide +kernel
theorem dX3_openParenthesis_33 : decode cX3_openParenthesis 33 = .ok (.getfield 43, 3) := by decide +kernel
theorem dX3_openParenthesis_36 : decode cX3_openParenthesis 36 = .ok (.putfield 36, 3) := by decide +kernel
theorem dX3_openParenthesis_39 : decode cX3_openParenthesis 39 = .ok (.return_, 1) := by decide +kernel
theorem dX3_openParenthesis_40 : decode cX3_openParenthesis 40 = .ok (.aload_n 0, 1) := by decide +kernel
theorem dX3_openParenthesis_41 : decode cX3_openParenthesis 41 = .ok (.getfield 22, 3) := by decide +kernel
theorem dX3_openParenthesis_44 : decode cX3_openParenthesis 44 = .ok (.aload_n 0, 1) := by decide +kernel
theorem dX3_openParenthesis_45 : decode cX3_openParenthesis 45 = .ok (.getfield 40, 3) := by decide +kernel
theorem dX3_openParenthesis_48 : decode cX3_openParenthesis 48 = .ok (.aload_n 0, 1) := by decide +kernel
theorem dX3_openParenthesis_49 : decode cX3_openParenthesis 49 = .ok (.getfield 18, 3) := by decide +kernel
theorem dX3_openParenthesis_52 : decode cX3_openParenthesis 52 = .ok (.invokevirtual 84, 3) := by decide +kernel
theorem dX3_openParenthesis_55 : decode cX3_openParenthesis 55 = .ok (.iastore, 1) := by decide +kernel
theorem dX3_openParenthesis_56 : decode cX3_openParenthesis 56 = .ok (.aload_n 0, 1) := by decide +kernel
theorem dX3_openParenthesis_57 : decode cX3_openParenthesis 57 = .ok (.getfield 26, 3) := by decide +kernel
theorem dX3_openParenthesis_60 : decode cX3_openParenthesis 60 = .ok (.aload_n 0, 1) := by decide +kernel
theorem dX3_openParenthesis_61 : decode cX3_openParenthesis 61 = .ok (.getfield 40, 3) := by decide +kernel
theorem dX3_openParenthesis_64 : decode cX3_openParenthesis 64 = .ok (.iload_n 1, 1) := by decide +kernel
theorem dX3_openParenthesis_65 : decode cX3_openParenthesis 65 = .ok (.iastore, 1) := by decide +kernel
theorem dX3_openParenthesis_66 : decode cX3_openParenthesis 66 = .ok (.aload_n 0, 1) := by decide +kernel
theorem dX3_openParenthesis_67 : decode cX3_openParenthesis 67 = .ok (.dup, 1) := by decide +kernel
theorem dX3_openParenthesis_68 : decode cX3_openParenthesis 68 = .ok (.getfield 40, 3) := by decide +kernel
theorem dX3_openParenthesis_71 : decode cX3_openParenthesis 71 = .ok (.iconst 1, 1) := by decide +kernel
theorem dX3_openParenthesis_72 : decode cX3_openParenthesis 72 = .ok (.iadd, 1) := by decide +kernel
theorem dX3_openParenthesis_73 : decode cX3_openParenthesis 73 = .ok (.putfield 40, 3) := by decide +kernel
theorem dX3_openParenthesis_76 : decode cX3_openParenthesis 76 = .ok (.aload_n 0, 1) := by decide +kernel
theorem dX3_openParenthesis_77 : decode cX3_openParenthesis 77 = .ok (.dup, 1) := by decide +kernel
theorem dX3_openParenthesis_78 : decode cX3_openParenthesis 78 = .ok (.getfield 43, 3) := by decide +kernel
theorem dX3_openParenthesis_81 : decode cX3_openParenthesis 81 = .ok (.iconst 1, 1) := by decide +kernel
theorem dX3_openParenthesis_82 : decode cX3_openParenthesis 82 = .ok (.iadd, 1) := by decide +kernel
theorem dX3_openParenthesis_83 : decode cX3_openParenthesis 83 = .ok (.putfield 43, 3) := by decide +kernel
theorem dX3_openParenthesis_86 : decode cX3_openParenthesis 86 = .ok (.return_, 1) := by decide +kernel
set_option maxRecDepth 20000 in
theorem ggX3_closeParenthesis_X3_repeat : GoodIn wsX3_closeParenthesis wsX3_repeat := goodIn_r _ [10, 11, 12, 13, 14, 15, 16, 17, 18, 19, 20, 21, 22, 23, 24, 25, 26, 27, 28, 29, 30, 31, 32, 33, 34, 35, 36, 37, 38, 39, 40, 41, 42, 43, 44, 45] (by decide +kernel) (by decide +kernel)
set_option maxRecDepth 20000 in
theorem gX3_closeParenthesis_X3_repeat : GoodIn wsX3_closeParenthesis (wsV RX3 91 RX3 yX3_repeat wsX3_repeat) := goodIn_app (goodIn_of _ (by decide +kernel)) ggX3_closeParenthesis_X3_repeat
theorem dX3_closeParenthesis_0 : decode cX3_closeParenthesis 0 = .ok (.aload_n 0, 1) := by decide +kernel
theorem dX3_closeParenthesis_1 : decode cX3_closeParenthesis 1 = .ok (.getfield 40, 3) := by decide +kernel
theorem dX3_closeParenthesis_4 : decode cX3_closeParenthesis 4 = .ok (.iconst 1, 1) := by decide +kernel
theorem dX3_closeParenthesis_5 : decode cX3_closeParenthesis 5 = .ok (.isub, 1) := by decide +kernel
theorem dX3_closeParenthesis_6 : decode cX3_closeParenthesis 6 = .ok (.istore_n 1, 1) := by decide +kernel
theorem dX3_closeParenthesis_7 : decode cX3_closeParenthesis 7 = .ok (.iload_n 1, 1) := by decide +kernel
theorem dX3_closeParenthesis_8 : decode cX3_closeParenthesis 8 = .ok (.ifCond .lt 21, 3) := by decide +kernel
theorem dX3_closeParenthesis_11 : decode cX3_closeParenthesis 11 = .ok (.iload_n 1, 1) := by decide +kernel
theorem dX3_closeParenthesis_12 : decode cX3_closeParenthesis 12 = .ok (.aload_n 0, 1) := by decide +kernel
theorem dX3_closeParenthesis_13 : decode cX3_closeParenthesis 13 = .ok (.getfield 22, 3) := by decide +kernel
theorem dX3_closeParenthesis_16 : decode cX3_closeParenthesis 16 = .ok (.arraylength, 1) := by decide +kernel
theorem dX3_closeParenthesis_17 : decode cX3_closeParenthesis 17 = .ok (.if_icmp .ge 12, 3) := by decide +kernel
theorem dX3_closeParenthesis_20 : decode cX3_closeParenthesis 20 = .ok (.iload_n 1, 1) := by decide +kernel
theorem dX3_closeParenthesis_21 : decode cX3_closeParenthesis 21 = .ok (.aload_n 0, 1) := by decide +kernel
theorem dX3_closeParenthesis_22 : decode cX3_closeParenthesis 22 = .ok (.getfield 26, 3) := by decide +kernel
theorem dX3_closeParenthesis_25 : decode cX3_closeParenthesis 25 = .ok (.arraylength, 1) := by decide +kernel
theorem dX3_closeParenthesis_26 : decode cX3_closeParenthesis 26 = .ok (.if_icmp .lt 12, 3) := by decide +kernel
theorem dX3_closeParenthesis_29 : decode cX3_closeParenthesis 29 = .ok (.aload_n 0, 1) := by decide +kernel
theorem dX3_closeParenthesis_30 : decode cX3_closeParenthesis 30 = .ok (.aload_n 0, 1) := by decide +kernel
theorem dX3_closeParenthesis_31 : decode cX3_closeParenthesis 31 = .ok (.getfield 43, 3) := by decide +kernel
theorem dX3_closeParenthesis_34 : decode cX3_closeParenthesis 34 = .ok (.putfield 36, 3) := by decide +kernel
theorem dX3_closeParenthesis_37 : decode cX3_closeParenthesis 37 = .ok (.return_, 1) := by decide +kernel
theorem dX3_closeParenthesis_38 : decode cX3_closeParenthesis 38 = .ok (.aload_n 0, 1) := by decide +kernel
theorem dX3_closeParenthesis_39 : decode cX3_closeParenthesis 39 = .ok (.iload_n 1, 1) := by decide +kernel
theorem dX3_closeParenthesis_40 : decode cX3_closeParenthesis 40 = .ok (.putfield 40, 3) := by decide +kernel
theorem dX3_closeParenthesis_43 : decode cX3_closeParenthesis 43 = .ok (.aload_n 0, 1) := by decide +kernel
theorem dX3_closeParenthesis_44 : decode cX3_closeParenthesis 44 = .ok (.dup, 1) := by decide +kernel
theorem dX3_closeParenthesis_45 : decode cX3_closeParenthesis 45 = .ok (.getfield 43, 3) := by decide +kernel
theorem dX3_closeParenthesis_48 : decode cX3_closeParenthesis 48 = .ok (.iconst 1, 1) := by decide +kernel
theorem dX3_closeParenthesis_49 : decode cX3_closeParenthesis 49 = .ok (.iadd, 1) := by decide +kernel
theorem dX3_closeParenthesis_50 : decode cX3_closeParenthesis 50 = .ok (.putfield 43, 3) := by decide +kernel
theorem dX3_closeParenthesis_53 : decode cX3_closeParenthesis 53 = .ok (.aload_n 0, 1) := by decide +kernel
theorem dX3_closeParenthesis_54 : decode cX3_closeParenthesis 54 = .ok (.aload_n 0, 1) := by decide +kernel
theorem dX3_closeParenthesis_55 : decode cX3_closeParenthesis 55 = .ok (.getfield 22, 3) := by decide +kernel
theorem dX3_closeParenthesis_58 : decode cX3_closeParenthesis 58 = .ok (.iload_n 1, 1) := by decide +kernel
theorem dX3_closeParenthesis_59 : decode cX3_closeParenthesis 59 = .ok (.iaload, 1) := by decide +kernel
theorem dX3_closeParenthesis_60 : decode cX3_closeParenthesis 60 = .ok (.aload_n 0, 1) := by decide +kernel
theorem dX3_closeParenthesis_61 : decode cX3_closeParenthesis 61 = .ok (.getfield 26, 3) := by decide +kernel
theorem dX3_closeParenthesis_64 : decode cX3_closeParenthesis 64 = .ok (.iload_n 1, 1) := by decide +kernel
theorem dX3_closeParenthesis_65 : decode cX3_closeParenthesis 65 = .ok (.iaload, 1) := by decide +kernel
theorem dX3_closeParenthesis_66 : decode cX3_closeParenthesis 66 = .ok (.invokevirtual 91, 3) := by decide +kernel
theorem dX3_closeParenthesis_69 : decode cX3_closeParenthesis 69 = .ok (.return_, 1) := by decide +kernel
set_option maxRecDepth 20000 in
theorem ggX3_repeat_X1_size : GoodIn wsX3_repeat wsX1_size := goodIn_r _ [7, 8, 9, 32, 33, 34, 35] (by decide +kernel) (by decide +kernel)
set_option maxRecDepth 20000 in
theorem gX3_repeat_X1_size : GoodIn wsX3_repeat (wsV RX3 84 RX1 yX1_size wsX1_size) := goodIn_app (goodIn_of _ (by decide +kernel)) ggX3_repeat_X1_size
set_option maxRecDepth 20000 in
theorem ggX3_repeat_X1_kindOf : GoodIn wsX3_repeat wsX1_kindOf := goodIn_r _ [13, 9, 14, 32, 33, 34, 35] (by decide +kernel) (by decide +kernel)
set_option maxRecDepth 20000 in
theorem gX3_repeat_X1_kindOf : GoodIn wsX3_repeat (wsV RX3 95 RX1 yX1_kindOf wsX1_kindOf) := goodIn_app (goodIn_of _ (by decide +kernel)) ggX3_repeat_X1_kindOf
set_option maxRecDepth 20000 in
theorem ggX3_repeat_X1_lengthOf : GoodIn wsX3_repeat wsX1_lengthOf := goodIn_r _ [18, 9, 19, 32, 33, 34, 35] (by decide +kernel) (by decide +kernel)
set_option maxRecDepth 20000 in
theorem gX3_repeat_X1_lengthOf : GoodIn wsX3_repeat (wsV RX3 98 RX1 yX1_lengthOf wsX1_lengthOf) := goodIn_app (goodIn_of _ (by decide +kernel)) ggX3_repeat_X1_lengthOf
set_option maxRecDepth 20000 in
theorem ggX3_repeat_X1_append : GoodIn wsX3_repeat wsX1_append := goodIn_r _ [23, 8, 14, 19, 32, 33, 34, 35] (by decide +kernel) (by decide +kernel)
set_option maxRecDepth 20000 in
theorem gX3_repeat_X1_append : GoodIn wsX3_repeat (wsV RX3 87 RX1 yX1_append wsX1_append) := goodIn_app (goodIn_of _ (by decide +kernel)) ggX3_repeat_X1_append
theorem dX3_repeat_0 : decode cX3_repeat 0 = .ok (.aload_n 0, 1) := by decide +kernel
theorem dX3_repeat_1 : decode cX3_repeat 1 = .ok (.getfield 18, 3) := by decide +kernel
theorem dX3_repeat_4 : decode cX3_repeat 4 = .ok (.invokevirtual 84, 3) := by decide +kernel
theorem dX3_repeat_7 : decode cX3_repeat 7 = .ok (.iload_n 1, 1) := by decide +kernel
theorem dX3_repeat_8 : decode cX3_repeat 8 = .ok (.isub, 1) := by decide +kernel
theorem dX3_repeat_9 : decode cX3_repeat 9 = .ok (.istore_n 3, 1) := by decide +kernel
theorem dX3_repeat_10 : decode cX3_repeat 10 = .ok (.iload_n 1, 1) := by decide +kernel
theorem dX3_repeat_11 : decode cX3_repeat 11 = .ok (.iload_n 3, 1) := by decide +kernel
theorem dX3_repeat_12 : decode cX3_repeat 12 = .ok (.iload_n 2, 1) := by decide +kernel
theorem dX3_repeat_13 : decode cX3_repeat 13 = .ok (.imul, 1) := by decide +kernel
theorem dX3_repeat_14 : decode cX3_repeat 14 = .ok (.iadd, 1) := by decide +kernel
theorem dX3_repeat_15 : decode cX3_repeat 15 = .ok (.bipush 80, 2) := by decide +kernel
theorem dX3_repeat_17 : decode cX3_repeat 17 = .ok (.if_icmp .le 9, 3) := by decide +kernel
theorem dX3_repeat_20 : decode cX3_repeat 20 = .ok (.aload_n 0, 1) := by decide +kernel
theorem dX3_repeat_21 : decode cX3_repeat 21 = .ok (.iconst 1, 1) := by decide +kernel
theorem dX3_repeat_22 : decode cX3_repeat 22 = .ok (.putfield 32, 3) := by decide +kernel
theorem dX3_repeat_25 : decode cX3_repeat 25 = .ok (.return_, 1) := by decide +kernel
theorem dX3_repeat_26 : decode cX3_repeat 26 = .ok (.iconst 0, 1) := by decide +kernel
theorem dX3_repeat_27 : decode cX3_repeat 27 = .ok (.istore 4, 2) := by decide +kernel
theorem dX3_repeat_29 : decode cX3_repeat 29 = .ok (.iload 4, 2) := by decide +kernel
theorem dX3_repeat_31 : decode cX3_repeat 31 = .ok (.iload_n 3, 1) := by decide +kernel
theorem dX3_repeat_32 : decode cX3_repeat 32 = .ok (.iload_n 2, 1) := by decide +kernel
theorem dX3_repeat_33 : decode cX3_repeat 33 = .ok (.iconst 1, 1) := by decide +kernel
theorem dX3_repeat_34 : decode cX3_repeat 34 = .ok (.isub, 1) := by decide +kernel
theorem dX3_repeat_35 : decode cX3_repeat 35 = .ok (.imul, 1) := by decide +kernel
theorem dX3_repeat_36 : decode cX3_repeat 36 = .ok (.if_icmp .ge 39, 3) := by decide +kernel
theorem dX3_repeat_39 : decode cX3_repeat 39 = .ok (.aload_n 0, 1) := by decide +kernel
theorem dX3_repeat_40 : decode cX3_repeat 40 = .ok (.getfield 18, 3) := by decide +kernel
theorem dX3_repeat_43 : decode cX3_repeat 43 = .ok (.aload_n 0, 1) := by decide +kernel
theorem dX3_repeat_44 : decode cX3_repeat 44 = .ok (.getfield 18, 3) := by decide +kernel
theorem dX3_repeat_47 : decode cX3_repeat 47 = .ok (.iload_n 1, 1) := by decide +kernel
theorem dX3_repeat_48 : decode cX3_repeat 48 = .ok (.iload 4, 2) := by decide +kernel
theorem dX3_repeat_50 : decode cX3_repeat 50 = .ok (.iadd, 1) := by decide +kernel
theorem dX3_repeat_51 : decode cX3_repeat 51 = .ok (.invokevirtual 95, 3) := by decide +kernel
theorem dX3_repeat_54 : decode cX3_repeat 54 = .ok (.aload_n 0, 1) := by decide +kernel
theorem dX3_repeat_55 : decode cX3_repeat 55 = .ok (.getfield 18, 3) := by decide +kernel
theorem dX3_repeat_58 : decode cX3_repeat 58 = .ok (.iload_n 1, 1) := by decide +kernel
theorem dX3_repeat_59 : decode cX3_repeat 59 = .ok (.iload 4, 2) := by decide +kernel
theorem dX3_repeat_61 : decode cX3_repeat 61 = .ok (.iadd, 1) := by decide +kernel
theorem dX3_repeat_62 : decode cX3_repeat 62 = .ok (.invokevirtual 98, 3) := by decide +kernel
theorem dX3_repeat_65 : decode cX3_repeat 65 = .ok (.invokevirtual 87, 3) := by decide +kernel
theorem dX3_repeat_68 : decode cX3_repeat 68 = .ok (.pop, 1) := by decide +kernel
theorem dX3_repeat_69 : decode cX3_repeat 69 = .ok (.iinc 4 1, 3) := by decide +kernel
theorem dX3_repeat_72 : decode cX3_repeat 72 = .ok (.goto (-43), 3) := by decide +kernel
theorem dX3_repeat_75 : decode cX3_repeat 75 = .ok (.return_, 1) := by decide +kernel
set_option maxRecDepth 20000 in
theorem ggX3_readNumber_X3_digitAt : GoodIn wsX3_readNumber wsX3_digitAt := goodIn_r _ [7, 8, 9, 10, 11, 12, 13, 14, 15, 16, 17, 18, 19, 20, 21, 22, 23, 24, 25, 26, 27, 28] (by decide +kernel) (by decide +kernel)
set_option maxRecDepth 20000 in
theorem gX3_readNumber_X3_digitAt : GoodIn wsX3_readNumber (wsV RX3 64 RX3 yX3_digitAt wsX3_digitAt) := goodIn_app (goodIn_of _ (by decide +kernel)) ggX3_readNumber_X3_digitAt
theorem dX3_readNumber_0 : decode cX3_readNumber 0 = .ok (.aload_n 0, 1) := by decide +kernel
theorem dX3_readNumber_1 : decode cX3_readNumber 1 = .ok (.getfield 43, 3) := by decide +kernel
theorem dX3_readNumber_4 : decode cX3_readNumber 4 = .ok (.istore_n 2, 1) := by decide +kernel
theorem dX3_readNumber_5 : decode cX3_readNumber 5 = .ok (.aload_n 0, 1) := by decide +kernel
theorem dX3_readNumber_6 : decode cX3_readNumber 6 = .ok (.aload_n 0, 1) := by decide +kernel
theorem dX3_readNumber_7 : decode cX3_readNumber 7 = .ok (.getfield 43, 3) := by decide +kernel
theorem dX3_readNumber_10 : decode cX3_readNumber 10 = .ok (.invokevirtual 64, 3) := by decide +kernel
theorem dX3_readNumber_13 : decode cX3_readNumber 13 = .ok (.istore_n 3, 1) := by decide +kernel
theorem dX3_readNumber_14 : decode cX3_readNumber 14 = .ok (.iload_n 3, 1) := by decide +kernel
theorem dX3_readNumber_15 : decode cX3_readNumber 15 = .ok (.iconst (-1), 1) := by decide +kernel
theorem dX3_readNumber_16 : decode cX3_readNumber 16 = .ok (.if_icmp .ne 13, 3) := by decide +kernel
theorem dX3_readNumber_19 : decode cX3_readNumber 19 = .ok (.aload_n 0, 1) := by decide +kernel
theorem dX3_readNumber_20 : decode cX3_readNumber 20 = .ok (.aload_n 0, 1) := by decide +kernel
theorem dX3_readNumber_21 : decode cX3_readNumber 21 = .ok (.getfield 43, 3) := by decide +kernel
theorem dX3_readNumber_24 : decode cX3_readNumber 24 = .ok (.putfield 36, 3) := by decide +kernel
theorem dX3_readNumber_27 : decode cX3_readNumber 27 = .ok (.iconst 0, 1) := by decide +kernel
theorem dX3_readNumber_28 : decode cX3_readNumber 28 = .ok (.ireturn, 1) := by decide +kernel
theorem dX3_readNumber_29 : decode cX3_readNumber 29 = .ok (.aload_n 0, 1) := by decide +kernel
theorem dX3_readNumber_30 : decode cX3_readNumber 30 = .ok (.dup, 1) := by decide +kernel
theorem dX3_readNumber_31 : decode cX3_readNumber 31 = .ok (.getfield 43, 3) := by decide +kernel
theorem dX3_readNumber_34 : decode cX3_readNumber 34 = .ok (.iconst 1, 1) := by decide +kernel
theorem dX3_readNumber_35 : decode cX3_readNumber 35 = .ok (.iadd, 1) := by decide +kernel
theorem dX3_readNumber_36 : decode cX3_readNumber 36 = .ok (.putfield 43, 3) := by decide +kernel
theorem dX3_readNumber_39 : decode cX3_readNumber 39 = .ok (.aload_n 0, 1) := by decide +kernel
theorem dX3_readNumber_40 : decode cX3_readNumber 40 = .ok (.aload_n 0, 1) := by decide +kernel
theorem dX3_readNumber_41 : decode cX3_readNumber 41 = .ok (.getfield 43, 3) := by decide +kernel
theorem dX3_readNumber_44 : decode cX3_readNumber 44 = .ok (.invokevirtual 64, 3) := by decide +kernel
theorem dX3_readNumber_47 : decode cX3_readNumber 47 = .ok (.iconst (-1), 1) := by decide +kernel
theorem dX3_readNumber_48 : decode cX3_readNumber 48 = .ok (.if_icmp .eq 27, 3) := by decide +kernel
theorem dX3_readNumber_51 : decode cX3_readNumber 51 = .ok (.bipush 10, 2) := by decide +kernel
theorem dX3_readNumber_53 : decode cX3_readNumber 53 = .ok (.iload_n 3, 1) := by decide +kernel
theorem dX3_readNumber_54 : decode cX3_readNumber 54 = .ok (.imul, 1) := by decide +kernel
theorem dX3_readNumber_55 : decode cX3_readNumber 55 = .ok (.aload_n 0, 1) := by decide +kernel
theorem dX3_readNumber_56 : decode cX3_readNumber 56 = .ok (.aload_n 0, 1) := by decide +kernel
theorem dX3_readNumber_57 : decode cX3_readNumber 57 = .ok (.getfield 43, 3) := by decide +kernel
theorem dX3_readNumber_60 : decode cX3_readNumber 60 = .ok (.invokevirtual 64, 3) := by decide +kernel
theorem dX3_readNumber_63 : decode cX3_readNumber 63 = .ok (.iadd, 1) := by decide +kernel
theorem dX3_readNumber_64 : decode cX3_readNumber 64 = .ok (.istore_n 3, 1) := by decide +kernel
theorem dX3_readNumber_65 : decode cX3_readNumber 65 = .ok (.aload_n 0, 1) := by decide +kernel
theorem dX3_readNumber_66 : decode cX3_readNumber 66 = .ok (.dup, 1) := by decide +kernel
theorem dX3_readNumber_67 : decode cX3_readNumber 67 = .ok (.getfield 43, 3) := by decide +kernel
theorem dX3_readNumber_70 : decode cX3_readNumber 70 = .ok (.iconst 1, 1) := by decide +kernel
theorem dX3_readNumber_71 : decode cX3_readNumber 71 = .ok (.iadd, 1) := by decide +kernel
theorem dX3_readNumber_72 : decode cX3_readNumber 72 = .ok (.putfield 43, 3) := by decide +kernel
theorem dX3_readNumber_75 : decode cX3_readNumber 75 = .ok (.iload_n 3, 1) := by decide +kernel
theorem dX3_readNumber_76 : decode cX3_readNumber 76 = .ok (.ifCond .eq 8, 3) := by decide +kernel
theorem dX3_readNumber_79 : decode cX3_readNumber 79 = .ok (.iload_n 3, 1) := by decide +kernel
theorem dX3_readNumber_80 : decode cX3_readNumber 80 = .ok (.iload_n 1, 1) := by decide +kernel
theorem dX3_readNumber_81 : decode cX3_readNumber 81 = .ok (.if_icmp .le 11, 3) := by decide +kernel
theorem dX3_readNumber_84 : decode cX3_readNumber 84 = .ok (.aload_n 0, 1) := by decide +kernel
theorem dX3_readNumber_85 : decode cX3_readNumber 85 = .ok (.iload_n 2, 1) := by decide +kernel
theorem dX3_readNumber_86 : decode cX3_readNumber 86 = .ok (.putfield 36, 3) := by decide +kernel
theorem dX3_readNumber_89 : decode cX3_readNumber 89 = .ok (.goto 23, 3) := by decide +kernel
theorem dX3_readNumber_92 : decode cX3_readNumber 92 = .ok (.aload_n 0, 1) := by decide +kernel
theorem dX3_readNumber_93 : decode cX3_readNumber 93 = .ok (.aload_n 0, 1) := by decide +kernel
theorem dX3_readNumber_94 : decode cX3_readNumber 94 = .ok (.getfield 43, 3) := by decide +kernel
theorem dX3_readNumber_97 : decode cX3_readNumber 97 = .ok (.invokevirtual 64, 3) := by decide +kernel
theorem dX3_readNumber_100 : decode cX3_readNumber 100 = .ok (.iconst (-1), 1) := by decide +kernel
theorem dX3_readNumber_101 : decode cX3_readNumber 101 = .ok (.if_icmp .eq 11, 3) := by decide +kernel
theorem dX3_readNumber_104 : decode cX3_readNumber 104 = .ok (.aload_n 0, 1) := by decide +kernel
theorem dX3_readNumber_105 : decode cX3_readNumber 105 = .ok (.aload_n 0, 1) := by decide +kernel
theorem dX3_readNumber_106 : decode cX3_readNumber 106 = .ok (.getfield 43, 3) := by decide +kernel
theorem dX3_readNumber_109 : decode cX3_readNumber 109 = .ok (.putfield 36, 3) := by decide +kernel
theorem dX3_readNumber_112 : decode cX3_readNumber 112 = .ok (.iload_n 3, 1) := by decide +kernel
theorem dX3_readNumber_113 : decode cX3_readNumber 113 = .ok (.ireturn, 1) := by decide +kernel
set_option maxRecDepth 20000 in
theorem ggX3_digitAt_X7_byteAt : GoodIn wsX3_digitAt wsX7_byteAt := goodIn_r _ [6, 7, 8, 20, 21] (by decide +kernel) (by decide +kernel)
set_option maxRecDepth 20000 in
theorem gX3_digitAt_X7_byteAt : GoodIn wsX3_digitAt (wsV RX3 54 RX7 yX7_byteAt wsX7_byteAt) := goodIn_app (goodIn_of _ (by decide +kernel)) ggX3_digitAt_X7_byteAt
set_option maxRecDepth 20000 in
theorem ggX3_digitAt_X8_isWithin : GoodIn wsX3_digitAt wsX8_isWithin := goodIn_r _ [11] (by decide +kernel) (by decide +kernel)
set_option maxRecDepth 20000 in
theorem gX3_digitAt_X8_isWithin_n101 : GoodIn wsX3_digitAt (wsX8_isWithin) := ggX3_digitAt_X8_isWithin
theorem dX3_digitAt_0 : decode cX3_digitAt 0 = .ok (.aload_n 0, 1) := by decide +kernel
theorem dX3_digitAt_1 : decode cX3_digitAt 1 = .ok (.getfield 9, 3) := by decide +kernel
theorem dX3_digitAt_4 : decode cX3_digitAt 4 = .ok (.iload_n 1, 1) := by decide +kernel
theorem dX3_digitAt_5 : decode cX3_digitAt 5 = .ok (.invokevirtual 54, 3) := by decide +kernel
theorem dX3_digitAt_8 : decode cX3_digitAt 8 = .ok (.istore_n 2, 1) := by decide +kernel
theorem dX3_digitAt_9 : decode cX3_digitAt 9 = .ok (.iload_n 2, 1) := by decide +kernel
theorem dX3_digitAt_10 : decode cX3_digitAt 10 = .ok (.bipush 48, 2) := by decide +kernel
theorem dX3_digitAt_12 : decode cX3_digitAt 12 = .ok (.bipush 57, 2) := by decide +kernel
theorem dX3_digitAt_14 : decode cX3_digitAt 14 = .ok (.invokestatic 101, 3) := by decide +kernel
theorem dX3_digitAt_17 : decode cX3_digitAt 17 = .ok (.ifCond .eq 10, 3) := by decide +kernel
theorem dX3_digitAt_20 : decode cX3_digitAt 20 = .ok (.iload_n 2, 1) := by decide +kernel
theorem dX3_digitAt_21 : decode cX3_digitAt 21 = .ok (.bipush 48, 2) := by decide +kernel
theorem dX3_digitAt_23 : decode cX3_digitAt 23 = .ok (.isub, 1) := by decide +kernel
theorem dX3_digitAt_24 : decode cX3_digitAt 24 = .ok (.goto 4, 3) := by decide +kernel
theorem dX3_digitAt_27 : decode cX3_digitAt 27 = .ok (.iconst (-1), 1) := by decide +kernel
theorem dX3_digitAt_28 : decode cX3_digitAt 28 = .ok (.ireturn, 1) := by decide +kernel
set_option maxRecDepth 20000 in
theorem ggX3_skipBlanks_X7_byteAt : GoodIn wsX3_skipBlanks wsX7_byteAt := goodIn_r _ [8, 9, 10, 19, 20] (by decide +kernel) (by decide +kernel)
set_option maxRecDepth 20000 in
theorem gX3_skipBlanks_X7_byteAt : GoodIn wsX3_skipBlanks (wsV RX3 54 RX7 yX7_byteAt wsX7_byteAt) := goodIn_app (goodIn_of _ (by decide +kernel)) ggX3_skipBlanks_X7_byteAt
theorem dX3_skipBlanks_0 : decode cX3_skipBlanks 0 = .ok (.aload_n 0, 1) := by decide +kernel
theorem dX3_skipBlanks_1 : decode cX3_skipBlanks 1 = .ok (.getfield 43, 3) := by decide +kernel
theorem dX3_skipBlanks_4 : decode cX3_skipBlanks 4 = .ok (.aload_n 0, 1) := by decide +kernel
theorem dX3_skipBlanks_5 : decode cX3_skipBlanks 5 = .ok (.getfield 9, 3) := by decide +kernel
theorem dX3_skipBlanks_8 : decode cX3_skipBlanks 8 = .ok (.getfield 49, 3) := by decide +kernel
theorem dX3_skipBlanks_11 : decode cX3_skipBlanks 11 = .ok (.if_icmp .ge 32, 3) := by decide +kernel
theorem dX3_skipBlanks_14 : decode cX3_skipBlanks 14 = .ok (.aload_n 0, 1) := by decide +kernel
theorem dX3_skipBlanks_15 : decode cX3_skipBlanks 15 = .ok (.getfield 9, 3) := by decide +kernel
theorem dX3_skipBlanks_18 : decode cX3_skipBlanks 18 = .ok (.aload_n 0, 1) := by decide +kernel
theorem dX3_skipBlanks_19 : decode cX3_skipBlanks 19 = .ok (.getfield 43, 3) := by decide +kernel
theorem dX3_skipBlanks_22 : decode cX3_skipBlanks 22 = .ok (.invokevirtual 54, 3) := by decide +kernel
theorem dX3_skipBlanks_25 : decode cX3_skipBlanks 25 = .ok (.bipush 32, 2) := by decide +kernel
theorem dX3_skipBlanks_27 : decode cX3_skipBlanks 27 = .ok (.if_icmp .ne 16, 3) := by decide +kernel
theorem dX3_skipBlanks_30 : decode cX3_skipBlanks 30 = .ok (.aload_n 0, 1) := by decide +kernel
theorem dX3_skipBlanks_31 : decode cX3_skipBlanks 31 = .ok (.dup, 1) := by decide +kernel
theorem dX3_skipBlanks_32 : decode cX3_skipBlanks 32 = .ok (.getfield 43, 3) := by decide +kernel
theorem dX3_skipBlanks_35 : decode cX3_skipBlanks 35 = .ok (.iconst 1, 1) := by decide +kernel
theorem dX3_skipBlanks_36 : decode cX3_skipBlanks 36 = .ok (.iadd, 1) := by decide +kernel
theorem dX3_skipBlanks_37 : decode cX3_skipBlanks 37 = .ok (.putfield 43, 3) := by decide +kernel
theorem dX3_skipBlanks_40 : decode cX3_skipBlanks 40 = .ok (.goto (-40), 3) := by decide +kernel
theorem dX3_skipBlanks_43 : decode cX3_skipBlanks 43 = .ok (.return_, 1) := by decide +kernel
theorem dX3_kindNamed_0 : decode cX3_kindNamed 0 = .ok (.iload_n 0, 1) := by decide +kernel
theorem dX3_kindNamed_1 : decode cX3_kindNamed 1 = .ok (.lookupswitch 51 #[(98, 47), (103, 45), (108, 43), (115, 49)], 43) := by decide +kernel
theorem dX3_kindNamed_44 : decode cX3_kindNamed 44 = .ok (.iconst 0, 1) := by decide +kernel
theorem dX3_kindNamed_45 : decode cX3_kindNamed 45 = .ok (.ireturn, 1) := by decide +kernel
theorem dX3_kindNamed_46 : decode cX3_kindNamed 46 = .ok (.iconst 1, 1) := by decide +kernel
theorem dX3_kindNamed_47 : decode cX3_kindNamed 47 = .ok (.ireturn, 1) := by decide +kernel
theorem dX3_kindNamed_48 : decode cX3_kindNamed 48 = .ok (.iconst 2, 1) := by decide +kernel
theorem dX3_kindNamed_49 : decode cX3_kindNamed 49 = .ok (.ireturn, 1) := by decide +kernel
theorem dX3_kindNamed_50 : decode cX3_kindNamed 50 = .ok (.iconst 3, 1) := by decide +kernel
theorem dX3_kindNamed_51 : decode cX3_kindNamed 51 = .ok (.ireturn, 1) := by decide +kernel
theorem dX3_kindNamed_52 : decode cX3_kindNamed 52 = .ok (.iconst (-1), 1) := by decide +kernel
theorem dX3_kindNamed_53 : decode cX3_kindNamed 53 = .ok (.ireturn, 1) := by decide +kernel
set_option maxRecDepth 20000 in
theorem ggX4_init_X4_makeEmpty : GoodIn wsX4_init wsX4_makeEmpty := goodIn_r _ [10, 11, 5, 12, 13] (by decide +kernel) (by decide +kernel)
set_option maxRecDepth 20000 in
theorem gX4_init_X4_makeEmpty : GoodIn wsX4_init (wsV RX4 15 RX4 yX4_makeEmpty wsX4_makeEmpty) := goodIn_app (goodIn_of _ (by decide +kernel)) ggX4_init_X4_makeEmpty
theorem dX4_init_0 : decode cX4_init 0 = .ok (.aload_n 0, 1) := by decide +kernel
theorem dX4_init_1 : decode cX4_init 1 = .ok (.invokespecial 3, 3) := by decide +kernel
theorem dX4_init_4 : decode cX4_init 4 = .ok (.aload_n 0, 1) := by decide +kernel
theorem dX4_init_5 : decode cX4_init 5 = .ok (.bipush 10, 2) := by decide +kernel
theorem dX4_init_7 : decode cX4_init 7 = .ok (.newarray .int, 2) := by decide +kernel
theorem dX4_init_9 : decode cX4_init 9 = .ok (.putfield 9, 3) := by decide +kernel
theorem dX4_init_12 : decode cX4_init 12 = .ok (.aload_n 0, 1) := by decide +kernel
theorem dX4_init_13 : decode cX4_init 13 = .ok (.iconst 4, 1) := by decide +kernel
theorem dX4_init_14 : decode cX4_init 14 = .ok (.invokevirtual 15, 3) := by decide +kernel
theorem dX4_init_17 : decode cX4_init 17 = .ok (.return_, 1) := by decide +kernel
theorem dX4_makeEmpty_0 : decode cX4_makeEmpty 0 = .ok (.aload_n 0, 1) := by decide +kernel
theorem dX4_makeEmpty_1 : decode cX4_makeEmpty 1 = .ok (.iload_n 1, 1) := by decide +kernel
theorem dX4_makeEmpty_2 : decode cX4_makeEmpty 2 = .ok (.putfield 19, 3) := by decide +kernel
theorem dX4_makeEmpty_5 : decode cX4_makeEmpty 5 = .ok (.iconst 0, 1) := by decide +kernel
theorem dX4_makeEmpty_6 : decode cX4_makeEmpty 6 = .ok (.istore_n 2, 1) := by decide +kernel
theorem dX4_makeEmpty_7 : decode cX4_makeEmpty 7 = .ok (.iload_n 2, 1) := by decide +kernel
theorem dX4_makeEmpty_8 : decode cX4_makeEmpty 8 = .ok (.aload_n 0, 1) := by decide +kernel
theorem dX4_makeEmpty_9 : decode cX4_makeEmpty 9 = .ok (.getfield 9, 3) := by decide +kernel
end
section
theorem dX4_makeEmpty_12 : decode cX4_makeEmpty 12 = .ok (.arraylength, 1) := by decide +kernel
theorem dX4_makeEmpty_13 : decode cX4_makeEmpty 13 = .ok (.if_icmp .ge 16, 3) := by decide +kernel
theorem dX4_makeEmpty_16 : decode cX4_makeEmpty 16 = .ok (.aload_n 0, 1) := by decide +kernel
theorem dX4_makeEmpty_17 : decode cX4_makeEmpty 17 = .ok (.getfield 9, 3) := by decide +kernel
theorem dX4_makeEmpty_20 : decode cX4_makeEmpty 20 = .ok (.iload_n 2, 1) := by decide +kernel
theorem dX4_makeEmpty_21 : decode cX4_makeEmpty 21 = .ok (.iconst (-1), 1) := by decide +kernel
theorem dX4_makeEmpty_22 : decode cX4_makeEmpty 22 = .ok (.iastore, 1) := by decide +kernel
theorem dX4_makeEmpty_23 : decode cX4_makeEmpty 23 = .ok (.iinc 2 1, 3) := by decide +kernel
theorem dX4_makeEmpty_26 : decode cX4_makeEmpty 26 = .ok (.goto (-19), 3) := by decide +kernel
theorem dX4_makeEmpty_29 : decode cX4_makeEmpty 29 = .ok (.return_, 1) := by decide +kernel
theorem dX4_reasonAt_0 : decode cX4_reasonAt 0 = .ok (.iload_n 1, 1) := by decide +kernel
theorem dX4_reasonAt_1 : decode cX4_reasonAt 1 = .ok (.ifCond .lt 21, 3) := by decide +kernel
theorem dX4_reasonAt_4 : decode cX4_reasonAt 4 = .ok (.iload_n 1, 1) := by decide +kernel
theorem dX4_reasonAt_5 : decode cX4_reasonAt 5 = .ok (.aload_n 0, 1) := by decide +kernel
theorem dX4_reasonAt_6 : decode cX4_reasonAt 6 = .ok (.getfield 9, 3) := by decide +kernel
theorem dX4_reasonAt_9 : decode cX4_reasonAt 9 = .ok (.arraylength, 1) := by decide +kernel
theorem dX4_reasonAt_10 : decode cX4_reasonAt 10 = .ok (.if_icmp .ge 12, 3) := by decide +kernel
theorem dX4_reasonAt_13 : decode cX4_reasonAt 13 = .ok (.aload_n 0, 1) := by decide +kernel
theorem dX4_reasonAt_14 : decode cX4_reasonAt 14 = .ok (.getfield 9, 3) := by decide +kernel
theorem dX4_reasonAt_17 : decode cX4_reasonAt 17 = .ok (.iload_n 1, 1) := by decide +kernel
theorem dX4_reasonAt_18 : decode cX4_reasonAt 18 = .ok (.iaload, 1) := by decide +kernel
theorem dX4_reasonAt_19 : decode cX4_reasonAt 19 = .ok (.goto 4, 3) := by decide +kernel
theorem dX4_reasonAt_22 : decode cX4_reasonAt 22 = .ok (.iconst (-1), 1) := by decide +kernel
theorem dX4_reasonAt_23 : decode cX4_reasonAt 23 = .ok (.ireturn, 1) := by decide +kernel
set_option maxRecDepth 20000 in
theorem ggX4_products_X4_reasonAt : GoodIn wsX4_products wsX4_reasonAt := goodIn_r _ [6, 7, 8, 9] (by decide +kernel) (by decide +kernel)
set_option maxRecDepth 20000 in
theorem gX4_products_X4_reasonAt : GoodIn wsX4_products (wsV RX4 23 RX4 yX4_reasonAt wsX4_reasonAt) := goodIn_app (goodIn_of _ (by decide +kernel)) ggX4_products_X4_reasonAt
theorem dX4_products_0 : decode cX4_products 0 = .ok (.iconst 0, 1) := by decide +kernel
theorem dX4_products_1 : decode cX4_products 1 = .ok (.istore_n 1, 1) := by decide +kernel
theorem dX4_products_2 : decode cX4_products 2 = .ok (.iconst 0, 1) := by decide +kernel
theorem dX4_products_3 : decode cX4_products 3 = .ok (.istore_n 2, 1) := by decide +kernel
theorem dX4_products_4 : decode cX4_products 4 = .ok (.iload_n 2, 1) := by decide +kernel
theorem dX4_products_5 : decode cX4_products 5 = .ok (.aload_n 0, 1) := by decide +kernel
theorem dX4_products_6 : decode cX4_products 6 = .ok (.getfield 19, 3) := by decide +kernel
theorem dX4_products_9 : decode cX4_products 9 = .ok (.if_icmp .ge 21, 3) := by decide +kernel
theorem dX4_products_12 : decode cX4_products 12 = .ok (.aload_n 0, 1) := by decide +kernel
theorem dX4_products_13 : decode cX4_products 13 = .ok (.iload_n 2, 1) := by decide +kernel
theorem dX4_products_14 : decode cX4_products 14 = .ok (.invokevirtual 23, 3) := by decide +kernel
theorem dX4_products_17 : decode cX4_products 17 = .ok (.iconst (-1), 1) := by decide +kernel
theorem dX4_products_18 : decode cX4_products 18 = .ok (.if_icmp .eq 6, 3) := by decide +kernel
theorem dX4_products_21 : decode cX4_products 21 = .ok (.iinc 1 1, 3) := by decide +kernel
theorem dX4_products_24 : decode cX4_products 24 = .ok (.iinc 2 1, 3) := by decide +kernel
theorem dX4_products_27 : decode cX4_products 27 = .ok (.goto (-23), 3) := by decide +kernel
theorem dX4_products_30 : decode cX4_products 30 = .ok (.iload_n 1, 1) := by decide +kernel
theorem dX4_products_31 : decode cX4_products 31 = .ok (.ireturn, 1) := by decide +kernel
theorem dX4_moveOn_0 : decode cX4_moveOn 0 = .ok (.iload_n 1, 1) := by decide +kernel
theorem dX4_moveOn_1 : decode cX4_moveOn 1 = .ok (.istore_n 2, 1) := by decide +kernel
theorem dX4_moveOn_2 : decode cX4_moveOn 2 = .ok (.iconst 0, 1) := by decide +kernel
theorem dX4_moveOn_3 : decode cX4_moveOn 3 = .ok (.istore_n 3, 1) := by decide +kernel
theorem dX4_moveOn_4 : decode cX4_moveOn 4 = .ok (.iload_n 3, 1) := by decide +kernel
theorem dX4_moveOn_5 : decode cX4_moveOn 5 = .ok (.aload_n 0, 1) := by decide +kernel
theorem dX4_moveOn_6 : decode cX4_moveOn 6 = .ok (.getfield 19, 3) := by decide +kernel
theorem dX4_moveOn_9 : decode cX4_moveOn 9 = .ok (.if_icmp .ge 36, 3) := by decide +kernel
theorem dX4_moveOn_12 : decode cX4_moveOn 12 = .ok (.iload_n 3, 1) := by decide +kernel
theorem dX4_moveOn_13 : decode cX4_moveOn 13 = .ok (.aload_n 0, 1) := by decide +kernel
theorem dX4_moveOn_14 : decode cX4_moveOn 14 = .ok (.getfield 9, 3) := by decide +kernel
theorem dX4_moveOn_17 : decode cX4_moveOn 17 = .ok (.arraylength, 1) := by decide +kernel
theorem dX4_moveOn_18 : decode cX4_moveOn 18 = .ok (.if_icmp .ge 27, 3) := by decide +kernel
theorem dX4_moveOn_21 : decode cX4_moveOn 21 = .ok (.aload_n 0, 1) := by decide +kernel
theorem dX4_moveOn_22 : decode cX4_moveOn 22 = .ok (.getfield 9, 3) := by decide +kernel
theorem dX4_moveOn_25 : decode cX4_moveOn 25 = .ok (.iload_n 3, 1) := by decide +kernel
theorem dX4_moveOn_26 : decode cX4_moveOn 26 = .ok (.iaload, 1) := by decide +kernel
theorem dX4_moveOn_27 : decode cX4_moveOn 27 = .ok (.istore 4, 2) := by decide +kernel
theorem dX4_moveOn_29 : decode cX4_moveOn 29 = .ok (.aload_n 0, 1) := by decide +kernel
theorem dX4_moveOn_30 : decode cX4_moveOn 30 = .ok (.getfield 9, 3) := by decide +kernel
theorem dX4_moveOn_33 : decode cX4_moveOn 33 = .ok (.iload_n 3, 1) := by decide +kernel
theorem dX4_moveOn_34 : decode cX4_moveOn 34 = .ok (.iload_n 2, 1) := by decide +kernel
theorem dX4_moveOn_35 : decode cX4_moveOn 35 = .ok (.iastore, 1) := by decide +kernel
theorem dX4_moveOn_36 : decode cX4_moveOn 36 = .ok (.iload 4, 2) := by decide +kernel
theorem dX4_moveOn_38 : decode cX4_moveOn 38 = .ok (.istore_n 2, 1) := by decide +kernel
theorem dX4_moveOn_39 : decode cX4_moveOn 39 = .ok (.iinc 3 1, 3) := by decide +kernel
theorem dX4_moveOn_42 : decode cX4_moveOn 42 = .ok (.goto (-38), 3) := by decide +kernel
theorem dX4_moveOn_45 : decode cX4_moveOn 45 = .ok (.iload_n 2, 1) := by decide +kernel
theorem dX4_moveOn_46 : decode cX4_moveOn 46 = .ok (.ireturn, 1) := by decide +kernel
set_option maxRecDepth 20000 in
theorem ggX4_copyFrom_X4_reasonAt : GoodIn wsX4_copyFrom wsX4_reasonAt := goodIn_r _ [7, 2, 8, 9] (by decide +kernel) (by decide +kernel)
set_option maxRecDepth 20000 in
theorem gX4_copyFrom_X4_reasonAt : GoodIn wsX4_copyFrom (wsV RX4 23 RX4 yX4_reasonAt wsX4_reasonAt) := goodIn_app (goodIn_of _ (by decide +kernel)) ggX4_copyFrom_X4_reasonAt
theorem dX4_copyFrom_0 : decode cX4_copyFrom 0 = .ok (.aload_n 0, 1) := by decide +kernel
theorem dX4_copyFrom_1 : decode cX4_copyFrom 1 = .ok (.aload_n 1, 1) := by decide +kernel
theorem dX4_copyFrom_2 : decode cX4_copyFrom 2 = .ok (.getfield 19, 3) := by decide +kernel
theorem dX4_copyFrom_5 : decode cX4_copyFrom 5 = .ok (.putfield 19, 3) := by decide +kernel
theorem dX4_copyFrom_8 : decode cX4_copyFrom 8 = .ok (.iconst 0, 1) := by decide +kernel
theorem dX4_copyFrom_9 : decode cX4_copyFrom 9 = .ok (.istore_n 2, 1) := by decide +kernel
theorem dX4_copyFrom_10 : decode cX4_copyFrom 10 = .ok (.iload_n 2, 1) := by decide +kernel
theorem dX4_copyFrom_11 : decode cX4_copyFrom 11 = .ok (.aload_n 0, 1) := by decide +kernel
theorem dX4_copyFrom_12 : decode cX4_copyFrom 12 = .ok (.getfield 9, 3) := by decide +kernel
theorem dX4_copyFrom_15 : decode cX4_copyFrom 15 = .ok (.arraylength, 1) := by decide +kernel
theorem dX4_copyFrom_16 : decode cX4_copyFrom 16 = .ok (.if_icmp .ge 20, 3) := by decide +kernel
theorem dX4_copyFrom_19 : decode cX4_copyFrom 19 = .ok (.aload_n 0, 1) := by decide +kernel
theorem dX4_copyFrom_20 : decode cX4_copyFrom 20 = .ok (.getfield 9, 3) := by decide +kernel
theorem dX4_copyFrom_23 : decode cX4_copyFrom 23 = .ok (.iload_n 2, 1) := by decide +kernel
theorem dX4_copyFrom_24 : decode cX4_copyFrom 24 = .ok (.aload_n 1, 1) := by decide +kernel
theorem dX4_copyFrom_25 : decode cX4_copyFrom 25 = .ok (.iload_n 2, 1) := by decide +kernel
theorem dX4_copyFrom_26 : decode cX4_copyFrom 26 = .ok (.invokevirtual 23, 3) := by decide +kernel
theorem dX4_copyFrom_29 : decode cX4_copyFrom 29 = .ok (.iastore, 1) := by decide +kernel
theorem dX4_copyFrom_30 : decode cX4_copyFrom 30 = .ok (.iinc 2 1, 3) := by decide +kernel
theorem dX4_copyFrom_33 : decode cX4_copyFrom 33 = .ok (.goto (-23), 3) := by decide +kernel
theorem dX4_copyFrom_36 : decode cX4_copyFrom 36 = .ok (.return_, 1) := by decide +kernel
theorem dX5_init_0 : decode cX5_init 0 = .ok (.aload_n 0, 1) := by decide +kernel
theorem dX5_init_1 : decode cX5_init 1 = .ok (.invokespecial 3, 3) := by decide +kernel
theorem dX5_init_4 : decode cX5_init 4 = .ok (.aload_n 0, 1) := by decide +kernel
theorem dX5_init_5 : decode cX5_init 5 = .ok (.bipush 8, 2) := by decide +kernel
theorem dX5_init_7 : decode cX5_init 7 = .ok (.newarray .int, 2) := by decide +kernel
theorem dX5_init_9 : decode cX5_init 9 = .ok (.dup, 1) := by decide +kernel
theorem dX5_init_10 : decode cX5_init 10 = .ok (.iconst 0, 1) := by decide +kernel
theorem dX5_init_11 : decode cX5_init 11 = .ok (.iconst 3, 1) := by decide +kernel
theorem dX5_init_12 : decode cX5_init 12 = .ok (.iastore, 1) := by decide +kernel
theorem dX5_init_13 : decode cX5_init 13 = .ok (.dup, 1) := by decide +kernel
theorem dX5_init_14 : decode cX5_init 14 = .ok (.iconst 1, 1) := by decide +kernel
theorem dX5_init_15 : decode cX5_init 15 = .ok (.iconst 5, 1) := by decide +kernel
theorem dX5_init_16 : decode cX5_init 16 = .ok (.iastore, 1) := by decide +kernel
theorem dX5_init_17 : decode cX5_init 17 = .ok (.dup, 1) := by decide +kernel
theorem dX5_init_18 : decode cX5_init 18 = .ok (.iconst 2, 1) := by decide +kernel
theorem dX5_init_19 : decode cX5_init 19 = .ok (.sipush 150, 3) := by decide +kernel
theorem dX5_init_22 : decode cX5_init 22 = .ok (.iastore, 1) := by decide +kernel
theorem dX5_init_23 : decode cX5_init 23 = .ok (.dup, 1) := by decide +kernel
theorem dX5_init_24 : decode cX5_init 24 = .ok (.iconst 3, 1) := by decide +kernel
theorem dX5_init_25 : decode cX5_init 25 = .ok (.sipush 400, 3) := by decide +kernel
theorem dX5_init_28 : decode cX5_init 28 = .ok (.iastore, 1) := by decide +kernel
theorem dX5_init_29 : decode cX5_init 29 = .ok (.dup, 1) := by decide +kernel
theorem dX5_init_30 : decode cX5_init 30 = .ok (.iconst 4, 1) := by decide +kernel
theorem dX5_init_31 : decode cX5_init 31 = .ok (.bipush 100, 2) := by decide +kernel
theorem dX5_init_33 : decode cX5_init 33 = .ok (.iastore, 1) := by decide +kernel
theorem dX5_init_34 : decode cX5_init 34 = .ok (.dup, 1) := by decide +kernel
theorem dX5_init_35 : decode cX5_init 35 = .ok (.iconst 5, 1) := by decide +kernel
theorem dX5_init_36 : decode cX5_init 36 = .ok (.bipush 10, 2) := by decide +kernel
theorem dX5_init_38 : decode cX5_init 38 = .ok (.iastore, 1) := by decide +kernel
theorem dX5_init_39 : decode cX5_init 39 = .ok (.dup, 1) := by decide +kernel
theorem dX5_init_40 : decode cX5_init 40 = .ok (.bipush 6, 2) := by decide +kernel
theorem dX5_init_42 : decode cX5_init 42 = .ok (.iconst 2, 1) := by decide +kernel
theorem dX5_init_43 : decode cX5_init 43 = .ok (.iastore, 1) := by decide +kernel
theorem dX5_init_44 : decode cX5_init 44 = .ok (.dup, 1) := by decide +kernel
theorem dX5_init_45 : decode cX5_init 45 = .ok (.bipush 7, 2) := by decide +kernel
theorem dX5_init_47 : decode cX5_init 47 = .ok (.iconst 3, 1) := by decide +kernel
theorem dX5_init_48 : decode cX5_init 48 = .ok (.iastore, 1) := by decide +kernel
theorem dX5_init_49 : decode cX5_init 49 = .ok (.putfield 9, 3) := by decide +kernel
theorem dX5_init_52 : decode cX5_init 52 = .ok (.return_, 1) := by decide +kernel
set_option maxRecDepth 20000 in
theorem ggX5_allows_X8_isWithin : GoodIn wsX5_allows wsX8_isWithin := goodIn_r _ [3] (by decide +kernel) (by decide +kernel)
set_option maxRecDepth 20000 in
theorem gX5_allows_X8_isWithin_n15 : GoodIn wsX5_allows (wsX8_isWithin) := ggX5_allows_X8_isWithin
set_option maxRecDepth 20000 in
theorem ggX5_allows_X5_least : GoodIn wsX5_allows wsX5_least := goodIn_r _ [8, 9] (by decide +kernel) (by decide +kernel)
set_option maxRecDepth 20000 in
theorem gX5_allows_X5_least : GoodIn wsX5_allows (wsV RX5 19 RX5 yX5_least wsX5_least) := goodIn_app (goodIn_of _ (by decide +kernel)) ggX5_allows_X5_least
set_option maxRecDepth 20000 in
theorem ggX5_allows_X5_greatest : GoodIn wsX5_allows wsX5_greatest := goodIn_r _ [13, 14] (by decide +kernel) (by decide +kernel)
set_option maxRecDepth 20000 in
theorem gX5_allows_X5_greatest : GoodIn wsX5_allows (wsV RX5 23 RX5 yX5_greatest wsX5_greatest) := goodIn_app (goodIn_of _ (by decide +kernel)) ggX5_allows_X5_greatest
theorem dX5_allows_0 : decode cX5_allows 0 = .ok (.iload_n 1, 1) := by decide +kernel
theorem dX5_allows_1 : decode cX5_allows 1 = .ok (.iconst 0, 1) := by decide +kernel
theorem dX5_allows_2 : decode cX5_allows 2 = .ok (.bipush 7, 2) := by decide +kernel
theorem dX5_allows_4 : decode cX5_allows 4 = .ok (.invokestatic 15, 3) := by decide +kernel
theorem dX5_allows_7 : decode cX5_allows 7 = .ok (.ifCond .eq 24, 3) := by decide +kernel
theorem dX5_allows_10 : decode cX5_allows 10 = .ok (.iload_n 2, 1) := by decide +kernel
theorem dX5_allows_11 : decode cX5_allows 11 = .ok (.aload_n 0, 1) := by decide +kernel
theorem dX5_allows_12 : decode cX5_allows 12 = .ok (.iload_n 1, 1) := by decide +kernel
theorem dX5_allows_13 : decode cX5_allows 13 = .ok (.invokevirtual 19, 3) := by decide +kernel
theorem dX5_allows_16 : decode cX5_allows 16 = .ok (.aload_n 0, 1) := by decide +kernel
theorem dX5_allows_17 : decode cX5_allows 17 = .ok (.iload_n 1, 1) := by decide +kernel
theorem dX5_allows_18 : decode cX5_allows 18 = .ok (.invokevirtual 23, 3) := by decide +kernel
theorem dX5_allows_21 : decode cX5_allows 21 = .ok (.invokestatic 15, 3) := by decide +kernel
theorem dX5_allows_24 : decode cX5_allows 24 = .ok (.ifCond .eq 7, 3) := by decide +kernel
theorem dX5_allows_27 : decode cX5_allows 27 = .ok (.iconst 1, 1) := by decide +kernel
theorem dX5_allows_28 : decode cX5_allows 28 = .ok (.goto 4, 3) := by decide +kernel
theorem dX5_allows_31 : decode cX5_allows 31 = .ok (.iconst 0, 1) := by decide +kernel
theorem dX5_allows_32 : decode cX5_allows 32 = .ok (.ireturn, 1) := by decide +kernel
theorem dX5_least_0 : decode cX5_least 0 = .ok (.iload_n 1, 1) := by decide +kernel
theorem dX5_least_1 : decode cX5_least 1 = .ok (.ifCond .lt 19, 3) := by decide +kernel
theorem dX5_least_4 : decode cX5_least 4 = .ok (.iload_n 1, 1) := by decide +kernel
theorem dX5_least_5 : decode cX5_least 5 = .ok (.getstatic 26, 3) := by decide +kernel
theorem dX5_least_8 : decode cX5_least 8 = .ok (.arraylength, 1) := by decide +kernel
theorem dX5_least_9 : decode cX5_least 9 = .ok (.if_icmp .ge 11, 3) := by decide +kernel
theorem dX5_least_12 : decode cX5_least 12 = .ok (.getstatic 26, 3) := by decide +kernel
theorem dX5_least_15 : decode cX5_least 15 = .ok (.iload_n 1, 1) := by decide +kernel
theorem dX5_least_16 : decode cX5_least 16 = .ok (.iaload, 1) := by decide +kernel
theorem dX5_least_17 : decode cX5_least 17 = .ok (.goto 4, 3) := by decide +kernel
theorem dX5_least_20 : decode cX5_least 20 = .ok (.iconst 0, 1) := by decide +kernel
theorem dX5_least_21 : decode cX5_least 21 = .ok (.ireturn, 1) := by decide +kernel
theorem dX5_greatest_0 : decode cX5_greatest 0 = .ok (.iload_n 1, 1) := by decide +kernel
theorem dX5_greatest_1 : decode cX5_greatest 1 = .ok (.ifCond .lt 19, 3) := by decide +kernel
theorem dX5_greatest_4 : decode cX5_greatest 4 = .ok (.iload_n 1, 1) := by decide +kernel
theorem dX5_greatest_5 : decode cX5_greatest 5 = .ok (.getstatic 29, 3) := by decide +kernel
theorem dX5_greatest_8 : decode cX5_greatest 8 = .ok (.arraylength, 1) := by decide +kernel
theorem dX5_greatest_9 : decode cX5_greatest 9 = .ok (.if_icmp .ge 11, 3) := by decide +kernel
theorem dX5_greatest_12 : decode cX5_greatest 12 = .ok (.getstatic 29, 3) := by decide +kernel
theorem dX5_greatest_15 : decode cX5_greatest 15 = .ok (.iload_n 1, 1) := by decide +kernel
theorem dX5_greatest_16 : decode cX5_greatest 16 = .ok (.iaload, 1) := by decide +kernel
theorem dX5_greatest_17 : decode cX5_greatest 17 = .ok (.goto 4, 3) := by decide +kernel
theorem dX5_greatest_20 : decode cX5_greatest 20 = .ok (.iconst 0, 1) := by decide +kernel
theorem dX5_greatest_21 : decode cX5_greatest 21 = .ok (.ireturn, 1) := by decide +kernel
theorem dX5_value_0 : decode cX5_value 0 = .ok (.iload_n 1, 1) := by decide +kernel
theorem dX5_value_1 : decode cX5_value 1 = .ok (.ifCond .lt 21, 3) := by decide +kernel
theorem dX5_value_4 : decode cX5_value 4 = .ok (.iload_n 1, 1) := by decide +kernel
theorem dX5_value_5 : decode cX5_value 5 = .ok (.aload_n 0, 1) := by decide +kernel
theorem dX5_value_6 : decode cX5_value 6 = .ok (.getfield 9, 3) := by decide +kernel
theorem dX5_value_9 : decode cX5_value 9 = .ok (.arraylength, 1) := by decide +kernel
theorem dX5_value_10 : decode cX5_value 10 = .ok (.if_icmp .ge 12, 3) := by decide +kernel
theorem dX5_value_13 : decode cX5_value 13 = .ok (.aload_n 0, 1) := by decide +kernel
theorem dX5_value_14 : decode cX5_value 14 = .ok (.getfield 9, 3) := by decide +kernel
theorem dX5_value_17 : decode cX5_value 17 = .ok (.iload_n 1, 1) := by decide +kernel
theorem dX5_value_18 : decode cX5_value 18 = .ok (.iaload, 1) := by decide +kernel
theorem dX5_value_19 : decode cX5_value 19 = .ok (.goto 4, 3) := by decide +kernel
theorem dX5_value_22 : decode cX5_value 22 = .ok (.iconst 0, 1) := by decide +kernel
theorem dX5_value_23 : decode cX5_value 23 = .ok (.ireturn, 1) := by decide +kernel
theorem dX5_put_0 : decode cX5_put 0 = .ok (.iload_n 1, 1) := by decide +kernel
theorem dX5_put_1 : decode cX5_put 1 = .ok (.ifCond .lt 19, 3) := by decide +kernel
theorem dX5_put_4 : decode cX5_put 4 = .ok (.iload_n 1, 1) := by decide +kernel
theorem dX5_put_5 : decode cX5_put 5 = .ok (.aload_n 0, 1) := by decide +kernel
theorem dX5_put_6 : decode cX5_put 6 = .ok (.getfield 9, 3) := by decide +kernel
theorem dX5_put_9 : decode cX5_put 9 = .ok (.arraylength, 1) := by decide +kernel
theorem dX5_put_10 : decode cX5_put 10 = .ok (.if_icmp .ge 10, 3) := by decide +kernel
theorem dX5_put_13 : decode cX5_put 13 = .ok (.aload_n 0, 1) := by decide +kernel
theorem dX5_put_14 : decode cX5_put 14 = .ok (.getfield 9, 3) := by decide +kernel
theorem dX5_put_17 : decode cX5_put 17 = .ok (.iload_n 1, 1) := by decide +kernel
theorem dX5_put_18 : decode cX5_put 18 = .ok (.iload_n 2, 1) := by decide +kernel
theorem dX5_put_19 : decode cX5_put 19 = .ok (.iastore, 1) := by decide +kernel
theorem dX5_put_20 : decode cX5_put 20 = .ok (.return_, 1) := by decide +kernel
set_option maxRecDepth 20000 in
theorem ggX5_copyFrom_X5_value : GoodIn wsX5_copyFrom wsX5_value := goodIn_r _ [6, 1, 7] (by decide +kernel) (by decide +kernel)
set_option maxRecDepth 20000 in
theorem gX5_copyFrom_X5_value : GoodIn wsX5_copyFrom (wsV RX5 32 RX5 yX5_value wsX5_value) := goodIn_app (goodIn_of _ (by decide +kernel)) ggX5_copyFrom_X5_value
theorem dX5_copyFrom_0 : decode cX5_copyFrom 0 = .ok (.iconst 0, 1) := by decide +kernel
theorem dX5_copyFrom_1 : decode cX5_copyFrom 1 = .ok (.istore_n 2, 1) := by decide +kernel
theorem dX5_copyFrom_2 : decode cX5_copyFrom 2 = .ok (.iload_n 2, 1) := by decide +kernel
theorem dX5_copyFrom_3 : decode cX5_copyFrom 3 = .ok (.aload_n 0, 1) := by decide +kernel
theorem dX5_copyFrom_4 : decode cX5_copyFrom 4 = .ok (.getfield 9, 3) := by decide +kernel
theorem dX5_copyFrom_7 : decode cX5_copyFrom 7 = .ok (.arraylength, 1) := by decide +kernel
theorem dX5_copyFrom_8 : decode cX5_copyFrom 8 = .ok (.if_icmp .ge 20, 3) := by decide +kernel
theorem dX5_copyFrom_11 : decode cX5_copyFrom 11 = .ok (.aload_n 0, 1) := by decide +kernel
theorem dX5_copyFrom_12 : decode cX5_copyFrom 12 = .ok (.getfield 9, 3) := by decide +kernel
theorem dX5_copyFrom_15 : decode cX5_copyFrom 15 = .ok (.iload_n 2, 1) := by decide +kernel
theorem dX5_copyFrom_16 : decode cX5_copyFrom 16 = .ok (.aload_n 1, 1) := by decide +kernel
theorem dX5_copyFrom_17 : decode cX5_copyFrom 17 = .ok (.iload_n 2, 1) := by decide +kernel
theorem dX5_copyFrom_18 : decode cX5_copyFrom 18 = .ok (.invokevirtual 32, 3) := by decide +kernel
theorem dX5_copyFrom_21 : decode cX5_copyFrom 21 = .ok (.iastore, 1) := by decide +kernel
theorem dX5_copyFrom_22 : decode cX5_copyFrom 22 = .ok (.iinc 2 1, 3) := by decide +kernel
theorem dX5_copyFrom_25 : decode cX5_copyFrom 25 = .ok (.goto (-23), 3) := by decide +kernel
theorem dX5_copyFrom_28 : decode cX5_copyFrom 28 = .ok (.return_, 1) := by decide +kernel
set_option maxRecDepth 20000 in
theorem ggX6_init_X2_init : GoodIn wsX6_init wsX2_init := goodIn_r _ [10, 11, 2, 3, 12, 13, 14, 15, 16, 17, 18, 19, 20, 21, 22, 23, 24, 25, 26, 27, 28, 29, 30, 31, 32, 33, 34, 35, 36, 37, 38, 39, 40, 41, 42, 43, 44, 45, 46, 47, 48, 49, 50, 51, 52, 53, 54, 55, 74, 75, 76, 77, 56, 57, 58, 59, 60, 61, 62, 63, 64, 65, 66, 67, 68, 69, 70, 71, 78, 79, 80, 81, 82, 83, 84, 85, 86, 87, 88] (by decide +kernel) (by decide +kernel)
set_option maxRecDepth 20000 in
theorem gX6_init_X2_init : GoodIn wsX6_init (wsX2_init) := ggX6_init_X2_init
theorem dX6_init_0 : decode cX6_init 0 = .ok (.aload_n 0, 1) := by decide +kernel
theorem dX6_init_1 : decode cX6_init 1 = .ok (.invokespecial 1, 3) := by decide +kernel
theorem dX6_init_4 : decode cX6_init 4 = .ok (.aload_n 0, 1) := by decide +kernel
theorem dX6_init_5 : decode cX6_init 5 = .ok (.new 7, 3) := by decide +kernel
theorem dX6_init_8 : decode cX6_init 8 = .ok (.dup, 1) := by decide +kernel
theorem dX6_init_9 : decode cX6_init 9 = .ok (.invokespecial 9, 3) := by decide +kernel
theorem dX6_init_12 : decode cX6_init 12 = .ok (.putfield 10, 3) := by decide +kernel
theorem dX6_init_15 : decode cX6_init 15 = .ok (.return_, 1) := by decide +kernel
theorem dX7_init_0 : decode cX7_init 0 = .ok (.aload_n 0, 1) := by decide +kernel
theorem dX7_init_1 : decode cX7_init 1 = .ok (.invokespecial 3, 3) := by decide +kernel
theorem dX7_init_4 : decode cX7_init 4 = .ok (.aload_n 0, 1) := by decide +kernel
theorem dX7_init_5 : decode cX7_init 5 = .ok (.bipush 80, 2) := by decide +kernel
theorem dX7_init_7 : decode cX7_init 7 = .ok (.newarray .byte, 2) := by decide +kernel
theorem dX7_init_9 : decode cX7_init 9 = .ok (.putfield 9, 3) := by decide +kernel
theorem dX7_init_12 : decode cX7_init 12 = .ok (.return_, 1) := by decide +kernel
theorem dX7_append_0 : decode cX7_append 0 = .ok (.aload_n 0, 1) := by decide +kernel
theorem dX7_append_1 : decode cX7_append 1 = .ok (.getfield 15, 3) := by decide +kernel
theorem dX7_append_4 : decode cX7_append 4 = .ok (.ifCond .lt 15, 3) := by decide +kernel
theorem dX7_append_7 : decode cX7_append 7 = .ok (.aload_n 0, 1) := by decide +kernel
theorem dX7_append_8 : decode cX7_append 8 = .ok (.getfield 15, 3) := by decide +kernel
theorem dX7_append_11 : decode cX7_append 11 = .ok (.aload_n 0, 1) := by decide +kernel
theorem dX7_append_12 : decode cX7_append 12 = .ok (.getfield 9, 3) := by decide +kernel
theorem dX7_append_15 : decode cX7_append 15 = .ok (.arraylength, 1) := by decide +kernel
theorem dX7_append_16 : decode cX7_append 16 = .ok (.if_icmp .lt 5, 3) := by decide +kernel
theorem dX7_append_19 : decode cX7_append 19 = .ok (.iconst 0, 1) := by decide +kernel
theorem dX7_append_20 : decode cX7_append 20 = .ok (.ireturn, 1) := by decide +kernel
theorem dX7_append_21 : decode cX7_append 21 = .ok (.aload_n 0, 1) := by decide +kernel
theorem dX7_append_22 : decode cX7_append 22 = .ok (.getfield 9, 3) := by decide +kernel
theorem dX7_append_25 : decode cX7_append 25 = .ok (.aload_n 0, 1) := by decide +kernel
theorem dX7_append_26 : decode cX7_append 26 = .ok (.getfield 15, 3) := by decide +kernel
theorem dX7_append_29 : decode cX7_append 29 = .ok (.iload_n 1, 1) := by decide +kernel
theorem dX7_append_30 : decode cX7_append 30 = .ok (.i2b, 1) := by decide +kernel
theorem dX7_append_31 : decode cX7_append 31 = .ok (.bastore, 1) := by decide +kernel
theorem dX7_append_32 : decode cX7_append 32 = .ok (.aload_n 0, 1) := by decide +kernel
theorem dX7_append_33 : decode cX7_append 33 = .ok (.dup, 1) := by decide +kernel
theorem dX7_append_34 : decode cX7_append 34 = .ok (.getfield 15, 3) := by decide +kernel
theorem dX7_append_37 : decode cX7_append 37 = .ok (.iconst 1, 1) := by decide +kernel
theorem dX7_append_38 : decode cX7_append 38 = .ok (.iadd, 1) := by decide +kernel
theorem dX7_append_39 : decode cX7_append 39 = .ok (.putfield 15, 3) := by decide +kernel
theorem dX7_append_42 : decode cX7_append 42 = .ok (.iconst 1, 1) := by decide +kernel
theorem dX7_append_43 : decode cX7_append 43 = .ok (.ireturn, 1) := by decide +kernel
theorem dX7_byteAt_0 : decode cX7_byteAt 0 = .ok (.iload_n 1, 1) := by decide +kernel
theorem dX7_byteAt_1 : decode cX7_byteAt 1 = .ok (.ifCond .lt 29, 3) := by decide +kernel
theorem dX7_byteAt_4 : decode cX7_byteAt 4 = .ok (.iload_n 1, 1) := by decide +kernel
theorem dX7_byteAt_5 : decode cX7_byteAt 5 = .ok (.aload_n 0, 1) := by decide +kernel
theorem dX7_byteAt_6 : decode cX7_byteAt 6 = .ok (.getfield 15, 3) := by decide +kernel
theorem dX7_byteAt_9 : decode cX7_byteAt 9 = .ok (.if_icmp .ge 21, 3) := by decide +kernel
theorem dX7_byteAt_12 : decode cX7_byteAt 12 = .ok (.iload_n 1, 1) := by decide +kernel
theorem dX7_byteAt_13 : decode cX7_byteAt 13 = .ok (.aload_n 0, 1) := by decide +kernel
theorem dX7_byteAt_14 : decode cX7_byteAt 14 = .ok (.getfield 9, 3) := by decide +kernel
theorem dX7_byteAt_17 : decode cX7_byteAt 17 = .ok (.arraylength, 1) := by decide +kernel
theorem dX7_byteAt_18 : decode cX7_byteAt 18 = .ok (.if_icmp .ge 12, 3) := by decide +kernel
theorem dX7_byteAt_21 : decode cX7_byteAt 21 = .ok (.aload_n 0, 1) := by decide +kernel
theorem dX7_byteAt_22 : decode cX7_byteAt 22 = .ok (.getfield 9, 3) := by decide +kernel
theorem dX7_byteAt_25 : decode cX7_byteAt 25 = .ok (.iload_n 1, 1) := by decide +kernel
theorem dX7_byteAt_26 : decode cX7_byteAt 26 = .ok (.baload, 1) := by decide +kernel
theorem dX7_byteAt_27 : decode cX7_byteAt 27 = .ok (.goto 4, 3) := by decide +kernel
theorem dX7_byteAt_30 : decode cX7_byteAt 30 = .ok (.iconst (-1), 1) := by decide +kernel
theorem dX7_byteAt_31 : decode cX7_byteAt 31 = .ok (.ireturn, 1) := by decide +kernel
set_option maxRecDepth 20000 in
theorem ggX8_init_X7_init : GoodIn wsX8_init wsX7_init := goodIn_r _ [24, 25, 2, 3, 26, 27, 93, 94] (by decide +kernel) (by decide +kernel)
set_option maxRecDepth 20000 in
theorem gX8_init_X7_init : GoodIn wsX8_init (wsX7_init) := ggX8_init_X7_init
set_option maxRecDepth 20000 in
theorem ggX8_init_X3_init : GoodIn wsX8_init wsX3_init := goodIn_r _ [30, 31, 2, 3, 32, 33, 34, 35, 36, 37, 38, 39, 40, 41, 42, 43, 44, 45, 101, 102, 103, 104, 105, 106, 107, 108, 127, 128, 129, 130] (by decide +kernel) (by decide +kernel)
set_option maxRecDepth 20000 in
theorem gX8_init_X3_init : GoodIn wsX8_init (wsX3_init) := ggX8_init_X3_init
set_option maxRecDepth 20000 in
theorem ggX8_init_X2_init : GoodIn wsX8_init wsX2_init := goodIn_r _ [48, 49, 2, 3, 50, 34, 35, 51, 52, 53, 54, 55, 56, 57, 58, 59, 60, 61, 62, 63, 37, 64, 65, 66, 67, 41, 42, 43, 44, 45, 68, 69, 70, 71, 72, 73, 74, 75, 76, 77, 78, 79, 80, 81, 82, 83, 84, 85, 127, 128, 129, 130, 109, 110, 111, 112, 113, 114, 115, 116, 117, 118, 119, 120, 121, 122, 123, 124, 131, 132, 133, 134, 135, 136, 137, 138, 139, 140, 141] (by decide +kernel) (by decide +kernel)
set_option maxRecDepth 20000 in
theorem gX8_init_X2_init : GoodIn wsX8_init (wsX2_init) := ggX8_init_X2_init
set_option maxRecDepth 20000 in
theorem ggX8_init_X6_init : GoodIn wsX8_init wsX6_init := goodIn_r _ [88, 89, 2, 3, 90, 13, 14, 91, 92, 47, 48, 49, 50, 34, 35, 51, 52, 53, 54, 55, 56, 57, 58, 59, 60, 61, 62, 63, 37, 64, 65, 66, 67, 41, 42, 43, 44, 45, 68, 69, 70, 71, 72, 73, 74, 75, 76, 77, 78, 79, 80, 81, 82, 83, 84, 85, 109, 110, 111, 112, 113, 114, 115, 116, 117, 118, 119, 120, 121, 122, 123, 124, 125, 126, 127, 128, 129, 130, 131, 132, 133, 134, 135, 136, 137, 138, 139, 140, 141] (by decide +kernel) (by decide +kernel)
set_option maxRecDepth 20000 in
theorem gX8_init_X6_init : GoodIn wsX8_init (wsX6_init) := ggX8_init_X6_init
theorem dX8_init_0 : decode cX8_init 0 = .ok (.aload_n 0, 1) := by decide +kernel
theorem dX8_init_1 : decode cX8_init 1 = .ok (.invokespecial 1, 3) := by decide +kernel
theorem dX8_init_4 : decode cX8_init 4 = .ok (.aload_n 0, 1) := by decide +kernel
theorem dX8_init_5 : decode cX8_init 5 = .ok (.new 7, 3) := by decide +kernel
theorem dX8_init_8 : decode cX8_init 8 = .ok (.dup, 1) := by decide +kernel
theorem dX8_init_9 : decode cX8_init 9 = .ok (.invokespecial 9, 3) := by decide +kernel
theorem dX8_init_12 : decode cX8_init 12 = .ok (.putfield 10, 3) := by decide +kernel
theorem dX8_init_15 : decode cX8_init 15 = .ok (.aload_n 0, 1) := by decide +kernel
theorem dX8_init_16 : decode cX8_init 16 = .ok (.new 16, 3) := by decide +kernel
theorem dX8_init_19 : decode cX8_init 19 = .ok (.dup, 1) := by decide +kernel
theorem dX8_init_20 : decode cX8_init 20 = .ok (.aload_n 0, 1) := by decide +kernel
theorem dX8_init_21 : decode cX8_init 21 = .ok (.getfield 10, 3) := by decide +kernel
theorem dX8_init_24 : decode cX8_init 24 = .ok (.invokespecial 18, 3) := by decide +kernel
theorem dX8_init_27 : decode cX8_init 27 = .ok (.putfield 21, 3) := by decide +kernel
theorem dX8_init_30 : decode cX8_init 30 = .ok (.aload_n 0, 1) := by decide +kernel
theorem dX8_init_31 : decode cX8_init 31 = .ok (.new 25, 3) := by decide +kernel
theorem dX8_init_34 : decode cX8_init 34 = .ok (.dup, 1) := by decide +kernel
theorem dX8_init_35 : decode cX8_init 35 = .ok (.invokespecial 27, 3) := by decide +kernel
theorem dX8_init_38 : decode cX8_init 38 = .ok (.putfield 28, 3) := by decide +kernel
theorem dX8_init_41 : decode cX8_init 41 = .ok (.aload_n 0, 1) := by decide +kernel
theorem dX8_init_42 : decode cX8_init 42 = .ok (.new 25, 3) := by decide +kernel
theorem dX8_init_45 : decode cX8_init 45 = .ok (.dup, 1) := by decide +kernel
theorem dX8_init_46 : decode cX8_init 46 = .ok (.invokespecial 27, 3) := by decide +kernel
theorem dX8_init_49 : decode cX8_init 49 = .ok (.putfield 32, 3) := by decide +kernel
theorem dX8_init_52 : decode cX8_init 52 = .ok (.aload_n 0, 1) := by decide +kernel
theorem dX8_init_53 : decode cX8_init 53 = .ok (.new 35, 3) := by decide +kernel
theorem dX8_init_56 : decode cX8_init 56 = .ok (.dup, 1) := by decide +kernel
theorem dX8_init_57 : decode cX8_init 57 = .ok (.invokespecial 37, 3) := by decide +kernel
theorem dX8_init_60 : decode cX8_init 60 = .ok (.putfield 38, 3) := by decide +kernel
theorem dX8_init_63 : decode cX8_init 63 = .ok (.aload_n 0, 1) := by decide +kernel
theorem dX8_init_64 : decode cX8_init 64 = .ok (.new 35, 3) := by decide +kernel
theorem dX8_init_67 : decode cX8_init 67 = .ok (.dup, 1) := by decide +kernel
theorem dX8_init_68 : decode cX8_init 68 = .ok (.invokespecial 37, 3) := by decide +kernel
theorem dX8_init_71 : decode cX8_init 71 = .ok (.putfield 42, 3) := by decide +kernel
theorem dX8_init_74 : decode cX8_init 74 = .ok (.return_, 1) := by decide +kernel
set_option maxRecDepth 20000 in
theorem ggX8_type_X8_isWithin : GoodIn wsX8_type wsX8_isWithin := goodIn_r _ [6] (by decide +kernel) (by decide +kernel)
set_option maxRecDepth 20000 in
theorem gX8_type_X8_isWithin : GoodIn wsX8_type (va_wsS RX8 45 yX8_isWithin wsX8_isWithin) := goodIn_app (goodIn_of _ (by decide +kernel)) ggX8_type_X8_isWithin
set_option maxRecDepth 20000 in
theorem ggX8_type_X7_append : GoodIn wsX8_type wsX7_append := goodIn_r _ [11, 12, 13, 20, 21] (by decide +kernel) (by decide +kernel)
set_option maxRecDepth 20000 in
theorem gX8_type_X7_append : GoodIn wsX8_type (wsV RX8 49 RX7 yX7_append wsX7_append) := goodIn_app (goodIn_of _ (by decide +kernel)) ggX8_type_X7_append
theorem dX8_type_0 : decode cX8_type 0 = .ok (.iload_n 1, 1) := by decide +kernel
theorem dX8_type_1 : decode cX8_type 1 = .ok (.iconst 0, 1) := by decide +kernel
theorem dX8_type_2 : decode cX8_type 2 = .ok (.bipush 127, 2) := by decide +kernel
theorem dX8_type_4 : decode cX8_type 4 = .ok (.invokestatic 45, 3) := by decide +kernel
theorem dX8_type_7 : decode cX8_type 7 = .ok (.ifCond .ne 6, 3) := by decide +kernel
theorem dX8_type_10 : decode cX8_type 10 = .ok (.bipush (-2), 2) := by decide +kernel
theorem dX8_type_12 : decode cX8_type 12 = .ok (.ireturn, 1) := by decide +kernel
theorem dX8_type_13 : decode cX8_type 13 = .ok (.aload_n 0, 1) := by decide +kernel
theorem dX8_type_14 : decode cX8_type 14 = .ok (.getfield 10, 3) := by decide +kernel
theorem dX8_type_17 : decode cX8_type 17 = .ok (.iload_n 1, 1) := by decide +kernel
theorem dX8_type_18 : decode cX8_type 18 = .ok (.invokevirtual 49, 3) := by decide +kernel
theorem dX8_type_21 : decode cX8_type 21 = .ok (.ifCond .eq 13, 3) := by decide +kernel
theorem dX8_type_24 : decode cX8_type 24 = .ok (.aload_n 0, 1) := by decide +kernel
theorem dX8_type_25 : decode cX8_type 25 = .ok (.getfield 10, 3) := by decide +kernel
theorem dX8_type_28 : decode cX8_type 28 = .ok (.getfield 53, 3) := by decide +kernel
theorem dX8_type_31 : decode cX8_type 31 = .ok (.goto 5, 3) := by decide +kernel
theorem dX8_type_34 : decode cX8_type 34 = .ok (.bipush (-4), 2) := by decide +kernel
theorem dX8_type_36 : decode cX8_type 36 = .ok (.ireturn, 1) := by decide +kernel
theorem dX8_clear_0 : decode cX8_clear 0 = .ok (.aload_n 0, 1) := by decide +kernel
theorem dX8_clear_1 : decode cX8_clear 1 = .ok (.getfield 10, 3) := by decide +kernel
theorem dX8_clear_4 : decode cX8_clear 4 = .ok (.getfield 53, 3) := by decide +kernel
theorem dX8_clear_7 : decode cX8_clear 7 = .ok (.istore_n 1, 1) := by decide +kernel
theorem dX8_clear_8 : decode cX8_clear 8 = .ok (.aload_n 0, 1) := by decide +kernel
theorem dX8_clear_9 : decode cX8_clear 9 = .ok (.getfield 10, 3) := by decide +kernel
theorem dX8_clear_12 : decode cX8_clear 12 = .ok (.iconst 0, 1) := by decide +kernel
theorem dX8_clear_13 : decode cX8_clear 13 = .ok (.putfield 53, 3) := by decide +kernel
theorem dX8_clear_16 : decode cX8_clear 16 = .ok (.iload_n 1, 1) := by decide +kernel
theorem dX8_clear_17 : decode cX8_clear 17 = .ok (.ireturn, 1) := by decide +kernel
set_option maxRecDepth 20000 in
theorem ggX8_load_X3_read : GoodIn wsX8_load wsX3_read := goodIn_r _ [11, 12, 13, 14, 15, 16, 17, 18, 19, 20, 21, 22, 23, 24, 25, 26, 27, 28, 10, 29, 30, 31, 32, 33, 34, 35, 36, 37, 38, 39, 40, 41, 42, 43, 44, 45, 46, 47, 48, 49, 50, 51, 52, 53, 54, 55, 56, 57, 58, 59, 60, 61, 62, 63, 64, 65, 66, 67, 68, 69, 70, 71, 72, 73, 74, 75, 76, 77, 78, 79, 80, 81, 82, 83, 84, 85, 86, 87, 88, 89, 90, 91, 92, 93, 94, 115, 116, 117, 118, 119, 120, 121, 122, 139, 140, 141, 142, 143, 144] (by decide +kernel) (by decide +kernel)
set_option maxRecDepth 20000 in
theorem gX8_load_X3_read : GoodIn wsX8_load (wsV RX8 57 RX3 yX3_read wsX3_read) := goodIn_app (goodIn_of _ (by decide +kernel)) ggX8_load_X3_read
set_option maxRecDepth 20000 in
theorem ggX8_load_X1_size : GoodIn wsX8_load wsX1_size := goodIn_r _ [50, 25, 24, 141, 142, 143, 144] (by decide +kernel) (by decide +kernel)
set_option maxRecDepth 20000 in
theorem gX8_load_X1_size : GoodIn wsX8_load (wsV RX8 71 RX1 yX1_size wsX1_size) := goodIn_app (goodIn_of _ (by decide +kernel)) ggX8_load_X1_size
set_option maxRecDepth 20000 in
theorem ggX8_load_X1_appendAll : GoodIn wsX8_load wsX1_appendAll := goodIn_r _ [99, 100, 101, 102, 22, 103, 24, 104, 48, 49, 50, 25, 105, 20, 21, 23, 106, 52, 53, 54, 55, 107, 57, 58, 59, 60, 108, 62, 63, 64, 141, 142, 143, 144] (by decide +kernel) (by decide +kernel)
set_option maxRecDepth 20000 in
theorem gX8_load_X1_appendAll : GoodIn wsX8_load (wsV RX8 80 RX1 yX1_appendAll wsX1_appendAll) := goodIn_app (goodIn_of _ (by decide +kernel)) ggX8_load_X1_appendAll
theorem dX8_load_0 : decode cX8_load 0 = .ok (.aload_n 0, 1) := by decide +kernel
theorem dX8_load_1 : decode cX8_load 1 = .ok (.getfield 21, 3) := by decide +kernel
theorem dX8_load_4 : decode cX8_load 4 = .ok (.invokevirtual 57, 3) := by decide +kernel
theorem dX8_load_7 : decode cX8_load 7 = .ok (.aload_n 0, 1) := by decide +kernel
theorem dX8_load_8 : decode cX8_load 8 = .ok (.getfield 21, 3) := by decide +kernel
theorem dX8_load_11 : decode cX8_load 11 = .ok (.getfield 60, 3) := by decide +kernel
theorem dX8_load_14 : decode cX8_load 14 = .ok (.iconst (-1), 1) := by decide +kernel
theorem dX8_load_15 : decode cX8_load 15 = .ok (.if_icmp .eq 15, 3) := by decide +kernel
theorem dX8_load_18 : decode cX8_load 18 = .ok (.sipush (-2000), 3) := by decide +kernel
theorem dX8_load_21 : decode cX8_load 21 = .ok (.aload_n 0, 1) := by decide +kernel
theorem dX8_load_22 : decode cX8_load 22 = .ok (.getfield 21, 3) := by decide +kernel
theorem dX8_load_25 : decode cX8_load 25 = .ok (.getfield 60, 3) := by decide +kernel
theorem dX8_load_28 : decode cX8_load 28 = .ok (.isub, 1) := by decide +kernel
theorem dX8_load_29 : decode cX8_load 29 = .ok (.ireturn, 1) := by decide +kernel
theorem dX8_load_30 : decode cX8_load 30 = .ok (.aload_n 0, 1) := by decide +kernel
theorem dX8_load_31 : decode cX8_load 31 = .ok (.getfield 21, 3) := by decide +kernel
theorem dX8_load_34 : decode cX8_load 34 = .ok (.getfield 63, 3) := by decide +kernel
theorem dX8_load_37 : decode cX8_load 37 = .ok (.ifCond .ne 29, 3) := by decide +kernel
theorem dX8_load_40 : decode cX8_load 40 = .ok (.aload_n 0, 1) := by decide +kernel
theorem dX8_load_41 : decode cX8_load 41 = .ok (.getfield 28, 3) := by decide +kernel
theorem dX8_load_44 : decode cX8_load 44 = .ok (.getfield 67, 3) := by decide +kernel
theorem dX8_load_47 : decode cX8_load 47 = .ok (.invokevirtual 71, 3) := by decide +kernel
theorem dX8_load_50 : decode cX8_load 50 = .ok (.aload_n 0, 1) := by decide +kernel
theorem dX8_load_51 : decode cX8_load 51 = .ok (.getfield 21, 3) := by decide +kernel
theorem dX8_load_54 : decode cX8_load 54 = .ok (.getfield 77, 3) := by decide +kernel
theorem dX8_load_57 : decode cX8_load 57 = .ok (.invokevirtual 71, 3) := by decide +kernel
theorem dX8_load_60 : decode cX8_load 60 = .ok (.iadd, 1) := by decide +kernel
theorem dX8_load_61 : decode cX8_load 61 = .ok (.bipush 80, 2) := by decide +kernel
theorem dX8_load_63 : decode cX8_load 63 = .ok (.if_icmp .le 6, 3) := by decide +kernel
theorem dX8_load_66 : decode cX8_load 66 = .ok (.bipush (-4), 2) := by decide +kernel
theorem dX8_load_68 : decode cX8_load 68 = .ok (.ireturn, 1) := by decide +kernel
theorem dX8_load_69 : decode cX8_load 69 = .ok (.aload_n 0, 1) := by decide +kernel
theorem dX8_load_70 : decode cX8_load 70 = .ok (.getfield 28, 3) := by decide +kernel
theorem dX8_load_73 : decode cX8_load 73 = .ok (.getfield 67, 3) := by decide +kernel
theorem dX8_load_76 : decode cX8_load 76 = .ok (.aload_n 0, 1) := by decide +kernel
theorem dX8_load_77 : decode cX8_load 77 = .ok (.getfield 21, 3) := by decide +kernel
theorem dX8_load_80 : decode cX8_load 80 = .ok (.getfield 77, 3) := by decide +kernel
theorem dX8_load_83 : decode cX8_load 83 = .ok (.invokevirtual 80, 3) := by decide +kernel
theorem dX8_load_86 : decode cX8_load 86 = .ok (.aload_n 0, 1) := by decide +kernel
theorem dX8_load_87 : decode cX8_load 87 = .ok (.getfield 28, 3) := by decide +kernel
theorem dX8_load_90 : decode cX8_load 90 = .ok (.getfield 67, 3) := by decide +kernel
theorem dX8_load_93 : decode cX8_load 93 = .ok (.invokevirtual 71, 3) := by decide +kernel
theorem dX8_load_96 : decode cX8_load 96 = .ok (.ireturn, 1) := by decide +kernel
set_option maxRecDepth 20000 in
theorem ggX8_unload_X1_size : GoodIn wsX8_unload wsX1_size := goodIn_r _ [7, 8, 9, 36, 37, 38, 39] (by decide +kernel) (by decide +kernel)
set_option maxRecDepth 20000 in
theorem gX8_unload_X1_size : GoodIn wsX8_unload (wsV RX8 71 RX1 yX1_size wsX1_size) := goodIn_app (goodIn_of _ (by decide +kernel)) ggX8_unload_X1_size
set_option maxRecDepth 20000 in
theorem ggX8_unload_X1_removeAll : GoodIn wsX8_unload wsX1_removeAll := goodIn_r _ [13, 9, 8, 36, 37, 38, 39] (by decide +kernel) (by decide +kernel)
set_option maxRecDepth 20000 in
theorem gX8_unload_X1_removeAll : GoodIn wsX8_unload (wsV RX8 84 RX1 yX1_removeAll wsX1_removeAll) := goodIn_app (goodIn_of _ (by decide +kernel)) ggX8_unload_X1_removeAll
theorem dX8_unload_0 : decode cX8_unload 0 = .ok (.aload_n 0, 1) := by decide +kernel
theorem dX8_unload_1 : decode cX8_unload 1 = .ok (.getfield 28, 3) := by decide +kernel
theorem dX8_unload_4 : decode cX8_unload 4 = .ok (.getfield 67, 3) := by decide +kernel
theorem dX8_unload_7 : decode cX8_unload 7 = .ok (.invokevirtual 71, 3) := by decide +kernel
theorem dX8_unload_10 : decode cX8_unload 10 = .ok (.istore_n 1, 1) := by decide +kernel
theorem dX8_unload_11 : decode cX8_unload 11 = .ok (.aload_n 0, 1) := by decide +kernel
theorem dX8_unload_12 : decode cX8_unload 12 = .ok (.getfield 28, 3) := by decide +kernel
theorem dX8_unload_15 : decode cX8_unload 15 = .ok (.getfield 67, 3) := by decide +kernel
theorem dX8_unload_18 : decode cX8_unload 18 = .ok (.invokevirtual 84, 3) := by decide +kernel
theorem dX8_unload_21 : decode cX8_unload 21 = .ok (.iload_n 1, 1) := by decide +kernel
theorem dX8_unload_22 : decode cX8_unload 22 = .ok (.ireturn, 1) := by decide +kernel
set_option maxRecDepth 20000 in
theorem ggX8_item_X8_isWithin : GoodIn wsX8_item wsX8_isWithin := goodIn_r _ [6] (by decide +kernel) (by decide +kernel)
set_option maxRecDepth 20000 in
theorem gX8_item_X8_isWithin : GoodIn wsX8_item (va_wsS RX8 45 yX8_isWithin wsX8_isWithin) := goodIn_app (goodIn_of _ (by decide +kernel)) ggX8_item_X8_isWithin
set_option maxRecDepth 20000 in
theorem ggX8_item_X1_size : GoodIn wsX8_item wsX1_size := goodIn_r _ [11, 12, 13, 51, 52, 53, 54] (by decide +kernel) (by decide +kernel)
set_option maxRecDepth 20000 in
theorem gX8_item_X1_size : GoodIn wsX8_item (wsV RX8 71 RX1 yX1_size wsX1_size) := goodIn_app (goodIn_of _ (by decide +kernel)) ggX8_item_X1_size
set_option maxRecDepth 20000 in
theorem ggX8_item_X1_kindOf : GoodIn wsX8_item wsX1_kindOf := goodIn_r _ [17, 13, 18, 51, 52, 53, 54] (by decide +kernel) (by decide +kernel)
set_option maxRecDepth 20000 in
theorem gX8_item_X1_kindOf : GoodIn wsX8_item (wsV RX8 87 RX1 yX1_kindOf wsX1_kindOf) := goodIn_app (goodIn_of _ (by decide +kernel)) ggX8_item_X1_kindOf
set_option maxRecDepth 20000 in
theorem ggX8_item_X1_lengthOf : GoodIn wsX8_item wsX1_lengthOf := goodIn_r _ [22, 13, 23, 51, 52, 53, 54] (by decide +kernel) (by decide +kernel)
set_option maxRecDepth 20000 in
theorem gX8_item_X1_lengthOf : GoodIn wsX8_item (wsV RX8 91 RX1 yX1_lengthOf wsX1_lengthOf) := goodIn_app (goodIn_of _ (by decide +kernel)) ggX8_item_X1_lengthOf
set_option maxRecDepth 20000 in
theorem ggX8_item_X1_lengthAhead : GoodIn wsX8_item wsX1_lengthAhead := goodIn_r _ [27, 28, 20, 21, 10, 22, 13, 23, 51, 52, 53, 54] (by decide +kernel) (by decide +kernel)
set_option maxRecDepth 20000 in
theorem gX8_item_X1_lengthAhead : GoodIn wsX8_item (wsV RX8 94 RX1 yX1_lengthAhead wsX1_lengthAhead) := goodIn_app (goodIn_of _ (by decide +kernel)) ggX8_item_X1_lengthAhead
theorem dX8_item_0 : decode cX8_item 0 = .ok (.iload_n 1, 1) := by decide +kernel
theorem dX8_item_1 : decode cX8_item 1 = .ok (.ifCond .lt 12, 3) := by decide +kernel
theorem dX8_item_4 : decode cX8_item 4 = .ok (.iload_n 2, 1) := by decide +kernel
theorem dX8_item_5 : decode cX8_item 5 = .ok (.iconst 0, 1) := by decide +kernel
theorem dX8_item_6 : decode cX8_item 6 = .ok (.iconst 2, 1) := by decide +kernel
theorem dX8_item_7 : decode cX8_item 7 = .ok (.invokestatic 45, 3) := by decide +kernel
theorem dX8_item_10 : decode cX8_item 10 = .ok (.ifCond .ne 6, 3) := by decide +kernel
theorem dX8_item_13 : decode cX8_item 13 = .ok (.bipush (-2), 2) := by decide +kernel
theorem dX8_item_15 : decode cX8_item 15 = .ok (.ireturn, 1) := by decide +kernel
theorem dX8_item_16 : decode cX8_item 16 = .ok (.iload_n 1, 1) := by decide +kernel
theorem dX8_item_17 : decode cX8_item 17 = .ok (.aload_n 0, 1) := by decide +kernel
theorem dX8_item_18 : decode cX8_item 18 = .ok (.getfield 28, 3) := by decide +kernel
theorem dX8_item_21 : decode cX8_item 21 = .ok (.getfield 67, 3) := by decide +kernel
theorem dX8_item_24 : decode cX8_item 24 = .ok (.invokevirtual 71, 3) := by decide +kernel
theorem dX8_item_27 : decode cX8_item 27 = .ok (.if_icmp .lt 5, 3) := by decide +kernel
theorem dX8_item_30 : decode cX8_item 30 = .ok (.iconst (-1), 1) := by decide +kernel
theorem dX8_item_31 : decode cX8_item 31 = .ok (.ireturn, 1) := by decide +kernel
theorem dX8_item_32 : decode cX8_item 32 = .ok (.iload_n 2, 1) := by decide +kernel
theorem dX8_item_33 : decode cX8_item 33 = .ok (.lookupswitch 51 #[(0, 27), (1, 39)], 27) := by decide +kernel
theorem dX8_item_60 : decode cX8_item 60 = .ok (.aload_n 0, 1) := by decide +kernel
theorem dX8_item_61 : decode cX8_item 61 = .ok (.getfield 28, 3) := by decide +kernel
theorem dX8_item_64 : decode cX8_item 64 = .ok (.getfield 67, 3) := by decide +kernel
theorem dX8_item_67 : decode cX8_item 67 = .ok (.iload_n 1, 1) := by decide +kernel
theorem dX8_item_68 : decode cX8_item 68 = .ok (.invokevirtual 87, 3) := by decide +kernel
theorem dX8_item_71 : decode cX8_item 71 = .ok (.ireturn, 1) := by decide +kernel
theorem dX8_item_72 : decode cX8_item 72 = .ok (.aload_n 0, 1) := by decide +kernel
theorem dX8_item_73 : decode cX8_item 73 = .ok (.getfield 28, 3) := by decide +kernel
theorem dX8_item_76 : decode cX8_item 76 = .ok (.getfield 67, 3) := by decide +kernel
theorem dX8_item_79 : decode cX8_item 79 = .ok (.iload_n 1, 1) := by decide +kernel
theorem dX8_item_80 : decode cX8_item 80 = .ok (.invokevirtual 91, 3) := by decide +kernel
theorem dX8_item_83 : decode cX8_item 83 = .ok (.ireturn, 1) := by decide +kernel
theorem dX8_item_84 : decode cX8_item 84 = .ok (.aload_n 0, 1) := by decide +kernel
theorem dX8_item_85 : decode cX8_item 85 = .ok (.getfield 28, 3) := by decide +kernel
theorem dX8_item_88 : decode cX8_item 88 = .ok (.getfield 67, 3) := by decide +kernel
theorem dX8_item_91 : decode cX8_item 91 = .ok (.iload_n 1, 1) := by decide +kernel
theorem dX8_item_92 : decode cX8_item 92 = .ok (.invokevirtual 94, 3) := by decide +kernel
theorem dX8_item_95 : decode cX8_item 95 = .ok (.ireturn, 1) := by decide +kernel
set_option maxRecDepth 20000 in
theorem ggX8_set_X5_allows : GoodIn wsX8_set wsX5_allows := goodIn_r _ [7, 8, 9, 10, 11, 12, 13, 6, 14, 15, 16, 17, 18, 19, 20] (by decide +kernel) (by decide +kernel)
set_option maxRecDepth 20000 in
theorem gX8_set_X5_allows : GoodIn wsX8_set (wsV RX8 101 RX5 yX5_allows wsX5_allows) := goodIn_app (goodIn_of _ (by decide +kernel)) ggX8_set_X5_allows
set_option maxRecDepth 20000 in
theorem ggX8_set_X5_value : GoodIn wsX8_set wsX5_value := goodIn_r _ [24, 25, 52] (by decide +kernel) (by decide +kernel)
set_option maxRecDepth 20000 in
theorem gX8_set_X5_value : GoodIn wsX8_set (wsV RX8 107 RX5 yX5_value wsX5_value) := goodIn_app (goodIn_of _ (by decide +kernel)) ggX8_set_X5_value
set_option maxRecDepth 20000 in
theorem ggX8_set_X5_put : GoodIn wsX8_set wsX5_put := goodIn_r _ [29, 25, 52] (by decide +kernel) (by decide +kernel)
set_option maxRecDepth 20000 in
theorem gX8_set_X5_put : GoodIn wsX8_set (wsV RX8 110 RX5 yX5_put wsX5_put) := goodIn_app (goodIn_of _ (by decide +kernel)) ggX8_set_X5_put
theorem dX8_set_0 : decode cX8_set 0 = .ok (.aload_n 0, 1) := by decide +kernel
theorem dX8_set_1 : decode cX8_set 1 = .ok (.getfield 28, 3) := by decide +kernel
theorem dX8_set_4 : decode cX8_set 4 = .ok (.getfield 97, 3) := by decide +kernel
theorem dX8_set_7 : decode cX8_set 7 = .ok (.iload_n 1, 1) := by decide +kernel
theorem dX8_set_8 : decode cX8_set 8 = .ok (.iload_n 2, 1) := by decide +kernel
theorem dX8_set_9 : decode cX8_set 9 = .ok (.invokevirtual 101, 3) := by decide +kernel
theorem dX8_set_12 : decode cX8_set 12 = .ok (.ifCond .ne 6, 3) := by decide +kernel
theorem dX8_set_15 : decode cX8_set 15 = .ok (.bipush (-2), 2) := by decide +kernel
theorem dX8_set_17 : decode cX8_set 17 = .ok (.ireturn, 1) := by decide +kernel
theorem dX8_set_18 : decode cX8_set 18 = .ok (.aload_n 0, 1) := by decide +kernel
theorem dX8_set_19 : decode cX8_set 19 = .ok (.getfield 28, 3) := by decide +kernel
theorem dX8_set_22 : decode cX8_set 22 = .ok (.getfield 97, 3) := by decide +kernel
theorem dX8_set_25 : decode cX8_set 25 = .ok (.iload_n 1, 1) := by decide +kernel
theorem dX8_set_26 : decode cX8_set 26 = .ok (.invokevirtual 107, 3) := by decide +kernel
theorem dX8_set_29 : decode cX8_set 29 = .ok (.istore_n 3, 1) := by decide +kernel
theorem dX8_set_30 : decode cX8_set 30 = .ok (.aload_n 0, 1) := by decide +kernel
theorem dX8_set_31 : decode cX8_set 31 = .ok (.getfield 28, 3) := by decide +kernel
theorem dX8_set_34 : decode cX8_set 34 = .ok (.getfield 97, 3) := by decide +kernel
theorem dX8_set_37 : decode cX8_set 37 = .ok (.iload_n 1, 1) := by decide +kernel
theorem dX8_set_38 : decode cX8_set 38 = .ok (.iload_n 2, 1) := by decide +kernel
theorem dX8_set_39 : decode cX8_set 39 = .ok (.invokevirtual 110, 3) := by decide +kernel
theorem dX8_set_42 : decode cX8_set 42 = .ok (.iload_n 3, 1) := by decide +kernel
theorem dX8_set_43 : decode cX8_set 43 = .ok (.ireturn, 1) := by decide +kernel
set_option maxRecDepth 20000 in
theorem ggX8_setPitch_X8_isWithin : GoodIn wsX8_setPitch wsX8_isWithin := goodIn_r _ [7] (by decide +kernel) (by decide +kernel)
set_option maxRecDepth 20000 in
theorem gX8_setPitch_X8_isWithin : GoodIn wsX8_setPitch (va_wsS RX8 45 yX8_isWithin wsX8_isWithin) := goodIn_app (goodIn_of _ (by decide +kernel)) ggX8_setPitch_X8_isWithin
set_option maxRecDepth 20000 in
theorem ggX8_setPitch_X8_bitsOf : GoodIn wsX8_setPitch wsX8_bitsOf := goodIn_r _ [10, 11] (by decide +kernel) (by decide +kernel)
set_option maxRecDepth 20000 in
theorem gX8_setPitch_X8_bitsOf : GoodIn wsX8_setPitch (va_wsS RX8 118 yX8_bitsOf wsX8_bitsOf) := goodIn_app (goodIn_of _ (by decide +kernel)) ggX8_setPitch_X8_bitsOf
theorem dX8_setPitch_0 : decode cX8_setPitch 0 = .ok (.iload_n 1, 1) := by decide +kernel
theorem dX8_setPitch_1 : decode cX8_setPitch 1 = .ok (.bipush 10, 2) := by decide +kernel
theorem dX8_setPitch_3 : decode cX8_setPitch 3 = .ok (.sipush 2000, 3) := by decide +kernel
theorem dX8_setPitch_6 : decode cX8_setPitch 6 = .ok (.invokestatic 45, 3) := by decide +kernel
theorem dX8_setPitch_9 : decode cX8_setPitch 9 = .ok (.ifCond .ne 6, 3) := by decide +kernel
theorem dX8_setPitch_12 : decode cX8_setPitch 12 = .ok (.bipush (-2), 2) := by decide +kernel
theorem dX8_setPitch_14 : decode cX8_setPitch 14 = .ok (.ireturn, 1) := by decide +kernel
theorem dX8_setPitch_15 : decode cX8_setPitch 15 = .ok (.aload_n 0, 1) := by decide +kernel
theorem dX8_setPitch_16 : decode cX8_setPitch 16 = .ok (.getfield 28, 3) := by decide +kernel
theorem dX8_setPitch_19 : decode cX8_setPitch 19 = .ok (.getfield 114, 3) := by decide +kernel
theorem dX8_setPitch_22 : decode cX8_setPitch 22 = .ok (.invokestatic 118, 3) := by decide +kernel
theorem dX8_setPitch_25 : decode cX8_setPitch 25 = .ok (.istore_n 2, 1) := by decide +kernel
theorem dX8_setPitch_26 : decode cX8_setPitch 26 = .ok (.aload_n 0, 1) := by decide +kernel
theorem dX8_setPitch_27 : decode cX8_setPitch 27 = .ok (.getfield 28, 3) := by decide +kernel
theorem dX8_setPitch_30 : decode cX8_setPitch 30 = .ok (.iload_n 1, 1) := by decide +kernel
theorem dX8_setPitch_31 : decode cX8_setPitch 31 = .ok (.i2f, 1) := by decide +kernel
theorem dX8_setPitch_32 : decode cX8_setPitch 32 = .ok (.ldc 122, 2) := by decide +kernel
theorem dX8_setPitch_34 : decode cX8_setPitch 34 = .ok (.fdiv, 1) := by decide +kernel
theorem dX8_setPitch_35 : decode cX8_setPitch 35 = .ok (.putfield 114, 3) := by decide +kernel
theorem dX8_setPitch_38 : decode cX8_setPitch 38 = .ok (.iload_n 2, 1) := by decide +kernel
theorem dX8_setPitch_39 : decode cX8_setPitch 39 = .ok (.ireturn, 1) := by decide +kernel
set_option maxRecDepth 20000 in
theorem ggX8_setRing_X8_isWithin : GoodIn wsX8_setRing wsX8_isWithin := goodIn_r _ [5] (by decide +kernel) (by decide +kernel)
set_option maxRecDepth 20000 in
theorem gX8_setRing_X8_isWithin : GoodIn wsX8_setRing (va_wsS RX8 45 yX8_isWithin wsX8_isWithin) := goodIn_app (goodIn_of _ (by decide +kernel)) ggX8_setRing_X8_isWithin
set_option maxRecDepth 20000 in
theorem ggX8_setRing_X2_rebuildRing : GoodIn wsX8_setRing wsX2_rebuildRing := goodIn_r _ [10, 11, 12, 13, 14, 15, 16, 17, 18, 19, 20, 21, 22, 23, 24, 25, 26, 27, 9, 28, 29, 30, 31, 32, 33, 34, 41, 42, 43, 44, 45, 46, 47, 48, 49, 50, 51, 52, 53, 54, 55, 56, 57, 58] (by decide +kernel) (by decide +kernel)
set_option maxRecDepth 20000 in
theorem gX8_setRing_X2_rebuildRing : GoodIn wsX8_setRing (wsV RX8 123 RX2 yX2_rebuildRing wsX2_rebuildRing) := goodIn_app (goodIn_of _ (by decide +kernel)) ggX8_setRing_X2_rebuildRing
theorem dX8_setRing_0 : decode cX8_setRing 0 = .ok (.iload_n 1, 1) := by decide +kernel
theorem dX8_setRing_1 : decode cX8_setRing 1 = .ok (.iconst 1, 1) := by decide +kernel
theorem dX8_setRing_2 : decode cX8_setRing 2 = .ok (.bipush 10, 2) := by decide +kernel
theorem dX8_setRing_4 : decode cX8_setRing 4 = .ok (.invokestatic 45, 3) := by decide +kernel
theorem dX8_setRing_7 : decode cX8_setRing 7 = .ok (.ifCond .ne 6, 3) := by decide +kernel
theorem dX8_setRing_10 : decode cX8_setRing 10 = .ok (.bipush (-2), 2) := by decide +kernel
theorem dX8_setRing_12 : decode cX8_setRing 12 = .ok (.ireturn, 1) := by decide +kernel
theorem dX8_setRing_13 : decode cX8_setRing 13 = .ok (.aload_n 0, 1) := by decide +kernel
theorem dX8_setRing_14 : decode cX8_setRing 14 = .ok (.getfield 28, 3) := by decide +kernel
theorem dX8_setRing_17 : decode cX8_setRing 17 = .ok (.iload_n 1, 1) := by decide +kernel
theorem dX8_setRing_18 : decode cX8_setRing 18 = .ok (.invokevirtual 123, 3) := by decide +kernel
theorem dX8_setRing_21 : decode cX8_setRing 21 = .ok (.ireturn, 1) := by decide +kernel
set_option maxRecDepth 20000 in
theorem ggX8_run_X8_canCome : GoodIn wsX8_run wsX8_canCome := goodIn_r _ [6, 7, 8, 5, 9] (by decide +kernel) (by decide +kernel)
set_option maxRecDepth 20000 in
theorem gX8_run_X8_canCome : GoodIn wsX8_run (va_wsS RX8 126 yX8_canCome wsX8_canCome) := goodIn_app (goodIn_of _ (by decide +kernel)) ggX8_run_X8_canCome
set_option maxRecDepth 20000 in
theorem ggX8_run_X2_serve : GoodIn wsX8_run wsX2_serve := goodIn_r _ [14, 15, 16, 17, 18, 19, 20, 21, 22, 23, 24, 25, 26, 27, 28, 13, 29, 30, 31, 32, 33, 34, 35, 36, 37, 38, 39, 40, 41, 42, 43, 44, 45, 46, 47, 48, 49, 50, 51, 52, 53, 54, 55, 56, 57, 58, 59, 60, 61, 62, 63, 64, 65, 66, 67, 68, 69, 70, 71, 72, 73, 74, 75, 76, 77, 78, 79, 80, 81, 82, 83, 84, 85, 86, 87, 88, 89, 90, 91, 92, 93, 94, 95, 96, 97, 98, 99, 100, 101, 102, 103, 104, 105, 106, 107, 108, 109, 110, 111, 112, 113, 114, 115, 116, 117, 118, 119, 120, 121, 122, 123, 124, 125, 126, 127, 128, 129, 130, 131, 132, 139, 140, 141, 142, 143, 144, 145, 146, 147, 148, 149, 150, 151, 152, 153, 154, 155, 156, 157, 158, 159, 160, 161, 162, 163, 164, 165, 166, 167, 168, 169] (by decide +kernel) (by decide +kernel)
set_option maxRecDepth 20000 in
theorem gX8_run_X2_serve : GoodIn wsX8_run (wsV RX8 132 RX2 yX2_serve wsX2_serve) := goodIn_app (goodIn_of _ (by decide +kernel)) ggX8_run_X2_serve
theorem dX8_run_0 : decode cX8_run 0 = .ok (.iload_n 1, 1) := by decide +kernel
theorem dX8_run_1 : decode cX8_run 1 = .ok (.iload_n 2, 1) := by decide +kernel
theorem dX8_run_2 : decode cX8_run 2 = .ok (.invokestatic 126, 3) := by decide +kernel
theorem dX8_run_5 : decode cX8_run 5 = .ok (.ifCond .ne 6, 3) := by decide +kernel
theorem dX8_run_8 : decode cX8_run 8 = .ok (.bipush (-2), 2) := by decide +kernel
theorem dX8_run_10 : decode cX8_run 10 = .ok (.ireturn, 1) := by decide +kernel
theorem dX8_run_11 : decode cX8_run 11 = .ok (.aload_n 0, 1) := by decide +kernel
theorem dX8_run_12 : decode cX8_run 12 = .ok (.getfield 28, 3) := by decide +kernel
theorem dX8_run_15 : decode cX8_run 15 = .ok (.getfield 129, 3) := by decide +kernel
theorem dX8_run_18 : decode cX8_run 18 = .ok (.ifCond .eq 6, 3) := by decide +kernel
theorem dX8_run_21 : decode cX8_run 21 = .ok (.bipush (-3), 2) := by decide +kernel
theorem dX8_run_23 : decode cX8_run 23 = .ok (.ireturn, 1) := by decide +kernel
theorem dX8_run_24 : decode cX8_run 24 = .ok (.iconst 0, 1) := by decide +kernel
theorem dX8_run_25 : decode cX8_run 25 = .ok (.istore_n 3, 1) := by decide +kernel
theorem dX8_run_26 : decode cX8_run 26 = .ok (.iload_n 3, 1) := by decide +kernel
theorem dX8_run_27 : decode cX8_run 27 = .ok (.iload_n 1, 1) := by decide +kernel
theorem dX8_run_28 : decode cX8_run 28 = .ok (.if_icmp .ge 27, 3) := by decide +kernel
theorem dX8_run_31 : decode cX8_run 31 = .ok (.aload_n 0, 1) := by decide +kernel
theorem dX8_run_32 : decode cX8_run 32 = .ok (.getfield 28, 3) := by decide +kernel
theorem dX8_run_35 : decode cX8_run 35 = .ok (.getfield 129, 3) := by decide +kernel
theorem dX8_run_38 : decode cX8_run 38 = .ok (.ifCond .ne 17, 3) := by decide +kernel
theorem dX8_run_41 : decode cX8_run 41 = .ok (.aload_n 0, 1) := by decide +kernel
theorem dX8_run_42 : decode cX8_run 42 = .ok (.getfield 28, 3) := by decide +kernel
theorem dX8_run_45 : decode cX8_run 45 = .ok (.iload_n 2, 1) := by decide +kernel
theorem dX8_run_46 : decode cX8_run 46 = .ok (.invokevirtual 132, 3) := by decide +kernel
theorem dX8_run_49 : decode cX8_run 49 = .ok (.iinc 3 1, 3) := by decide +kernel
theorem dX8_run_52 : decode cX8_run 52 = .ok (.goto (-26), 3) := by decide +kernel
theorem dX8_run_55 : decode cX8_run 55 = .ok (.iload_n 3, 1) := by decide +kernel
theorem dX8_run_56 : decode cX8_run 56 = .ok (.ireturn, 1) := by decide +kernel
theorem dX8_clearFaults_0 : decode cX8_clearFaults 0 = .ok (.aload_n 0, 1) := by decide +kernel
theorem dX8_clearFaults_1 : decode cX8_clearFaults 1 = .ok (.getfield 28, 3) := by decide +kernel
theorem dX8_clearFaults_4 : decode cX8_clearFaults 4 = .ok (.getfield 136, 3) := by decide +kernel
theorem dX8_clearFaults_7 : decode cX8_clearFaults 7 = .ok (.istore_n 1, 1) := by decide +kernel
theorem dX8_clearFaults_8 : decode cX8_clearFaults 8 = .ok (.aload_n 0, 1) := by decide +kernel
theorem dX8_clearFaults_9 : decode cX8_clearFaults 9 = .ok (.getfield 28, 3) := by decide +kernel
theorem dX8_clearFaults_12 : decode cX8_clearFaults 12 = .ok (.iconst 0, 1) := by decide +kernel
theorem dX8_clearFaults_13 : decode cX8_clearFaults 13 = .ok (.putfield 136, 3) := by decide +kernel
theorem dX8_clearFaults_16 : decode cX8_clearFaults 16 = .ok (.aload_n 0, 1) := by decide +kernel
theorem dX8_clearFaults_17 : decode cX8_clearFaults 17 = .ok (.getfield 28, 3) := by decide +kernel
theorem dX8_clearFaults_20 : decode cX8_clearFaults 20 = .ok (.iconst 0, 1) := by decide +kernel
theorem dX8_clearFaults_21 : decode cX8_clearFaults 21 = .ok (.putfield 129, 3) := by decide +kernel
theorem dX8_clearFaults_24 : decode cX8_clearFaults 24 = .ok (.iload_n 1, 1) := by decide +kernel
theorem dX8_clearFaults_25 : decode cX8_clearFaults 25 = .ok (.ireturn, 1) := by decide +kernel
set_option maxRecDepth 20000 in
theorem ggX8_latest_X8_isWithin : GoodIn wsX8_latest wsX8_isWithin := goodIn_r _ [7] (by decide +kernel) (by decide +kernel)
set_option maxRecDepth 20000 in
theorem gX8_latest_X8_isWithin : GoodIn wsX8_latest (va_wsS RX8 45 yX8_isWithin wsX8_isWithin) := goodIn_app (goodIn_of _ (by decide +kernel)) ggX8_latest_X8_isWithin
set_option maxRecDepth 20000 in
theorem ggX8_latest_X0_number : GoodIn wsX8_latest wsX0_number := goodIn_r _ [12, 13, 14, 15, 16, 17, 18, 41, 42, 43, 44, 45, 46, 47, 48] (by decide +kernel) (by decide +kernel)
set_option maxRecDepth 20000 in
theorem gX8_latest_X0_number : GoodIn wsX8_latest (wsV RX8 148 RX0 yX0_number wsX0_number) := goodIn_app (goodIn_of _ (by decide +kernel)) ggX8_latest_X0_number
theorem dX8_latest_0 : decode cX8_latest 0 = .ok (.iload_n 1, 1) := by decide +kernel
theorem dX8_latest_1 : decode cX8_latest 1 = .ok (.iconst 0, 1) := by decide +kernel
theorem dX8_latest_2 : decode cX8_latest 2 = .ok (.iconst 5, 1) := by decide +kernel
theorem dX8_latest_3 : decode cX8_latest 3 = .ok (.invokestatic 45, 3) := by decide +kernel
theorem dX8_latest_6 : decode cX8_latest 6 = .ok (.ifCond .ne 6, 3) := by decide +kernel
theorem dX8_latest_9 : decode cX8_latest 9 = .ok (.bipush (-2), 2) := by decide +kernel
theorem dX8_latest_11 : decode cX8_latest 11 = .ok (.ireturn, 1) := by decide +kernel
theorem dX8_latest_12 : decode cX8_latest 12 = .ok (.aload_n 0, 1) := by decide +kernel
theorem dX8_latest_13 : decode cX8_latest 13 = .ok (.getfield 28, 3) := by decide +kernel
theorem dX8_latest_16 : decode cX8_latest 16 = .ok (.getfield 139, 3) := by decide +kernel
theorem dX8_latest_19 : decode cX8_latest 19 = .ok (.getfield 143, 3) := by decide +kernel
theorem dX8_latest_22 : decode cX8_latest 22 = .ok (.ifCond .ne 7, 3) := by decide +kernel
theorem dX8_latest_25 : decode cX8_latest 25 = .ok (.iconst (-1), 1) := by decide +kernel
theorem dX8_latest_26 : decode cX8_latest 26 = .ok (.goto 14, 3) := by decide +kernel
theorem dX8_latest_29 : decode cX8_latest 29 = .ok (.aload_n 0, 1) := by decide +kernel
theorem dX8_latest_30 : decode cX8_latest 30 = .ok (.getfield 28, 3) := by decide +kernel
theorem dX8_latest_33 : decode cX8_latest 33 = .ok (.getfield 139, 3) := by decide +kernel
theorem dX8_latest_36 : decode cX8_latest 36 = .ok (.iload_n 1, 1) := by decide +kernel
theorem dX8_latest_37 : decode cX8_latest 37 = .ok (.invokevirtual 148, 3) := by decide +kernel
theorem dX8_latest_40 : decode cX8_latest 40 = .ok (.ireturn, 1) := by decide +kernel
set_option maxRecDepth 20000 in
theorem ggX8_station_X8_isWithin : GoodIn wsX8_station wsX8_isWithin := goodIn_r _ [7] (by decide +kernel) (by decide +kernel)
set_option maxRecDepth 20000 in
theorem gX8_station_X8_isWithin : GoodIn wsX8_station (va_wsS RX8 45 yX8_isWithin wsX8_isWithin) := goodIn_app (goodIn_of _ (by decide +kernel)) ggX8_station_X8_isWithin
set_option maxRecDepth 20000 in
theorem ggX8_station_X4_reasonAt : GoodIn wsX8_station wsX4_reasonAt := goodIn_r _ [12, 13, 36, 37] (by decide +kernel) (by decide +kernel)
set_option maxRecDepth 20000 in
theorem gX8_station_X4_reasonAt : GoodIn wsX8_station (wsV RX8 160 RX4 yX4_reasonAt wsX4_reasonAt) := goodIn_app (goodIn_of _ (by decide +kernel)) ggX8_station_X4_reasonAt
theorem dX8_station_0 : decode cX8_station 0 = .ok (.iload_n 1, 1) := by decide +kernel
theorem dX8_station_1 : decode cX8_station 1 = .ok (.iconst 0, 1) := by decide +kernel
theorem dX8_station_2 : decode cX8_station 2 = .ok (.aload_n 0, 1) := by decide +kernel
theorem dX8_station_3 : decode cX8_station 3 = .ok (.getfield 28, 3) := by decide +kernel
theorem dX8_station_6 : decode cX8_station 6 = .ok (.getfield 151, 3) := by decide +kernel
theorem dX8_station_9 : decode cX8_station 9 = .ok (.getfield 155, 3) := by decide +kernel
theorem dX8_station_12 : decode cX8_station 12 = .ok (.iconst 1, 1) := by decide +kernel
theorem dX8_station_13 : decode cX8_station 13 = .ok (.isub, 1) := by decide +kernel
theorem dX8_station_14 : decode cX8_station 14 = .ok (.invokestatic 45, 3) := by decide +kernel
theorem dX8_station_17 : decode cX8_station 17 = .ok (.ifCond .ne 6, 3) := by decide +kernel
theorem dX8_station_20 : decode cX8_station 20 = .ok (.bipush (-2), 2) := by decide +kernel
theorem dX8_station_22 : decode cX8_station 22 = .ok (.ireturn, 1) := by decide +kernel
theorem dX8_station_23 : decode cX8_station 23 = .ok (.aload_n 0, 1) := by decide +kernel
theorem dX8_station_24 : decode cX8_station 24 = .ok (.getfield 28, 3) := by decide +kernel
theorem dX8_station_27 : decode cX8_station 27 = .ok (.getfield 151, 3) := by decide +kernel
theorem dX8_station_30 : decode cX8_station 30 = .ok (.iload_n 1, 1) := by decide +kernel
theorem dX8_station_31 : decode cX8_station 31 = .ok (.invokevirtual 160, 3) := by decide +kernel
theorem dX8_station_34 : decode cX8_station 34 = .ok (.ireturn, 1) := by decide +kernel
set_option maxRecDepth 20000 in
theorem ggX8_pitch_X8_bitsOf : GoodIn wsX8_pitch wsX8_bitsOf := goodIn_r _ [6, 7] (by decide +kernel) (by decide +kernel)
set_option maxRecDepth 20000 in
theorem gX8_pitch_X8_bitsOf : GoodIn wsX8_pitch (va_wsS RX8 118 yX8_bitsOf wsX8_bitsOf) := goodIn_app (goodIn_of _ (by decide +kernel)) ggX8_pitch_X8_bitsOf
theorem dX8_pitch_0 : decode cX8_pitch 0 = .ok (.aload_n 0, 1) := by decide +kernel
theorem dX8_pitch_1 : decode cX8_pitch 1 = .ok (.getfield 28, 3) := by decide +kernel
theorem dX8_pitch_4 : decode cX8_pitch 4 = .ok (.getfield 114, 3) := by decide +kernel
theorem dX8_pitch_7 : decode cX8_pitch 7 = .ok (.invokestatic 118, 3) := by decide +kernel
theorem dX8_pitch_10 : decode cX8_pitch 10 = .ok (.ireturn, 1) := by decide +kernel
set_option maxRecDepth 20000 in
theorem ggX8_foretell_X8_canCome : GoodIn wsX8_foretell wsX8_canCome := goodIn_r _ [8, 9, 10, 7, 11] (by decide +kernel) (by decide +kernel)
set_option maxRecDepth 20000 in
theorem gX8_foretell_X8_canCome : GoodIn wsX8_foretell (va_wsS RX8 126 yX8_canCome wsX8_canCome) := goodIn_app (goodIn_of _ (by decide +kernel)) ggX8_foretell_X8_canCome
set_option maxRecDepth 20000 in
theorem ggX8_foretell_X8_isWithin : GoodIn wsX8_foretell wsX8_isWithin := goodIn_r _ [11] (by decide +kernel) (by decide +kernel)
set_option maxRecDepth 20000 in
theorem gX8_foretell_X8_isWithin : GoodIn wsX8_foretell (va_wsS RX8 45 yX8_isWithin wsX8_isWithin) := goodIn_app (goodIn_of _ (by decide +kernel)) ggX8_foretell_X8_isWithin
set_option maxRecDepth 20000 in
theorem ggX8_foretell_X2_copyFrom : GoodIn wsX8_foretell wsX2_copyFrom := goodIn_r _ [16, 17, 18, 19, 20, 21, 22, 23, 24, 25, 26, 27, 28, 29, 30, 31, 32, 33, 34, 35, 36, 37, 38, 39, 40, 41, 42, 43, 44, 45, 46, 47, 48, 49, 50, 51, 52, 53, 54, 55, 56, 57, 58, 59, 60, 61, 62, 63, 64, 65, 66, 67, 68, 69, 70, 71, 72, 73, 74, 75, 76, 77, 78, 79, 80, 81, 82, 83, 84, 85, 86, 87, 88, 89, 90, 91, 92, 93, 94, 95, 96, 97, 98, 99, 100, 101, 102, 103, 104, 105, 106, 15, 107, 197, 198, 199, 200, 201, 202, 203, 204, 205, 206, 207, 208, 209, 210, 211, 212, 213, 214, 215, 216, 217, 218, 219, 220, 221, 222, 223, 224, 225, 226, 227] (by decide +kernel) (by decide +kernel)
set_option maxRecDepth 20000 in
theorem gX8_foretell_X2_copyFrom : GoodIn wsX8_foretell (wsV RX8 163 RX2 yX2_copyFrom wsX2_copyFrom) := goodIn_app (goodIn_of _ (by decide +kernel)) ggX8_foretell_X2_copyFrom
set_option maxRecDepth 20000 in
theorem ggX8_foretell_X2_serveAll : GoodIn wsX8_foretell wsX2_serveAll := goodIn_r _ [111, 112, 113, 114, 15, 115, 23, 20, 116, 117, 22, 18, 118, 119, 19, 24, 25, 120, 121, 122, 123, 124, 125, 126, 127, 128, 129, 130, 131, 77, 78, 73, 79, 75, 132, 133, 134, 94, 135, 96, 97, 98, 99, 100, 101, 136, 137, 138, 139, 17, 140, 141, 53, 54, 36, 55, 43, 42, 142, 57, 58, 59, 60, 143, 62, 63, 64, 65, 144, 145, 146, 147, 148, 149, 150, 151, 152, 153, 154, 155, 156, 157, 158, 159, 160, 161, 162, 163, 164, 165, 166, 167, 168, 26, 21, 29, 30, 31, 32, 169, 170, 171, 172, 173, 174, 175, 176, 83, 177, 85, 86, 178, 179, 180, 181, 27, 28, 182, 183, 184, 185, 186, 187, 188, 197, 198, 199, 200, 201, 202, 203, 204, 205, 206, 207, 208, 209, 210, 211, 212, 220, 221, 222, 223, 224, 225, 226, 227, 217, 213, 214, 215, 216, 218, 219] (by decide +kernel) (by decide +kernel)
set_option maxRecDepth 20000 in
theorem gX8_foretell_X2_serveAll : GoodIn wsX8_foretell (wsV RX8 167 RX2 yX2_serveAll wsX2_serveAll) := goodIn_app (goodIn_of _ (by decide +kernel)) ggX8_foretell_X2_serveAll
set_option maxRecDepth 20000 in
theorem ggX8_foretell_X2_cameWith : GoodIn wsX8_foretell wsX2_cameWith := goodIn_r _ [107, 21, 197, 198, 199, 200, 201, 202, 203, 204, 205, 206, 207, 208, 209, 210, 211, 212] (by decide +kernel) (by decide +kernel)
set_option maxRecDepth 20000 in
theorem gX8_foretell_X2_cameWith : GoodIn wsX8_foretell (wsV RX8 171 RX2 yX2_cameWith wsX2_cameWith) := goodIn_app (goodIn_of _ (by decide +kernel)) ggX8_foretell_X2_cameWith
set_option maxRecDepth 20000 in
theorem ggX8_foretell_X1_size : GoodIn wsX8_foretell wsX1_size := goodIn_r _ [55, 43, 42, 213, 214, 215, 216] (by decide +kernel) (by decide +kernel)
set_option maxRecDepth 20000 in
theorem gX8_foretell_X1_size : GoodIn wsX8_foretell (wsV RX8 71 RX1 yX1_size wsX1_size) := goodIn_app (goodIn_of _ (by decide +kernel)) ggX8_foretell_X1_size
theorem dX8_foretell_0 : decode cX8_foretell 0 = .ok (.iload_n 1, 1) := by decide +kernel
theorem dX8_foretell_1 : decode cX8_foretell 1 = .ok (.iload_n 2, 1) := by decide +kernel
theorem dX8_foretell_2 : decode cX8_foretell 2 = .ok (.invokestatic 126, 3) := by decide +kernel
theorem dX8_foretell_5 : decode cX8_foretell 5 = .ok (.ifCond .eq 12, 3) := by decide +kernel
theorem dX8_foretell_8 : decode cX8_foretell 8 = .ok (.iload_n 3, 1) := by decide +kernel
theorem dX8_foretell_9 : decode cX8_foretell 9 = .ok (.iconst 0, 1) := by decide +kernel
theorem dX8_foretell_10 : decode cX8_foretell 10 = .ok (.iconst 3, 1) := by decide +kernel
theorem dX8_foretell_11 : decode cX8_foretell 11 = .ok (.invokestatic 45, 3) := by decide +kernel
theorem dX8_foretell_14 : decode cX8_foretell 14 = .ok (.ifCond .ne 6, 3) := by decide +kernel
theorem dX8_foretell_17 : decode cX8_foretell 17 = .ok (.bipush (-2), 2) := by decide +kernel
theorem dX8_foretell_19 : decode cX8_foretell 19 = .ok (.ireturn, 1) := by decide +kernel
theorem dX8_foretell_20 : decode cX8_foretell 20 = .ok (.aload_n 0, 1) := by decide +kernel
theorem dX8_foretell_21 : decode cX8_foretell 21 = .ok (.getfield 32, 3) := by decide +kernel
theorem dX8_foretell_24 : decode cX8_foretell 24 = .ok (.aload_n 0, 1) := by decide +kernel
theorem dX8_foretell_25 : decode cX8_foretell 25 = .ok (.getfield 28, 3) := by decide +kernel
theorem dX8_foretell_28 : decode cX8_foretell 28 = .ok (.invokevirtual 163, 3) := by decide +kernel
theorem dX8_foretell_31 : decode cX8_foretell 31 = .ok (.aload_n 0, 1) := by decide +kernel
theorem dX8_foretell_32 : decode cX8_foretell 32 = .ok (.getfield 32, 3) := by decide +kernel
theorem dX8_foretell_35 : decode cX8_foretell 35 = .ok (.iload_n 1, 1) := by decide +kernel
theorem dX8_foretell_36 : decode cX8_foretell 36 = .ok (.iload_n 2, 1) := by decide +kernel
theorem dX8_foretell_37 : decode cX8_foretell 37 = .ok (.invokevirtual 167, 3) := by decide +kernel
theorem dX8_foretell_40 : decode cX8_foretell 40 = .ok (.istore 4, 2) := by decide +kernel
theorem dX8_foretell_42 : decode cX8_foretell 42 = .ok (.iload_n 3, 1) := by decide +kernel
theorem dX8_foretell_43 : decode cX8_foretell 43 = .ok (.tableswitch 70 0 2 #[25, 43, 59], 25) := by decide +kernel
theorem dX8_foretell_68 : decode cX8_foretell 68 = .ok (.aload_n 0, 1) := by decide +kernel
theorem dX8_foretell_69 : decode cX8_foretell 69 = .ok (.getfield 32, 3) := by decide +kernel
theorem dX8_foretell_72 : decode cX8_foretell 72 = .ok (.iconst 0, 1) := by decide +kernel
theorem dX8_foretell_73 : decode cX8_foretell 73 = .ok (.invokevirtual 171, 3) := by decide +kernel
theorem dX8_foretell_76 : decode cX8_foretell 76 = .ok (.aload_n 0, 1) := by decide +kernel
theorem dX8_foretell_77 : decode cX8_foretell 77 = .ok (.getfield 28, 3) := by decide +kernel
theorem dX8_foretell_80 : decode cX8_foretell 80 = .ok (.iconst 0, 1) := by decide +kernel
theorem dX8_foretell_81 : decode cX8_foretell 81 = .ok (.invokevirtual 171, 3) := by decide +kernel
theorem dX8_foretell_84 : decode cX8_foretell 84 = .ok (.isub, 1) := by decide +kernel
theorem dX8_foretell_85 : decode cX8_foretell 85 = .ok (.ireturn, 1) := by decide +kernel
theorem dX8_foretell_86 : decode cX8_foretell 86 = .ok (.aload_n 0, 1) := by decide +kernel
theorem dX8_foretell_87 : decode cX8_foretell 87 = .ok (.getfield 32, 3) := by decide +kernel
theorem dX8_foretell_90 : decode cX8_foretell 90 = .ok (.getfield 174, 3) := by decide +kernel
theorem dX8_foretell_93 : decode cX8_foretell 93 = .ok (.aload_n 0, 1) := by decide +kernel
theorem dX8_foretell_94 : decode cX8_foretell 94 = .ok (.getfield 28, 3) := by decide +kernel
theorem dX8_foretell_97 : decode cX8_foretell 97 = .ok (.getfield 174, 3) := by decide +kernel
theorem dX8_foretell_100 : decode cX8_foretell 100 = .ok (.isub, 1) := by decide +kernel
theorem dX8_foretell_101 : decode cX8_foretell 101 = .ok (.ireturn, 1) := by decide +kernel
theorem dX8_foretell_102 : decode cX8_foretell 102 = .ok (.aload_n 0, 1) := by decide +kernel
theorem dX8_foretell_103 : decode cX8_foretell 103 = .ok (.getfield 32, 3) := by decide +kernel
theorem dX8_foretell_106 : decode cX8_foretell 106 = .ok (.getfield 67, 3) := by decide +kernel
theorem dX8_foretell_109 : decode cX8_foretell 109 = .ok (.invokevirtual 71, 3) := by decide +kernel
theorem dX8_foretell_112 : decode cX8_foretell 112 = .ok (.ireturn, 1) := by decide +kernel
theorem dX8_foretell_113 : decode cX8_foretell 113 = .ok (.iload 4, 2) := by decide +kernel
theorem dX8_foretell_115 : decode cX8_foretell 115 = .ok (.ireturn, 1) := by decide +kernel
set_option maxRecDepth 20000 in
theorem ggX8_best_X8_canCome : GoodIn wsX8_best wsX8_canCome := goodIn_r _ [6, 7, 8, 5, 9] (by decide +kernel) (by decide +kernel)
set_option maxRecDepth 20000 in
theorem gX8_best_X8_canCome : GoodIn wsX8_best (va_wsS RX8 126 yX8_canCome wsX8_canCome) := goodIn_app (goodIn_of _ (by decide +kernel)) ggX8_best_X8_canCome
set_option maxRecDepth 20000 in
theorem ggX8_best_X5_least : GoodIn wsX8_best wsX5_least := goodIn_r _ [14, 15] (by decide +kernel) (by decide +kernel)
set_option maxRecDepth 20000 in
theorem gX8_best_X5_least : GoodIn wsX8_best (wsV RX8 177 RX5 yX5_least wsX5_least) := goodIn_app (goodIn_of _ (by decide +kernel)) ggX8_best_X5_least
set_option maxRecDepth 20000 in
theorem ggX8_best_X5_greatest : GoodIn wsX8_best wsX5_greatest := goodIn_r _ [19, 20] (by decide +kernel) (by decide +kernel)
set_option maxRecDepth 20000 in
theorem gX8_best_X5_greatest : GoodIn wsX8_best (wsV RX8 180 RX5 yX5_greatest wsX5_greatest) := goodIn_app (goodIn_of _ (by decide +kernel)) ggX8_best_X5_greatest
set_option maxRecDepth 20000 in
theorem ggX8_best_X8_goodWith : GoodIn wsX8_best wsX8_goodWith := goodIn_r _ [24, 25, 1, 2, 26, 27, 28, 29, 30, 31, 32, 33, 34, 35, 36, 37, 38, 39, 40, 41, 42, 43, 44, 45, 46, 47, 48, 49, 50, 51, 52, 53, 54, 55, 56, 57, 58, 59, 60, 61, 62, 63, 64, 65, 66, 67, 68, 69, 70, 71, 72, 73, 74, 75, 76, 77, 78, 79, 80, 81, 82, 83, 84, 85, 86, 13, 87, 88, 89, 90, 91, 92, 93, 94, 95, 96, 97, 98, 99, 100, 101, 102, 103, 104, 105, 106, 107, 108, 109, 110, 111, 112, 113, 114, 115, 116, 117, 118, 119, 120, 121, 122, 123, 124, 125, 126, 127, 128, 129, 130, 131, 132, 133, 134, 135, 136, 137, 138, 139, 140, 141, 142, 143, 144, 145, 146, 147, 148, 149, 150, 151, 152, 153, 154, 155, 156, 157, 158, 159, 160, 161, 162, 163, 164, 165, 166, 167, 168, 169, 170, 171, 172, 173, 174, 175, 176, 177, 178, 179, 180, 181, 182, 183, 184, 185, 186, 187, 188, 189, 190, 191, 192, 193, 194, 195, 196, 197, 198, 199, 200, 201, 202, 203, 204, 205, 206, 207, 208, 209, 210, 211, 212, 213, 214, 215, 216, 217, 218, 219, 220, 221, 222, 223, 224, 225, 226, 227, 228, 229, 230, 231, 232, 233, 234, 235, 236, 237, 238, 239, 240, 241, 242, 243] (by decide +kernel) (by decide +kernel)
set_option maxRecDepth 20000 in
theorem gX8_best_X8_goodWith : GoodIn wsX8_best (wsV RX8 183 RX8 yX8_goodWith wsX8_goodWith) := goodIn_app (goodIn_of _ (by decide +kernel)) ggX8_best_X8_goodWith
theorem dX8_best_0 : decode cX8_best 0 = .ok (.iload_n 1, 1) := by decide +kernel
theorem dX8_best_1 : decode cX8_best 1 = .ok (.ifCond .eq 16, 3) := by decide +kernel
theorem dX8_best_4 : decode cX8_best 4 = .ok (.iload_n 1, 1) := by decide +kernel
theorem dX8_best_5 : decode cX8_best 5 = .ok (.iconst 1, 1) := by decide +kernel
theorem dX8_best_6 : decode cX8_best 6 = .ok (.if_icmp .eq 11, 3) := by decide +kernel
theorem dX8_best_9 : decode cX8_best 9 = .ok (.iload_n 1, 1) := by decide +kernel
theorem dX8_best_10 : decode cX8_best 10 = .ok (.iconst 5, 1) := by decide +kernel
theorem dX8_best_11 : decode cX8_best 11 = .ok (.if_icmp .eq 6, 3) := by decide +kernel
theorem dX8_best_14 : decode cX8_best 14 = .ok (.bipush (-2), 2) := by decide +kernel
theorem dX8_best_16 : decode cX8_best 16 = .ok (.ireturn, 1) := by decide +kernel
theorem dX8_best_17 : decode cX8_best 17 = .ok (.iload_n 2, 1) := by decide +kernel
theorem dX8_best_18 : decode cX8_best 18 = .ok (.iload_n 3, 1) := by decide +kernel
theorem dX8_best_19 : decode cX8_best 19 = .ok (.invokestatic 126, 3) := by decide +kernel
theorem dX8_best_22 : decode cX8_best 22 = .ok (.ifCond .ne 6, 3) := by decide +kernel
theorem dX8_best_25 : decode cX8_best 25 = .ok (.bipush (-2), 2) := by decide +kernel
theorem dX8_best_27 : decode cX8_best 27 = .ok (.ireturn, 1) := by decide +kernel
theorem dX8_best_28 : decode cX8_best 28 = .ok (.aload_n 0, 1) := by decide +kernel
theorem dX8_best_29 : decode cX8_best 29 = .ok (.getfield 28, 3) := by decide +kernel
theorem dX8_best_32 : decode cX8_best 32 = .ok (.getfield 97, 3) := by decide +kernel
theorem dX8_best_35 : decode cX8_best 35 = .ok (.iload_n 1, 1) := by decide +kernel
theorem dX8_best_36 : decode cX8_best 36 = .ok (.invokevirtual 177, 3) := by decide +kernel
theorem dX8_best_39 : decode cX8_best 39 = .ok (.istore 4, 2) := by decide +kernel
theorem dX8_best_41 : decode cX8_best 41 = .ok (.iconst (-1), 1) := by decide +kernel
theorem dX8_best_42 : decode cX8_best 42 = .ok (.istore 5, 2) := by decide +kernel
theorem dX8_best_44 : decode cX8_best 44 = .ok (.iload 4, 2) := by decide +kernel
theorem dX8_best_46 : decode cX8_best 46 = .ok (.istore 6, 2) := by decide +kernel
theorem dX8_best_48 : decode cX8_best 48 = .ok (.iload 6, 2) := by decide +kernel
theorem dX8_best_50 : decode cX8_best 50 = .ok (.aload_n 0, 1) := by decide +kernel
theorem dX8_best_51 : decode cX8_best 51 = .ok (.getfield 28, 3) := by decide +kernel
theorem dX8_best_54 : decode cX8_best 54 = .ok (.getfield 97, 3) := by decide +kernel
theorem dX8_best_57 : decode cX8_best 57 = .ok (.iload_n 1, 1) := by decide +kernel
theorem dX8_best_58 : decode cX8_best 58 = .ok (.invokevirtual 180, 3) := by decide +kernel
theorem dX8_best_61 : decode cX8_best 61 = .ok (.if_icmp .gt 35, 3) := by decide +kernel
theorem dX8_best_64 : decode cX8_best 64 = .ok (.aload_n 0, 1) := by decide +kernel
theorem dX8_best_65 : decode cX8_best 65 = .ok (.iload_n 1, 1) := by decide +kernel
theorem dX8_best_66 : decode cX8_best 66 = .ok (.iload 6, 2) := by decide +kernel
theorem dX8_best_68 : decode cX8_best 68 = .ok (.iload_n 2, 1) := by decide +kernel
theorem dX8_best_69 : decode cX8_best 69 = .ok (.iload_n 3, 1) := by decide +kernel
theorem dX8_best_70 : decode cX8_best 70 = .ok (.invokevirtual 183, 3) := by decide +kernel
theorem dX8_best_73 : decode cX8_best 73 = .ok (.istore 7, 2) := by decide +kernel
theorem dX8_best_75 : decode cX8_best 75 = .ok (.iload 7, 2) := by decide +kernel
theorem dX8_best_77 : decode cX8_best 77 = .ok (.iload 5, 2) := by decide +kernel
theorem dX8_best_79 : decode cX8_best 79 = .ok (.if_icmp .le 11, 3) := by decide +kernel
theorem dX8_best_82 : decode cX8_best 82 = .ok (.iload 7, 2) := by decide +kernel
theorem dX8_best_84 : decode cX8_best 84 = .ok (.istore 5, 2) := by decide +kernel
theorem dX8_best_86 : decode cX8_best 86 = .ok (.iload 6, 2) := by decide +kernel
theorem dX8_best_88 : decode cX8_best 88 = .ok (.istore 4, 2) := by decide +kernel
theorem dX8_best_90 : decode cX8_best 90 = .ok (.iinc 6 1, 3) := by decide +kernel
theorem dX8_best_93 : decode cX8_best 93 = .ok (.goto (-45), 3) := by decide +kernel
theorem dX8_best_96 : decode cX8_best 96 = .ok (.iload 4, 2) := by decide +kernel
theorem dX8_best_98 : decode cX8_best 98 = .ok (.ireturn, 1) := by decide +kernel
set_option maxRecDepth 20000 in
theorem ggX8_save_X8_isWithin : GoodIn wsX8_save wsX8_isWithin := goodIn_r _ [8] (by decide +kernel) (by decide +kernel)
set_option maxRecDepth 20000 in
theorem gX8_save_X8_isWithin : GoodIn wsX8_save (va_wsS RX8 45 yX8_isWithin wsX8_isWithin) := goodIn_app (goodIn_of _ (by decide +kernel)) ggX8_save_X8_isWithin
set_option maxRecDepth 20000 in
theorem ggX8_save_X8_slotOf : GoodIn wsX8_save wsX8_slotOf := goodIn_r _ [12, 13, 14, 114, 115, 116, 117, 118, 119] (by decide +kernel) (by decide +kernel)
set_option maxRecDepth 20000 in
theorem gX8_save_X8_slotOf : GoodIn wsX8_save (wsV RX8 187 RX8 yX8_slotOf wsX8_slotOf) := goodIn_app (goodIn_of _ (by decide +kernel)) ggX8_save_X8_slotOf
set_option maxRecDepth 20000 in
theorem ggX8_save_X2_copyFrom : GoodIn wsX8_save wsX2_copyFrom := goodIn_r _ [19, 20, 21, 22, 23, 24, 25, 26, 27, 28, 29, 30, 31, 32, 33, 34, 35, 36, 37, 38, 39, 40, 41, 42, 43, 44, 45, 46, 47, 48, 49, 50, 51, 52, 53, 54, 55, 56, 57, 58, 59, 60, 61, 62, 63, 64, 65, 66, 67, 68, 69, 70, 71, 72, 73, 74, 75, 76, 77, 78, 79, 80, 81, 82, 83, 84, 85, 86, 87, 88, 89, 90, 91, 92, 93, 94, 95, 96, 97, 98, 99, 100, 101, 102, 103, 104, 105, 106, 107, 108, 109, 18, 110, 120, 121, 122, 123, 124, 125, 126, 127, 128, 129, 130, 131, 132, 133, 134, 135, 136, 137, 138, 139, 140, 141, 142, 143, 144, 145, 146, 147, 148, 149, 150] (by decide +kernel) (by decide +kernel)
set_option maxRecDepth 20000 in
theorem gX8_save_X2_copyFrom : GoodIn wsX8_save (wsV RX8 163 RX2 yX2_copyFrom wsX2_copyFrom) := goodIn_app (goodIn_of _ (by decide +kernel)) ggX8_save_X2_copyFrom
set_option maxRecDepth 20000 in
theorem ggX8_save_X1_size : GoodIn wsX8_save wsX1_size := goodIn_r _ [58, 46, 45, 136, 137, 138, 139] (by decide +kernel) (by decide +kernel)
set_option maxRecDepth 20000 in
theorem gX8_save_X1_size : GoodIn wsX8_save (wsV RX8 71 RX1 yX1_size wsX1_size) := goodIn_app (goodIn_of _ (by decide +kernel)) ggX8_save_X1_size
theorem dX8_save_0 : decode cX8_save 0 = .ok (.iload_n 1, 1) := by decide +kernel
theorem dX8_save_1 : decode cX8_save 1 = .ok (.iconst 0, 1) := by decide +kernel
theorem dX8_save_2 : decode cX8_save 2 = .ok (.iconst 1, 1) := by decide +kernel
theorem dX8_save_3 : decode cX8_save 3 = .ok (.invokestatic 45, 3) := by decide +kernel
theorem dX8_save_6 : decode cX8_save 6 = .ok (.ifCond .ne 6, 3) := by decide +kernel
theorem dX8_save_9 : decode cX8_save 9 = .ok (.bipush (-2), 2) := by decide +kernel
theorem dX8_save_11 : decode cX8_save 11 = .ok (.ireturn, 1) := by decide +kernel
theorem dX8_save_12 : decode cX8_save 12 = .ok (.aload_n 0, 1) := by decide +kernel
theorem dX8_save_13 : decode cX8_save 13 = .ok (.iload_n 1, 1) := by decide +kernel
theorem dX8_save_14 : decode cX8_save 14 = .ok (.invokevirtual 187, 3) := by decide +kernel
theorem dX8_save_17 : decode cX8_save 17 = .ok (.getfield 191, 3) := by decide +kernel
theorem dX8_save_20 : decode cX8_save 20 = .ok (.aload_n 0, 1) := by decide +kernel
theorem dX8_save_21 : decode cX8_save 21 = .ok (.getfield 28, 3) := by decide +kernel
theorem dX8_save_24 : decode cX8_save 24 = .ok (.invokevirtual 163, 3) := by decide +kernel
theorem dX8_save_27 : decode cX8_save 27 = .ok (.aload_n 0, 1) := by decide +kernel
theorem dX8_save_28 : decode cX8_save 28 = .ok (.iload_n 1, 1) := by decide +kernel
theorem dX8_save_29 : decode cX8_save 29 = .ok (.invokevirtual 187, 3) := by decide +kernel
theorem dX8_save_32 : decode cX8_save 32 = .ok (.iconst 1, 1) := by decide +kernel
theorem dX8_save_33 : decode cX8_save 33 = .ok (.putfield 194, 3) := by decide +kernel
theorem dX8_save_36 : decode cX8_save 36 = .ok (.aload_n 0, 1) := by decide +kernel
theorem dX8_save_37 : decode cX8_save 37 = .ok (.getfield 28, 3) := by decide +kernel
theorem dX8_save_40 : decode cX8_save 40 = .ok (.getfield 67, 3) := by decide +kernel
theorem dX8_save_43 : decode cX8_save 43 = .ok (.invokevirtual 71, 3) := by decide +kernel
theorem dX8_save_46 : decode cX8_save 46 = .ok (.ireturn, 1) := by decide +kernel
end
section
set_option maxRecDepth 20000 in
theorem ggX8_restore_X8_isWithin : GoodIn wsX8_restore wsX8_isWithin := goodIn_r _ [8] (by decide +kernel) (by decide +kernel)
set_option maxRecDepth 20000 in
theorem gX8_restore_X8_isWithin : GoodIn wsX8_restore (va_wsS RX8 45 yX8_isWithin wsX8_isWithin) := goodIn_app (goodIn_of _ (by decide +kernel)) ggX8_restore_X8_isWithin
set_option maxRecDepth 20000 in
theorem ggX8_restore_X8_slotOf : GoodIn wsX8_restore wsX8_slotOf := goodIn_r _ [12, 13, 14, 114, 115, 116, 117, 118, 119] (by decide +kernel) (by decide +kernel)
set_option maxRecDepth 20000 in
theorem gX8_restore_X8_slotOf : GoodIn wsX8_restore (wsV RX8 187 RX8 yX8_slotOf wsX8_slotOf) := goodIn_app (goodIn_of _ (by decide +kernel)) ggX8_restore_X8_slotOf
set_option maxRecDepth 20000 in
theorem ggX8_restore_X2_copyFrom : GoodIn wsX8_restore wsX2_copyFrom := goodIn_r _ [19, 20, 21, 22, 23, 24, 25, 26, 27, 28, 29, 30, 31, 32, 33, 34, 35, 36, 37, 38, 39, 40, 41, 42, 43, 44, 45, 46, 47, 48, 49, 50, 51, 52, 53, 54, 55, 56, 57, 58, 59, 60, 61, 62, 63, 64, 65, 66, 67, 68, 69, 70, 71, 72, 73, 74, 75, 76, 77, 78, 79, 80, 81, 82, 83, 84, 85, 86, 87, 88, 89, 90, 91, 92, 93, 94, 95, 96, 97, 98, 99, 100, 101, 102, 103, 104, 105, 106, 107, 108, 109, 18, 110, 120, 121, 122, 123, 124, 125, 126, 127, 128, 129, 130, 131, 132, 133, 134, 135, 136, 137, 138, 139, 140, 141, 142, 143, 144, 145, 146, 147, 148, 149, 150] (by decide +kernel) (by decide +kernel)
set_option maxRecDepth 20000 in
theorem gX8_restore_X2_copyFrom : GoodIn wsX8_restore (wsV RX8 163 RX2 yX2_copyFrom wsX2_copyFrom) := goodIn_app (goodIn_of _ (by decide +kernel)) ggX8_restore_X2_copyFrom
set_option maxRecDepth 20000 in
theorem ggX8_restore_X1_size : GoodIn wsX8_restore wsX1_size := goodIn_r _ [58, 46, 45, 136, 137, 138, 139] (by decide +kernel) (by decide +kernel)
set_option maxRecDepth 20000 in
theorem gX8_restore_X1_size : GoodIn wsX8_restore (wsV RX8 71 RX1 yX1_size wsX1_size) := goodIn_app (goodIn_of _ (by decide +kernel)) ggX8_restore_X1_size
theorem dX8_restore_0 : decode cX8_restore 0 = .ok (.iload_n 1, 1) := by decide +kernel
theorem dX8_restore_1 : decode cX8_restore 1 = .ok (.iconst 0, 1) := by decide +kernel
theorem dX8_restore_2 : decode cX8_restore 2 = .ok (.iconst 1, 1) := by decide +kernel
theorem dX8_restore_3 : decode cX8_restore 3 = .ok (.invokestatic 45, 3) := by decide +kernel
theorem dX8_restore_6 : decode cX8_restore 6 = .ok (.ifCond .ne 6, 3) := by decide +kernel
theorem dX8_restore_9 : decode cX8_restore 9 = .ok (.bipush (-2), 2) := by decide +kernel
theorem dX8_restore_11 : decode cX8_restore 11 = .ok (.ireturn, 1) := by decide +kernel
theorem dX8_restore_12 : decode cX8_restore 12 = .ok (.aload_n 0, 1) := by decide +kernel
theorem dX8_restore_13 : decode cX8_restore 13 = .ok (.iload_n 1, 1) := by decide +kernel
theorem dX8_restore_14 : decode cX8_restore 14 = .ok (.invokevirtual 187, 3) := by decide +kernel
theorem dX8_restore_17 : decode cX8_restore 17 = .ok (.getfield 194, 3) := by decide +kernel
theorem dX8_restore_20 : decode cX8_restore 20 = .ok (.ifCond .ne 6, 3) := by decide +kernel
theorem dX8_restore_23 : decode cX8_restore 23 = .ok (.bipush (-3), 2) := by decide +kernel
theorem dX8_restore_25 : decode cX8_restore 25 = .ok (.ireturn, 1) := by decide +kernel
theorem dX8_restore_26 : decode cX8_restore 26 = .ok (.aload_n 0, 1) := by decide +kernel
theorem dX8_restore_27 : decode cX8_restore 27 = .ok (.getfield 28, 3) := by decide +kernel
theorem dX8_restore_30 : decode cX8_restore 30 = .ok (.aload_n 0, 1) := by decide +kernel
theorem dX8_restore_31 : decode cX8_restore 31 = .ok (.iload_n 1, 1) := by decide +kernel
theorem dX8_restore_32 : decode cX8_restore 32 = .ok (.invokevirtual 187, 3) := by decide +kernel
theorem dX8_restore_35 : decode cX8_restore 35 = .ok (.getfield 191, 3) := by decide +kernel
theorem dX8_restore_38 : decode cX8_restore 38 = .ok (.invokevirtual 163, 3) := by decide +kernel
theorem dX8_restore_41 : decode cX8_restore 41 = .ok (.aload_n 0, 1) := by decide +kernel
theorem dX8_restore_42 : decode cX8_restore 42 = .ok (.getfield 28, 3) := by decide +kernel
theorem dX8_restore_45 : decode cX8_restore 45 = .ok (.getfield 67, 3) := by decide +kernel
theorem dX8_restore_48 : decode cX8_restore 48 = .ok (.invokevirtual 71, 3) := by decide +kernel
theorem dX8_restore_51 : decode cX8_restore 51 = .ok (.ireturn, 1) := by decide +kernel
set_option maxRecDepth 20000 in
theorem ggX8_count_X8_isWithin : GoodIn wsX8_count wsX8_isWithin := goodIn_r _ [7] (by decide +kernel) (by decide +kernel)
set_option maxRecDepth 20000 in
theorem gX8_count_X8_isWithin : GoodIn wsX8_count (va_wsS RX8 45 yX8_isWithin wsX8_isWithin) := goodIn_app (goodIn_of _ (by decide +kernel)) ggX8_count_X8_isWithin
set_option maxRecDepth 20000 in
theorem ggX8_count_X2_number : GoodIn wsX8_count wsX2_number := goodIn_r _ [12, 13, 14, 15, 16, 17, 18, 19, 20, 21, 22, 23, 24, 25, 26, 27, 28, 29, 11, 30, 31, 32, 33, 34, 35, 36, 37, 38, 39, 40, 41, 42, 43, 44, 45, 46, 47, 48, 49, 50, 51, 52, 53, 54, 55, 56, 57, 58, 59, 60, 61, 62, 63, 64, 65, 66, 67, 68, 69, 70, 71, 72, 73, 74, 83, 84, 85, 86, 87, 88, 89, 90, 91, 92, 93, 94, 95, 96, 97, 98, 99, 100, 101, 102, 103, 104, 105] (by decide +kernel) (by decide +kernel)
set_option maxRecDepth 20000 in
theorem gX8_count_X2_number : GoodIn wsX8_count (wsV RX8 197 RX2 yX2_number wsX2_number) := goodIn_app (goodIn_of _ (by decide +kernel)) ggX8_count_X2_number
theorem dX8_count_0 : decode cX8_count 0 = .ok (.iload_n 1, 1) := by decide +kernel
theorem dX8_count_1 : decode cX8_count 1 = .ok (.iconst 0, 1) := by decide +kernel
theorem dX8_count_2 : decode cX8_count 2 = .ok (.bipush 31, 2) := by decide +kernel
theorem dX8_count_4 : decode cX8_count 4 = .ok (.invokestatic 45, 3) := by decide +kernel
theorem dX8_count_7 : decode cX8_count 7 = .ok (.ifCond .ne 6, 3) := by decide +kernel
theorem dX8_count_10 : decode cX8_count 10 = .ok (.bipush (-2), 2) := by decide +kernel
theorem dX8_count_12 : decode cX8_count 12 = .ok (.ireturn, 1) := by decide +kernel
theorem dX8_count_13 : decode cX8_count 13 = .ok (.iload_n 1, 1) := by decide +kernel
theorem dX8_count_14 : decode cX8_count 14 = .ok (.bipush 23, 2) := by decide +kernel
theorem dX8_count_16 : decode cX8_count 16 = .ok (.if_icmp .ne 13, 3) := by decide +kernel
theorem dX8_count_19 : decode cX8_count 19 = .ok (.aload_n 0, 1) := by decide +kernel
theorem dX8_count_20 : decode cX8_count 20 = .ok (.getfield 10, 3) := by decide +kernel
theorem dX8_count_23 : decode cX8_count 23 = .ok (.getfield 53, 3) := by decide +kernel
theorem dX8_count_26 : decode cX8_count 26 = .ok (.goto 11, 3) := by decide +kernel
theorem dX8_count_29 : decode cX8_count 29 = .ok (.aload_n 0, 1) := by decide +kernel
theorem dX8_count_30 : decode cX8_count 30 = .ok (.getfield 28, 3) := by decide +kernel
theorem dX8_count_33 : decode cX8_count 33 = .ok (.iload_n 1, 1) := by decide +kernel
theorem dX8_count_34 : decode cX8_count 34 = .ok (.invokevirtual 197, 3) := by decide +kernel
theorem dX8_count_37 : decode cX8_count 37 = .ok (.ireturn, 1) := by decide +kernel
set_option maxRecDepth 20000 in
theorem ggX8_digest_X8_count : GoodIn wsX8_digest wsX8_count := goodIn_r _ [13, 7, 8, 3, 14, 15, 12, 16, 17, 18, 19, 20, 21, 22, 23, 24, 25, 26, 27, 28, 29, 30, 31, 32, 33, 34, 35, 36, 37, 38, 39, 40, 41, 42, 43, 44, 45, 46, 47, 48, 49, 50, 51, 52, 53, 54, 55, 56, 57, 58, 59, 60, 61, 62, 63, 64, 65, 66, 67, 68, 69, 70, 71, 72, 73, 74, 75, 76, 77, 78, 79, 80, 81, 82, 83, 260, 261, 262, 263, 264, 265, 284, 285, 266, 267, 268, 269, 270, 271, 272, 273, 274, 275, 276, 277, 278, 279, 280, 281, 282, 283, 286, 287, 288, 289, 290] (by decide +kernel) (by decide +kernel)
set_option maxRecDepth 20000 in
theorem gX8_digest_X8_count : GoodIn wsX8_digest (wsV RX8 202 RX8 yX8_count wsX8_count) := goodIn_app (goodIn_of _ (by decide +kernel)) ggX8_digest_X8_count
set_option maxRecDepth 20000 in
theorem ggX8_digest_X1_size : GoodIn wsX8_digest wsX1_size := goodIn_r _ [51, 52, 53, 287, 288, 289, 290] (by decide +kernel) (by decide +kernel)
set_option maxRecDepth 20000 in
theorem gX8_digest_X1_size : GoodIn wsX8_digest (wsV RX8 71 RX1 yX1_size wsX1_size) := goodIn_app (goodIn_of _ (by decide +kernel)) ggX8_digest_X1_size
set_option maxRecDepth 20000 in
theorem ggX8_digest_X8_item : GoodIn wsX8_digest wsX8_item := goodIn_r _ [88, 3, 4, 14, 15, 12, 16, 84, 48, 49, 50, 51, 52, 53, 89, 60, 61, 62, 63, 90, 69, 70, 71, 72, 91, 65, 66, 67, 68, 260, 261, 262, 263, 264, 265, 266, 267, 268, 269, 270, 271, 272, 273, 274, 275, 276, 277, 278, 279, 280, 281, 287, 288, 289, 290] (by decide +kernel) (by decide +kernel)
set_option maxRecDepth 20000 in
theorem gX8_digest_X8_item : GoodIn wsX8_digest (wsV RX8 205 RX8 yX8_item wsX8_item) := goodIn_app (goodIn_of _ (by decide +kernel)) ggX8_digest_X8_item
set_option maxRecDepth 20000 in
theorem ggX8_digest_X8_pitch : GoodIn wsX8_digest wsX8_pitch := goodIn_r _ [95, 3, 96, 97, 98, 12, 99, 100, 260, 261, 262, 263, 264, 265, 266, 267, 268, 269, 270, 271, 272, 273, 274, 275, 276, 277, 278, 279, 280, 281] (by decide +kernel) (by decide +kernel)
set_option maxRecDepth 20000 in
theorem gX8_digest_X8_pitch : GoodIn wsX8_digest (wsV RX8 208 RX8 yX8_pitch wsX8_pitch) := goodIn_app (goodIn_of _ (by decide +kernel)) ggX8_digest_X8_pitch
set_option maxRecDepth 20000 in
theorem ggX8_digest_X8_station : GoodIn wsX8_digest wsX8_station := goodIn_r _ [104, 3, 5, 6, 14, 15, 12, 16, 105, 80, 81, 76, 82, 83, 260, 261, 262, 263, 264, 265, 266, 267, 268, 269, 270, 271, 272, 273, 274, 275, 276, 277, 278, 279, 280, 281, 282, 283] (by decide +kernel) (by decide +kernel)
set_option maxRecDepth 20000 in
theorem gX8_digest_X8_station : GoodIn wsX8_digest (wsV RX8 210 RX8 yX8_station wsX8_station) := goodIn_app (goodIn_of _ (by decide +kernel)) ggX8_digest_X8_station
set_option maxRecDepth 20000 in
theorem ggX8_digest_X8_latest : GoodIn wsX8_digest wsX8_latest := goodIn_r _ [109, 3, 110, 111, 14, 15, 12, 16, 112, 113, 114, 115, 116, 117, 118, 119, 120, 121, 122, 260, 261, 262, 263, 264, 265, 266, 267, 268, 269, 270, 271, 272, 273, 274, 275, 276, 277, 278, 279, 280, 281, 291, 292, 293, 294, 295, 296, 297, 298] (by decide +kernel) (by decide +kernel)
set_option maxRecDepth 20000 in
theorem gX8_digest_X8_latest : GoodIn wsX8_digest (wsV RX8 213 RX8 yX8_latest wsX8_latest) := goodIn_app (goodIn_of _ (by decide +kernel)) ggX8_digest_X8_latest
set_option maxRecDepth 20000 in
theorem ggX8_digest_X8_foretell : GoodIn wsX8_digest wsX8_foretell := goodIn_r _ [126, 127, 3, 128, 4, 129, 130, 12, 131, 14, 15, 16, 132, 133, 134, 20, 135, 23, 22, 25, 136, 40, 137, 24, 34, 35, 27, 28, 29, 30, 31, 32, 33, 138, 139, 140, 50, 141, 142, 143, 144, 145, 53, 52, 146, 147, 148, 149, 150, 151, 152, 153, 58, 48, 49, 51, 59, 60, 61, 62, 63, 68, 69, 70, 71, 72, 154, 155, 156, 157, 158, 159, 160, 44, 161, 46, 162, 42, 43, 45, 163, 164, 165, 76, 166, 78, 83, 79, 80, 81, 82, 167, 168, 169, 115, 170, 117, 118, 171, 121, 122, 120, 119, 172, 36, 37, 38, 39, 173, 174, 175, 176, 177, 178, 179, 180, 181, 182, 183, 184, 185, 186, 187, 188, 189, 190, 191, 192, 193, 194, 195, 41, 196, 197, 198, 199, 200, 201, 202, 203, 204, 47, 205, 206, 207, 208, 209, 210, 211, 212, 213, 214, 215, 216, 217, 218, 219, 220, 221, 222, 223, 224, 225, 226, 227, 228, 229, 230, 231, 232, 233, 234, 235, 236, 237, 238, 239, 240, 241, 242, 243, 244, 245, 246, 247, 248, 249, 250, 251, 252, 84, 260, 261, 262, 263, 264, 265, 266, 267, 268, 269, 270, 271, 272, 273, 274, 275, 276, 277, 278, 279, 280, 281, 287, 288, 289, 290, 286, 282, 283, 291, 292, 293, 294, 295, 296, 297, 298] (by decide +kernel) (by decide +kernel)
set_option maxRecDepth 20000 in
theorem gX8_digest_X8_foretell : GoodIn wsX8_digest (wsV RX8 216 RX8 yX8_foretell wsX8_foretell) := goodIn_app (goodIn_of _ (by decide +kernel)) ggX8_digest_X8_foretell
set_option maxRecDepth 20000 in
theorem ggX8_digest_X7_byteAt : GoodIn wsX8_digest wsX7_byteAt := goodIn_r _ [257, 258, 259, 284, 285] (by decide +kernel) (by decide +kernel)
set_option maxRecDepth 20000 in
theorem gX8_digest_X7_byteAt : GoodIn wsX8_digest (wsV RX8 220 RX7 yX7_byteAt wsX7_byteAt) := goodIn_app (goodIn_of _ (by decide +kernel)) ggX8_digest_X7_byteAt
theorem dX8_digest_0 : decode cX8_digest 0 = .ok (.ldc2_w 198, 3) := by decide +kernel
theorem dX8_digest_3 : decode cX8_digest 3 = .ok (.lstore_n 1, 1) := by decide +kernel
theorem dX8_digest_4 : decode cX8_digest 4 = .ok (.iconst 0, 1) := by decide +kernel
theorem dX8_digest_5 : decode cX8_digest 5 = .ok (.istore_n 3, 1) := by decide +kernel
theorem dX8_digest_6 : decode cX8_digest 6 = .ok (.iload_n 3, 1) := by decide +kernel
theorem dX8_digest_7 : decode cX8_digest 7 = .ok (.bipush 32, 2) := by decide +kernel
theorem dX8_digest_9 : decode cX8_digest 9 = .ok (.if_icmp .ge 22, 3) := by decide +kernel
theorem dX8_digest_12 : decode cX8_digest 12 = .ok (.ldc2_w 200, 3) := by decide +kernel
theorem dX8_digest_15 : decode cX8_digest 15 = .ok (.lload_n 1, 1) := by decide +kernel
theorem dX8_digest_16 : decode cX8_digest 16 = .ok (.lmul, 1) := by decide +kernel
theorem dX8_digest_17 : decode cX8_digest 17 = .ok (.aload_n 0, 1) := by decide +kernel
theorem dX8_digest_18 : decode cX8_digest 18 = .ok (.iload_n 3, 1) := by decide +kernel
theorem dX8_digest_19 : decode cX8_digest 19 = .ok (.invokevirtual 202, 3) := by decide +kernel
theorem dX8_digest_22 : decode cX8_digest 22 = .ok (.i2l, 1) := by decide +kernel
theorem dX8_digest_23 : decode cX8_digest 23 = .ok (.ladd, 1) := by decide +kernel
theorem dX8_digest_24 : decode cX8_digest 24 = .ok (.lstore_n 1, 1) := by decide +kernel
theorem dX8_digest_25 : decode cX8_digest 25 = .ok (.iinc 3 1, 3) := by decide +kernel
theorem dX8_digest_28 : decode cX8_digest 28 = .ok (.goto (-22), 3) := by decide +kernel
theorem dX8_digest_31 : decode cX8_digest 31 = .ok (.iconst 0, 1) := by decide +kernel
theorem dX8_digest_32 : decode cX8_digest 32 = .ok (.istore_n 3, 1) := by decide +kernel
theorem dX8_digest_33 : decode cX8_digest 33 = .ok (.iload_n 3, 1) := by decide +kernel
theorem dX8_digest_34 : decode cX8_digest 34 = .ok (.aload_n 0, 1) := by decide +kernel
theorem dX8_digest_35 : decode cX8_digest 35 = .ok (.getfield 28, 3) := by decide +kernel
theorem dX8_digest_38 : decode cX8_digest 38 = .ok (.getfield 67, 3) := by decide +kernel
theorem dX8_digest_41 : decode cX8_digest 41 = .ok (.invokevirtual 71, 3) := by decide +kernel
theorem dX8_digest_44 : decode cX8_digest 44 = .ok (.if_icmp .ge 39, 3) := by decide +kernel
theorem dX8_digest_47 : decode cX8_digest 47 = .ok (.iconst 0, 1) := by decide +kernel
theorem dX8_digest_48 : decode cX8_digest 48 = .ok (.istore 4, 2) := by decide +kernel
theorem dX8_digest_50 : decode cX8_digest 50 = .ok (.iload 4, 2) := by decide +kernel
theorem dX8_digest_52 : decode cX8_digest 52 = .ok (.iconst 2, 1) := by decide +kernel
theorem dX8_digest_53 : decode cX8_digest 53 = .ok (.if_icmp .gt 24, 3) := by decide +kernel
theorem dX8_digest_56 : decode cX8_digest 56 = .ok (.ldc2_w 200, 3) := by decide +kernel
theorem dX8_digest_59 : decode cX8_digest 59 = .ok (.lload_n 1, 1) := by decide +kernel
theorem dX8_digest_60 : decode cX8_digest 60 = .ok (.lmul, 1) := by decide +kernel
theorem dX8_digest_61 : decode cX8_digest 61 = .ok (.aload_n 0, 1) := by decide +kernel
theorem dX8_digest_62 : decode cX8_digest 62 = .ok (.iload_n 3, 1) := by decide +kernel
theorem dX8_digest_63 : decode cX8_digest 63 = .ok (.iload 4, 2) := by decide +kernel
theorem dX8_digest_65 : decode cX8_digest 65 = .ok (.invokevirtual 205, 3) := by decide +kernel
theorem dX8_digest_68 : decode cX8_digest 68 = .ok (.i2l, 1) := by decide +kernel
theorem dX8_digest_69 : decode cX8_digest 69 = .ok (.ladd, 1) := by decide +kernel
theorem dX8_digest_70 : decode cX8_digest 70 = .ok (.lstore_n 1, 1) := by decide +kernel
theorem dX8_digest_71 : decode cX8_digest 71 = .ok (.iinc 4 1, 3) := by decide +kernel
theorem dX8_digest_74 : decode cX8_digest 74 = .ok (.goto (-24), 3) := by decide +kernel
theorem dX8_digest_77 : decode cX8_digest 77 = .ok (.iinc 3 1, 3) := by decide +kernel
theorem dX8_digest_80 : decode cX8_digest 80 = .ok (.goto (-47), 3) := by decide +kernel
theorem dX8_digest_83 : decode cX8_digest 83 = .ok (.ldc2_w 200, 3) := by decide +kernel
theorem dX8_digest_86 : decode cX8_digest 86 = .ok (.lload_n 1, 1) := by decide +kernel
theorem dX8_digest_87 : decode cX8_digest 87 = .ok (.lmul, 1) := by decide +kernel
theorem dX8_digest_88 : decode cX8_digest 88 = .ok (.aload_n 0, 1) := by decide +kernel
theorem dX8_digest_89 : decode cX8_digest 89 = .ok (.invokevirtual 208, 3) := by decide +kernel
theorem dX8_digest_92 : decode cX8_digest 92 = .ok (.i2l, 1) := by decide +kernel
theorem dX8_digest_93 : decode cX8_digest 93 = .ok (.ladd, 1) := by decide +kernel
theorem dX8_digest_94 : decode cX8_digest 94 = .ok (.lstore_n 1, 1) := by decide +kernel
theorem dX8_digest_95 : decode cX8_digest 95 = .ok (.iconst 0, 1) := by decide +kernel
theorem dX8_digest_96 : decode cX8_digest 96 = .ok (.istore_n 3, 1) := by decide +kernel
theorem dX8_digest_97 : decode cX8_digest 97 = .ok (.iload_n 3, 1) := by decide +kernel
theorem dX8_digest_98 : decode cX8_digest 98 = .ok (.aload_n 0, 1) := by decide +kernel
theorem dX8_digest_99 : decode cX8_digest 99 = .ok (.getfield 28, 3) := by decide +kernel
theorem dX8_digest_102 : decode cX8_digest 102 = .ok (.getfield 151, 3) := by decide +kernel
theorem dX8_digest_105 : decode cX8_digest 105 = .ok (.getfield 155, 3) := by decide +kernel
theorem dX8_digest_108 : decode cX8_digest 108 = .ok (.if_icmp .ge 22, 3) := by decide +kernel
theorem dX8_digest_111 : decode cX8_digest 111 = .ok (.ldc2_w 200, 3) := by decide +kernel
theorem dX8_digest_114 : decode cX8_digest 114 = .ok (.lload_n 1, 1) := by decide +kernel
theorem dX8_digest_115 : decode cX8_digest 115 = .ok (.lmul, 1) := by decide +kernel
theorem dX8_digest_116 : decode cX8_digest 116 = .ok (.aload_n 0, 1) := by decide +kernel
theorem dX8_digest_117 : decode cX8_digest 117 = .ok (.iload_n 3, 1) := by decide +kernel
theorem dX8_digest_118 : decode cX8_digest 118 = .ok (.invokevirtual 210, 3) := by decide +kernel
theorem dX8_digest_121 : decode cX8_digest 121 = .ok (.i2l, 1) := by decide +kernel
theorem dX8_digest_122 : decode cX8_digest 122 = .ok (.ladd, 1) := by decide +kernel
theorem dX8_digest_123 : decode cX8_digest 123 = .ok (.lstore_n 1, 1) := by decide +kernel
theorem dX8_digest_124 : decode cX8_digest 124 = .ok (.iinc 3 1, 3) := by decide +kernel
theorem dX8_digest_127 : decode cX8_digest 127 = .ok (.goto (-30), 3) := by decide +kernel
theorem dX8_digest_130 : decode cX8_digest 130 = .ok (.iconst 0, 1) := by decide +kernel
theorem dX8_digest_131 : decode cX8_digest 131 = .ok (.istore_n 3, 1) := by decide +kernel
theorem dX8_digest_132 : decode cX8_digest 132 = .ok (.iload_n 3, 1) := by decide +kernel
theorem dX8_digest_133 : decode cX8_digest 133 = .ok (.iconst 5, 1) := by decide +kernel
theorem dX8_digest_134 : decode cX8_digest 134 = .ok (.if_icmp .gt 22, 3) := by decide +kernel
theorem dX8_digest_137 : decode cX8_digest 137 = .ok (.ldc2_w 200, 3) := by decide +kernel
theorem dX8_digest_140 : decode cX8_digest 140 = .ok (.lload_n 1, 1) := by decide +kernel
theorem dX8_digest_141 : decode cX8_digest 141 = .ok (.lmul, 1) := by decide +kernel
theorem dX8_digest_142 : decode cX8_digest 142 = .ok (.aload_n 0, 1) := by decide +kernel
theorem dX8_digest_143 : decode cX8_digest 143 = .ok (.iload_n 3, 1) := by decide +kernel
theorem dX8_digest_144 : decode cX8_digest 144 = .ok (.invokevirtual 213, 3) := by decide +kernel
theorem dX8_digest_147 : decode cX8_digest 147 = .ok (.i2l, 1) := by decide +kernel
theorem dX8_digest_148 : decode cX8_digest 148 = .ok (.ladd, 1) := by decide +kernel
theorem dX8_digest_149 : decode cX8_digest 149 = .ok (.lstore_n 1, 1) := by decide +kernel
theorem dX8_digest_150 : decode cX8_digest 150 = .ok (.iinc 3 1, 3) := by decide +kernel
theorem dX8_digest_153 : decode cX8_digest 153 = .ok (.goto (-21), 3) := by decide +kernel
theorem dX8_digest_156 : decode cX8_digest 156 = .ok (.iconst 0, 1) := by decide +kernel
theorem dX8_digest_157 : decode cX8_digest 157 = .ok (.istore_n 3, 1) := by decide +kernel
theorem dX8_digest_158 : decode cX8_digest 158 = .ok (.iload_n 3, 1) := by decide +kernel
theorem dX8_digest_159 : decode cX8_digest 159 = .ok (.iconst 3, 1) := by decide +kernel
theorem dX8_digest_160 : decode cX8_digest 160 = .ok (.if_icmp .gt 27, 3) := by decide +kernel
theorem dX8_digest_163 : decode cX8_digest 163 = .ok (.ldc2_w 200, 3) := by decide +kernel
theorem dX8_digest_166 : decode cX8_digest 166 = .ok (.lload_n 1, 1) := by decide +kernel
theorem dX8_digest_167 : decode cX8_digest 167 = .ok (.lmul, 1) := by decide +kernel
theorem dX8_digest_168 : decode cX8_digest 168 = .ok (.aload_n 0, 1) := by decide +kernel
theorem dX8_digest_169 : decode cX8_digest 169 = .ok (.bipush 20, 2) := by decide +kernel
theorem dX8_digest_171 : decode cX8_digest 171 = .ok (.sipush 300, 3) := by decide +kernel
theorem dX8_digest_174 : decode cX8_digest 174 = .ok (.iload_n 3, 1) := by decide +kernel
theorem dX8_digest_175 : decode cX8_digest 175 = .ok (.invokevirtual 216, 3) := by decide +kernel
theorem dX8_digest_178 : decode cX8_digest 178 = .ok (.i2l, 1) := by decide +kernel
theorem dX8_digest_179 : decode cX8_digest 179 = .ok (.ladd, 1) := by decide +kernel
theorem dX8_digest_180 : decode cX8_digest 180 = .ok (.lstore_n 1, 1) := by decide +kernel
theorem dX8_digest_181 : decode cX8_digest 181 = .ok (.iinc 3 1, 3) := by decide +kernel
theorem dX8_digest_184 : decode cX8_digest 184 = .ok (.goto (-26), 3) := by decide +kernel
theorem dX8_digest_187 : decode cX8_digest 187 = .ok (.iconst 0, 1) := by decide +kernel
theorem dX8_digest_188 : decode cX8_digest 188 = .ok (.istore_n 3, 1) := by decide +kernel
theorem dX8_digest_189 : decode cX8_digest 189 = .ok (.iload_n 3, 1) := by decide +kernel
theorem dX8_digest_190 : decode cX8_digest 190 = .ok (.aload_n 0, 1) := by decide +kernel
theorem dX8_digest_191 : decode cX8_digest 191 = .ok (.getfield 10, 3) := by decide +kernel
theorem dX8_digest_194 : decode cX8_digest 194 = .ok (.getfield 53, 3) := by decide +kernel
theorem dX8_digest_197 : decode cX8_digest 197 = .ok (.if_icmp .ge 25, 3) := by decide +kernel
theorem dX8_digest_200 : decode cX8_digest 200 = .ok (.ldc2_w 200, 3) := by decide +kernel
theorem dX8_digest_203 : decode cX8_digest 203 = .ok (.lload_n 1, 1) := by decide +kernel
theorem dX8_digest_204 : decode cX8_digest 204 = .ok (.lmul, 1) := by decide +kernel
theorem dX8_digest_205 : decode cX8_digest 205 = .ok (.aload_n 0, 1) := by decide +kernel
theorem dX8_digest_206 : decode cX8_digest 206 = .ok (.getfield 10, 3) := by decide +kernel
theorem dX8_digest_209 : decode cX8_digest 209 = .ok (.iload_n 3, 1) := by decide +kernel
theorem dX8_digest_210 : decode cX8_digest 210 = .ok (.invokevirtual 220, 3) := by decide +kernel
theorem dX8_digest_213 : decode cX8_digest 213 = .ok (.i2l, 1) := by decide +kernel
theorem dX8_digest_214 : decode cX8_digest 214 = .ok (.ladd, 1) := by decide +kernel
theorem dX8_digest_215 : decode cX8_digest 215 = .ok (.lstore_n 1, 1) := by decide +kernel
theorem dX8_digest_216 : decode cX8_digest 216 = .ok (.iinc 3 1, 3) := by decide +kernel
theorem dX8_digest_219 : decode cX8_digest 219 = .ok (.goto (-30), 3) := by decide +kernel
theorem dX8_digest_222 : decode cX8_digest 222 = .ok (.lload_n 1, 1) := by decide +kernel
theorem dX8_digest_223 : decode cX8_digest 223 = .ok (.lreturn, 1) := by decide +kernel
theorem dX8_isWithin_0 : decode cX8_isWithin 0 = .ok (.iload_n 0, 1) := by decide +kernel
theorem dX8_isWithin_1 : decode cX8_isWithin 1 = .ok (.iload_n 1, 1) := by decide +kernel
theorem dX8_isWithin_2 : decode cX8_isWithin 2 = .ok (.if_icmp .lt 12, 3) := by decide +kernel
theorem dX8_isWithin_5 : decode cX8_isWithin 5 = .ok (.iload_n 0, 1) := by decide +kernel
theorem dX8_isWithin_6 : decode cX8_isWithin 6 = .ok (.iload_n 2, 1) := by decide +kernel
theorem dX8_isWithin_7 : decode cX8_isWithin 7 = .ok (.if_icmp .gt 7, 3) := by decide +kernel
theorem dX8_isWithin_10 : decode cX8_isWithin 10 = .ok (.iconst 1, 1) := by decide +kernel
theorem dX8_isWithin_11 : decode cX8_isWithin 11 = .ok (.goto 4, 3) := by decide +kernel
theorem dX8_isWithin_14 : decode cX8_isWithin 14 = .ok (.iconst 0, 1) := by decide +kernel
theorem dX8_isWithin_15 : decode cX8_isWithin 15 = .ok (.ireturn, 1) := by decide +kernel
set_option maxRecDepth 20000 in
theorem ggX8_canCome_X8_isWithin : GoodIn wsX8_canCome wsX8_isWithin := goodIn_r _ [4] (by decide +kernel) (by decide +kernel)
set_option maxRecDepth 20000 in
theorem gX8_canCome_X8_isWithin : GoodIn wsX8_canCome (va_wsS RX8 45 yX8_isWithin wsX8_isWithin) := goodIn_app (goodIn_of _ (by decide +kernel)) ggX8_canCome_X8_isWithin
theorem dX8_canCome_0 : decode cX8_canCome 0 = .ok (.iload_n 0, 1) := by decide +kernel
theorem dX8_canCome_1 : decode cX8_canCome 1 = .ok (.iconst 1, 1) := by decide +kernel
theorem dX8_canCome_2 : decode cX8_canCome 2 = .ok (.bipush 100, 2) := by decide +kernel
theorem dX8_canCome_4 : decode cX8_canCome 4 = .ok (.invokestatic 45, 3) := by decide +kernel
theorem dX8_canCome_7 : decode cX8_canCome 7 = .ok (.ifCond .eq 18, 3) := by decide +kernel
theorem dX8_canCome_10 : decode cX8_canCome 10 = .ok (.iload_n 1, 1) := by decide +kernel
theorem dX8_canCome_11 : decode cX8_canCome 11 = .ok (.iconst 0, 1) := by decide +kernel
theorem dX8_canCome_12 : decode cX8_canCome 12 = .ok (.sipush 1000, 3) := by decide +kernel
theorem dX8_canCome_15 : decode cX8_canCome 15 = .ok (.invokestatic 45, 3) := by decide +kernel
theorem dX8_canCome_18 : decode cX8_canCome 18 = .ok (.ifCond .eq 7, 3) := by decide +kernel
theorem dX8_canCome_21 : decode cX8_canCome 21 = .ok (.iconst 1, 1) := by decide +kernel
theorem dX8_canCome_22 : decode cX8_canCome 22 = .ok (.goto 4, 3) := by decide +kernel
theorem dX8_canCome_25 : decode cX8_canCome 25 = .ok (.iconst 0, 1) := by decide +kernel
theorem dX8_canCome_26 : decode cX8_canCome 26 = .ok (.ireturn, 1) := by decide +kernel
theorem dX8_bitsOf_0 : decode cX8_bitsOf 0 = .ok (.fload_n 0, 1) := by decide +kernel
theorem dX8_bitsOf_1 : decode cX8_bitsOf 1 = .ok (.fstore_n 1, 1) := by decide +kernel
theorem dX8_bitsOf_2 : decode cX8_bitsOf 2 = .ok (.bipush 127, 2) := by decide +kernel
theorem dX8_bitsOf_4 : decode cX8_bitsOf 4 = .ok (.istore_n 2, 1) := by decide +kernel
theorem dX8_bitsOf_5 : decode cX8_bitsOf 5 = .ok (.fload_n 1, 1) := by decide +kernel
theorem dX8_bitsOf_6 : decode cX8_bitsOf 6 = .ok (.fconst 2, 1) := by decide +kernel
theorem dX8_bitsOf_7 : decode cX8_bitsOf 7 = .ok (.fcmp .l, 1) := by decide +kernel
theorem dX8_bitsOf_8 : decode cX8_bitsOf 8 = .ok (.ifCond .lt 20, 3) := by decide +kernel
theorem dX8_bitsOf_11 : decode cX8_bitsOf 11 = .ok (.iload_n 2, 1) := by decide +kernel
theorem dX8_bitsOf_12 : decode cX8_bitsOf 12 = .ok (.sipush 254, 3) := by decide +kernel
theorem dX8_bitsOf_15 : decode cX8_bitsOf 15 = .ok (.if_icmp .ge 13, 3) := by decide +kernel
theorem dX8_bitsOf_18 : decode cX8_bitsOf 18 = .ok (.fload_n 1, 1) := by decide +kernel
theorem dX8_bitsOf_19 : decode cX8_bitsOf 19 = .ok (.fconst 2, 1) := by decide +kernel
theorem dX8_bitsOf_20 : decode cX8_bitsOf 20 = .ok (.fdiv, 1) := by decide +kernel
theorem dX8_bitsOf_21 : decode cX8_bitsOf 21 = .ok (.fstore_n 1, 1) := by decide +kernel
theorem dX8_bitsOf_22 : decode cX8_bitsOf 22 = .ok (.iinc 2 1, 3) := by decide +kernel
theorem dX8_bitsOf_25 : decode cX8_bitsOf 25 = .ok (.goto (-20), 3) := by decide +kernel
theorem dX8_bitsOf_28 : decode cX8_bitsOf 28 = .ok (.ldc 223, 2) := by decide +kernel
theorem dX8_bitsOf_30 : decode cX8_bitsOf 30 = .ok (.istore_n 3, 1) := by decide +kernel
theorem dX8_bitsOf_31 : decode cX8_bitsOf 31 = .ok (.fload_n 1, 1) := by decide +kernel
theorem dX8_bitsOf_32 : decode cX8_bitsOf 32 = .ok (.iload_n 3, 1) := by decide +kernel
theorem dX8_bitsOf_33 : decode cX8_bitsOf 33 = .ok (.i2f, 1) := by decide +kernel
theorem dX8_bitsOf_34 : decode cX8_bitsOf 34 = .ok (.fmul, 1) := by decide +kernel
theorem dX8_bitsOf_35 : decode cX8_bitsOf 35 = .ok (.f2i, 1) := by decide +kernel
theorem dX8_bitsOf_36 : decode cX8_bitsOf 36 = .ok (.iload_n 3, 1) := by decide +kernel
theorem dX8_bitsOf_37 : decode cX8_bitsOf 37 = .ok (.isub, 1) := by decide +kernel
theorem dX8_bitsOf_38 : decode cX8_bitsOf 38 = .ok (.istore 4, 2) := by decide +kernel
theorem dX8_bitsOf_40 : decode cX8_bitsOf 40 = .ok (.iload_n 2, 1) := by decide +kernel
theorem dX8_bitsOf_41 : decode cX8_bitsOf 41 = .ok (.bipush 23, 2) := by decide +kernel
theorem dX8_bitsOf_43 : decode cX8_bitsOf 43 = .ok (.ishl, 1) := by decide +kernel
theorem dX8_bitsOf_44 : decode cX8_bitsOf 44 = .ok (.iload 4, 2) := by decide +kernel
theorem dX8_bitsOf_46 : decode cX8_bitsOf 46 = .ok (.iadd, 1) := by decide +kernel
theorem dX8_bitsOf_47 : decode cX8_bitsOf 47 = .ok (.ireturn, 1) := by decide +kernel
theorem dX8_slotOf_0 : decode cX8_slotOf 0 = .ok (.iload_n 1, 1) := by decide +kernel
theorem dX8_slotOf_1 : decode cX8_slotOf 1 = .ok (.ifCond .ne 10, 3) := by decide +kernel
theorem dX8_slotOf_4 : decode cX8_slotOf 4 = .ok (.aload_n 0, 1) := by decide +kernel
theorem dX8_slotOf_5 : decode cX8_slotOf 5 = .ok (.getfield 38, 3) := by decide +kernel
theorem dX8_slotOf_8 : decode cX8_slotOf 8 = .ok (.goto 7, 3) := by decide +kernel
theorem dX8_slotOf_11 : decode cX8_slotOf 11 = .ok (.aload_n 0, 1) := by decide +kernel
theorem dX8_slotOf_12 : decode cX8_slotOf 12 = .ok (.getfield 42, 3) := by decide +kernel
theorem dX8_slotOf_15 : decode cX8_slotOf 15 = .ok (.areturn, 1) := by decide +kernel
set_option maxRecDepth 20000 in
theorem ggX8_goodWith_X2_copyFrom : GoodIn wsX8_goodWith wsX2_copyFrom := goodIn_r _ [8, 9, 10, 11, 12, 13, 14, 15, 16, 17, 18, 19, 20, 21, 22, 23, 24, 25, 26, 27, 28, 29, 30, 31, 32, 33, 34, 35, 36, 37, 38, 39, 40, 41, 42, 43, 44, 45, 46, 47, 48, 49, 50, 51, 52, 53, 54, 55, 56, 57, 58, 59, 60, 61, 62, 63, 64, 65, 66, 67, 68, 69, 70, 71, 72, 73, 74, 75, 76, 77, 78, 79, 80, 81, 82, 83, 84, 85, 86, 87, 88, 89, 90, 91, 92, 93, 94, 95, 96, 97, 98, 7, 99, 192, 193, 194, 195, 196, 197, 198, 199, 200, 201, 202, 203, 204, 205, 206, 207, 208, 209, 210, 211, 212, 213, 214, 215, 216, 217, 218, 219, 220, 221, 222] (by decide +kernel) (by decide +kernel)
set_option maxRecDepth 20000 in
theorem gX8_goodWith_X2_copyFrom : GoodIn wsX8_goodWith (wsV RX8 163 RX2 yX2_copyFrom wsX2_copyFrom) := goodIn_app (goodIn_of _ (by decide +kernel)) ggX8_goodWith_X2_copyFrom
set_option maxRecDepth 20000 in
theorem ggX8_goodWith_X5_put : GoodIn wsX8_goodWith wsX5_put := goodIn_r _ [103, 67, 212] (by decide +kernel) (by decide +kernel)
set_option maxRecDepth 20000 in
theorem gX8_goodWith_X5_put : GoodIn wsX8_goodWith (wsV RX8 110 RX5 yX5_put wsX5_put) := goodIn_app (goodIn_of _ (by decide +kernel)) ggX8_goodWith_X5_put
set_option maxRecDepth 20000 in
theorem ggX8_goodWith_X2_serveAll : GoodIn wsX8_goodWith wsX2_serveAll := goodIn_r _ [107, 108, 109, 110, 7, 111, 15, 12, 112, 113, 14, 10, 114, 115, 11, 16, 17, 116, 117, 118, 119, 120, 121, 122, 123, 124, 125, 126, 127, 69, 70, 65, 71, 67, 128, 129, 130, 86, 131, 88, 89, 90, 91, 92, 93, 132, 133, 134, 135, 9, 136, 137, 45, 46, 28, 47, 35, 34, 138, 49, 50, 51, 52, 139, 54, 55, 56, 57, 140, 141, 142, 143, 144, 145, 146, 147, 148, 149, 150, 151, 152, 153, 154, 155, 156, 157, 158, 159, 160, 161, 162, 163, 164, 18, 13, 21, 22, 23, 24, 165, 166, 167, 168, 169, 170, 171, 172, 75, 173, 77, 78, 174, 175, 176, 177, 19, 20, 178, 179, 180, 181, 182, 183, 184, 192, 193, 194, 195, 196, 197, 198, 199, 200, 201, 202, 203, 204, 205, 206, 207, 215, 216, 217, 218, 219, 220, 221, 222, 212, 208, 209, 210, 211, 213, 214] (by decide +kernel) (by decide +kernel)
set_option maxRecDepth 20000 in
theorem gX8_goodWith_X2_serveAll : GoodIn wsX8_goodWith (wsV RX8 167 RX2 yX2_serveAll wsX2_serveAll) := goodIn_app (goodIn_of _ (by decide +kernel)) ggX8_goodWith_X2_serveAll
set_option maxRecDepth 20000 in
theorem ggX8_goodWith_X2_cameWith : GoodIn wsX8_goodWith wsX2_cameWith := goodIn_r _ [99, 13, 192, 193, 194, 195, 196, 197, 198, 199, 200, 201, 202, 203, 204, 205, 206, 207] (by decide +kernel) (by decide +kernel)
set_option maxRecDepth 20000 in
theorem gX8_goodWith_X2_cameWith : GoodIn wsX8_goodWith (wsV RX8 171 RX2 yX2_cameWith wsX2_cameWith) := goodIn_app (goodIn_of _ (by decide +kernel)) ggX8_goodWith_X2_cameWith
theorem dX8_goodWith_0 : decode cX8_goodWith 0 = .ok (.aload_n 0, 1) := by decide +kernel
theorem dX8_goodWith_1 : decode cX8_goodWith 1 = .ok (.getfield 32, 3) := by decide +kernel
theorem dX8_goodWith_4 : decode cX8_goodWith 4 = .ok (.aload_n 0, 1) := by decide +kernel
theorem dX8_goodWith_5 : decode cX8_goodWith 5 = .ok (.getfield 28, 3) := by decide +kernel
theorem dX8_goodWith_8 : decode cX8_goodWith 8 = .ok (.invokevirtual 163, 3) := by decide +kernel
theorem dX8_goodWith_11 : decode cX8_goodWith 11 = .ok (.aload_n 0, 1) := by decide +kernel
theorem dX8_goodWith_12 : decode cX8_goodWith 12 = .ok (.getfield 32, 3) := by decide +kernel
theorem dX8_goodWith_15 : decode cX8_goodWith 15 = .ok (.getfield 97, 3) := by decide +kernel
theorem dX8_goodWith_18 : decode cX8_goodWith 18 = .ok (.iload_n 1, 1) := by decide +kernel
theorem dX8_goodWith_19 : decode cX8_goodWith 19 = .ok (.iload_n 2, 1) := by decide +kernel
theorem dX8_goodWith_20 : decode cX8_goodWith 20 = .ok (.invokevirtual 110, 3) := by decide +kernel
theorem dX8_goodWith_23 : decode cX8_goodWith 23 = .ok (.aload_n 0, 1) := by decide +kernel
theorem dX8_goodWith_24 : decode cX8_goodWith 24 = .ok (.getfield 32, 3) := by decide +kernel
theorem dX8_goodWith_27 : decode cX8_goodWith 27 = .ok (.iload_n 3, 1) := by decide +kernel
theorem dX8_goodWith_28 : decode cX8_goodWith 28 = .ok (.iload 4, 2) := by decide +kernel
theorem dX8_goodWith_30 : decode cX8_goodWith 30 = .ok (.invokevirtual 167, 3) := by decide +kernel
theorem dX8_goodWith_33 : decode cX8_goodWith 33 = .ok (.pop, 1) := by decide +kernel
theorem dX8_goodWith_34 : decode cX8_goodWith 34 = .ok (.aload_n 0, 1) := by decide +kernel
theorem dX8_goodWith_35 : decode cX8_goodWith 35 = .ok (.getfield 32, 3) := by decide +kernel
theorem dX8_goodWith_38 : decode cX8_goodWith 38 = .ok (.iconst 0, 1) := by decide +kernel
theorem dX8_goodWith_39 : decode cX8_goodWith 39 = .ok (.invokevirtual 171, 3) := by decide +kernel
theorem dX8_goodWith_42 : decode cX8_goodWith 42 = .ok (.aload_n 0, 1) := by decide +kernel
theorem dX8_goodWith_43 : decode cX8_goodWith 43 = .ok (.getfield 28, 3) := by decide +kernel
theorem dX8_goodWith_46 : decode cX8_goodWith 46 = .ok (.iconst 0, 1) := by decide +kernel
theorem dX8_goodWith_47 : decode cX8_goodWith 47 = .ok (.invokevirtual 171, 3) := by decide +kernel
theorem dX8_goodWith_50 : decode cX8_goodWith 50 = .ok (.isub, 1) := by decide +kernel
theorem dX8_goodWith_51 : decode cX8_goodWith 51 = .ok (.ireturn, 1) := by decide +kernel
theorem dX9_init_0 : decode cX9_init 0 = .ok (.aload_n 0, 1) := by decide +kernel
theorem dX9_init_1 : decode cX9_init 1 = .ok (.invokespecial 1, 3) := by decide +kernel
theorem dX9_init_4 : decode cX9_init 4 = .ok (.aload_n 0, 1) := by decide +kernel
theorem dX9_init_5 : decode cX9_init 5 = .ok (.sipush 204, 3) := by decide +kernel
theorem dX9_init_8 : decode cX9_init 8 = .ok (.newarray .int, 2) := by decide +kernel
theorem dX9_init_10 : decode cX9_init 10 = .ok (.putfield 7, 3) := by decide +kernel
theorem dX9_init_13 : decode cX9_init 13 = .ok (.aload_n 0, 1) := by decide +kernel
theorem dX9_init_14 : decode cX9_init 14 = .ok (.sipush 204, 3) := by decide +kernel
theorem dX9_init_17 : decode cX9_init 17 = .ok (.newarray .int, 2) := by decide +kernel
theorem dX9_init_19 : decode cX9_init 19 = .ok (.putfield 13, 3) := by decide +kernel
theorem dX9_init_22 : decode cX9_init 22 = .ok (.aload_n 0, 1) := by decide +kernel
theorem dX9_init_23 : decode cX9_init 23 = .ok (.sipush 408, 3) := by decide +kernel
theorem dX9_init_26 : decode cX9_init 26 = .ok (.newarray .int, 2) := by decide +kernel
theorem dX9_init_28 : decode cX9_init 28 = .ok (.putfield 16, 3) := by decide +kernel
theorem dX9_init_31 : decode cX9_init 31 = .ok (.aload_n 0, 1) := by decide +kernel
theorem dX9_init_32 : decode cX9_init 32 = .ok (.iconst 2, 1) := by decide +kernel
theorem dX9_init_33 : decode cX9_init 33 = .ok (.newarray .boolean, 2) := by decide +kernel
theorem dX9_init_35 : decode cX9_init 35 = .ok (.putfield 19, 3) := by decide +kernel
theorem dX9_init_38 : decode cX9_init 38 = .ok (.aload_n 0, 1) := by decide +kernel
theorem dX9_init_39 : decode cX9_init 39 = .ok (.ldc 23, 2) := by decide +kernel
theorem dX9_init_41 : decode cX9_init 41 = .ok (.putfield 24, 3) := by decide +kernel
theorem dX9_init_44 : decode cX9_init 44 = .ok (.aload_n 0, 1) := by decide +kernel
theorem dX9_init_45 : decode cX9_init 45 = .ok (.bipush 80, 2) := by decide +kernel
theorem dX9_init_47 : decode cX9_init 47 = .ok (.newarray .int, 2) := by decide +kernel
theorem dX9_init_49 : decode cX9_init 49 = .ok (.putfield 28, 3) := by decide +kernel
theorem dX9_init_52 : decode cX9_init 52 = .ok (.aload_n 0, 1) := by decide +kernel
theorem dX9_init_53 : decode cX9_init 53 = .ok (.bipush 81, 2) := by decide +kernel
theorem dX9_init_55 : decode cX9_init 55 = .ok (.newarray .int, 2) := by decide +kernel
theorem dX9_init_57 : decode cX9_init 57 = .ok (.putfield 31, 3) := by decide +kernel
theorem dX9_init_60 : decode cX9_init 60 = .ok (.aload_n 0, 1) := by decide +kernel
theorem dX9_init_61 : decode cX9_init 61 = .ok (.bipush 81, 2) := by decide +kernel
theorem dX9_init_63 : decode cX9_init 63 = .ok (.newarray .int, 2) := by decide +kernel
theorem dX9_init_65 : decode cX9_init 65 = .ok (.putfield 34, 3) := by decide +kernel
theorem dX9_init_68 : decode cX9_init 68 = .ok (.aload_n 0, 1) := by decide +kernel
theorem dX9_init_69 : decode cX9_init 69 = .ok (.iconst 4, 1) := by decide +kernel
theorem dX9_init_70 : decode cX9_init 70 = .ok (.newarray .int, 2) := by decide +kernel
theorem dX9_init_72 : decode cX9_init 72 = .ok (.putfield 37, 3) := by decide +kernel
theorem dX9_init_75 : decode cX9_init 75 = .ok (.aload_n 0, 1) := by decide +kernel
theorem dX9_init_76 : decode cX9_init 76 = .ok (.iconst 4, 1) := by decide +kernel
theorem dX9_init_77 : decode cX9_init 77 = .ok (.newarray .int, 2) := by decide +kernel
theorem dX9_init_79 : decode cX9_init 79 = .ok (.putfield 40, 3) := by decide +kernel
theorem dX9_init_82 : decode cX9_init 82 = .ok (.aload_n 0, 1) := by decide +kernel
theorem dX9_init_83 : decode cX9_init 83 = .ok (.getfield 7, 3) := by decide +kernel
theorem dX9_init_86 : decode cX9_init 86 = .ok (.sipush 161, 3) := by decide +kernel
theorem dX9_init_89 : decode cX9_init 89 = .ok (.iconst 3, 1) := by decide +kernel
theorem dX9_init_90 : decode cX9_init 90 = .ok (.iastore, 1) := by decide +kernel
theorem dX9_init_91 : decode cX9_init 91 = .ok (.aload_n 0, 1) := by decide +kernel
theorem dX9_init_92 : decode cX9_init 92 = .ok (.getfield 7, 3) := by decide +kernel
theorem dX9_init_95 : decode cX9_init 95 = .ok (.sipush 162, 3) := by decide +kernel
theorem dX9_init_98 : decode cX9_init 98 = .ok (.iconst 5, 1) := by decide +kernel
theorem dX9_init_99 : decode cX9_init 99 = .ok (.iastore, 1) := by decide +kernel
theorem dX9_init_100 : decode cX9_init 100 = .ok (.aload_n 0, 1) := by decide +kernel
theorem dX9_init_101 : decode cX9_init 101 = .ok (.getfield 7, 3) := by decide +kernel
theorem dX9_init_104 : decode cX9_init 104 = .ok (.sipush 163, 3) := by decide +kernel
theorem dX9_init_107 : decode cX9_init 107 = .ok (.sipush 150, 3) := by decide +kernel
theorem dX9_init_110 : decode cX9_init 110 = .ok (.iastore, 1) := by decide +kernel
theorem dX9_init_111 : decode cX9_init 111 = .ok (.aload_n 0, 1) := by decide +kernel
theorem dX9_init_112 : decode cX9_init 112 = .ok (.getfield 7, 3) := by decide +kernel
theorem dX9_init_115 : decode cX9_init 115 = .ok (.sipush 164, 3) := by decide +kernel
theorem dX9_init_118 : decode cX9_init 118 = .ok (.sipush 400, 3) := by decide +kernel
theorem dX9_init_121 : decode cX9_init 121 = .ok (.iastore, 1) := by decide +kernel
theorem dX9_init_122 : decode cX9_init 122 = .ok (.aload_n 0, 1) := by decide +kernel
theorem dX9_init_123 : decode cX9_init 123 = .ok (.getfield 7, 3) := by decide +kernel
theorem dX9_init_126 : decode cX9_init 126 = .ok (.sipush 165, 3) := by decide +kernel
theorem dX9_init_129 : decode cX9_init 129 = .ok (.bipush 100, 2) := by decide +kernel
theorem dX9_init_131 : decode cX9_init 131 = .ok (.iastore, 1) := by decide +kernel
theorem dX9_init_132 : decode cX9_init 132 = .ok (.aload_n 0, 1) := by decide +kernel
theorem dX9_init_133 : decode cX9_init 133 = .ok (.getfield 7, 3) := by decide +kernel
theorem dX9_init_136 : decode cX9_init 136 = .ok (.sipush 166, 3) := by decide +kernel
theorem dX9_init_139 : decode cX9_init 139 = .ok (.bipush 10, 2) := by decide +kernel
theorem dX9_init_141 : decode cX9_init 141 = .ok (.iastore, 1) := by decide +kernel
theorem dX9_init_142 : decode cX9_init 142 = .ok (.aload_n 0, 1) := by decide +kernel
theorem dX9_init_143 : decode cX9_init 143 = .ok (.getfield 7, 3) := by decide +kernel
theorem dX9_init_146 : decode cX9_init 146 = .ok (.sipush 167, 3) := by decide +kernel
theorem dX9_init_149 : decode cX9_init 149 = .ok (.iconst 2, 1) := by decide +kernel
theorem dX9_init_150 : decode cX9_init 150 = .ok (.iastore, 1) := by decide +kernel
theorem dX9_init_151 : decode cX9_init 151 = .ok (.aload_n 0, 1) := by decide +kernel
theorem dX9_init_152 : decode cX9_init 152 = .ok (.getfield 7, 3) := by decide +kernel
theorem dX9_init_155 : decode cX9_init 155 = .ok (.sipush 168, 3) := by decide +kernel
theorem dX9_init_158 : decode cX9_init 158 = .ok (.iconst 3, 1) := by decide +kernel
theorem dX9_init_159 : decode cX9_init 159 = .ok (.iastore, 1) := by decide +kernel
theorem dX9_init_160 : decode cX9_init 160 = .ok (.aload_n 0, 1) := by decide +kernel
theorem dX9_init_161 : decode cX9_init 161 = .ok (.getfield 7, 3) := by decide +kernel
theorem dX9_init_164 : decode cX9_init 164 = .ok (.sipush 170, 3) := by decide +kernel
theorem dX9_init_167 : decode cX9_init 167 = .ok (.iconst 4, 1) := by decide +kernel
theorem dX9_init_168 : decode cX9_init 168 = .ok (.iastore, 1) := by decide +kernel
theorem dX9_init_169 : decode cX9_init 169 = .ok (.iconst 0, 1) := by decide +kernel
theorem dX9_init_170 : decode cX9_init 170 = .ok (.istore_n 1, 1) := by decide +kernel
theorem dX9_init_171 : decode cX9_init 171 = .ok (.iload_n 1, 1) := by decide +kernel
theorem dX9_init_172 : decode cX9_init 172 = .ok (.bipush 10, 2) := by decide +kernel
theorem dX9_init_174 : decode cX9_init 174 = .ok (.if_icmp .ge 20, 3) := by decide +kernel
theorem dX9_init_177 : decode cX9_init 177 = .ok (.aload_n 0, 1) := by decide +kernel
theorem dX9_init_178 : decode cX9_init 178 = .ok (.getfield 7, 3) := by decide +kernel
theorem dX9_init_181 : decode cX9_init 181 = .ok (.sipush 171, 3) := by decide +kernel
theorem dX9_init_184 : decode cX9_init 184 = .ok (.iload_n 1, 1) := by decide +kernel
theorem dX9_init_185 : decode cX9_init 185 = .ok (.iadd, 1) := by decide +kernel
theorem dX9_init_186 : decode cX9_init 186 = .ok (.iconst (-1), 1) := by decide +kernel
theorem dX9_init_187 : decode cX9_init 187 = .ok (.iastore, 1) := by decide +kernel
theorem dX9_init_188 : decode cX9_init 188 = .ok (.iinc 1 1, 3) := by decide +kernel
theorem dX9_init_191 : decode cX9_init 191 = .ok (.goto (-20), 3) := by decide +kernel
theorem dX9_init_194 : decode cX9_init 194 = .ok (.iconst 0, 1) := by decide +kernel
theorem dX9_init_195 : decode cX9_init 195 = .ok (.istore_n 1, 1) := by decide +kernel
theorem dX9_init_196 : decode cX9_init 196 = .ok (.iload_n 1, 1) := by decide +kernel
theorem dX9_init_197 : decode cX9_init 197 = .ok (.bipush 6, 2) := by decide +kernel
theorem dX9_init_199 : decode cX9_init 199 = .ok (.if_icmp .ge 20, 3) := by decide +kernel
theorem dX9_init_202 : decode cX9_init 202 = .ok (.aload_n 0, 1) := by decide +kernel
theorem dX9_init_203 : decode cX9_init 203 = .ok (.getfield 7, 3) := by decide +kernel
theorem dX9_init_206 : decode cX9_init 206 = .ok (.sipush 198, 3) := by decide +kernel
theorem dX9_init_209 : decode cX9_init 209 = .ok (.iload_n 1, 1) := by decide +kernel
theorem dX9_init_210 : decode cX9_init 210 = .ok (.iadd, 1) := by decide +kernel
theorem dX9_init_211 : decode cX9_init 211 = .ok (.iconst (-1), 1) := by decide +kernel
theorem dX9_init_212 : decode cX9_init 212 = .ok (.iastore, 1) := by decide +kernel
theorem dX9_init_213 : decode cX9_init 213 = .ok (.iinc 1 1, 3) := by decide +kernel
theorem dX9_init_216 : decode cX9_init 216 = .ok (.goto (-20), 3) := by decide +kernel
theorem dX9_init_219 : decode cX9_init 219 = .ok (.return_, 1) := by decide +kernel
theorem dX9_in_0 : decode cX9_in 0 = .ok (.iload_n 0, 1) := by decide +kernel
theorem dX9_in_1 : decode cX9_in 1 = .ok (.iload_n 1, 1) := by decide +kernel
theorem dX9_in_2 : decode cX9_in 2 = .ok (.if_icmp .lt 12, 3) := by decide +kernel
theorem dX9_in_5 : decode cX9_in 5 = .ok (.iload_n 0, 1) := by decide +kernel
theorem dX9_in_6 : decode cX9_in 6 = .ok (.iload_n 2, 1) := by decide +kernel
theorem dX9_in_7 : decode cX9_in 7 = .ok (.if_icmp .gt 7, 3) := by decide +kernel
theorem dX9_in_10 : decode cX9_in 10 = .ok (.iconst 1, 1) := by decide +kernel
theorem dX9_in_11 : decode cX9_in 11 = .ok (.goto 4, 3) := by decide +kernel
theorem dX9_in_14 : decode cX9_in 14 = .ok (.iconst 0, 1) := by decide +kernel
theorem dX9_in_15 : decode cX9_in 15 = .ok (.ireturn, 1) := by decide +kernel
set_option maxRecDepth 20000 in
theorem ggX9_type_X9_in : GoodIn wsX9_type wsX9_in := goodIn_r _ [6] (by decide +kernel) (by decide +kernel)
set_option maxRecDepth 20000 in
theorem gX9_type_X9_in : GoodIn wsX9_type (va_wsS RX9 43 yX9_in wsX9_in) := goodIn_app (goodIn_of _ (by decide +kernel)) ggX9_type_X9_in
theorem dX9_type_0 : decode cX9_type 0 = .ok (.iload_n 1, 1) := by decide +kernel
theorem dX9_type_1 : decode cX9_type 1 = .ok (.iconst 0, 1) := by decide +kernel
theorem dX9_type_2 : decode cX9_type 2 = .ok (.bipush 127, 2) := by decide +kernel
theorem dX9_type_4 : decode cX9_type 4 = .ok (.invokestatic 43, 3) := by decide +kernel
theorem dX9_type_7 : decode cX9_type 7 = .ok (.ifCond .ne 6, 3) := by decide +kernel
theorem dX9_type_10 : decode cX9_type 10 = .ok (.bipush (-2), 2) := by decide +kernel
theorem dX9_type_12 : decode cX9_type 12 = .ok (.ireturn, 1) := by decide +kernel
theorem dX9_type_13 : decode cX9_type 13 = .ok (.aload_n 0, 1) := by decide +kernel
theorem dX9_type_14 : decode cX9_type 14 = .ok (.getfield 47, 3) := by decide +kernel
theorem dX9_type_17 : decode cX9_type 17 = .ok (.bipush 80, 2) := by decide +kernel
theorem dX9_type_19 : decode cX9_type 19 = .ok (.if_icmp .ne 6, 3) := by decide +kernel
theorem dX9_type_22 : decode cX9_type 22 = .ok (.bipush (-4), 2) := by decide +kernel
theorem dX9_type_24 : decode cX9_type 24 = .ok (.ireturn, 1) := by decide +kernel
theorem dX9_type_25 : decode cX9_type 25 = .ok (.aload_n 0, 1) := by decide +kernel
theorem dX9_type_26 : decode cX9_type 26 = .ok (.getfield 28, 3) := by decide +kernel
theorem dX9_type_29 : decode cX9_type 29 = .ok (.aload_n 0, 1) := by decide +kernel
theorem dX9_type_30 : decode cX9_type 30 = .ok (.getfield 47, 3) := by decide +kernel
theorem dX9_type_33 : decode cX9_type 33 = .ok (.iload_n 1, 1) := by decide +kernel
theorem dX9_type_34 : decode cX9_type 34 = .ok (.iastore, 1) := by decide +kernel
theorem dX9_type_35 : decode cX9_type 35 = .ok (.aload_n 0, 1) := by decide +kernel
theorem dX9_type_36 : decode cX9_type 36 = .ok (.dup, 1) := by decide +kernel
theorem dX9_type_37 : decode cX9_type 37 = .ok (.getfield 47, 3) := by decide +kernel
theorem dX9_type_40 : decode cX9_type 40 = .ok (.iconst 1, 1) := by decide +kernel
theorem dX9_type_41 : decode cX9_type 41 = .ok (.iadd, 1) := by decide +kernel
theorem dX9_type_42 : decode cX9_type 42 = .ok (.putfield 47, 3) := by decide +kernel
theorem dX9_type_45 : decode cX9_type 45 = .ok (.aload_n 0, 1) := by decide +kernel
theorem dX9_type_46 : decode cX9_type 46 = .ok (.getfield 47, 3) := by decide +kernel
theorem dX9_type_49 : decode cX9_type 49 = .ok (.ireturn, 1) := by decide +kernel
theorem dX9_clear_0 : decode cX9_clear 0 = .ok (.aload_n 0, 1) := by decide +kernel
theorem dX9_clear_1 : decode cX9_clear 1 = .ok (.getfield 47, 3) := by decide +kernel
theorem dX9_clear_4 : decode cX9_clear 4 = .ok (.istore_n 1, 1) := by decide +kernel
theorem dX9_clear_5 : decode cX9_clear 5 = .ok (.aload_n 0, 1) := by decide +kernel
theorem dX9_clear_6 : decode cX9_clear 6 = .ok (.iconst 0, 1) := by decide +kernel
theorem dX9_clear_7 : decode cX9_clear 7 = .ok (.putfield 47, 3) := by decide +kernel
theorem dX9_clear_10 : decode cX9_clear 10 = .ok (.iload_n 1, 1) := by decide +kernel
theorem dX9_clear_11 : decode cX9_clear 11 = .ok (.ireturn, 1) := by decide +kernel
theorem dX9_next_0 : decode cX9_next 0 = .ok (.aload_n 0, 1) := by decide +kernel
theorem dX9_next_1 : decode cX9_next 1 = .ok (.getfield 51, 3) := by decide +kernel
theorem dX9_next_4 : decode cX9_next 4 = .ok (.aload_n 0, 1) := by decide +kernel
theorem dX9_next_5 : decode cX9_next 5 = .ok (.getfield 47, 3) := by decide +kernel
theorem dX9_next_8 : decode cX9_next 8 = .ok (.if_icmp .ge 15, 3) := by decide +kernel
theorem dX9_next_11 : decode cX9_next 11 = .ok (.aload_n 0, 1) := by decide +kernel
theorem dX9_next_12 : decode cX9_next 12 = .ok (.getfield 28, 3) := by decide +kernel
theorem dX9_next_15 : decode cX9_next 15 = .ok (.aload_n 0, 1) := by decide +kernel
theorem dX9_next_16 : decode cX9_next 16 = .ok (.getfield 51, 3) := by decide +kernel
theorem dX9_next_19 : decode cX9_next 19 = .ok (.iaload, 1) := by decide +kernel
theorem dX9_next_20 : decode cX9_next 20 = .ok (.goto 4, 3) := by decide +kernel
theorem dX9_next_23 : decode cX9_next 23 = .ok (.iconst (-1), 1) := by decide +kernel
theorem dX9_next_24 : decode cX9_next 24 = .ok (.ireturn, 1) := by decide +kernel
set_option maxRecDepth 20000 in
theorem ggX9_skips_X9_next : GoodIn wsX9_skips wsX9_next := goodIn_r _ [6, 1, 7, 8, 9, 10, 11, 12, 13, 14, 15, 16, 17, 18, 19, 20, 21, 22, 23, 24, 25, 26, 27, 28, 29, 30, 31, 32] (by decide +kernel) (by decide +kernel)
set_option maxRecDepth 20000 in
theorem gX9_skips_X9_next : GoodIn wsX9_skips (wsV RX9 54 RX9 yX9_next wsX9_next) := goodIn_app (goodIn_of _ (by decide +kernel)) ggX9_skips_X9_next
theorem dX9_skips_0 : decode cX9_skips 0 = .ok (.aload_n 0, 1) := by decide +kernel
theorem dX9_skips_1 : decode cX9_skips 1 = .ok (.invokevirtual 54, 3) := by decide +kernel
theorem dX9_skips_4 : decode cX9_skips 4 = .ok (.bipush 32, 2) := by decide +kernel
theorem dX9_skips_6 : decode cX9_skips 6 = .ok (.if_icmp .ne 16, 3) := by decide +kernel
theorem dX9_skips_9 : decode cX9_skips 9 = .ok (.aload_n 0, 1) := by decide +kernel
theorem dX9_skips_10 : decode cX9_skips 10 = .ok (.dup, 1) := by decide +kernel
theorem dX9_skips_11 : decode cX9_skips 11 = .ok (.getfield 51, 3) := by decide +kernel
theorem dX9_skips_14 : decode cX9_skips 14 = .ok (.iconst 1, 1) := by decide +kernel
theorem dX9_skips_15 : decode cX9_skips 15 = .ok (.iadd, 1) := by decide +kernel
theorem dX9_skips_16 : decode cX9_skips 16 = .ok (.putfield 51, 3) := by decide +kernel
theorem dX9_skips_19 : decode cX9_skips 19 = .ok (.goto (-19), 3) := by decide +kernel
theorem dX9_skips_22 : decode cX9_skips 22 = .ok (.return_, 1) := by decide +kernel
set_option maxRecDepth 20000 in
theorem ggX9_passes_X9_skips : GoodIn wsX9_passes wsX9_skips := goodIn_r _ [6, 1, 7, 8, 9, 5, 10, 11, 12, 13, 14, 15, 16, 17, 18, 19, 20, 21, 22, 23, 24, 25, 26, 27, 28, 29, 30, 31, 32, 33, 34, 35, 36] (by decide +kernel) (by decide +kernel)
set_option maxRecDepth 20000 in
theorem gX9_passes_X9_skips : GoodIn wsX9_passes (wsV RX9 58 RX9 yX9_skips wsX9_skips) := goodIn_app (goodIn_of _ (by decide +kernel)) ggX9_passes_X9_skips
theorem dX9_passes_0 : decode cX9_passes 0 = .ok (.aload_n 0, 1) := by decide +kernel
theorem dX9_passes_1 : decode cX9_passes 1 = .ok (.dup, 1) := by decide +kernel
theorem dX9_passes_2 : decode cX9_passes 2 = .ok (.getfield 51, 3) := by decide +kernel
theorem dX9_passes_5 : decode cX9_passes 5 = .ok (.iconst 1, 1) := by decide +kernel
theorem dX9_passes_6 : decode cX9_passes 6 = .ok (.iadd, 1) := by decide +kernel
theorem dX9_passes_7 : decode cX9_passes 7 = .ok (.putfield 51, 3) := by decide +kernel
theorem dX9_passes_10 : decode cX9_passes 10 = .ok (.aload_n 0, 1) := by decide +kernel
theorem dX9_passes_11 : decode cX9_passes 11 = .ok (.invokevirtual 58, 3) := by decide +kernel
theorem dX9_passes_14 : decode cX9_passes 14 = .ok (.return_, 1) := by decide +kernel
theorem dX9_fails_0 : decode cX9_fails 0 = .ok (.aload_n 0, 1) := by decide +kernel
theorem dX9_fails_1 : decode cX9_fails 1 = .ok (.aload_n 0, 1) := by decide +kernel
theorem dX9_fails_2 : decode cX9_fails 2 = .ok (.getfield 61, 3) := by decide +kernel
theorem dX9_fails_5 : decode cX9_fails 5 = .ok (.iconst (-1), 1) := by decide +kernel
theorem dX9_fails_6 : decode cX9_fails 6 = .ok (.if_icmp .ne 7, 3) := by decide +kernel
theorem dX9_fails_9 : decode cX9_fails 9 = .ok (.iload_n 1, 1) := by decide +kernel
theorem dX9_fails_10 : decode cX9_fails 10 = .ok (.goto 7, 3) := by decide +kernel
theorem dX9_fails_13 : decode cX9_fails 13 = .ok (.aload_n 0, 1) := by decide +kernel
theorem dX9_fails_14 : decode cX9_fails 14 = .ok (.getfield 61, 3) := by decide +kernel
theorem dX9_fails_17 : decode cX9_fails 17 = .ok (.putfield 61, 3) := by decide +kernel
theorem dX9_fails_20 : decode cX9_fails 20 = .ok (.return_, 1) := by decide +kernel
set_option maxRecDepth 20000 in
theorem ggX9_readsNumber_X9_next : GoodIn wsX9_readsNumber wsX9_next := goodIn_r _ [6, 1, 7, 8, 21, 22, 23, 24, 25, 26, 27, 28, 29, 30, 31, 32, 33, 34, 35, 36, 37, 38, 39, 40, 41, 42, 43, 44] (by decide +kernel) (by decide +kernel)
set_option maxRecDepth 20000 in
theorem gX9_readsNumber_X9_next : GoodIn wsX9_readsNumber (wsV RX9 54 RX9 yX9_next wsX9_next) := goodIn_app (goodIn_of _ (by decide +kernel)) ggX9_readsNumber_X9_next
set_option maxRecDepth 20000 in
theorem ggX9_readsNumber_X9_in : GoodIn wsX9_readsNumber wsX9_in := goodIn_r _ [11] (by decide +kernel) (by decide +kernel)
set_option maxRecDepth 20000 in
theorem gX9_readsNumber_X9_in : GoodIn wsX9_readsNumber (va_wsS RX9 43 yX9_in wsX9_in) := goodIn_app (goodIn_of _ (by decide +kernel)) ggX9_readsNumber_X9_in
set_option maxRecDepth 20000 in
theorem ggX9_readsNumber_X9_fails : GoodIn wsX9_readsNumber wsX9_fails := goodIn_r _ [15, 16, 21, 22, 23, 24, 25, 26, 27, 28, 29, 30, 31, 32, 33, 34, 35, 36, 37, 38, 39, 40, 41, 42, 43, 44] (by decide +kernel) (by decide +kernel)
set_option maxRecDepth 20000 in
theorem gX9_readsNumber_X9_fails : GoodIn wsX9_readsNumber (wsV RX9 64 RX9 yX9_fails wsX9_fails) := goodIn_app (goodIn_of _ (by decide +kernel)) ggX9_readsNumber_X9_fails
set_option maxRecDepth 20000 in
theorem ggX9_readsNumber_X9_skips : GoodIn wsX9_readsNumber wsX9_skips := goodIn_r _ [20, 1, 2, 3, 4, 5, 6, 7, 8, 21, 22, 23, 24, 25, 26, 27, 28, 29, 30, 31, 32, 33, 34, 35, 36, 37, 38, 39, 40, 41, 42, 43, 44] (by decide +kernel) (by decide +kernel)
set_option maxRecDepth 20000 in
theorem gX9_readsNumber_X9_skips : GoodIn wsX9_readsNumber (wsV RX9 58 RX9 yX9_skips wsX9_skips) := goodIn_app (goodIn_of _ (by decide +kernel)) ggX9_readsNumber_X9_skips
theorem dX9_readsNumber_0 : decode cX9_readsNumber 0 = .ok (.aload_n 0, 1) := by decide +kernel
theorem dX9_readsNumber_1 : decode cX9_readsNumber 1 = .ok (.getfield 51, 3) := by decide +kernel
theorem dX9_readsNumber_4 : decode cX9_readsNumber 4 = .ok (.istore_n 2, 1) := by decide +kernel
theorem dX9_readsNumber_5 : decode cX9_readsNumber 5 = .ok (.iconst 0, 1) := by decide +kernel
theorem dX9_readsNumber_6 : decode cX9_readsNumber 6 = .ok (.istore_n 3, 1) := by decide +kernel
theorem dX9_readsNumber_7 : decode cX9_readsNumber 7 = .ok (.aload_n 0, 1) := by decide +kernel
theorem dX9_readsNumber_8 : decode cX9_readsNumber 8 = .ok (.getfield 51, 3) := by decide +kernel
theorem dX9_readsNumber_11 : decode cX9_readsNumber 11 = .ok (.iload_n 2, 1) := by decide +kernel
theorem dX9_readsNumber_12 : decode cX9_readsNumber 12 = .ok (.iconst 2, 1) := by decide +kernel
theorem dX9_readsNumber_13 : decode cX9_readsNumber 13 = .ok (.iadd, 1) := by decide +kernel
theorem dX9_readsNumber_14 : decode cX9_readsNumber 14 = .ok (.if_icmp .ge 43, 3) := by decide +kernel
theorem dX9_readsNumber_17 : decode cX9_readsNumber 17 = .ok (.aload_n 0, 1) := by decide +kernel
theorem dX9_readsNumber_18 : decode cX9_readsNumber 18 = .ok (.invokevirtual 54, 3) := by decide +kernel
theorem dX9_readsNumber_21 : decode cX9_readsNumber 21 = .ok (.bipush 48, 2) := by decide +kernel
theorem dX9_readsNumber_23 : decode cX9_readsNumber 23 = .ok (.bipush 57, 2) := by decide +kernel
theorem dX9_readsNumber_25 : decode cX9_readsNumber 25 = .ok (.invokestatic 43, 3) := by decide +kernel
theorem dX9_readsNumber_28 : decode cX9_readsNumber 28 = .ok (.ifCond .eq 29, 3) := by decide +kernel
theorem dX9_readsNumber_31 : decode cX9_readsNumber 31 = .ok (.bipush 10, 2) := by decide +kernel
theorem dX9_readsNumber_33 : decode cX9_readsNumber 33 = .ok (.iload_n 3, 1) := by decide +kernel
theorem dX9_readsNumber_34 : decode cX9_readsNumber 34 = .ok (.imul, 1) := by decide +kernel
theorem dX9_readsNumber_35 : decode cX9_readsNumber 35 = .ok (.aload_n 0, 1) := by decide +kernel
theorem dX9_readsNumber_36 : decode cX9_readsNumber 36 = .ok (.invokevirtual 54, 3) := by decide +kernel
theorem dX9_readsNumber_39 : decode cX9_readsNumber 39 = .ok (.iadd, 1) := by decide +kernel
theorem dX9_readsNumber_40 : decode cX9_readsNumber 40 = .ok (.bipush 48, 2) := by decide +kernel
theorem dX9_readsNumber_42 : decode cX9_readsNumber 42 = .ok (.isub, 1) := by decide +kernel
theorem dX9_readsNumber_43 : decode cX9_readsNumber 43 = .ok (.istore_n 3, 1) := by decide +kernel
theorem dX9_readsNumber_44 : decode cX9_readsNumber 44 = .ok (.aload_n 0, 1) := by decide +kernel
theorem dX9_readsNumber_45 : decode cX9_readsNumber 45 = .ok (.dup, 1) := by decide +kernel
theorem dX9_readsNumber_46 : decode cX9_readsNumber 46 = .ok (.getfield 51, 3) := by decide +kernel
theorem dX9_readsNumber_49 : decode cX9_readsNumber 49 = .ok (.iconst 1, 1) := by decide +kernel
theorem dX9_readsNumber_50 : decode cX9_readsNumber 50 = .ok (.iadd, 1) := by decide +kernel
theorem dX9_readsNumber_51 : decode cX9_readsNumber 51 = .ok (.putfield 51, 3) := by decide +kernel
theorem dX9_readsNumber_54 : decode cX9_readsNumber 54 = .ok (.goto (-47), 3) := by decide +kernel
theorem dX9_readsNumber_57 : decode cX9_readsNumber 57 = .ok (.iload_n 3, 1) := by decide +kernel
theorem dX9_readsNumber_58 : decode cX9_readsNumber 58 = .ok (.iconst 1, 1) := by decide +kernel
theorem dX9_readsNumber_59 : decode cX9_readsNumber 59 = .ok (.iload_n 1, 1) := by decide +kernel
theorem dX9_readsNumber_60 : decode cX9_readsNumber 60 = .ok (.invokestatic 43, 3) := by decide +kernel
theorem dX9_readsNumber_63 : decode cX9_readsNumber 63 = .ok (.ifCond .ne 8, 3) := by decide +kernel
theorem dX9_readsNumber_66 : decode cX9_readsNumber 66 = .ok (.aload_n 0, 1) := by decide +kernel
theorem dX9_readsNumber_67 : decode cX9_readsNumber 67 = .ok (.iload_n 2, 1) := by decide +kernel
theorem dX9_readsNumber_68 : decode cX9_readsNumber 68 = .ok (.invokevirtual 64, 3) := by decide +kernel
theorem dX9_readsNumber_71 : decode cX9_readsNumber 71 = .ok (.aload_n 0, 1) := by decide +kernel
theorem dX9_readsNumber_72 : decode cX9_readsNumber 72 = .ok (.invokevirtual 54, 3) := by decide +kernel
theorem dX9_readsNumber_75 : decode cX9_readsNumber 75 = .ok (.bipush 48, 2) := by decide +kernel
theorem dX9_readsNumber_77 : decode cX9_readsNumber 77 = .ok (.bipush 57, 2) := by decide +kernel
theorem dX9_readsNumber_79 : decode cX9_readsNumber 79 = .ok (.invokestatic 43, 3) := by decide +kernel
theorem dX9_readsNumber_82 : decode cX9_readsNumber 82 = .ok (.ifCond .eq 11, 3) := by decide +kernel
theorem dX9_readsNumber_85 : decode cX9_readsNumber 85 = .ok (.aload_n 0, 1) := by decide +kernel
theorem dX9_readsNumber_86 : decode cX9_readsNumber 86 = .ok (.aload_n 0, 1) := by decide +kernel
theorem dX9_readsNumber_87 : decode cX9_readsNumber 87 = .ok (.getfield 51, 3) := by decide +kernel
theorem dX9_readsNumber_90 : decode cX9_readsNumber 90 = .ok (.invokevirtual 64, 3) := by decide +kernel
theorem dX9_readsNumber_93 : decode cX9_readsNumber 93 = .ok (.aload_n 0, 1) := by decide +kernel
theorem dX9_readsNumber_94 : decode cX9_readsNumber 94 = .ok (.invokevirtual 58, 3) := by decide +kernel
theorem dX9_readsNumber_97 : decode cX9_readsNumber 97 = .ok (.iload_n 3, 1) := by decide +kernel
theorem dX9_readsNumber_98 : decode cX9_readsNumber 98 = .ok (.ireturn, 1) := by decide +kernel
theorem dX9_repeats_0 : decode cX9_repeats 0 = .ok (.aload_n 0, 1) := by decide +kernel
theorem dX9_repeats_1 : decode cX9_repeats 1 = .ok (.getfield 68, 3) := by decide +kernel
theorem dX9_repeats_4 : decode cX9_repeats 4 = .ok (.iload_n 1, 1) := by decide +kernel
theorem dX9_repeats_5 : decode cX9_repeats 5 = .ok (.isub, 1) := by decide +kernel
theorem dX9_repeats_6 : decode cX9_repeats 6 = .ok (.istore_n 3, 1) := by decide +kernel
theorem dX9_repeats_7 : decode cX9_repeats 7 = .ok (.iload_n 3, 1) := by decide +kernel
theorem dX9_repeats_8 : decode cX9_repeats 8 = .ok (.istore 4, 2) := by decide +kernel
theorem dX9_repeats_10 : decode cX9_repeats 10 = .ok (.iload 4, 2) := by decide +kernel
theorem dX9_repeats_12 : decode cX9_repeats 12 = .ok (.iload_n 3, 1) := by decide +kernel
theorem dX9_repeats_13 : decode cX9_repeats 13 = .ok (.iload_n 2, 1) := by decide +kernel
theorem dX9_repeats_14 : decode cX9_repeats 14 = .ok (.imul, 1) := by decide +kernel
theorem dX9_repeats_15 : decode cX9_repeats 15 = .ok (.if_icmp .ge 68, 3) := by decide +kernel
theorem dX9_repeats_18 : decode cX9_repeats 18 = .ok (.aload_n 0, 1) := by decide +kernel
theorem dX9_repeats_19 : decode cX9_repeats 19 = .ok (.getfield 68, 3) := by decide +kernel
theorem dX9_repeats_22 : decode cX9_repeats 22 = .ok (.bipush 81, 2) := by decide +kernel
theorem dX9_repeats_24 : decode cX9_repeats 24 = .ok (.if_icmp .ge 59, 3) := by decide +kernel
theorem dX9_repeats_27 : decode cX9_repeats 27 = .ok (.aload_n 0, 1) := by decide +kernel
theorem dX9_repeats_28 : decode cX9_repeats 28 = .ok (.getfield 31, 3) := by decide +kernel
theorem dX9_repeats_31 : decode cX9_repeats 31 = .ok (.aload_n 0, 1) := by decide +kernel
theorem dX9_repeats_32 : decode cX9_repeats 32 = .ok (.getfield 68, 3) := by decide +kernel
theorem dX9_repeats_35 : decode cX9_repeats 35 = .ok (.aload_n 0, 1) := by decide +kernel
theorem dX9_repeats_36 : decode cX9_repeats 36 = .ok (.getfield 31, 3) := by decide +kernel
theorem dX9_repeats_39 : decode cX9_repeats 39 = .ok (.aload_n 0, 1) := by decide +kernel
theorem dX9_repeats_40 : decode cX9_repeats 40 = .ok (.getfield 68, 3) := by decide +kernel
theorem dX9_repeats_43 : decode cX9_repeats 43 = .ok (.iload_n 3, 1) := by decide +kernel
theorem dX9_repeats_44 : decode cX9_repeats 44 = .ok (.isub, 1) := by decide +kernel
theorem dX9_repeats_45 : decode cX9_repeats 45 = .ok (.iaload, 1) := by decide +kernel
theorem dX9_repeats_46 : decode cX9_repeats 46 = .ok (.iastore, 1) := by decide +kernel
theorem dX9_repeats_47 : decode cX9_repeats 47 = .ok (.aload_n 0, 1) := by decide +kernel
theorem dX9_repeats_48 : decode cX9_repeats 48 = .ok (.getfield 34, 3) := by decide +kernel
theorem dX9_repeats_51 : decode cX9_repeats 51 = .ok (.aload_n 0, 1) := by decide +kernel
theorem dX9_repeats_52 : decode cX9_repeats 52 = .ok (.getfield 68, 3) := by decide +kernel
theorem dX9_repeats_55 : decode cX9_repeats 55 = .ok (.aload_n 0, 1) := by decide +kernel
theorem dX9_repeats_56 : decode cX9_repeats 56 = .ok (.getfield 34, 3) := by decide +kernel
theorem dX9_repeats_59 : decode cX9_repeats 59 = .ok (.aload_n 0, 1) := by decide +kernel
theorem dX9_repeats_60 : decode cX9_repeats 60 = .ok (.getfield 68, 3) := by decide +kernel
theorem dX9_repeats_63 : decode cX9_repeats 63 = .ok (.iload_n 3, 1) := by decide +kernel
theorem dX9_repeats_64 : decode cX9_repeats 64 = .ok (.isub, 1) := by decide +kernel
theorem dX9_repeats_65 : decode cX9_repeats 65 = .ok (.iaload, 1) := by decide +kernel
theorem dX9_repeats_66 : decode cX9_repeats 66 = .ok (.iastore, 1) := by decide +kernel
theorem dX9_repeats_67 : decode cX9_repeats 67 = .ok (.aload_n 0, 1) := by decide +kernel
theorem dX9_repeats_68 : decode cX9_repeats 68 = .ok (.dup, 1) := by decide +kernel
theorem dX9_repeats_69 : decode cX9_repeats 69 = .ok (.getfield 68, 3) := by decide +kernel
theorem dX9_repeats_72 : decode cX9_repeats 72 = .ok (.iconst 1, 1) := by decide +kernel
theorem dX9_repeats_73 : decode cX9_repeats 73 = .ok (.iadd, 1) := by decide +kernel
theorem dX9_repeats_74 : decode cX9_repeats 74 = .ok (.putfield 68, 3) := by decide +kernel
theorem dX9_repeats_77 : decode cX9_repeats 77 = .ok (.iinc 4 1, 3) := by decide +kernel
theorem dX9_repeats_80 : decode cX9_repeats 80 = .ok (.goto (-70), 3) := by decide +kernel
theorem dX9_repeats_83 : decode cX9_repeats 83 = .ok (.return_, 1) := by decide +kernel
theorem dX9_kindOf_0 : decode cX9_kindOf 0 = .ok (.iload_n 0, 1) := by decide +kernel
theorem dX9_kindOf_1 : decode cX9_kindOf 1 = .ok (.bipush 108, 2) := by decide +kernel
theorem dX9_kindOf_3 : decode cX9_kindOf 3 = .ok (.if_icmp .ne 7, 3) := by decide +kernel
theorem dX9_kindOf_6 : decode cX9_kindOf 6 = .ok (.iconst 0, 1) := by decide +kernel
theorem dX9_kindOf_7 : decode cX9_kindOf 7 = .ok (.goto 34, 3) := by decide +kernel
theorem dX9_kindOf_10 : decode cX9_kindOf 10 = .ok (.iload_n 0, 1) := by decide +kernel
theorem dX9_kindOf_11 : decode cX9_kindOf 11 = .ok (.bipush 103, 2) := by decide +kernel
theorem dX9_kindOf_13 : decode cX9_kindOf 13 = .ok (.if_icmp .ne 7, 3) := by decide +kernel
theorem dX9_kindOf_16 : decode cX9_kindOf 16 = .ok (.iconst 1, 1) := by decide +kernel
theorem dX9_kindOf_17 : decode cX9_kindOf 17 = .ok (.goto 24, 3) := by decide +kernel
theorem dX9_kindOf_20 : decode cX9_kindOf 20 = .ok (.iload_n 0, 1) := by decide +kernel
theorem dX9_kindOf_21 : decode cX9_kindOf 21 = .ok (.bipush 98, 2) := by decide +kernel
theorem dX9_kindOf_23 : decode cX9_kindOf 23 = .ok (.if_icmp .ne 7, 3) := by decide +kernel
theorem dX9_kindOf_26 : decode cX9_kindOf 26 = .ok (.iconst 2, 1) := by decide +kernel
theorem dX9_kindOf_27 : decode cX9_kindOf 27 = .ok (.goto 14, 3) := by decide +kernel
theorem dX9_kindOf_30 : decode cX9_kindOf 30 = .ok (.iload_n 0, 1) := by decide +kernel
theorem dX9_kindOf_31 : decode cX9_kindOf 31 = .ok (.bipush 115, 2) := by decide +kernel
theorem dX9_kindOf_33 : decode cX9_kindOf 33 = .ok (.if_icmp .ne 7, 3) := by decide +kernel
theorem dX9_kindOf_36 : decode cX9_kindOf 36 = .ok (.iconst 3, 1) := by decide +kernel
theorem dX9_kindOf_37 : decode cX9_kindOf 37 = .ok (.goto 4, 3) := by decide +kernel
theorem dX9_kindOf_40 : decode cX9_kindOf 40 = .ok (.iconst (-1), 1) := by decide +kernel
theorem dX9_kindOf_41 : decode cX9_kindOf 41 = .ok (.ireturn, 1) := by decide +kernel
set_option maxRecDepth 20000 in
theorem ggX9_readsItem_X9_next : GoodIn wsX9_readsItem wsX9_next := goodIn_r _ [8, 9, 10, 11, 39, 40, 41, 42, 43, 44, 45, 46, 47, 48, 49, 50, 51, 52, 53, 54, 55, 56, 57, 58, 59, 60, 61, 62] (by decide +kernel) (by decide +kernel)
set_option maxRecDepth 20000 in
theorem gX9_readsItem_X9_next : GoodIn wsX9_readsItem (wsV RX9 54 RX9 yX9_next wsX9_next) := goodIn_app (goodIn_of _ (by decide +kernel)) ggX9_readsItem_X9_next
set_option maxRecDepth 20000 in
theorem ggX9_readsItem_X9_kindOf : GoodIn wsX9_readsItem wsX9_kindOf := goodIn_r _ [14] (by decide +kernel) (by decide +kernel)
set_option maxRecDepth 20000 in
theorem gX9_readsItem_X9_kindOf : GoodIn wsX9_readsItem (va_wsS RX9 71 yX9_kindOf wsX9_kindOf) := goodIn_app (goodIn_of _ (by decide +kernel)) ggX9_readsItem_X9_kindOf
set_option maxRecDepth 20000 in
theorem ggX9_readsItem_X9_passes : GoodIn wsX9_readsItem wsX9_passes := goodIn_r _ [18, 9, 19, 20, 21, 7, 22, 4, 5, 6, 8, 10, 11, 39, 40, 41, 42, 43, 44, 45, 46, 47, 48, 49, 50, 51, 52, 53, 54, 55, 56, 57, 58, 59, 60, 61, 62] (by decide +kernel) (by decide +kernel)
set_option maxRecDepth 20000 in
theorem gX9_readsItem_X9_passes : GoodIn wsX9_readsItem (wsV RX9 75 RX9 yX9_passes wsX9_passes) := goodIn_app (goodIn_of _ (by decide +kernel)) ggX9_readsItem_X9_passes
set_option maxRecDepth 20000 in
theorem ggX9_readsItem_X9_readsNumber : GoodIn wsX9_readsItem wsX9_readsNumber := goodIn_r _ [26, 9, 4, 5, 6, 7, 8, 10, 11, 27, 28, 29, 30, 31, 32, 33, 34, 19, 20, 21, 22, 39, 40, 41, 42, 43, 44, 45, 46, 47, 48, 49, 50, 51, 52, 53, 54, 55, 56, 57, 58, 59, 60, 61, 62] (by decide +kernel) (by decide +kernel)
set_option maxRecDepth 20000 in
theorem gX9_readsItem_X9_readsNumber : GoodIn wsX9_readsItem (wsV RX9 78 RX9 yX9_readsNumber wsX9_readsNumber) := goodIn_app (goodIn_of _ (by decide +kernel)) ggX9_readsItem_X9_readsNumber
set_option maxRecDepth 20000 in
theorem ggX9_readsItem_X9_repeats : GoodIn wsX9_readsItem wsX9_repeats := goodIn_r _ [38, 1, 2, 3, 39, 40, 41, 42, 43, 44, 45, 46, 47, 48, 49, 50, 51, 52, 53, 54, 55, 56, 57, 58, 59, 60, 61, 62] (by decide +kernel) (by decide +kernel)
set_option maxRecDepth 20000 in
theorem gX9_readsItem_X9_repeats : GoodIn wsX9_readsItem (wsV RX9 81 RX9 yX9_repeats wsX9_repeats) := goodIn_app (goodIn_of _ (by decide +kernel)) ggX9_readsItem_X9_repeats
theorem dX9_readsItem_0 : decode cX9_readsItem 0 = .ok (.aload_n 0, 1) := by decide +kernel
theorem dX9_readsItem_1 : decode cX9_readsItem 1 = .ok (.invokevirtual 54, 3) := by decide +kernel
theorem dX9_readsItem_4 : decode cX9_readsItem 4 = .ok (.invokestatic 71, 3) := by decide +kernel
theorem dX9_readsItem_7 : decode cX9_readsItem 7 = .ok (.istore_n 2, 1) := by decide +kernel
theorem dX9_readsItem_8 : decode cX9_readsItem 8 = .ok (.aload_n 0, 1) := by decide +kernel
theorem dX9_readsItem_9 : decode cX9_readsItem 9 = .ok (.invokevirtual 75, 3) := by decide +kernel
theorem dX9_readsItem_12 : decode cX9_readsItem 12 = .ok (.aload_n 0, 1) := by decide +kernel
theorem dX9_readsItem_13 : decode cX9_readsItem 13 = .ok (.iload_n 2, 1) := by decide +kernel
theorem dX9_readsItem_14 : decode cX9_readsItem 14 = .ok (.iconst 1, 1) := by decide +kernel
theorem dX9_readsItem_15 : decode cX9_readsItem 15 = .ok (.if_icmp .eq 8, 3) := by decide +kernel
theorem dX9_readsItem_18 : decode cX9_readsItem 18 = .ok (.iload_n 2, 1) := by decide +kernel
theorem dX9_readsItem_19 : decode cX9_readsItem 19 = .ok (.iconst 3, 1) := by decide +kernel
theorem dX9_readsItem_20 : decode cX9_readsItem 20 = .ok (.if_icmp .ne 8, 3) := by decide +kernel
theorem dX9_readsItem_23 : decode cX9_readsItem 23 = .ok (.bipush 30, 2) := by decide +kernel
theorem dX9_readsItem_25 : decode cX9_readsItem 25 = .ok (.goto 5, 3) := by decide +kernel
theorem dX9_readsItem_28 : decode cX9_readsItem 28 = .ok (.bipush 99, 2) := by decide +kernel
theorem dX9_readsItem_30 : decode cX9_readsItem 30 = .ok (.invokevirtual 78, 3) := by decide +kernel
theorem dX9_readsItem_33 : decode cX9_readsItem 33 = .ok (.istore_n 3, 1) := by decide +kernel
theorem dX9_readsItem_34 : decode cX9_readsItem 34 = .ok (.aload_n 0, 1) := by decide +kernel
theorem dX9_readsItem_35 : decode cX9_readsItem 35 = .ok (.getfield 68, 3) := by decide +kernel
theorem dX9_readsItem_38 : decode cX9_readsItem 38 = .ok (.istore 4, 2) := by decide +kernel
theorem dX9_readsItem_40 : decode cX9_readsItem 40 = .ok (.aload_n 0, 1) := by decide +kernel
theorem dX9_readsItem_41 : decode cX9_readsItem 41 = .ok (.getfield 68, 3) := by decide +kernel
theorem dX9_readsItem_44 : decode cX9_readsItem 44 = .ok (.bipush 81, 2) := by decide +kernel
theorem dX9_readsItem_46 : decode cX9_readsItem 46 = .ok (.if_icmp .ge 33, 3) := by decide +kernel
theorem dX9_readsItem_49 : decode cX9_readsItem 49 = .ok (.aload_n 0, 1) := by decide +kernel
theorem dX9_readsItem_50 : decode cX9_readsItem 50 = .ok (.getfield 31, 3) := by decide +kernel
theorem dX9_readsItem_53 : decode cX9_readsItem 53 = .ok (.aload_n 0, 1) := by decide +kernel
theorem dX9_readsItem_54 : decode cX9_readsItem 54 = .ok (.getfield 68, 3) := by decide +kernel
theorem dX9_readsItem_57 : decode cX9_readsItem 57 = .ok (.iload_n 2, 1) := by decide +kernel
theorem dX9_readsItem_58 : decode cX9_readsItem 58 = .ok (.iastore, 1) := by decide +kernel
theorem dX9_readsItem_59 : decode cX9_readsItem 59 = .ok (.aload_n 0, 1) := by decide +kernel
theorem dX9_readsItem_60 : decode cX9_readsItem 60 = .ok (.getfield 34, 3) := by decide +kernel
theorem dX9_readsItem_63 : decode cX9_readsItem 63 = .ok (.aload_n 0, 1) := by decide +kernel
theorem dX9_readsItem_64 : decode cX9_readsItem 64 = .ok (.getfield 68, 3) := by decide +kernel
theorem dX9_readsItem_67 : decode cX9_readsItem 67 = .ok (.iload_n 3, 1) := by decide +kernel
theorem dX9_readsItem_68 : decode cX9_readsItem 68 = .ok (.iastore, 1) := by decide +kernel
theorem dX9_readsItem_69 : decode cX9_readsItem 69 = .ok (.aload_n 0, 1) := by decide +kernel
theorem dX9_readsItem_70 : decode cX9_readsItem 70 = .ok (.dup, 1) := by decide +kernel
theorem dX9_readsItem_71 : decode cX9_readsItem 71 = .ok (.getfield 68, 3) := by decide +kernel
theorem dX9_readsItem_74 : decode cX9_readsItem 74 = .ok (.iconst 1, 1) := by decide +kernel
theorem dX9_readsItem_75 : decode cX9_readsItem 75 = .ok (.iadd, 1) := by decide +kernel
theorem dX9_readsItem_76 : decode cX9_readsItem 76 = .ok (.putfield 68, 3) := by decide +kernel
theorem dX9_readsItem_79 : decode cX9_readsItem 79 = .ok (.aload_n 0, 1) := by decide +kernel
theorem dX9_readsItem_80 : decode cX9_readsItem 80 = .ok (.getfield 68, 3) := by decide +kernel
theorem dX9_readsItem_83 : decode cX9_readsItem 83 = .ok (.iload 4, 2) := by decide +kernel
theorem dX9_readsItem_85 : decode cX9_readsItem 85 = .ok (.if_icmp .le 10, 3) := by decide +kernel
theorem dX9_readsItem_88 : decode cX9_readsItem 88 = .ok (.aload_n 0, 1) := by decide +kernel
theorem dX9_readsItem_89 : decode cX9_readsItem 89 = .ok (.iload 4, 2) := by decide +kernel
theorem dX9_readsItem_91 : decode cX9_readsItem 91 = .ok (.iload_n 1, 1) := by decide +kernel
theorem dX9_readsItem_92 : decode cX9_readsItem 92 = .ok (.invokevirtual 81, 3) := by decide +kernel
theorem dX9_readsItem_95 : decode cX9_readsItem 95 = .ok (.return_, 1) := by decide +kernel
set_option maxRecDepth 20000 in
theorem ggX9_readsPart_X9_next : GoodIn wsX9_readsPart wsX9_next := goodIn_r _ [11, 2, 12, 13, 46, 47, 48, 49, 50, 51, 52, 53, 54, 55, 56, 57, 58, 59, 60, 61, 62, 63, 64, 65, 66, 67, 68, 69] (by decide +kernel) (by decide +kernel)
set_option maxRecDepth 20000 in
theorem gX9_readsPart_X9_next : GoodIn wsX9_readsPart (wsV RX9 54 RX9 yX9_next wsX9_next) := goodIn_app (goodIn_of _ (by decide +kernel)) ggX9_readsPart_X9_next
set_option maxRecDepth 20000 in
theorem ggX9_readsPart_X9_in : GoodIn wsX9_readsPart wsX9_in := goodIn_r _ [16] (by decide +kernel) (by decide +kernel)
set_option maxRecDepth 20000 in
theorem gX9_readsPart_X9_in : GoodIn wsX9_readsPart (va_wsS RX9 43 yX9_in wsX9_in) := goodIn_app (goodIn_of _ (by decide +kernel)) ggX9_readsPart_X9_in
set_option maxRecDepth 20000 in
theorem ggX9_readsPart_X9_readsNumber : GoodIn wsX9_readsPart wsX9_readsNumber := goodIn_r _ [20, 2, 7, 8, 9, 10, 11, 12, 13, 14, 15, 16, 21, 22, 23, 24, 1, 25, 26, 27, 28, 46, 47, 48, 49, 50, 51, 52, 53, 54, 55, 56, 57, 58, 59, 60, 61, 62, 63, 64, 65, 66, 67, 68, 69] (by decide +kernel) (by decide +kernel)
set_option maxRecDepth 20000 in
theorem gX9_readsPart_X9_readsNumber : GoodIn wsX9_readsPart (wsV RX9 78 RX9 yX9_readsNumber wsX9_readsNumber) := goodIn_app (goodIn_of _ (by decide +kernel)) ggX9_readsPart_X9_readsNumber
set_option maxRecDepth 20000 in
theorem ggX9_readsPart_X9_passes : GoodIn wsX9_readsPart wsX9_passes := goodIn_r _ [32, 2, 25, 26, 27, 10, 28, 7, 8, 9, 11, 12, 13, 46, 47, 48, 49, 50, 51, 52, 53, 54, 55, 56, 57, 58, 59, 60, 61, 62, 63, 64, 65, 66, 67, 68, 69] (by decide +kernel) (by decide +kernel)
set_option maxRecDepth 20000 in
theorem gX9_readsPart_X9_passes : GoodIn wsX9_readsPart (wsV RX9 75 RX9 yX9_passes wsX9_passes) := goodIn_app (goodIn_of _ (by decide +kernel)) ggX9_readsPart_X9_passes
set_option maxRecDepth 20000 in
theorem ggX9_readsPart_X9_fails : GoodIn wsX9_readsPart wsX9_fails := goodIn_r _ [24, 1, 46, 47, 48, 49, 50, 51, 52, 53, 54, 55, 56, 57, 58, 59, 60, 61, 62, 63, 64, 65, 66, 67, 68, 69] (by decide +kernel) (by decide +kernel)
set_option maxRecDepth 20000 in
theorem gX9_readsPart_X9_fails : GoodIn wsX9_readsPart (wsV RX9 64 RX9 yX9_fails wsX9_fails) := goodIn_app (goodIn_of _ (by decide +kernel)) ggX9_readsPart_X9_fails
set_option maxRecDepth 20000 in
theorem ggX9_readsPart_X9_kindOf : GoodIn wsX9_readsPart wsX9_kindOf := goodIn_r _ [35] (by decide +kernel) (by decide +kernel)
set_option maxRecDepth 20000 in
theorem gX9_readsPart_X9_kindOf : GoodIn wsX9_readsPart (va_wsS RX9 71 yX9_kindOf wsX9_kindOf) := goodIn_app (goodIn_of _ (by decide +kernel)) ggX9_readsPart_X9_kindOf
set_option maxRecDepth 20000 in
theorem ggX9_readsPart_X9_readsItem : GoodIn wsX9_readsPart wsX9_readsItem := goodIn_r _ [39, 6, 40, 41, 7, 8, 9, 10, 11, 2, 12, 13, 33, 34, 35, 29, 30, 31, 32, 25, 26, 27, 28, 17, 18, 19, 20, 14, 15, 16, 21, 22, 23, 24, 1, 42, 43, 44, 45, 46, 47, 48, 49, 50, 51, 52, 53, 54, 55, 56, 57, 58, 59, 60, 61, 62, 63, 64, 65, 66, 67, 68, 69] (by decide +kernel) (by decide +kernel)
set_option maxRecDepth 20000 in
theorem gX9_readsPart_X9_readsItem : GoodIn wsX9_readsPart (wsV RX9 85 RX9 yX9_readsItem wsX9_readsItem) := goodIn_app (goodIn_of _ (by decide +kernel)) ggX9_readsPart_X9_readsItem
theorem dX9_readsPart_0 : decode cX9_readsPart 0 = .ok (.iconst 1, 1) := by decide +kernel
theorem dX9_readsPart_1 : decode cX9_readsPart 1 = .ok (.istore_n 1, 1) := by decide +kernel
theorem dX9_readsPart_2 : decode cX9_readsPart 2 = .ok (.aload_n 0, 1) := by decide +kernel
theorem dX9_readsPart_3 : decode cX9_readsPart 3 = .ok (.invokevirtual 54, 3) := by decide +kernel
theorem dX9_readsPart_6 : decode cX9_readsPart 6 = .ok (.bipush 48, 2) := by decide +kernel
theorem dX9_readsPart_8 : decode cX9_readsPart 8 = .ok (.bipush 57, 2) := by decide +kernel
theorem dX9_readsPart_10 : decode cX9_readsPart 10 = .ok (.invokestatic 43, 3) := by decide +kernel
theorem dX9_readsPart_13 : decode cX9_readsPart 13 = .ok (.ifCond .eq 42, 3) := by decide +kernel
theorem dX9_readsPart_16 : decode cX9_readsPart 16 = .ok (.aload_n 0, 1) := by decide +kernel
theorem dX9_readsPart_17 : decode cX9_readsPart 17 = .ok (.bipush 99, 2) := by decide +kernel
theorem dX9_readsPart_19 : decode cX9_readsPart 19 = .ok (.invokevirtual 78, 3) := by decide +kernel
theorem dX9_readsPart_22 : decode cX9_readsPart 22 = .ok (.istore_n 1, 1) := by decide +kernel
theorem dX9_readsPart_23 : decode cX9_readsPart 23 = .ok (.aload_n 0, 1) := by decide +kernel
theorem dX9_readsPart_24 : decode cX9_readsPart 24 = .ok (.getfield 61, 3) := by decide +kernel
theorem dX9_readsPart_27 : decode cX9_readsPart 27 = .ok (.iconst (-1), 1) := by decide +kernel
theorem dX9_readsPart_28 : decode cX9_readsPart 28 = .ok (.if_icmp .ne 19, 3) := by decide +kernel
theorem dX9_readsPart_31 : decode cX9_readsPart 31 = .ok (.aload_n 0, 1) := by decide +kernel
theorem dX9_readsPart_32 : decode cX9_readsPart 32 = .ok (.invokevirtual 54, 3) := by decide +kernel
theorem dX9_readsPart_35 : decode cX9_readsPart 35 = .ok (.bipush 42, 2) := by decide +kernel
theorem dX9_readsPart_37 : decode cX9_readsPart 37 = .ok (.if_icmp .ne 10, 3) := by decide +kernel
theorem dX9_readsPart_40 : decode cX9_readsPart 40 = .ok (.aload_n 0, 1) := by decide +kernel
theorem dX9_readsPart_41 : decode cX9_readsPart 41 = .ok (.invokevirtual 75, 3) := by decide +kernel
theorem dX9_readsPart_44 : decode cX9_readsPart 44 = .ok (.goto 11, 3) := by decide +kernel
theorem dX9_readsPart_47 : decode cX9_readsPart 47 = .ok (.aload_n 0, 1) := by decide +kernel
theorem dX9_readsPart_48 : decode cX9_readsPart 48 = .ok (.aload_n 0, 1) := by decide +kernel
theorem dX9_readsPart_49 : decode cX9_readsPart 49 = .ok (.getfield 51, 3) := by decide +kernel
theorem dX9_readsPart_52 : decode cX9_readsPart 52 = .ok (.invokevirtual 64, 3) := by decide +kernel
theorem dX9_readsPart_55 : decode cX9_readsPart 55 = .ok (.aload_n 0, 1) := by decide +kernel
theorem dX9_readsPart_56 : decode cX9_readsPart 56 = .ok (.getfield 61, 3) := by decide +kernel
theorem dX9_readsPart_59 : decode cX9_readsPart 59 = .ok (.iconst (-1), 1) := by decide +kernel
theorem dX9_readsPart_60 : decode cX9_readsPart 60 = .ok (.if_icmp .ne 22, 3) := by decide +kernel
theorem dX9_readsPart_63 : decode cX9_readsPart 63 = .ok (.aload_n 0, 1) := by decide +kernel
theorem dX9_readsPart_64 : decode cX9_readsPart 64 = .ok (.invokevirtual 54, 3) := by decide +kernel
theorem dX9_readsPart_67 : decode cX9_readsPart 67 = .ok (.invokestatic 71, 3) := by decide +kernel
theorem dX9_readsPart_70 : decode cX9_readsPart 70 = .ok (.iconst (-1), 1) := by decide +kernel
theorem dX9_readsPart_71 : decode cX9_readsPart 71 = .ok (.if_icmp .eq 11, 3) := by decide +kernel
theorem dX9_readsPart_74 : decode cX9_readsPart 74 = .ok (.aload_n 0, 1) := by decide +kernel
theorem dX9_readsPart_75 : decode cX9_readsPart 75 = .ok (.iload_n 1, 1) := by decide +kernel
theorem dX9_readsPart_76 : decode cX9_readsPart 76 = .ok (.invokevirtual 85, 3) := by decide +kernel
theorem dX9_readsPart_79 : decode cX9_readsPart 79 = .ok (.goto 76, 3) := by decide +kernel
theorem dX9_readsPart_82 : decode cX9_readsPart 82 = .ok (.aload_n 0, 1) := by decide +kernel
theorem dX9_readsPart_83 : decode cX9_readsPart 83 = .ok (.getfield 61, 3) := by decide +kernel
theorem dX9_readsPart_86 : decode cX9_readsPart 86 = .ok (.iconst (-1), 1) := by decide +kernel
theorem dX9_readsPart_87 : decode cX9_readsPart 87 = .ok (.if_icmp .ne 60, 3) := by decide +kernel
theorem dX9_readsPart_90 : decode cX9_readsPart 90 = .ok (.aload_n 0, 1) := by decide +kernel
theorem dX9_readsPart_91 : decode cX9_readsPart 91 = .ok (.invokevirtual 54, 3) := by decide +kernel
theorem dX9_readsPart_94 : decode cX9_readsPart 94 = .ok (.bipush 40, 2) := by decide +kernel
theorem dX9_readsPart_96 : decode cX9_readsPart 96 = .ok (.if_icmp .ne 51, 3) := by decide +kernel
theorem dX9_readsPart_99 : decode cX9_readsPart 99 = .ok (.aload_n 0, 1) := by decide +kernel
theorem dX9_readsPart_100 : decode cX9_readsPart 100 = .ok (.getfield 88, 3) := by decide +kernel
theorem dX9_readsPart_103 : decode cX9_readsPart 103 = .ok (.iconst 3, 1) := by decide +kernel
theorem dX9_readsPart_104 : decode cX9_readsPart 104 = .ok (.if_icmp .ge 43, 3) := by decide +kernel
theorem dX9_readsPart_107 : decode cX9_readsPart 107 = .ok (.aload_n 0, 1) := by decide +kernel
theorem dX9_readsPart_108 : decode cX9_readsPart 108 = .ok (.getfield 37, 3) := by decide +kernel
theorem dX9_readsPart_111 : decode cX9_readsPart 111 = .ok (.aload_n 0, 1) := by decide +kernel
theorem dX9_readsPart_112 : decode cX9_readsPart 112 = .ok (.getfield 88, 3) := by decide +kernel
theorem dX9_readsPart_115 : decode cX9_readsPart 115 = .ok (.iload_n 1, 1) := by decide +kernel
theorem dX9_readsPart_116 : decode cX9_readsPart 116 = .ok (.iastore, 1) := by decide +kernel
theorem dX9_readsPart_117 : decode cX9_readsPart 117 = .ok (.aload_n 0, 1) := by decide +kernel
theorem dX9_readsPart_118 : decode cX9_readsPart 118 = .ok (.getfield 40, 3) := by decide +kernel
theorem dX9_readsPart_121 : decode cX9_readsPart 121 = .ok (.aload_n 0, 1) := by decide +kernel
theorem dX9_readsPart_122 : decode cX9_readsPart 122 = .ok (.getfield 88, 3) := by decide +kernel
theorem dX9_readsPart_125 : decode cX9_readsPart 125 = .ok (.aload_n 0, 1) := by decide +kernel
theorem dX9_readsPart_126 : decode cX9_readsPart 126 = .ok (.getfield 68, 3) := by decide +kernel
theorem dX9_readsPart_129 : decode cX9_readsPart 129 = .ok (.iastore, 1) := by decide +kernel
theorem dX9_readsPart_130 : decode cX9_readsPart 130 = .ok (.aload_n 0, 1) := by decide +kernel
theorem dX9_readsPart_131 : decode cX9_readsPart 131 = .ok (.dup, 1) := by decide +kernel
theorem dX9_readsPart_132 : decode cX9_readsPart 132 = .ok (.getfield 88, 3) := by decide +kernel
theorem dX9_readsPart_135 : decode cX9_readsPart 135 = .ok (.iconst 1, 1) := by decide +kernel
theorem dX9_readsPart_136 : decode cX9_readsPart 136 = .ok (.iadd, 1) := by decide +kernel
theorem dX9_readsPart_137 : decode cX9_readsPart 137 = .ok (.putfield 88, 3) := by decide +kernel
theorem dX9_readsPart_140 : decode cX9_readsPart 140 = .ok (.aload_n 0, 1) := by decide +kernel
theorem dX9_readsPart_141 : decode cX9_readsPart 141 = .ok (.invokevirtual 75, 3) := by decide +kernel
theorem dX9_readsPart_144 : decode cX9_readsPart 144 = .ok (.goto 11, 3) := by decide +kernel
theorem dX9_readsPart_147 : decode cX9_readsPart 147 = .ok (.aload_n 0, 1) := by decide +kernel
theorem dX9_readsPart_148 : decode cX9_readsPart 148 = .ok (.aload_n 0, 1) := by decide +kernel
theorem dX9_readsPart_149 : decode cX9_readsPart 149 = .ok (.getfield 51, 3) := by decide +kernel
theorem dX9_readsPart_152 : decode cX9_readsPart 152 = .ok (.invokevirtual 64, 3) := by decide +kernel
theorem dX9_readsPart_155 : decode cX9_readsPart 155 = .ok (.return_, 1) := by decide +kernel
set_option maxRecDepth 20000 in
theorem ggX9_reads_X9_skips : GoodIn wsX9_reads wsX9_skips := goodIn_r _ [12, 1, 13, 14, 15, 11, 16, 5, 17, 50, 51, 52, 53, 54, 55, 56, 57, 58, 59, 60, 61, 62, 63, 64, 65, 66, 67, 68, 69, 70, 71, 72, 73] (by decide +kernel) (by decide +kernel)
set_option maxRecDepth 20000 in
theorem gX9_reads_X9_skips : GoodIn wsX9_reads (wsV RX9 58 RX9 yX9_skips wsX9_skips) := goodIn_app (goodIn_of _ (by decide +kernel)) ggX9_reads_X9_skips
set_option maxRecDepth 20000 in
theorem ggX9_reads_X9_next : GoodIn wsX9_reads wsX9_next := goodIn_r _ [16, 1, 5, 17, 50, 51, 52, 53, 54, 55, 56, 57, 58, 59, 60, 61, 62, 63, 64, 65, 66, 67, 68, 69, 70, 71, 72, 73] (by decide +kernel) (by decide +kernel)
set_option maxRecDepth 20000 in
theorem gX9_reads_X9_next : GoodIn wsX9_reads (wsV RX9 54 RX9 yX9_next wsX9_next) := goodIn_app (goodIn_of _ (by decide +kernel)) ggX9_reads_X9_next
set_option maxRecDepth 20000 in
theorem ggX9_reads_X9_passes : GoodIn wsX9_reads wsX9_passes := goodIn_r _ [21, 1, 8, 9, 10, 11, 12, 13, 14, 15, 16, 5, 17, 50, 51, 52, 53, 54, 55, 56, 57, 58, 59, 60, 61, 62, 63, 64, 65, 66, 67, 68, 69, 70, 71, 72, 73] (by decide +kernel) (by decide +kernel)
set_option maxRecDepth 20000 in
theorem gX9_reads_X9_passes : GoodIn wsX9_reads (wsV RX9 75 RX9 yX9_passes wsX9_passes) := goodIn_app (goodIn_of _ (by decide +kernel)) ggX9_reads_X9_passes
set_option maxRecDepth 20000 in
theorem ggX9_reads_X9_repeats : GoodIn wsX9_reads wsX9_repeats := goodIn_r _ [25, 3, 26, 27, 50, 51, 52, 53, 54, 55, 56, 57, 58, 59, 60, 61, 62, 63, 64, 65, 66, 67, 68, 69, 70, 71, 72, 73] (by decide +kernel) (by decide +kernel)
set_option maxRecDepth 20000 in
theorem gX9_reads_X9_repeats : GoodIn wsX9_reads (wsV RX9 81 RX9 yX9_repeats wsX9_repeats) := goodIn_app (goodIn_of _ (by decide +kernel)) ggX9_reads_X9_repeats
set_option maxRecDepth 20000 in
theorem ggX9_reads_X9_readsPart : GoodIn wsX9_reads wsX9_readsPart := goodIn_r _ [31, 2, 1, 4, 7, 6, 3, 13, 14, 15, 11, 16, 5, 17, 32, 33, 34, 35, 36, 37, 38, 39, 40, 41, 42, 8, 9, 10, 12, 18, 19, 20, 21, 43, 44, 45, 46, 47, 48, 49, 26, 27, 22, 23, 24, 25, 50, 51, 52, 53, 54, 55, 56, 57, 58, 59, 60, 61, 62, 63, 64, 65, 66, 67, 68, 69, 70, 71, 72, 73] (by decide +kernel) (by decide +kernel)
set_option maxRecDepth 20000 in
theorem gX9_reads_X9_readsPart : GoodIn wsX9_reads (wsV RX9 91 RX9 yX9_readsPart wsX9_readsPart) := goodIn_app (goodIn_of _ (by decide +kernel)) ggX9_reads_X9_readsPart
set_option maxRecDepth 20000 in
theorem ggX9_reads_X9_fails : GoodIn wsX9_reads wsX9_fails := goodIn_r _ [42, 2, 50, 51, 52, 53, 54, 55, 56, 57, 58, 59, 60, 61, 62, 63, 64, 65, 66, 67, 68, 69, 70, 71, 72, 73] (by decide +kernel) (by decide +kernel)
end
section
set_option maxRecDepth 20000 in
theorem gX9_reads_X9_fails : GoodIn wsX9_reads (wsV RX9 64 RX9 yX9_fails wsX9_fails) := goodIn_app (goodIn_of _ (by decide +kernel)) ggX9_reads_X9_fails
theorem dX9_reads_0 : decode cX9_reads 0 = .ok (.aload_n 0, 1) := by decide +kernel
theorem dX9_reads_1 : decode cX9_reads 1 = .ok (.iconst 0, 1) := by decide +kernel
theorem dX9_reads_2 : decode cX9_reads 2 = .ok (.putfield 51, 3) := by decide +kernel
theorem dX9_reads_5 : decode cX9_reads 5 = .ok (.aload_n 0, 1) := by decide +kernel
theorem dX9_reads_6 : decode cX9_reads 6 = .ok (.iconst (-1), 1) := by decide +kernel
theorem dX9_reads_7 : decode cX9_reads 7 = .ok (.putfield 61, 3) := by decide +kernel
theorem dX9_reads_10 : decode cX9_reads 10 = .ok (.aload_n 0, 1) := by decide +kernel
theorem dX9_reads_11 : decode cX9_reads 11 = .ok (.iconst 0, 1) := by decide +kernel
theorem dX9_reads_12 : decode cX9_reads 12 = .ok (.putfield 68, 3) := by decide +kernel
theorem dX9_reads_15 : decode cX9_reads 15 = .ok (.aload_n 0, 1) := by decide +kernel
theorem dX9_reads_16 : decode cX9_reads 16 = .ok (.iconst 0, 1) := by decide +kernel
theorem dX9_reads_17 : decode cX9_reads 17 = .ok (.putfield 88, 3) := by decide +kernel
theorem dX9_reads_20 : decode cX9_reads 20 = .ok (.aload_n 0, 1) := by decide +kernel
theorem dX9_reads_21 : decode cX9_reads 21 = .ok (.invokevirtual 58, 3) := by decide +kernel
theorem dX9_reads_24 : decode cX9_reads 24 = .ok (.aload_n 0, 1) := by decide +kernel
theorem dX9_reads_25 : decode cX9_reads 25 = .ok (.getfield 51, 3) := by decide +kernel
theorem dX9_reads_28 : decode cX9_reads 28 = .ok (.aload_n 0, 1) := by decide +kernel
theorem dX9_reads_29 : decode cX9_reads 29 = .ok (.getfield 47, 3) := by decide +kernel
theorem dX9_reads_32 : decode cX9_reads 32 = .ok (.if_icmp .ge 89, 3) := by decide +kernel
theorem dX9_reads_35 : decode cX9_reads 35 = .ok (.aload_n 0, 1) := by decide +kernel
theorem dX9_reads_36 : decode cX9_reads 36 = .ok (.getfield 61, 3) := by decide +kernel
theorem dX9_reads_39 : decode cX9_reads 39 = .ok (.iconst (-1), 1) := by decide +kernel
theorem dX9_reads_40 : decode cX9_reads 40 = .ok (.if_icmp .ne 81, 3) := by decide +kernel
theorem dX9_reads_43 : decode cX9_reads 43 = .ok (.aload_n 0, 1) := by decide +kernel
theorem dX9_reads_44 : decode cX9_reads 44 = .ok (.invokevirtual 54, 3) := by decide +kernel
theorem dX9_reads_47 : decode cX9_reads 47 = .ok (.bipush 41, 2) := by decide +kernel
theorem dX9_reads_49 : decode cX9_reads 49 = .ok (.if_icmp .ne 65, 3) := by decide +kernel
theorem dX9_reads_52 : decode cX9_reads 52 = .ok (.aload_n 0, 1) := by decide +kernel
theorem dX9_reads_53 : decode cX9_reads 53 = .ok (.getfield 88, 3) := by decide +kernel
theorem dX9_reads_56 : decode cX9_reads 56 = .ok (.ifCond .le 58, 3) := by decide +kernel
theorem dX9_reads_59 : decode cX9_reads 59 = .ok (.aload_n 0, 1) := by decide +kernel
theorem dX9_reads_60 : decode cX9_reads 60 = .ok (.dup, 1) := by decide +kernel
theorem dX9_reads_61 : decode cX9_reads 61 = .ok (.getfield 88, 3) := by decide +kernel
theorem dX9_reads_64 : decode cX9_reads 64 = .ok (.iconst 1, 1) := by decide +kernel
theorem dX9_reads_65 : decode cX9_reads 65 = .ok (.isub, 1) := by decide +kernel
theorem dX9_reads_66 : decode cX9_reads 66 = .ok (.putfield 88, 3) := by decide +kernel
theorem dX9_reads_69 : decode cX9_reads 69 = .ok (.aload_n 0, 1) := by decide +kernel
theorem dX9_reads_70 : decode cX9_reads 70 = .ok (.invokevirtual 75, 3) := by decide +kernel
theorem dX9_reads_73 : decode cX9_reads 73 = .ok (.aload_n 0, 1) := by decide +kernel
theorem dX9_reads_74 : decode cX9_reads 74 = .ok (.getfield 68, 3) := by decide +kernel
theorem dX9_reads_77 : decode cX9_reads 77 = .ok (.aload_n 0, 1) := by decide +kernel
theorem dX9_reads_78 : decode cX9_reads 78 = .ok (.getfield 40, 3) := by decide +kernel
theorem dX9_reads_81 : decode cX9_reads 81 = .ok (.aload_n 0, 1) := by decide +kernel
theorem dX9_reads_82 : decode cX9_reads 82 = .ok (.getfield 88, 3) := by decide +kernel
theorem dX9_reads_85 : decode cX9_reads 85 = .ok (.iaload, 1) := by decide +kernel
theorem dX9_reads_86 : decode cX9_reads 86 = .ok (.if_icmp .le (-62), 3) := by decide +kernel
theorem dX9_reads_89 : decode cX9_reads 89 = .ok (.aload_n 0, 1) := by decide +kernel
theorem dX9_reads_90 : decode cX9_reads 90 = .ok (.aload_n 0, 1) := by decide +kernel
theorem dX9_reads_91 : decode cX9_reads 91 = .ok (.getfield 40, 3) := by decide +kernel
theorem dX9_reads_94 : decode cX9_reads 94 = .ok (.aload_n 0, 1) := by decide +kernel
theorem dX9_reads_95 : decode cX9_reads 95 = .ok (.getfield 88, 3) := by decide +kernel
theorem dX9_reads_98 : decode cX9_reads 98 = .ok (.iaload, 1) := by decide +kernel
theorem dX9_reads_99 : decode cX9_reads 99 = .ok (.aload_n 0, 1) := by decide +kernel
theorem dX9_reads_100 : decode cX9_reads 100 = .ok (.getfield 37, 3) := by decide +kernel
theorem dX9_reads_103 : decode cX9_reads 103 = .ok (.aload_n 0, 1) := by decide +kernel
theorem dX9_reads_104 : decode cX9_reads 104 = .ok (.getfield 88, 3) := by decide +kernel
theorem dX9_reads_107 : decode cX9_reads 107 = .ok (.iaload, 1) := by decide +kernel
theorem dX9_reads_108 : decode cX9_reads 108 = .ok (.invokevirtual 81, 3) := by decide +kernel
theorem dX9_reads_111 : decode cX9_reads 111 = .ok (.goto (-87), 3) := by decide +kernel
theorem dX9_reads_114 : decode cX9_reads 114 = .ok (.aload_n 0, 1) := by decide +kernel
theorem dX9_reads_115 : decode cX9_reads 115 = .ok (.invokevirtual 91, 3) := by decide +kernel
theorem dX9_reads_118 : decode cX9_reads 118 = .ok (.goto (-94), 3) := by decide +kernel
theorem dX9_reads_121 : decode cX9_reads 121 = .ok (.aload_n 0, 1) := by decide +kernel
theorem dX9_reads_122 : decode cX9_reads 122 = .ok (.getfield 88, 3) := by decide +kernel
theorem dX9_reads_125 : decode cX9_reads 125 = .ok (.ifCond .le 11, 3) := by decide +kernel
theorem dX9_reads_128 : decode cX9_reads 128 = .ok (.aload_n 0, 1) := by decide +kernel
theorem dX9_reads_129 : decode cX9_reads 129 = .ok (.aload_n 0, 1) := by decide +kernel
theorem dX9_reads_130 : decode cX9_reads 130 = .ok (.getfield 47, 3) := by decide +kernel
theorem dX9_reads_133 : decode cX9_reads 133 = .ok (.invokevirtual 64, 3) := by decide +kernel
theorem dX9_reads_136 : decode cX9_reads 136 = .ok (.return_, 1) := by decide +kernel
set_option maxRecDepth 20000 in
theorem ggX9_load_X9_reads : GoodIn wsX9_load wsX9_reads := goodIn_r _ [10, 11, 1, 3, 12, 13, 14, 15, 16, 17, 18, 9, 19, 20, 21, 22, 23, 24, 25, 26, 27, 28, 29, 30, 31, 32, 4, 5, 33, 34, 35, 36, 37, 38, 39, 40, 41, 42, 43, 44, 45, 46, 47, 48, 49, 50, 51, 52, 53, 54, 55, 56, 57, 58, 59, 60, 61, 62, 63, 64, 65, 66, 67, 68, 69, 70, 71, 72, 73, 74, 75, 76, 77, 78] (by decide +kernel) (by decide +kernel)
set_option maxRecDepth 20000 in
theorem gX9_load_X9_reads : GoodIn wsX9_load (wsV RX9 94 RX9 yX9_reads wsX9_reads) := goodIn_app (goodIn_of _ (by decide +kernel)) ggX9_load_X9_reads
theorem dX9_load_0 : decode cX9_load 0 = .ok (.aload_n 0, 1) := by decide +kernel
theorem dX9_load_1 : decode cX9_load 1 = .ok (.invokevirtual 94, 3) := by decide +kernel
theorem dX9_load_4 : decode cX9_load 4 = .ok (.aload_n 0, 1) := by decide +kernel
theorem dX9_load_5 : decode cX9_load 5 = .ok (.getfield 61, 3) := by decide +kernel
theorem dX9_load_8 : decode cX9_load 8 = .ok (.iconst (-1), 1) := by decide +kernel
theorem dX9_load_9 : decode cX9_load 9 = .ok (.if_icmp .eq 12, 3) := by decide +kernel
theorem dX9_load_12 : decode cX9_load 12 = .ok (.sipush (-2000), 3) := by decide +kernel
theorem dX9_load_15 : decode cX9_load 15 = .ok (.aload_n 0, 1) := by decide +kernel
theorem dX9_load_16 : decode cX9_load 16 = .ok (.getfield 61, 3) := by decide +kernel
theorem dX9_load_19 : decode cX9_load 19 = .ok (.isub, 1) := by decide +kernel
theorem dX9_load_20 : decode cX9_load 20 = .ok (.ireturn, 1) := by decide +kernel
theorem dX9_load_21 : decode cX9_load 21 = .ok (.aload_n 0, 1) := by decide +kernel
theorem dX9_load_22 : decode cX9_load 22 = .ok (.getfield 7, 3) := by decide +kernel
theorem dX9_load_25 : decode cX9_load 25 = .ok (.iconst 0, 1) := by decide +kernel
theorem dX9_load_26 : decode cX9_load 26 = .ok (.iaload, 1) := by decide +kernel
theorem dX9_load_27 : decode cX9_load 27 = .ok (.aload_n 0, 1) := by decide +kernel
theorem dX9_load_28 : decode cX9_load 28 = .ok (.getfield 68, 3) := by decide +kernel
theorem dX9_load_31 : decode cX9_load 31 = .ok (.iadd, 1) := by decide +kernel
theorem dX9_load_32 : decode cX9_load 32 = .ok (.bipush 80, 2) := by decide +kernel
theorem dX9_load_34 : decode cX9_load 34 = .ok (.if_icmp .le 6, 3) := by decide +kernel
theorem dX9_load_37 : decode cX9_load 37 = .ok (.bipush (-4), 2) := by decide +kernel
theorem dX9_load_39 : decode cX9_load 39 = .ok (.ireturn, 1) := by decide +kernel
theorem dX9_load_40 : decode cX9_load 40 = .ok (.iconst 0, 1) := by decide +kernel
theorem dX9_load_41 : decode cX9_load 41 = .ok (.istore_n 1, 1) := by decide +kernel
theorem dX9_load_42 : decode cX9_load 42 = .ok (.iload_n 1, 1) := by decide +kernel
theorem dX9_load_43 : decode cX9_load 43 = .ok (.aload_n 0, 1) := by decide +kernel
theorem dX9_load_44 : decode cX9_load 44 = .ok (.getfield 68, 3) := by decide +kernel
theorem dX9_load_47 : decode cX9_load 47 = .ok (.if_icmp .ge 58, 3) := by decide +kernel
theorem dX9_load_50 : decode cX9_load 50 = .ok (.aload_n 0, 1) := by decide +kernel
theorem dX9_load_51 : decode cX9_load 51 = .ok (.getfield 7, 3) := by decide +kernel
theorem dX9_load_54 : decode cX9_load 54 = .ok (.iconst 1, 1) := by decide +kernel
theorem dX9_load_55 : decode cX9_load 55 = .ok (.aload_n 0, 1) := by decide +kernel
theorem dX9_load_56 : decode cX9_load 56 = .ok (.getfield 7, 3) := by decide +kernel
theorem dX9_load_59 : decode cX9_load 59 = .ok (.iconst 0, 1) := by decide +kernel
theorem dX9_load_60 : decode cX9_load 60 = .ok (.iaload, 1) := by decide +kernel
theorem dX9_load_61 : decode cX9_load 61 = .ok (.iadd, 1) := by decide +kernel
theorem dX9_load_62 : decode cX9_load 62 = .ok (.aload_n 0, 1) := by decide +kernel
theorem dX9_load_63 : decode cX9_load 63 = .ok (.getfield 31, 3) := by decide +kernel
theorem dX9_load_66 : decode cX9_load 66 = .ok (.iload_n 1, 1) := by decide +kernel
theorem dX9_load_67 : decode cX9_load 67 = .ok (.iaload, 1) := by decide +kernel
theorem dX9_load_68 : decode cX9_load 68 = .ok (.iastore, 1) := by decide +kernel
theorem dX9_load_69 : decode cX9_load 69 = .ok (.aload_n 0, 1) := by decide +kernel
theorem dX9_load_70 : decode cX9_load 70 = .ok (.getfield 7, 3) := by decide +kernel
theorem dX9_load_73 : decode cX9_load 73 = .ok (.bipush 81, 2) := by decide +kernel
theorem dX9_load_75 : decode cX9_load 75 = .ok (.aload_n 0, 1) := by decide +kernel
theorem dX9_load_76 : decode cX9_load 76 = .ok (.getfield 7, 3) := by decide +kernel
theorem dX9_load_79 : decode cX9_load 79 = .ok (.iconst 0, 1) := by decide +kernel
theorem dX9_load_80 : decode cX9_load 80 = .ok (.iaload, 1) := by decide +kernel
theorem dX9_load_81 : decode cX9_load 81 = .ok (.iadd, 1) := by decide +kernel
theorem dX9_load_82 : decode cX9_load 82 = .ok (.aload_n 0, 1) := by decide +kernel
theorem dX9_load_83 : decode cX9_load 83 = .ok (.getfield 34, 3) := by decide +kernel
theorem dX9_load_86 : decode cX9_load 86 = .ok (.iload_n 1, 1) := by decide +kernel
theorem dX9_load_87 : decode cX9_load 87 = .ok (.iaload, 1) := by decide +kernel
theorem dX9_load_88 : decode cX9_load 88 = .ok (.iastore, 1) := by decide +kernel
theorem dX9_load_89 : decode cX9_load 89 = .ok (.aload_n 0, 1) := by decide +kernel
theorem dX9_load_90 : decode cX9_load 90 = .ok (.getfield 7, 3) := by decide +kernel
theorem dX9_load_93 : decode cX9_load 93 = .ok (.iconst 0, 1) := by decide +kernel
theorem dX9_load_94 : decode cX9_load 94 = .ok (.dup2, 1) := by decide +kernel
theorem dX9_load_95 : decode cX9_load 95 = .ok (.iaload, 1) := by decide +kernel
theorem dX9_load_96 : decode cX9_load 96 = .ok (.iconst 1, 1) := by decide +kernel
theorem dX9_load_97 : decode cX9_load 97 = .ok (.iadd, 1) := by decide +kernel
theorem dX9_load_98 : decode cX9_load 98 = .ok (.iastore, 1) := by decide +kernel
theorem dX9_load_99 : decode cX9_load 99 = .ok (.iinc 1 1, 3) := by decide +kernel
theorem dX9_load_102 : decode cX9_load 102 = .ok (.goto (-60), 3) := by decide +kernel
theorem dX9_load_105 : decode cX9_load 105 = .ok (.aload_n 0, 1) := by decide +kernel
theorem dX9_load_106 : decode cX9_load 106 = .ok (.getfield 7, 3) := by decide +kernel
theorem dX9_load_109 : decode cX9_load 109 = .ok (.iconst 0, 1) := by decide +kernel
theorem dX9_load_110 : decode cX9_load 110 = .ok (.iaload, 1) := by decide +kernel
theorem dX9_load_111 : decode cX9_load 111 = .ok (.ireturn, 1) := by decide +kernel
theorem dX9_unload_0 : decode cX9_unload 0 = .ok (.aload_n 0, 1) := by decide +kernel
theorem dX9_unload_1 : decode cX9_unload 1 = .ok (.getfield 7, 3) := by decide +kernel
theorem dX9_unload_4 : decode cX9_unload 4 = .ok (.iconst 0, 1) := by decide +kernel
theorem dX9_unload_5 : decode cX9_unload 5 = .ok (.iaload, 1) := by decide +kernel
theorem dX9_unload_6 : decode cX9_unload 6 = .ok (.istore_n 1, 1) := by decide +kernel
theorem dX9_unload_7 : decode cX9_unload 7 = .ok (.aload_n 0, 1) := by decide +kernel
theorem dX9_unload_8 : decode cX9_unload 8 = .ok (.getfield 7, 3) := by decide +kernel
theorem dX9_unload_11 : decode cX9_unload 11 = .ok (.iconst 0, 1) := by decide +kernel
theorem dX9_unload_12 : decode cX9_unload 12 = .ok (.iconst 0, 1) := by decide +kernel
theorem dX9_unload_13 : decode cX9_unload 13 = .ok (.iastore, 1) := by decide +kernel
theorem dX9_unload_14 : decode cX9_unload 14 = .ok (.iload_n 1, 1) := by decide +kernel
theorem dX9_unload_15 : decode cX9_unload 15 = .ok (.ireturn, 1) := by decide +kernel
theorem dX9_lengthBefore_0 : decode cX9_lengthBefore 0 = .ok (.iconst 0, 1) := by decide +kernel
theorem dX9_lengthBefore_1 : decode cX9_lengthBefore 1 = .ok (.istore_n 2, 1) := by decide +kernel
theorem dX9_lengthBefore_2 : decode cX9_lengthBefore 2 = .ok (.iconst 0, 1) := by decide +kernel
theorem dX9_lengthBefore_3 : decode cX9_lengthBefore 3 = .ok (.istore_n 3, 1) := by decide +kernel
theorem dX9_lengthBefore_4 : decode cX9_lengthBefore 4 = .ok (.iload_n 3, 1) := by decide +kernel
theorem dX9_lengthBefore_5 : decode cX9_lengthBefore 5 = .ok (.iload_n 1, 1) := by decide +kernel
theorem dX9_lengthBefore_6 : decode cX9_lengthBefore 6 = .ok (.if_icmp .ge 21, 3) := by decide +kernel
theorem dX9_lengthBefore_9 : decode cX9_lengthBefore 9 = .ok (.iload_n 2, 1) := by decide +kernel
theorem dX9_lengthBefore_10 : decode cX9_lengthBefore 10 = .ok (.aload_n 0, 1) := by decide +kernel
theorem dX9_lengthBefore_11 : decode cX9_lengthBefore 11 = .ok (.getfield 7, 3) := by decide +kernel
theorem dX9_lengthBefore_14 : decode cX9_lengthBefore 14 = .ok (.bipush 81, 2) := by decide +kernel
theorem dX9_lengthBefore_16 : decode cX9_lengthBefore 16 = .ok (.iload_n 3, 1) := by decide +kernel
theorem dX9_lengthBefore_17 : decode cX9_lengthBefore 17 = .ok (.iadd, 1) := by decide +kernel
theorem dX9_lengthBefore_18 : decode cX9_lengthBefore 18 = .ok (.iaload, 1) := by decide +kernel
theorem dX9_lengthBefore_19 : decode cX9_lengthBefore 19 = .ok (.iadd, 1) := by decide +kernel
theorem dX9_lengthBefore_20 : decode cX9_lengthBefore 20 = .ok (.istore_n 2, 1) := by decide +kernel
theorem dX9_lengthBefore_21 : decode cX9_lengthBefore 21 = .ok (.iinc 3 1, 3) := by decide +kernel
theorem dX9_lengthBefore_24 : decode cX9_lengthBefore 24 = .ok (.goto (-20), 3) := by decide +kernel
theorem dX9_lengthBefore_27 : decode cX9_lengthBefore 27 = .ok (.iload_n 2, 1) := by decide +kernel
theorem dX9_lengthBefore_28 : decode cX9_lengthBefore 28 = .ok (.ireturn, 1) := by decide +kernel
set_option maxRecDepth 20000 in
theorem ggX9_item_X9_in : GoodIn wsX9_item wsX9_in := goodIn_r _ [5] (by decide +kernel) (by decide +kernel)
set_option maxRecDepth 20000 in
theorem gX9_item_X9_in : GoodIn wsX9_item (va_wsS RX9 43 yX9_in wsX9_in) := goodIn_app (goodIn_of _ (by decide +kernel)) ggX9_item_X9_in
set_option maxRecDepth 20000 in
theorem ggX9_item_X9_lengthBefore : GoodIn wsX9_item wsX9_lengthBefore := goodIn_r _ [9, 1, 10, 11, 12, 13, 14, 15, 16, 17, 18, 19, 20, 21, 22, 23, 24, 25, 26, 27, 28, 29, 30, 31, 32, 33] (by decide +kernel) (by decide +kernel)
set_option maxRecDepth 20000 in
theorem gX9_item_X9_lengthBefore : GoodIn wsX9_item (wsV RX9 97 RX9 yX9_lengthBefore wsX9_lengthBefore) := goodIn_app (goodIn_of _ (by decide +kernel)) ggX9_item_X9_lengthBefore
theorem dX9_item_0 : decode cX9_item 0 = .ok (.iload_n 1, 1) := by decide +kernel
theorem dX9_item_1 : decode cX9_item 1 = .ok (.ifCond .lt 12, 3) := by decide +kernel
theorem dX9_item_4 : decode cX9_item 4 = .ok (.iload_n 2, 1) := by decide +kernel
theorem dX9_item_5 : decode cX9_item 5 = .ok (.iconst 0, 1) := by decide +kernel
theorem dX9_item_6 : decode cX9_item 6 = .ok (.iconst 2, 1) := by decide +kernel
theorem dX9_item_7 : decode cX9_item 7 = .ok (.invokestatic 43, 3) := by decide +kernel
theorem dX9_item_10 : decode cX9_item 10 = .ok (.ifCond .ne 6, 3) := by decide +kernel
theorem dX9_item_13 : decode cX9_item 13 = .ok (.bipush (-2), 2) := by decide +kernel
theorem dX9_item_15 : decode cX9_item 15 = .ok (.ireturn, 1) := by decide +kernel
theorem dX9_item_16 : decode cX9_item 16 = .ok (.iload_n 1, 1) := by decide +kernel
theorem dX9_item_17 : decode cX9_item 17 = .ok (.aload_n 0, 1) := by decide +kernel
theorem dX9_item_18 : decode cX9_item 18 = .ok (.getfield 7, 3) := by decide +kernel
theorem dX9_item_21 : decode cX9_item 21 = .ok (.iconst 0, 1) := by decide +kernel
theorem dX9_item_22 : decode cX9_item 22 = .ok (.iaload, 1) := by decide +kernel
theorem dX9_item_23 : decode cX9_item 23 = .ok (.if_icmp .lt 5, 3) := by decide +kernel
theorem dX9_item_26 : decode cX9_item 26 = .ok (.iconst (-1), 1) := by decide +kernel
theorem dX9_item_27 : decode cX9_item 27 = .ok (.ireturn, 1) := by decide +kernel
theorem dX9_item_28 : decode cX9_item 28 = .ok (.iload_n 2, 1) := by decide +kernel
theorem dX9_item_29 : decode cX9_item 29 = .ok (.ifCond .ne 14, 3) := by decide +kernel
theorem dX9_item_32 : decode cX9_item 32 = .ok (.aload_n 0, 1) := by decide +kernel
theorem dX9_item_33 : decode cX9_item 33 = .ok (.getfield 7, 3) := by decide +kernel
theorem dX9_item_36 : decode cX9_item 36 = .ok (.iconst 1, 1) := by decide +kernel
theorem dX9_item_37 : decode cX9_item 37 = .ok (.iload_n 1, 1) := by decide +kernel
theorem dX9_item_38 : decode cX9_item 38 = .ok (.iadd, 1) := by decide +kernel
theorem dX9_item_39 : decode cX9_item 39 = .ok (.iaload, 1) := by decide +kernel
theorem dX9_item_40 : decode cX9_item 40 = .ok (.goto 25, 3) := by decide +kernel
theorem dX9_item_43 : decode cX9_item 43 = .ok (.iload_n 2, 1) := by decide +kernel
theorem dX9_item_44 : decode cX9_item 44 = .ok (.iconst 1, 1) := by decide +kernel
theorem dX9_item_45 : decode cX9_item 45 = .ok (.if_icmp .ne 15, 3) := by decide +kernel
theorem dX9_item_48 : decode cX9_item 48 = .ok (.aload_n 0, 1) := by decide +kernel
theorem dX9_item_49 : decode cX9_item 49 = .ok (.getfield 7, 3) := by decide +kernel
theorem dX9_item_52 : decode cX9_item 52 = .ok (.bipush 81, 2) := by decide +kernel
theorem dX9_item_54 : decode cX9_item 54 = .ok (.iload_n 1, 1) := by decide +kernel
theorem dX9_item_55 : decode cX9_item 55 = .ok (.iadd, 1) := by decide +kernel
theorem dX9_item_56 : decode cX9_item 56 = .ok (.iaload, 1) := by decide +kernel
theorem dX9_item_57 : decode cX9_item 57 = .ok (.goto 8, 3) := by decide +kernel
theorem dX9_item_60 : decode cX9_item 60 = .ok (.aload_n 0, 1) := by decide +kernel
theorem dX9_item_61 : decode cX9_item 61 = .ok (.iload_n 1, 1) := by decide +kernel
theorem dX9_item_62 : decode cX9_item 62 = .ok (.invokevirtual 97, 3) := by decide +kernel
theorem dX9_item_65 : decode cX9_item 65 = .ok (.ireturn, 1) := by decide +kernel
theorem dX9_least_0 : decode cX9_least 0 = .ok (.iload_n 0, 1) := by decide +kernel
theorem dX9_least_1 : decode cX9_least 1 = .ok (.iconst 2, 1) := by decide +kernel
theorem dX9_least_2 : decode cX9_least 2 = .ok (.if_icmp .ne 8, 3) := by decide +kernel
theorem dX9_least_5 : decode cX9_least 5 = .ok (.bipush 10, 2) := by decide +kernel
theorem dX9_least_7 : decode cX9_least 7 = .ok (.goto 24, 3) := by decide +kernel
theorem dX9_least_10 : decode cX9_least 10 = .ok (.iload_n 0, 1) := by decide +kernel
theorem dX9_least_11 : decode cX9_least 11 = .ok (.iconst 1, 1) := by decide +kernel
theorem dX9_least_12 : decode cX9_least 12 = .ok (.if_icmp .eq 14, 3) := by decide +kernel
theorem dX9_least_15 : decode cX9_least 15 = .ok (.iload_n 0, 1) := by decide +kernel
theorem dX9_least_16 : decode cX9_least 16 = .ok (.iconst 5, 1) := by decide +kernel
theorem dX9_least_17 : decode cX9_least 17 = .ok (.if_icmp .eq 9, 3) := by decide +kernel
theorem dX9_least_20 : decode cX9_least 20 = .ok (.iload_n 0, 1) := by decide +kernel
theorem dX9_least_21 : decode cX9_least 21 = .ok (.bipush 6, 2) := by decide +kernel
theorem dX9_least_23 : decode cX9_least 23 = .ok (.if_icmp .ne 7, 3) := by decide +kernel
theorem dX9_least_26 : decode cX9_least 26 = .ok (.iconst 0, 1) := by decide +kernel
theorem dX9_least_27 : decode cX9_least 27 = .ok (.goto 4, 3) := by decide +kernel
theorem dX9_least_30 : decode cX9_least 30 = .ok (.iconst 1, 1) := by decide +kernel
theorem dX9_least_31 : decode cX9_least 31 = .ok (.ireturn, 1) := by decide +kernel
theorem dX9_most_0 : decode cX9_most 0 = .ok (.iload_n 0, 1) := by decide +kernel
theorem dX9_most_1 : decode cX9_most 1 = .ok (.tableswitch 66 0 7 #[47, 50, 53, 66, 66, 57, 60, 63], 47) := by decide +kernel
theorem dX9_most_48 : decode cX9_most 48 = .ok (.bipush 30, 2) := by decide +kernel
theorem dX9_most_50 : decode cX9_most 50 = .ok (.ireturn, 1) := by decide +kernel
theorem dX9_most_51 : decode cX9_most 51 = .ok (.bipush 50, 2) := by decide +kernel
theorem dX9_most_53 : decode cX9_most 53 = .ok (.ireturn, 1) := by decide +kernel
theorem dX9_most_54 : decode cX9_most 54 = .ok (.sipush 400, 3) := by decide +kernel
theorem dX9_most_57 : decode cX9_most 57 = .ok (.ireturn, 1) := by decide +kernel
theorem dX9_most_58 : decode cX9_most 58 = .ok (.bipush 100, 2) := by decide +kernel
theorem dX9_most_60 : decode cX9_most 60 = .ok (.ireturn, 1) := by decide +kernel
theorem dX9_most_61 : decode cX9_most 61 = .ok (.bipush 8, 2) := by decide +kernel
theorem dX9_most_63 : decode cX9_most 63 = .ok (.ireturn, 1) := by decide +kernel
theorem dX9_most_64 : decode cX9_most 64 = .ok (.bipush 9, 2) := by decide +kernel
theorem dX9_most_66 : decode cX9_most 66 = .ok (.ireturn, 1) := by decide +kernel
theorem dX9_most_67 : decode cX9_most 67 = .ok (.sipush 1000, 3) := by decide +kernel
theorem dX9_most_70 : decode cX9_most 70 = .ok (.ireturn, 1) := by decide +kernel
set_option maxRecDepth 20000 in
theorem ggX9_set_X9_in : GoodIn wsX9_set wsX9_in := goodIn_r _ [5] (by decide +kernel) (by decide +kernel)
set_option maxRecDepth 20000 in
theorem gX9_set_X9_in : GoodIn wsX9_set (va_wsS RX9 43 yX9_in wsX9_in) := goodIn_app (goodIn_of _ (by decide +kernel)) ggX9_set_X9_in
set_option maxRecDepth 20000 in
theorem ggX9_set_X9_least : GoodIn wsX9_set wsX9_least := goodIn_r _ [8] (by decide +kernel) (by decide +kernel)
set_option maxRecDepth 20000 in
theorem gX9_set_X9_least : GoodIn wsX9_set (va_wsS RX9 100 yX9_least wsX9_least) := goodIn_app (goodIn_of _ (by decide +kernel)) ggX9_set_X9_least
set_option maxRecDepth 20000 in
theorem ggX9_set_X9_most : GoodIn wsX9_set wsX9_most := goodIn_r _ [11] (by decide +kernel) (by decide +kernel)
set_option maxRecDepth 20000 in
theorem gX9_set_X9_most : GoodIn wsX9_set (va_wsS RX9 103 yX9_most wsX9_most) := goodIn_app (goodIn_of _ (by decide +kernel)) ggX9_set_X9_most
theorem dX9_set_0 : decode cX9_set 0 = .ok (.iload_n 1, 1) := by decide +kernel
theorem dX9_set_1 : decode cX9_set 1 = .ok (.iconst 0, 1) := by decide +kernel
theorem dX9_set_2 : decode cX9_set 2 = .ok (.bipush 7, 2) := by decide +kernel
theorem dX9_set_4 : decode cX9_set 4 = .ok (.invokestatic 43, 3) := by decide +kernel
theorem dX9_set_7 : decode cX9_set 7 = .ok (.ifCond .eq 18, 3) := by decide +kernel
theorem dX9_set_10 : decode cX9_set 10 = .ok (.iload_n 2, 1) := by decide +kernel
theorem dX9_set_11 : decode cX9_set 11 = .ok (.iload_n 1, 1) := by decide +kernel
theorem dX9_set_12 : decode cX9_set 12 = .ok (.invokestatic 100, 3) := by decide +kernel
theorem dX9_set_15 : decode cX9_set 15 = .ok (.iload_n 1, 1) := by decide +kernel
theorem dX9_set_16 : decode cX9_set 16 = .ok (.invokestatic 103, 3) := by decide +kernel
theorem dX9_set_19 : decode cX9_set 19 = .ok (.invokestatic 43, 3) := by decide +kernel
theorem dX9_set_22 : decode cX9_set 22 = .ok (.ifCond .ne 6, 3) := by decide +kernel
theorem dX9_set_25 : decode cX9_set 25 = .ok (.bipush (-2), 2) := by decide +kernel
theorem dX9_set_27 : decode cX9_set 27 = .ok (.ireturn, 1) := by decide +kernel
theorem dX9_set_28 : decode cX9_set 28 = .ok (.aload_n 0, 1) := by decide +kernel
theorem dX9_set_29 : decode cX9_set 29 = .ok (.getfield 7, 3) := by decide +kernel
theorem dX9_set_32 : decode cX9_set 32 = .ok (.sipush 161, 3) := by decide +kernel
theorem dX9_set_35 : decode cX9_set 35 = .ok (.iload_n 1, 1) := by decide +kernel
theorem dX9_set_36 : decode cX9_set 36 = .ok (.iadd, 1) := by decide +kernel
theorem dX9_set_37 : decode cX9_set 37 = .ok (.iaload, 1) := by decide +kernel
theorem dX9_set_38 : decode cX9_set 38 = .ok (.istore_n 3, 1) := by decide +kernel
theorem dX9_set_39 : decode cX9_set 39 = .ok (.aload_n 0, 1) := by decide +kernel
theorem dX9_set_40 : decode cX9_set 40 = .ok (.getfield 7, 3) := by decide +kernel
theorem dX9_set_43 : decode cX9_set 43 = .ok (.sipush 161, 3) := by decide +kernel
theorem dX9_set_46 : decode cX9_set 46 = .ok (.iload_n 1, 1) := by decide +kernel
theorem dX9_set_47 : decode cX9_set 47 = .ok (.iadd, 1) := by decide +kernel
theorem dX9_set_48 : decode cX9_set 48 = .ok (.iload_n 2, 1) := by decide +kernel
theorem dX9_set_49 : decode cX9_set 49 = .ok (.iastore, 1) := by decide +kernel
theorem dX9_set_50 : decode cX9_set 50 = .ok (.iload_n 3, 1) := by decide +kernel
theorem dX9_set_51 : decode cX9_set 51 = .ok (.ireturn, 1) := by decide +kernel
set_option maxRecDepth 20000 in
theorem ggX9_setPitch_X9_in : GoodIn wsX9_setPitch wsX9_in := goodIn_r _ [6] (by decide +kernel) (by decide +kernel)
set_option maxRecDepth 20000 in
theorem gX9_setPitch_X9_in : GoodIn wsX9_setPitch (va_wsS RX9 43 yX9_in wsX9_in) := goodIn_app (goodIn_of _ (by decide +kernel)) ggX9_setPitch_X9_in
set_option maxRecDepth 20000 in
theorem ggX9_setPitch_Jxf58ca_floatToIntBits_5c35a : GoodIn wsX9_setPitch wsJxf58ca_floatToIntBits_5c35a := goodIn_r _ [10, 11, 12, 13, 14, 15, 16, 17, 9, 18] (by decide +kernel) (by decide +kernel)
set_option maxRecDepth 20000 in
theorem gX9_setPitch_Jxf58ca_floatToIntBits_5c35a : GoodIn wsX9_setPitch (va_wsS RX9 106 yJxf58ca_floatToIntBits_5c35a wsJxf58ca_floatToIntBits_5c35a) := goodIn_app (goodIn_of _ (by decide +kernel)) ggX9_setPitch_Jxf58ca_floatToIntBits_5c35a
theorem dX9_setPitch_0 : decode cX9_setPitch 0 = .ok (.iload_n 1, 1) := by decide +kernel
theorem dX9_setPitch_1 : decode cX9_setPitch 1 = .ok (.bipush 10, 2) := by decide +kernel
theorem dX9_setPitch_3 : decode cX9_setPitch 3 = .ok (.sipush 2000, 3) := by decide +kernel
theorem dX9_setPitch_6 : decode cX9_setPitch 6 = .ok (.invokestatic 43, 3) := by decide +kernel
theorem dX9_setPitch_9 : decode cX9_setPitch 9 = .ok (.ifCond .ne 6, 3) := by decide +kernel
theorem dX9_setPitch_12 : decode cX9_setPitch 12 = .ok (.bipush (-2), 2) := by decide +kernel
theorem dX9_setPitch_14 : decode cX9_setPitch 14 = .ok (.ireturn, 1) := by decide +kernel
theorem dX9_setPitch_15 : decode cX9_setPitch 15 = .ok (.aload_n 0, 1) := by decide +kernel
theorem dX9_setPitch_16 : decode cX9_setPitch 16 = .ok (.getfield 24, 3) := by decide +kernel
theorem dX9_setPitch_19 : decode cX9_setPitch 19 = .ok (.invokestatic 106, 3) := by decide +kernel
theorem dX9_setPitch_22 : decode cX9_setPitch 22 = .ok (.istore_n 2, 1) := by decide +kernel
theorem dX9_setPitch_23 : decode cX9_setPitch 23 = .ok (.aload_n 0, 1) := by decide +kernel
theorem dX9_setPitch_24 : decode cX9_setPitch 24 = .ok (.iload_n 1, 1) := by decide +kernel
theorem dX9_setPitch_25 : decode cX9_setPitch 25 = .ok (.i2f, 1) := by decide +kernel
theorem dX9_setPitch_26 : decode cX9_setPitch 26 = .ok (.ldc 112, 2) := by decide +kernel
theorem dX9_setPitch_28 : decode cX9_setPitch 28 = .ok (.fdiv, 1) := by decide +kernel
theorem dX9_setPitch_29 : decode cX9_setPitch 29 = .ok (.putfield 24, 3) := by decide +kernel
theorem dX9_setPitch_32 : decode cX9_setPitch 32 = .ok (.iload_n 2, 1) := by decide +kernel
theorem dX9_setPitch_33 : decode cX9_setPitch 33 = .ok (.ireturn, 1) := by decide +kernel
theorem dX9_leaves_0 : decode cX9_leaves 0 = .ok (.aload_n 0, 1) := by decide +kernel
theorem dX9_leaves_1 : decode cX9_leaves 1 = .ok (.getfield 7, 3) := by decide +kernel
theorem dX9_leaves_4 : decode cX9_leaves 4 = .ok (.sipush 182, 3) := by decide +kernel
theorem dX9_leaves_7 : decode cX9_leaves 7 = .ok (.dup2, 1) := by decide +kernel
theorem dX9_leaves_8 : decode cX9_leaves 8 = .ok (.iaload, 1) := by decide +kernel
theorem dX9_leaves_9 : decode cX9_leaves 9 = .ok (.iload_n 1, 1) := by decide +kernel
theorem dX9_leaves_10 : decode cX9_leaves 10 = .ok (.ifCond .ne 7, 3) := by decide +kernel
theorem dX9_leaves_13 : decode cX9_leaves 13 = .ok (.iconst 1, 1) := by decide +kernel
theorem dX9_leaves_14 : decode cX9_leaves 14 = .ok (.goto 4, 3) := by decide +kernel
theorem dX9_leaves_17 : decode cX9_leaves 17 = .ok (.iconst 0, 1) := by decide +kernel
theorem dX9_leaves_18 : decode cX9_leaves 18 = .ok (.iadd, 1) := by decide +kernel
theorem dX9_leaves_19 : decode cX9_leaves 19 = .ok (.iastore, 1) := by decide +kernel
theorem dX9_leaves_20 : decode cX9_leaves 20 = .ok (.aload_n 0, 1) := by decide +kernel
theorem dX9_leaves_21 : decode cX9_leaves 21 = .ok (.getfield 7, 3) := by decide +kernel
theorem dX9_leaves_24 : decode cX9_leaves 24 = .ok (.sipush 183, 3) := by decide +kernel
theorem dX9_leaves_27 : decode cX9_leaves 27 = .ok (.dup2, 1) := by decide +kernel
theorem dX9_leaves_28 : decode cX9_leaves 28 = .ok (.iaload, 1) := by decide +kernel
theorem dX9_leaves_29 : decode cX9_leaves 29 = .ok (.iload_n 1, 1) := by decide +kernel
theorem dX9_leaves_30 : decode cX9_leaves 30 = .ok (.ifCond .le 7, 3) := by decide +kernel
theorem dX9_leaves_33 : decode cX9_leaves 33 = .ok (.iconst 1, 1) := by decide +kernel
theorem dX9_leaves_34 : decode cX9_leaves 34 = .ok (.goto 4, 3) := by decide +kernel
theorem dX9_leaves_37 : decode cX9_leaves 37 = .ok (.iconst 0, 1) := by decide +kernel
theorem dX9_leaves_38 : decode cX9_leaves 38 = .ok (.iadd, 1) := by decide +kernel
theorem dX9_leaves_39 : decode cX9_leaves 39 = .ok (.iastore, 1) := by decide +kernel
theorem dX9_leaves_40 : decode cX9_leaves 40 = .ok (.return_, 1) := by decide +kernel
set_option maxRecDepth 20000 in
theorem ggX9_setRing_X9_in : GoodIn wsX9_setRing wsX9_in := goodIn_r _ [5] (by decide +kernel) (by decide +kernel)
set_option maxRecDepth 20000 in
theorem gX9_setRing_X9_in : GoodIn wsX9_setRing (va_wsS RX9 43 yX9_in wsX9_in) := goodIn_app (goodIn_of _ (by decide +kernel)) ggX9_setRing_X9_in
set_option maxRecDepth 20000 in
theorem ggX9_setRing_X9_leaves : GoodIn wsX9_setRing wsX9_leaves := goodIn_r _ [9, 1, 10, 11, 12, 13, 14, 15, 16, 17, 18, 19, 20, 21, 22, 23, 24, 25, 26, 27, 28, 29, 30, 31, 32, 33] (by decide +kernel) (by decide +kernel)
set_option maxRecDepth 20000 in
theorem gX9_setRing_X9_leaves : GoodIn wsX9_setRing (wsV RX9 113 RX9 yX9_leaves wsX9_leaves) := goodIn_app (goodIn_of _ (by decide +kernel)) ggX9_setRing_X9_leaves
theorem dX9_setRing_0 : decode cX9_setRing 0 = .ok (.iload_n 1, 1) := by decide +kernel
theorem dX9_setRing_1 : decode cX9_setRing 1 = .ok (.iconst 1, 1) := by decide +kernel
theorem dX9_setRing_2 : decode cX9_setRing 2 = .ok (.bipush 10, 2) := by decide +kernel
theorem dX9_setRing_4 : decode cX9_setRing 4 = .ok (.invokestatic 43, 3) := by decide +kernel
theorem dX9_setRing_7 : decode cX9_setRing 7 = .ok (.ifCond .ne 6, 3) := by decide +kernel
theorem dX9_setRing_10 : decode cX9_setRing 10 = .ok (.bipush (-2), 2) := by decide +kernel
theorem dX9_setRing_12 : decode cX9_setRing 12 = .ok (.ireturn, 1) := by decide +kernel
theorem dX9_setRing_13 : decode cX9_setRing 13 = .ok (.iconst 0, 1) := by decide +kernel
theorem dX9_setRing_14 : decode cX9_setRing 14 = .ok (.istore_n 2, 1) := by decide +kernel
theorem dX9_setRing_15 : decode cX9_setRing 15 = .ok (.aload_n 0, 1) := by decide +kernel
theorem dX9_setRing_16 : decode cX9_setRing 16 = .ok (.getfield 7, 3) := by decide +kernel
theorem dX9_setRing_19 : decode cX9_setRing 19 = .ok (.sipush 170, 3) := by decide +kernel
theorem dX9_setRing_22 : decode cX9_setRing 22 = .ok (.iaload, 1) := by decide +kernel
theorem dX9_setRing_23 : decode cX9_setRing 23 = .ok (.iconst 1, 1) := by decide +kernel
theorem dX9_setRing_24 : decode cX9_setRing 24 = .ok (.isub, 1) := by decide +kernel
theorem dX9_setRing_25 : decode cX9_setRing 25 = .ok (.istore_n 3, 1) := by decide +kernel
theorem dX9_setRing_26 : decode cX9_setRing 26 = .ok (.iload_n 3, 1) := by decide +kernel
theorem dX9_setRing_27 : decode cX9_setRing 27 = .ok (.ifCond .lt 56, 3) := by decide +kernel
theorem dX9_setRing_30 : decode cX9_setRing 30 = .ok (.iload_n 2, 1) := by decide +kernel
theorem dX9_setRing_31 : decode cX9_setRing 31 = .ok (.aload_n 0, 1) := by decide +kernel
theorem dX9_setRing_32 : decode cX9_setRing 32 = .ok (.getfield 7, 3) := by decide +kernel
theorem dX9_setRing_35 : decode cX9_setRing 35 = .ok (.sipush 171, 3) := by decide +kernel
theorem dX9_setRing_38 : decode cX9_setRing 38 = .ok (.iload_n 3, 1) := by decide +kernel
theorem dX9_setRing_39 : decode cX9_setRing 39 = .ok (.iadd, 1) := by decide +kernel
theorem dX9_setRing_40 : decode cX9_setRing 40 = .ok (.iaload, 1) := by decide +kernel
theorem dX9_setRing_41 : decode cX9_setRing 41 = .ok (.iconst (-1), 1) := by decide +kernel
theorem dX9_setRing_42 : decode cX9_setRing 42 = .ok (.if_icmp .ne 7, 3) := by decide +kernel
theorem dX9_setRing_45 : decode cX9_setRing 45 = .ok (.iconst 0, 1) := by decide +kernel
theorem dX9_setRing_46 : decode cX9_setRing 46 = .ok (.goto 4, 3) := by decide +kernel
theorem dX9_setRing_49 : decode cX9_setRing 49 = .ok (.iconst 1, 1) := by decide +kernel
theorem dX9_setRing_50 : decode cX9_setRing 50 = .ok (.iadd, 1) := by decide +kernel
theorem dX9_setRing_51 : decode cX9_setRing 51 = .ok (.istore_n 2, 1) := by decide +kernel
theorem dX9_setRing_52 : decode cX9_setRing 52 = .ok (.aload_n 0, 1) := by decide +kernel
theorem dX9_setRing_53 : decode cX9_setRing 53 = .ok (.aload_n 0, 1) := by decide +kernel
theorem dX9_setRing_54 : decode cX9_setRing 54 = .ok (.getfield 7, 3) := by decide +kernel
theorem dX9_setRing_57 : decode cX9_setRing 57 = .ok (.sipush 171, 3) := by decide +kernel
theorem dX9_setRing_60 : decode cX9_setRing 60 = .ok (.iload_n 3, 1) := by decide +kernel
theorem dX9_setRing_61 : decode cX9_setRing 61 = .ok (.iadd, 1) := by decide +kernel
theorem dX9_setRing_62 : decode cX9_setRing 62 = .ok (.iaload, 1) := by decide +kernel
theorem dX9_setRing_63 : decode cX9_setRing 63 = .ok (.invokevirtual 113, 3) := by decide +kernel
theorem dX9_setRing_66 : decode cX9_setRing 66 = .ok (.aload_n 0, 1) := by decide +kernel
theorem dX9_setRing_67 : decode cX9_setRing 67 = .ok (.getfield 7, 3) := by decide +kernel
theorem dX9_setRing_70 : decode cX9_setRing 70 = .ok (.sipush 171, 3) := by decide +kernel
theorem dX9_setRing_73 : decode cX9_setRing 73 = .ok (.iload_n 3, 1) := by decide +kernel
theorem dX9_setRing_74 : decode cX9_setRing 74 = .ok (.iadd, 1) := by decide +kernel
theorem dX9_setRing_75 : decode cX9_setRing 75 = .ok (.iconst (-1), 1) := by decide +kernel
theorem dX9_setRing_76 : decode cX9_setRing 76 = .ok (.iastore, 1) := by decide +kernel
theorem dX9_setRing_77 : decode cX9_setRing 77 = .ok (.iinc 3 (-1), 3) := by decide +kernel
theorem dX9_setRing_80 : decode cX9_setRing 80 = .ok (.goto (-54), 3) := by decide +kernel
theorem dX9_setRing_83 : decode cX9_setRing 83 = .ok (.aload_n 0, 1) := by decide +kernel
theorem dX9_setRing_84 : decode cX9_setRing 84 = .ok (.getfield 7, 3) := by decide +kernel
theorem dX9_setRing_87 : decode cX9_setRing 87 = .ok (.sipush 170, 3) := by decide +kernel
theorem dX9_setRing_90 : decode cX9_setRing 90 = .ok (.iload_n 1, 1) := by decide +kernel
theorem dX9_setRing_91 : decode cX9_setRing 91 = .ok (.iastore, 1) := by decide +kernel
theorem dX9_setRing_92 : decode cX9_setRing 92 = .ok (.iload_n 2, 1) := by decide +kernel
theorem dX9_setRing_93 : decode cX9_setRing 93 = .ok (.ireturn, 1) := by decide +kernel
theorem dX9_follows_0 : decode cX9_follows 0 = .ok (.aload_n 0, 1) := by decide +kernel
theorem dX9_follows_1 : decode cX9_follows 1 = .ok (.getfield 7, 3) := by decide +kernel
theorem dX9_follows_4 : decode cX9_follows 4 = .ok (.sipush 169, 3) := by decide +kernel
theorem dX9_follows_7 : decode cX9_follows 7 = .ok (.iaload, 1) := by decide +kernel
theorem dX9_follows_8 : decode cX9_follows 8 = .ok (.aload_n 0, 1) := by decide +kernel
theorem dX9_follows_9 : decode cX9_follows 9 = .ok (.getfield 7, 3) := by decide +kernel
theorem dX9_follows_12 : decode cX9_follows 12 = .ok (.sipush 165, 3) := by decide +kernel
theorem dX9_follows_15 : decode cX9_follows 15 = .ok (.iaload, 1) := by decide +kernel
theorem dX9_follows_16 : decode cX9_follows 16 = .ok (.isub, 1) := by decide +kernel
theorem dX9_follows_17 : decode cX9_follows 17 = .ok (.istore_n 2, 1) := by decide +kernel
theorem dX9_follows_18 : decode cX9_follows 18 = .ok (.aload_n 0, 1) := by decide +kernel
theorem dX9_follows_19 : decode cX9_follows 19 = .ok (.getfield 7, 3) := by decide +kernel
theorem dX9_follows_22 : decode cX9_follows 22 = .ok (.sipush 169, 3) := by decide +kernel
theorem dX9_follows_25 : decode cX9_follows 25 = .ok (.iaload, 1) := by decide +kernel
theorem dX9_follows_26 : decode cX9_follows 26 = .ok (.aload_n 0, 1) := by decide +kernel
theorem dX9_follows_27 : decode cX9_follows 27 = .ok (.getfield 7, 3) := by decide +kernel
theorem dX9_follows_30 : decode cX9_follows 30 = .ok (.sipush 165, 3) := by decide +kernel
theorem dX9_follows_33 : decode cX9_follows 33 = .ok (.iaload, 1) := by decide +kernel
theorem dX9_follows_34 : decode cX9_follows 34 = .ok (.iadd, 1) := by decide +kernel
theorem dX9_follows_35 : decode cX9_follows 35 = .ok (.istore_n 3, 1) := by decide +kernel
theorem dX9_follows_36 : decode cX9_follows 36 = .ok (.iload_n 2, 1) := by decide +kernel
theorem dX9_follows_37 : decode cX9_follows 37 = .ok (.ifCond .ge 7, 3) := by decide +kernel
theorem dX9_follows_40 : decode cX9_follows 40 = .ok (.iconst 0, 1) := by decide +kernel
theorem dX9_follows_41 : decode cX9_follows 41 = .ok (.goto 4, 3) := by decide +kernel
theorem dX9_follows_44 : decode cX9_follows 44 = .ok (.iload_n 2, 1) := by decide +kernel
theorem dX9_follows_45 : decode cX9_follows 45 = .ok (.istore_n 2, 1) := by decide +kernel
theorem dX9_follows_46 : decode cX9_follows 46 = .ok (.iload_n 3, 1) := by decide +kernel
theorem dX9_follows_47 : decode cX9_follows 47 = .ok (.aload_n 0, 1) := by decide +kernel
theorem dX9_follows_48 : decode cX9_follows 48 = .ok (.getfield 7, 3) := by decide +kernel
theorem dX9_follows_51 : decode cX9_follows 51 = .ok (.sipush 164, 3) := by decide +kernel
theorem dX9_follows_54 : decode cX9_follows 54 = .ok (.iaload, 1) := by decide +kernel
theorem dX9_follows_55 : decode cX9_follows 55 = .ok (.if_icmp .le 14, 3) := by decide +kernel
theorem dX9_follows_58 : decode cX9_follows 58 = .ok (.aload_n 0, 1) := by decide +kernel
theorem dX9_follows_59 : decode cX9_follows 59 = .ok (.getfield 7, 3) := by decide +kernel
theorem dX9_follows_62 : decode cX9_follows 62 = .ok (.sipush 164, 3) := by decide +kernel
theorem dX9_follows_65 : decode cX9_follows 65 = .ok (.iaload, 1) := by decide +kernel
theorem dX9_follows_66 : decode cX9_follows 66 = .ok (.goto 4, 3) := by decide +kernel
theorem dX9_follows_69 : decode cX9_follows 69 = .ok (.iload_n 3, 1) := by decide +kernel
theorem dX9_follows_70 : decode cX9_follows 70 = .ok (.istore_n 3, 1) := by decide +kernel
theorem dX9_follows_71 : decode cX9_follows 71 = .ok (.aload_n 0, 1) := by decide +kernel
theorem dX9_follows_72 : decode cX9_follows 72 = .ok (.getfield 7, 3) := by decide +kernel
theorem dX9_follows_75 : decode cX9_follows 75 = .ok (.sipush 169, 3) := by decide +kernel
theorem dX9_follows_78 : decode cX9_follows 78 = .ok (.iload_n 2, 1) := by decide +kernel
theorem dX9_follows_79 : decode cX9_follows 79 = .ok (.iload_n 3, 1) := by decide +kernel
theorem dX9_follows_80 : decode cX9_follows 80 = .ok (.if_icmp .le 14, 3) := by decide +kernel
theorem dX9_follows_83 : decode cX9_follows 83 = .ok (.aload_n 0, 1) := by decide +kernel
theorem dX9_follows_84 : decode cX9_follows 84 = .ok (.getfield 7, 3) := by decide +kernel
theorem dX9_follows_87 : decode cX9_follows 87 = .ok (.sipush 164, 3) := by decide +kernel
theorem dX9_follows_90 : decode cX9_follows 90 = .ok (.iaload, 1) := by decide +kernel
theorem dX9_follows_91 : decode cX9_follows 91 = .ok (.goto 22, 3) := by decide +kernel
theorem dX9_follows_94 : decode cX9_follows 94 = .ok (.iload_n 1, 1) := by decide +kernel
theorem dX9_follows_95 : decode cX9_follows 95 = .ok (.iload_n 2, 1) := by decide +kernel
theorem dX9_follows_96 : decode cX9_follows 96 = .ok (.if_icmp .ge 7, 3) := by decide +kernel
theorem dX9_follows_99 : decode cX9_follows 99 = .ok (.iload_n 2, 1) := by decide +kernel
theorem dX9_follows_100 : decode cX9_follows 100 = .ok (.goto 13, 3) := by decide +kernel
theorem dX9_follows_103 : decode cX9_follows 103 = .ok (.iload_n 1, 1) := by decide +kernel
theorem dX9_follows_104 : decode cX9_follows 104 = .ok (.iload_n 3, 1) := by decide +kernel
theorem dX9_follows_105 : decode cX9_follows 105 = .ok (.if_icmp .le 7, 3) := by decide +kernel
theorem dX9_follows_108 : decode cX9_follows 108 = .ok (.iload_n 3, 1) := by decide +kernel
theorem dX9_follows_109 : decode cX9_follows 109 = .ok (.goto 4, 3) := by decide +kernel
theorem dX9_follows_112 : decode cX9_follows 112 = .ok (.iload_n 1, 1) := by decide +kernel
theorem dX9_follows_113 : decode cX9_follows 113 = .ok (.iastore, 1) := by decide +kernel
theorem dX9_follows_114 : decode cX9_follows 114 = .ok (.return_, 1) := by decide +kernel
theorem dX9_feeds_0 : decode cX9_feeds 0 = .ok (.aload_n 0, 1) := by decide +kernel
theorem dX9_feeds_1 : decode cX9_feeds 1 = .ok (.iconst 0, 1) := by decide +kernel
theorem dX9_feeds_2 : decode cX9_feeds 2 = .ok (.putfield 116, 3) := by decide +kernel
theorem dX9_feeds_5 : decode cX9_feeds 5 = .ok (.aload_n 0, 1) := by decide +kernel
theorem dX9_feeds_6 : decode cX9_feeds 6 = .ok (.iconst 0, 1) := by decide +kernel
theorem dX9_feeds_7 : decode cX9_feeds 7 = .ok (.putfield 119, 3) := by decide +kernel
theorem dX9_feeds_10 : decode cX9_feeds 10 = .ok (.aload_n 0, 1) := by decide +kernel
theorem dX9_feeds_11 : decode cX9_feeds 11 = .ok (.iconst 0, 1) := by decide +kernel
theorem dX9_feeds_12 : decode cX9_feeds 12 = .ok (.putfield 122, 3) := by decide +kernel
theorem dX9_feeds_15 : decode cX9_feeds 15 = .ok (.aload_n 0, 1) := by decide +kernel
theorem dX9_feeds_16 : decode cX9_feeds 16 = .ok (.iconst 0, 1) := by decide +kernel
theorem dX9_feeds_17 : decode cX9_feeds 17 = .ok (.putfield 125, 3) := by decide +kernel
theorem dX9_feeds_20 : decode cX9_feeds 20 = .ok (.aload_n 0, 1) := by decide +kernel
theorem dX9_feeds_21 : decode cX9_feeds 21 = .ok (.iconst 0, 1) := by decide +kernel
theorem dX9_feeds_22 : decode cX9_feeds 22 = .ok (.putfield 129, 3) := by decide +kernel
theorem dX9_feeds_25 : decode cX9_feeds 25 = .ok (.aload_n 0, 1) := by decide +kernel
theorem dX9_feeds_26 : decode cX9_feeds 26 = .ok (.getfield 129, 3) := by decide +kernel
theorem dX9_feeds_29 : decode cX9_feeds 29 = .ok (.ifCond .ne 189, 3) := by decide +kernel
theorem dX9_feeds_32 : decode cX9_feeds 32 = .ok (.aload_n 0, 1) := by decide +kernel
theorem dX9_feeds_33 : decode cX9_feeds 33 = .ok (.getfield 119, 3) := by decide +kernel
theorem dX9_feeds_36 : decode cX9_feeds 36 = .ok (.aload_n 0, 1) := by decide +kernel
theorem dX9_feeds_37 : decode cX9_feeds 37 = .ok (.getfield 7, 3) := by decide +kernel
theorem dX9_feeds_40 : decode cX9_feeds 40 = .ok (.iconst 0, 1) := by decide +kernel
theorem dX9_feeds_41 : decode cX9_feeds 41 = .ok (.iaload, 1) := by decide +kernel
theorem dX9_feeds_42 : decode cX9_feeds 42 = .ok (.if_icmp .ne 11, 3) := by decide +kernel
theorem dX9_feeds_45 : decode cX9_feeds 45 = .ok (.aload_n 0, 1) := by decide +kernel
theorem dX9_feeds_46 : decode cX9_feeds 46 = .ok (.iconst 3, 1) := by decide +kernel
theorem dX9_feeds_47 : decode cX9_feeds 47 = .ok (.putfield 129, 3) := by decide +kernel
theorem dX9_feeds_50 : decode cX9_feeds 50 = .ok (.goto (-25), 3) := by decide +kernel
theorem dX9_feeds_53 : decode cX9_feeds 53 = .ok (.aload_n 0, 1) := by decide +kernel
theorem dX9_feeds_54 : decode cX9_feeds 54 = .ok (.getfield 7, 3) := by decide +kernel
theorem dX9_feeds_57 : decode cX9_feeds 57 = .ok (.iconst 1, 1) := by decide +kernel
theorem dX9_feeds_58 : decode cX9_feeds 58 = .ok (.aload_n 0, 1) := by decide +kernel
theorem dX9_feeds_59 : decode cX9_feeds 59 = .ok (.getfield 119, 3) := by decide +kernel
theorem dX9_feeds_62 : decode cX9_feeds 62 = .ok (.iadd, 1) := by decide +kernel
theorem dX9_feeds_63 : decode cX9_feeds 63 = .ok (.iaload, 1) := by decide +kernel
theorem dX9_feeds_64 : decode cX9_feeds 64 = .ok (.istore_n 1, 1) := by decide +kernel
theorem dX9_feeds_65 : decode cX9_feeds 65 = .ok (.aload_n 0, 1) := by decide +kernel
theorem dX9_feeds_66 : decode cX9_feeds 66 = .ok (.getfield 7, 3) := by decide +kernel
theorem dX9_feeds_69 : decode cX9_feeds 69 = .ok (.bipush 81, 2) := by decide +kernel
theorem dX9_feeds_71 : decode cX9_feeds 71 = .ok (.aload_n 0, 1) := by decide +kernel
theorem dX9_feeds_72 : decode cX9_feeds 72 = .ok (.getfield 119, 3) := by decide +kernel
theorem dX9_feeds_75 : decode cX9_feeds 75 = .ok (.iadd, 1) := by decide +kernel
theorem dX9_feeds_76 : decode cX9_feeds 76 = .ok (.iaload, 1) := by decide +kernel
theorem dX9_feeds_77 : decode cX9_feeds 77 = .ok (.istore_n 2, 1) := by decide +kernel
theorem dX9_feeds_78 : decode cX9_feeds 78 = .ok (.aload_n 0, 1) := by decide +kernel
theorem dX9_feeds_79 : decode cX9_feeds 79 = .ok (.dup, 1) := by decide +kernel
theorem dX9_feeds_80 : decode cX9_feeds 80 = .ok (.getfield 119, 3) := by decide +kernel
theorem dX9_feeds_83 : decode cX9_feeds 83 = .ok (.iconst 1, 1) := by decide +kernel
theorem dX9_feeds_84 : decode cX9_feeds 84 = .ok (.iadd, 1) := by decide +kernel
theorem dX9_feeds_85 : decode cX9_feeds 85 = .ok (.putfield 119, 3) := by decide +kernel
theorem dX9_feeds_88 : decode cX9_feeds 88 = .ok (.aload_n 0, 1) := by decide +kernel
theorem dX9_feeds_89 : decode cX9_feeds 89 = .ok (.dup, 1) := by decide +kernel
theorem dX9_feeds_90 : decode cX9_feeds 90 = .ok (.getfield 116, 3) := by decide +kernel
theorem dX9_feeds_93 : decode cX9_feeds 93 = .ok (.iload_n 2, 1) := by decide +kernel
theorem dX9_feeds_94 : decode cX9_feeds 94 = .ok (.iadd, 1) := by decide +kernel
theorem dX9_feeds_95 : decode cX9_feeds 95 = .ok (.putfield 116, 3) := by decide +kernel
theorem dX9_feeds_98 : decode cX9_feeds 98 = .ok (.aload_n 0, 1) := by decide +kernel
theorem dX9_feeds_99 : decode cX9_feeds 99 = .ok (.dup, 1) := by decide +kernel
theorem dX9_feeds_100 : decode cX9_feeds 100 = .ok (.getfield 122, 3) := by decide +kernel
theorem dX9_feeds_103 : decode cX9_feeds 103 = .ok (.iload_n 1, 1) := by decide +kernel
theorem dX9_feeds_104 : decode cX9_feeds 104 = .ok (.ifCond .ne 7, 3) := by decide +kernel
theorem dX9_feeds_107 : decode cX9_feeds 107 = .ok (.iconst 1, 1) := by decide +kernel
theorem dX9_feeds_108 : decode cX9_feeds 108 = .ok (.goto 4, 3) := by decide +kernel
theorem dX9_feeds_111 : decode cX9_feeds 111 = .ok (.iconst 0, 1) := by decide +kernel
theorem dX9_feeds_112 : decode cX9_feeds 112 = .ok (.iadd, 1) := by decide +kernel
theorem dX9_feeds_113 : decode cX9_feeds 113 = .ok (.putfield 122, 3) := by decide +kernel
theorem dX9_feeds_116 : decode cX9_feeds 116 = .ok (.aload_n 0, 1) := by decide +kernel
theorem dX9_feeds_117 : decode cX9_feeds 117 = .ok (.aload_n 0, 1) := by decide +kernel
theorem dX9_feeds_118 : decode cX9_feeds 118 = .ok (.getfield 125, 3) := by decide +kernel
theorem dX9_feeds_121 : decode cX9_feeds 121 = .ok (.ifCond .ne 8, 3) := by decide +kernel
theorem dX9_feeds_124 : decode cX9_feeds 124 = .ok (.iload_n 1, 1) := by decide +kernel
theorem dX9_feeds_125 : decode cX9_feeds 125 = .ok (.iconst 3, 1) := by decide +kernel
theorem dX9_feeds_126 : decode cX9_feeds 126 = .ok (.if_icmp .ne 7, 3) := by decide +kernel
theorem dX9_feeds_129 : decode cX9_feeds 129 = .ok (.iconst 1, 1) := by decide +kernel
theorem dX9_feeds_130 : decode cX9_feeds 130 = .ok (.goto 4, 3) := by decide +kernel
theorem dX9_feeds_133 : decode cX9_feeds 133 = .ok (.iconst 0, 1) := by decide +kernel
theorem dX9_feeds_134 : decode cX9_feeds 134 = .ok (.putfield 125, 3) := by decide +kernel
theorem dX9_feeds_137 : decode cX9_feeds 137 = .ok (.iload_n 1, 1) := by decide +kernel
theorem dX9_feeds_138 : decode cX9_feeds 138 = .ok (.iconst 1, 1) := by decide +kernel
theorem dX9_feeds_139 : decode cX9_feeds 139 = .ok (.if_icmp .ne 42, 3) := by decide +kernel
theorem dX9_feeds_142 : decode cX9_feeds 142 = .ok (.iload_n 2, 1) := by decide +kernel
theorem dX9_feeds_143 : decode cX9_feeds 143 = .ok (.aload_n 0, 1) := by decide +kernel
theorem dX9_feeds_144 : decode cX9_feeds 144 = .ok (.getfield 7, 3) := by decide +kernel
theorem dX9_feeds_147 : decode cX9_feeds 147 = .ok (.sipush 161, 3) := by decide +kernel
theorem dX9_feeds_150 : decode cX9_feeds 150 = .ok (.iaload, 1) := by decide +kernel
theorem dX9_feeds_151 : decode cX9_feeds 151 = .ok (.if_icmp .lt 30, 3) := by decide +kernel
theorem dX9_feeds_154 : decode cX9_feeds 154 = .ok (.aload_n 0, 1) := by decide +kernel
theorem dX9_feeds_155 : decode cX9_feeds 155 = .ok (.getfield 116, 3) := by decide +kernel
theorem dX9_feeds_158 : decode cX9_feeds 158 = .ok (.i2f, 1) := by decide +kernel
theorem dX9_feeds_159 : decode cX9_feeds 159 = .ok (.aload_n 0, 1) := by decide +kernel
theorem dX9_feeds_160 : decode cX9_feeds 160 = .ok (.getfield 24, 3) := by decide +kernel
theorem dX9_feeds_163 : decode cX9_feeds 163 = .ok (.aload_n 0, 1) := by decide +kernel
theorem dX9_feeds_164 : decode cX9_feeds 164 = .ok (.getfield 7, 3) := by decide +kernel
theorem dX9_feeds_167 : decode cX9_feeds 167 = .ok (.sipush 162, 3) := by decide +kernel
theorem dX9_feeds_170 : decode cX9_feeds 170 = .ok (.iaload, 1) := by decide +kernel
theorem dX9_feeds_171 : decode cX9_feeds 171 = .ok (.i2f, 1) := by decide +kernel
theorem dX9_feeds_172 : decode cX9_feeds 172 = .ok (.fsub, 1) := by decide +kernel
theorem dX9_feeds_173 : decode cX9_feeds 173 = .ok (.fcmp .l, 1) := by decide +kernel
theorem dX9_feeds_174 : decode cX9_feeds 174 = .ok (.ifCond .lt 7, 3) := by decide +kernel
theorem dX9_feeds_177 : decode cX9_feeds 177 = .ok (.iconst 1, 1) := by decide +kernel
theorem dX9_feeds_178 : decode cX9_feeds 178 = .ok (.goto 4, 3) := by decide +kernel
theorem dX9_feeds_181 : decode cX9_feeds 181 = .ok (.iconst 0, 1) := by decide +kernel
theorem dX9_feeds_182 : decode cX9_feeds 182 = .ok (.istore_n 3, 1) := by decide +kernel
theorem dX9_feeds_183 : decode cX9_feeds 183 = .ok (.aload_n 0, 1) := by decide +kernel
theorem dX9_feeds_184 : decode cX9_feeds 184 = .ok (.iload_n 3, 1) := by decide +kernel
theorem dX9_feeds_185 : decode cX9_feeds 185 = .ok (.ifCond .eq 7, 3) := by decide +kernel
theorem dX9_feeds_188 : decode cX9_feeds 188 = .ok (.iconst 1, 1) := by decide +kernel
theorem dX9_feeds_189 : decode cX9_feeds 189 = .ok (.goto 23, 3) := by decide +kernel
theorem dX9_feeds_192 : decode cX9_feeds 192 = .ok (.aload_n 0, 1) := by decide +kernel
theorem dX9_feeds_193 : decode cX9_feeds 193 = .ok (.getfield 116, 3) := by decide +kernel
theorem dX9_feeds_196 : decode cX9_feeds 196 = .ok (.aload_n 0, 1) := by decide +kernel
theorem dX9_feeds_197 : decode cX9_feeds 197 = .ok (.getfield 7, 3) := by decide +kernel
theorem dX9_feeds_200 : decode cX9_feeds 200 = .ok (.sipush 163, 3) := by decide +kernel
theorem dX9_feeds_203 : decode cX9_feeds 203 = .ok (.iaload, 1) := by decide +kernel
theorem dX9_feeds_204 : decode cX9_feeds 204 = .ok (.if_icmp .le 7, 3) := by decide +kernel
theorem dX9_feeds_207 : decode cX9_feeds 207 = .ok (.iconst 2, 1) := by decide +kernel
theorem dX9_feeds_208 : decode cX9_feeds 208 = .ok (.goto 4, 3) := by decide +kernel
theorem dX9_feeds_211 : decode cX9_feeds 211 = .ok (.iconst 0, 1) := by decide +kernel
theorem dX9_feeds_212 : decode cX9_feeds 212 = .ok (.putfield 129, 3) := by decide +kernel
theorem dX9_feeds_215 : decode cX9_feeds 215 = .ok (.goto (-190), 3) := by decide +kernel
theorem dX9_feeds_218 : decode cX9_feeds 218 = .ok (.aload_n 0, 1) := by decide +kernel
theorem dX9_feeds_219 : decode cX9_feeds 219 = .ok (.getfield 7, 3) := by decide +kernel
theorem dX9_feeds_222 : decode cX9_feeds 222 = .ok (.iconst 0, 1) := by decide +kernel
theorem dX9_feeds_223 : decode cX9_feeds 223 = .ok (.dup2, 1) := by decide +kernel
theorem dX9_feeds_224 : decode cX9_feeds 224 = .ok (.iaload, 1) := by decide +kernel
theorem dX9_feeds_225 : decode cX9_feeds 225 = .ok (.aload_n 0, 1) := by decide +kernel
theorem dX9_feeds_226 : decode cX9_feeds 226 = .ok (.getfield 119, 3) := by decide +kernel
theorem dX9_feeds_229 : decode cX9_feeds 229 = .ok (.isub, 1) := by decide +kernel
theorem dX9_feeds_230 : decode cX9_feeds 230 = .ok (.iastore, 1) := by decide +kernel
theorem dX9_feeds_231 : decode cX9_feeds 231 = .ok (.iconst 0, 1) := by decide +kernel
theorem dX9_feeds_232 : decode cX9_feeds 232 = .ok (.istore_n 1, 1) := by decide +kernel
theorem dX9_feeds_233 : decode cX9_feeds 233 = .ok (.iload_n 1, 1) := by decide +kernel
theorem dX9_feeds_234 : decode cX9_feeds 234 = .ok (.aload_n 0, 1) := by decide +kernel
theorem dX9_feeds_235 : decode cX9_feeds 235 = .ok (.getfield 7, 3) := by decide +kernel
theorem dX9_feeds_238 : decode cX9_feeds 238 = .ok (.iconst 0, 1) := by decide +kernel
theorem dX9_feeds_239 : decode cX9_feeds 239 = .ok (.iaload, 1) := by decide +kernel
theorem dX9_feeds_240 : decode cX9_feeds 240 = .ok (.if_icmp .ge 53, 3) := by decide +kernel
theorem dX9_feeds_243 : decode cX9_feeds 243 = .ok (.aload_n 0, 1) := by decide +kernel
theorem dX9_feeds_244 : decode cX9_feeds 244 = .ok (.getfield 7, 3) := by decide +kernel
theorem dX9_feeds_247 : decode cX9_feeds 247 = .ok (.iconst 1, 1) := by decide +kernel
theorem dX9_feeds_248 : decode cX9_feeds 248 = .ok (.iload_n 1, 1) := by decide +kernel
theorem dX9_feeds_249 : decode cX9_feeds 249 = .ok (.iadd, 1) := by decide +kernel
theorem dX9_feeds_250 : decode cX9_feeds 250 = .ok (.aload_n 0, 1) := by decide +kernel
theorem dX9_feeds_251 : decode cX9_feeds 251 = .ok (.getfield 7, 3) := by decide +kernel
theorem dX9_feeds_254 : decode cX9_feeds 254 = .ok (.iconst 1, 1) := by decide +kernel
theorem dX9_feeds_255 : decode cX9_feeds 255 = .ok (.iload_n 1, 1) := by decide +kernel
theorem dX9_feeds_256 : decode cX9_feeds 256 = .ok (.iadd, 1) := by decide +kernel
theorem dX9_feeds_257 : decode cX9_feeds 257 = .ok (.aload_n 0, 1) := by decide +kernel
theorem dX9_feeds_258 : decode cX9_feeds 258 = .ok (.getfield 119, 3) := by decide +kernel
theorem dX9_feeds_261 : decode cX9_feeds 261 = .ok (.iadd, 1) := by decide +kernel
theorem dX9_feeds_262 : decode cX9_feeds 262 = .ok (.iaload, 1) := by decide +kernel
theorem dX9_feeds_263 : decode cX9_feeds 263 = .ok (.iastore, 1) := by decide +kernel
theorem dX9_feeds_264 : decode cX9_feeds 264 = .ok (.aload_n 0, 1) := by decide +kernel
theorem dX9_feeds_265 : decode cX9_feeds 265 = .ok (.getfield 7, 3) := by decide +kernel
theorem dX9_feeds_268 : decode cX9_feeds 268 = .ok (.bipush 81, 2) := by decide +kernel
theorem dX9_feeds_270 : decode cX9_feeds 270 = .ok (.iload_n 1, 1) := by decide +kernel
theorem dX9_feeds_271 : decode cX9_feeds 271 = .ok (.iadd, 1) := by decide +kernel
theorem dX9_feeds_272 : decode cX9_feeds 272 = .ok (.aload_n 0, 1) := by decide +kernel
theorem dX9_feeds_273 : decode cX9_feeds 273 = .ok (.getfield 7, 3) := by decide +kernel
theorem dX9_feeds_276 : decode cX9_feeds 276 = .ok (.bipush 81, 2) := by decide +kernel
theorem dX9_feeds_278 : decode cX9_feeds 278 = .ok (.iload_n 1, 1) := by decide +kernel
theorem dX9_feeds_279 : decode cX9_feeds 279 = .ok (.iadd, 1) := by decide +kernel
theorem dX9_feeds_280 : decode cX9_feeds 280 = .ok (.aload_n 0, 1) := by decide +kernel
theorem dX9_feeds_281 : decode cX9_feeds 281 = .ok (.getfield 119, 3) := by decide +kernel
theorem dX9_feeds_284 : decode cX9_feeds 284 = .ok (.iadd, 1) := by decide +kernel
theorem dX9_feeds_285 : decode cX9_feeds 285 = .ok (.iaload, 1) := by decide +kernel
theorem dX9_feeds_286 : decode cX9_feeds 286 = .ok (.iastore, 1) := by decide +kernel
theorem dX9_feeds_287 : decode cX9_feeds 287 = .ok (.iinc 1 1, 3) := by decide +kernel
theorem dX9_feeds_290 : decode cX9_feeds 290 = .ok (.goto (-57), 3) := by decide +kernel
theorem dX9_feeds_293 : decode cX9_feeds 293 = .ok (.return_, 1) := by decide +kernel
theorem dX9_reasonAt_0 : decode cX9_reasonAt 0 = .ok (.aload_n 0, 1) := by decide +kernel
theorem dX9_reasonAt_1 : decode cX9_reasonAt 1 = .ok (.getfield 129, 3) := by decide +kernel
theorem dX9_reasonAt_4 : decode cX9_reasonAt 4 = .ok (.iconst 1, 1) := by decide +kernel
theorem dX9_reasonAt_5 : decode cX9_reasonAt 5 = .ok (.if_icmp .le 17, 3) := by decide +kernel
theorem dX9_reasonAt_8 : decode cX9_reasonAt 8 = .ok (.aload_n 0, 1) := by decide +kernel
theorem dX9_reasonAt_9 : decode cX9_reasonAt 9 = .ok (.getfield 129, 3) := by decide +kernel
theorem dX9_reasonAt_12 : decode cX9_reasonAt 12 = .ok (.iconst 3, 1) := by decide +kernel
theorem dX9_reasonAt_13 : decode cX9_reasonAt 13 = .ok (.if_icmp .ne 7, 3) := by decide +kernel
theorem dX9_reasonAt_16 : decode cX9_reasonAt 16 = .ok (.iconst 1, 1) := by decide +kernel
theorem dX9_reasonAt_17 : decode cX9_reasonAt 17 = .ok (.goto 4, 3) := by decide +kernel
theorem dX9_reasonAt_20 : decode cX9_reasonAt 20 = .ok (.iconst 2, 1) := by decide +kernel
theorem dX9_reasonAt_21 : decode cX9_reasonAt 21 = .ok (.ireturn, 1) := by decide +kernel
theorem dX9_reasonAt_22 : decode cX9_reasonAt 22 = .ok (.aload_n 0, 1) := by decide +kernel
theorem dX9_reasonAt_23 : decode cX9_reasonAt 23 = .ok (.getfield 125, 3) := by decide +kernel
theorem dX9_reasonAt_26 : decode cX9_reasonAt 26 = .ok (.ifCond .ne 10, 3) := by decide +kernel
theorem dX9_reasonAt_29 : decode cX9_reasonAt 29 = .ok (.aload_n 0, 1) := by decide +kernel
theorem dX9_reasonAt_30 : decode cX9_reasonAt 30 = .ok (.getfield 122, 3) := by decide +kernel
theorem dX9_reasonAt_33 : decode cX9_reasonAt 33 = .ok (.ifCond .ne 16, 3) := by decide +kernel
theorem dX9_reasonAt_36 : decode cX9_reasonAt 36 = .ok (.aload_n 0, 1) := by decide +kernel
theorem dX9_reasonAt_37 : decode cX9_reasonAt 37 = .ok (.getfield 125, 3) := by decide +kernel
theorem dX9_reasonAt_40 : decode cX9_reasonAt 40 = .ok (.ifCond .eq 7, 3) := by decide +kernel
theorem dX9_reasonAt_43 : decode cX9_reasonAt 43 = .ok (.iconst 3, 1) := by decide +kernel
theorem dX9_reasonAt_44 : decode cX9_reasonAt 44 = .ok (.goto 4, 3) := by decide +kernel
theorem dX9_reasonAt_47 : decode cX9_reasonAt 47 = .ok (.iconst 4, 1) := by decide +kernel
theorem dX9_reasonAt_48 : decode cX9_reasonAt 48 = .ok (.ireturn, 1) := by decide +kernel
theorem dX9_reasonAt_49 : decode cX9_reasonAt 49 = .ok (.aload_n 0, 1) := by decide +kernel
theorem dX9_reasonAt_50 : decode cX9_reasonAt 50 = .ok (.getfield 122, 3) := by decide +kernel
theorem dX9_reasonAt_53 : decode cX9_reasonAt 53 = .ok (.iconst 1, 1) := by decide +kernel
theorem dX9_reasonAt_54 : decode cX9_reasonAt 54 = .ok (.if_icmp .gt 7, 3) := by decide +kernel
theorem dX9_reasonAt_57 : decode cX9_reasonAt 57 = .ok (.iload_n 2, 1) := by decide +kernel
theorem dX9_reasonAt_58 : decode cX9_reasonAt 58 = .ok (.ifCond .eq 18, 3) := by decide +kernel
theorem dX9_reasonAt_61 : decode cX9_reasonAt 61 = .ok (.aload_n 0, 1) := by decide +kernel
theorem dX9_reasonAt_62 : decode cX9_reasonAt 62 = .ok (.getfield 122, 3) := by decide +kernel
theorem dX9_reasonAt_65 : decode cX9_reasonAt 65 = .ok (.iconst 1, 1) := by decide +kernel
theorem dX9_reasonAt_66 : decode cX9_reasonAt 66 = .ok (.if_icmp .le 7, 3) := by decide +kernel
theorem dX9_reasonAt_69 : decode cX9_reasonAt 69 = .ok (.iconst 5, 1) := by decide +kernel
theorem dX9_reasonAt_70 : decode cX9_reasonAt 70 = .ok (.goto 5, 3) := by decide +kernel
theorem dX9_reasonAt_73 : decode cX9_reasonAt 73 = .ok (.bipush 6, 2) := by decide +kernel
theorem dX9_reasonAt_75 : decode cX9_reasonAt 75 = .ok (.ireturn, 1) := by decide +kernel
theorem dX9_reasonAt_76 : decode cX9_reasonAt 76 = .ok (.aload_n 0, 1) := by decide +kernel
theorem dX9_reasonAt_77 : decode cX9_reasonAt 77 = .ok (.getfield 7, 3) := by decide +kernel
theorem dX9_reasonAt_80 : decode cX9_reasonAt 80 = .ok (.sipush 169, 3) := by decide +kernel
theorem dX9_reasonAt_83 : decode cX9_reasonAt 83 = .ok (.iaload, 1) := by decide +kernel
theorem dX9_reasonAt_84 : decode cX9_reasonAt 84 = .ok (.iload_n 1, 1) := by decide +kernel
theorem dX9_reasonAt_85 : decode cX9_reasonAt 85 = .ok (.isub, 1) := by decide +kernel
theorem dX9_reasonAt_86 : decode cX9_reasonAt 86 = .ok (.istore_n 3, 1) := by decide +kernel
theorem dX9_reasonAt_87 : decode cX9_reasonAt 87 = .ok (.iload_n 3, 1) := by decide +kernel
theorem dX9_reasonAt_88 : decode cX9_reasonAt 88 = .ok (.aload_n 0, 1) := by decide +kernel
theorem dX9_reasonAt_89 : decode cX9_reasonAt 89 = .ok (.getfield 7, 3) := by decide +kernel
theorem dX9_reasonAt_92 : decode cX9_reasonAt 92 = .ok (.sipush 166, 3) := by decide +kernel
theorem dX9_reasonAt_95 : decode cX9_reasonAt 95 = .ok (.iaload, 1) := by decide +kernel
theorem dX9_reasonAt_96 : decode cX9_reasonAt 96 = .ok (.if_icmp .gt 16, 3) := by decide +kernel
theorem dX9_reasonAt_99 : decode cX9_reasonAt 99 = .ok (.iload_n 3, 1) := by decide +kernel
theorem dX9_reasonAt_100 : decode cX9_reasonAt 100 = .ok (.ineg, 1) := by decide +kernel
theorem dX9_reasonAt_101 : decode cX9_reasonAt 101 = .ok (.aload_n 0, 1) := by decide +kernel
theorem dX9_reasonAt_102 : decode cX9_reasonAt 102 = .ok (.getfield 7, 3) := by decide +kernel
theorem dX9_reasonAt_105 : decode cX9_reasonAt 105 = .ok (.sipush 166, 3) := by decide +kernel
theorem dX9_reasonAt_108 : decode cX9_reasonAt 108 = .ok (.iaload, 1) := by decide +kernel
theorem dX9_reasonAt_109 : decode cX9_reasonAt 109 = .ok (.if_icmp .le 8, 3) := by decide +kernel
theorem dX9_reasonAt_112 : decode cX9_reasonAt 112 = .ok (.bipush 7, 2) := by decide +kernel
theorem dX9_reasonAt_114 : decode cX9_reasonAt 114 = .ok (.goto 4, 3) := by decide +kernel
theorem dX9_reasonAt_117 : decode cX9_reasonAt 117 = .ok (.iconst 0, 1) := by decide +kernel
theorem dX9_reasonAt_118 : decode cX9_reasonAt 118 = .ok (.ireturn, 1) := by decide +kernel
set_option maxRecDepth 20000 in
theorem ggX9_turns_X9_leaves : GoodIn wsX9_turns wsX9_leaves := goodIn_r _ [6, 1, 7, 8, 9, 10, 11, 12, 13, 14, 15, 16, 17, 18, 19, 20, 21, 22, 23, 24, 25, 26, 27, 28, 29, 30] (by decide +kernel) (by decide +kernel)
set_option maxRecDepth 20000 in
theorem gX9_turns_X9_leaves : GoodIn wsX9_turns (wsV RX9 113 RX9 yX9_leaves wsX9_leaves) := goodIn_app (goodIn_of _ (by decide +kernel)) ggX9_turns_X9_leaves
theorem dX9_turns_0 : decode cX9_turns 0 = .ok (.aload_n 0, 1) := by decide +kernel
theorem dX9_turns_1 : decode cX9_turns 1 = .ok (.aload_n 0, 1) := by decide +kernel
theorem dX9_turns_2 : decode cX9_turns 2 = .ok (.getfield 7, 3) := by decide +kernel
theorem dX9_turns_5 : decode cX9_turns 5 = .ok (.sipush 171, 3) := by decide +kernel
theorem dX9_turns_8 : decode cX9_turns 8 = .ok (.aload_n 0, 1) := by decide +kernel
theorem dX9_turns_9 : decode cX9_turns 9 = .ok (.getfield 7, 3) := by decide +kernel
theorem dX9_turns_12 : decode cX9_turns 12 = .ok (.sipush 170, 3) := by decide +kernel
theorem dX9_turns_15 : decode cX9_turns 15 = .ok (.iaload, 1) := by decide +kernel
theorem dX9_turns_16 : decode cX9_turns 16 = .ok (.iadd, 1) := by decide +kernel
theorem dX9_turns_17 : decode cX9_turns 17 = .ok (.iconst 1, 1) := by decide +kernel
theorem dX9_turns_18 : decode cX9_turns 18 = .ok (.isub, 1) := by decide +kernel
theorem dX9_turns_19 : decode cX9_turns 19 = .ok (.iaload, 1) := by decide +kernel
theorem dX9_turns_20 : decode cX9_turns 20 = .ok (.invokevirtual 113, 3) := by decide +kernel
theorem dX9_turns_23 : decode cX9_turns 23 = .ok (.aload_n 0, 1) := by decide +kernel
theorem dX9_turns_24 : decode cX9_turns 24 = .ok (.getfield 7, 3) := by decide +kernel
theorem dX9_turns_27 : decode cX9_turns 27 = .ok (.sipush 170, 3) := by decide +kernel
theorem dX9_turns_30 : decode cX9_turns 30 = .ok (.iaload, 1) := by decide +kernel
theorem dX9_turns_31 : decode cX9_turns 31 = .ok (.iconst 1, 1) := by decide +kernel
theorem dX9_turns_32 : decode cX9_turns 32 = .ok (.isub, 1) := by decide +kernel
theorem dX9_turns_33 : decode cX9_turns 33 = .ok (.istore_n 2, 1) := by decide +kernel
theorem dX9_turns_34 : decode cX9_turns 34 = .ok (.iload_n 2, 1) := by decide +kernel
theorem dX9_turns_35 : decode cX9_turns 35 = .ok (.ifCond .le 31, 3) := by decide +kernel
theorem dX9_turns_38 : decode cX9_turns 38 = .ok (.aload_n 0, 1) := by decide +kernel
theorem dX9_turns_39 : decode cX9_turns 39 = .ok (.getfield 7, 3) := by decide +kernel
theorem dX9_turns_42 : decode cX9_turns 42 = .ok (.sipush 171, 3) := by decide +kernel
theorem dX9_turns_45 : decode cX9_turns 45 = .ok (.iload_n 2, 1) := by decide +kernel
theorem dX9_turns_46 : decode cX9_turns 46 = .ok (.iadd, 1) := by decide +kernel
theorem dX9_turns_47 : decode cX9_turns 47 = .ok (.aload_n 0, 1) := by decide +kernel
theorem dX9_turns_48 : decode cX9_turns 48 = .ok (.getfield 7, 3) := by decide +kernel
theorem dX9_turns_51 : decode cX9_turns 51 = .ok (.sipush 171, 3) := by decide +kernel
theorem dX9_turns_54 : decode cX9_turns 54 = .ok (.iload_n 2, 1) := by decide +kernel
theorem dX9_turns_55 : decode cX9_turns 55 = .ok (.iadd, 1) := by decide +kernel
theorem dX9_turns_56 : decode cX9_turns 56 = .ok (.iconst 1, 1) := by decide +kernel
theorem dX9_turns_57 : decode cX9_turns 57 = .ok (.isub, 1) := by decide +kernel
theorem dX9_turns_58 : decode cX9_turns 58 = .ok (.iaload, 1) := by decide +kernel
theorem dX9_turns_59 : decode cX9_turns 59 = .ok (.iastore, 1) := by decide +kernel
theorem dX9_turns_60 : decode cX9_turns 60 = .ok (.iinc 2 (-1), 3) := by decide +kernel
theorem dX9_turns_63 : decode cX9_turns 63 = .ok (.goto (-29), 3) := by decide +kernel
theorem dX9_turns_66 : decode cX9_turns 66 = .ok (.aload_n 0, 1) := by decide +kernel
theorem dX9_turns_67 : decode cX9_turns 67 = .ok (.getfield 7, 3) := by decide +kernel
theorem dX9_turns_70 : decode cX9_turns 70 = .ok (.sipush 171, 3) := by decide +kernel
theorem dX9_turns_73 : decode cX9_turns 73 = .ok (.iload_n 1, 1) := by decide +kernel
theorem dX9_turns_74 : decode cX9_turns 74 = .ok (.iastore, 1) := by decide +kernel
theorem dX9_turns_75 : decode cX9_turns 75 = .ok (.return_, 1) := by decide +kernel
set_option maxRecDepth 20000 in
theorem ggX9_cycles_X9_follows : GoodIn wsX9_cycles wsX9_follows := goodIn_r _ [13, 4, 30, 31, 32, 33, 34, 35, 36, 37, 38, 39, 40, 41, 42, 43, 44, 45, 46, 47, 48, 49, 50, 51, 52, 53] (by decide +kernel) (by decide +kernel)
set_option maxRecDepth 20000 in
theorem gX9_cycles_X9_follows : GoodIn wsX9_cycles (wsV RX9 132 RX9 yX9_follows wsX9_follows) := goodIn_app (goodIn_of _ (by decide +kernel)) ggX9_cycles_X9_follows
set_option maxRecDepth 20000 in
theorem ggX9_cycles_X9_feeds : GoodIn wsX9_cycles wsX9_feeds := goodIn_r _ [17, 2, 8, 6, 7, 1, 4, 3, 30, 31, 32, 33, 34, 35, 36, 37, 38, 39, 40, 41, 42, 43, 44, 45, 46, 47, 48, 49, 50, 51, 52, 53] (by decide +kernel) (by decide +kernel)
set_option maxRecDepth 20000 in
theorem gX9_cycles_X9_feeds : GoodIn wsX9_cycles (wsV RX9 135 RX9 yX9_feeds wsX9_feeds) := goodIn_app (goodIn_of _ (by decide +kernel)) ggX9_cycles_X9_feeds
set_option maxRecDepth 20000 in
theorem ggX9_cycles_X9_reasonAt : GoodIn wsX9_cycles wsX9_reasonAt := goodIn_r _ [21, 1, 7, 6, 4, 30, 31, 32, 33, 34, 35, 36, 37, 38, 39, 40, 41, 42, 43, 44, 45, 46, 47, 48, 49, 50, 51, 52, 53] (by decide +kernel) (by decide +kernel)
set_option maxRecDepth 20000 in
theorem gX9_cycles_X9_reasonAt : GoodIn wsX9_cycles (wsV RX9 138 RX9 yX9_reasonAt wsX9_reasonAt) := goodIn_app (goodIn_of _ (by decide +kernel)) ggX9_cycles_X9_reasonAt
set_option maxRecDepth 20000 in
theorem ggX9_cycles_X9_turns : GoodIn wsX9_cycles wsX9_turns := goodIn_r _ [25, 4, 26, 27, 28, 12, 29, 30, 31, 32, 33, 34, 35, 36, 37, 38, 39, 40, 41, 42, 43, 44, 45, 46, 47, 48, 49, 50, 51, 52, 53] (by decide +kernel) (by decide +kernel)
set_option maxRecDepth 20000 in
theorem gX9_cycles_X9_turns : GoodIn wsX9_cycles (wsV RX9 143 RX9 yX9_turns wsX9_turns) := goodIn_app (goodIn_of _ (by decide +kernel)) ggX9_cycles_X9_turns
theorem dX9_cycles_0 : decode cX9_cycles 0 = .ok (.aload_n 0, 1) := by decide +kernel
theorem dX9_cycles_1 : decode cX9_cycles 1 = .ok (.iload_n 1, 1) := by decide +kernel
theorem dX9_cycles_2 : decode cX9_cycles 2 = .ok (.invokevirtual 132, 3) := by decide +kernel
theorem dX9_cycles_5 : decode cX9_cycles 5 = .ok (.aload_n 0, 1) := by decide +kernel
theorem dX9_cycles_6 : decode cX9_cycles 6 = .ok (.invokevirtual 135, 3) := by decide +kernel
theorem dX9_cycles_9 : decode cX9_cycles 9 = .ok (.aload_n 0, 1) := by decide +kernel
theorem dX9_cycles_10 : decode cX9_cycles 10 = .ok (.getfield 129, 3) := by decide +kernel
theorem dX9_cycles_13 : decode cX9_cycles 13 = .ok (.iconst 1, 1) := by decide +kernel
theorem dX9_cycles_14 : decode cX9_cycles 14 = .ok (.if_icmp .ne 30, 3) := by decide +kernel
theorem dX9_cycles_17 : decode cX9_cycles 17 = .ok (.aload_n 0, 1) := by decide +kernel
theorem dX9_cycles_18 : decode cX9_cycles 18 = .ok (.getfield 116, 3) := by decide +kernel
theorem dX9_cycles_21 : decode cX9_cycles 21 = .ok (.i2f, 1) := by decide +kernel
theorem dX9_cycles_22 : decode cX9_cycles 22 = .ok (.aload_n 0, 1) := by decide +kernel
theorem dX9_cycles_23 : decode cX9_cycles 23 = .ok (.getfield 24, 3) := by decide +kernel
theorem dX9_cycles_26 : decode cX9_cycles 26 = .ok (.aload_n 0, 1) := by decide +kernel
theorem dX9_cycles_27 : decode cX9_cycles 27 = .ok (.getfield 7, 3) := by decide +kernel
theorem dX9_cycles_30 : decode cX9_cycles 30 = .ok (.sipush 162, 3) := by decide +kernel
theorem dX9_cycles_33 : decode cX9_cycles 33 = .ok (.iaload, 1) := by decide +kernel
theorem dX9_cycles_34 : decode cX9_cycles 34 = .ok (.i2f, 1) := by decide +kernel
theorem dX9_cycles_35 : decode cX9_cycles 35 = .ok (.fadd, 1) := by decide +kernel
theorem dX9_cycles_36 : decode cX9_cycles 36 = .ok (.fcmp .l, 1) := by decide +kernel
theorem dX9_cycles_37 : decode cX9_cycles 37 = .ok (.ifCond .le 7, 3) := by decide +kernel
theorem dX9_cycles_40 : decode cX9_cycles 40 = .ok (.iconst 1, 1) := by decide +kernel
theorem dX9_cycles_41 : decode cX9_cycles 41 = .ok (.goto 4, 3) := by decide +kernel
theorem dX9_cycles_44 : decode cX9_cycles 44 = .ok (.iconst 0, 1) := by decide +kernel
theorem dX9_cycles_45 : decode cX9_cycles 45 = .ok (.istore_n 2, 1) := by decide +kernel
theorem dX9_cycles_46 : decode cX9_cycles 46 = .ok (.aload_n 0, 1) := by decide +kernel
theorem dX9_cycles_47 : decode cX9_cycles 47 = .ok (.iload_n 1, 1) := by decide +kernel
theorem dX9_cycles_48 : decode cX9_cycles 48 = .ok (.iload_n 2, 1) := by decide +kernel
theorem dX9_cycles_49 : decode cX9_cycles 49 = .ok (.invokevirtual 138, 3) := by decide +kernel
theorem dX9_cycles_52 : decode cX9_cycles 52 = .ok (.istore_n 3, 1) := by decide +kernel
theorem dX9_cycles_53 : decode cX9_cycles 53 = .ok (.iload_n 3, 1) := by decide +kernel
theorem dX9_cycles_54 : decode cX9_cycles 54 = .ok (.ifCond .ne 35, 3) := by decide +kernel
theorem dX9_cycles_57 : decode cX9_cycles 57 = .ok (.aload_n 0, 1) := by decide +kernel
theorem dX9_cycles_58 : decode cX9_cycles 58 = .ok (.aload_n 0, 1) := by decide +kernel
theorem dX9_cycles_59 : decode cX9_cycles 59 = .ok (.getfield 24, 3) := by decide +kernel
theorem dX9_cycles_62 : decode cX9_cycles 62 = .ok (.aload_n 0, 1) := by decide +kernel
theorem dX9_cycles_63 : decode cX9_cycles 63 = .ok (.getfield 116, 3) := by decide +kernel
theorem dX9_cycles_66 : decode cX9_cycles 66 = .ok (.i2f, 1) := by decide +kernel
theorem dX9_cycles_67 : decode cX9_cycles 67 = .ok (.aload_n 0, 1) := by decide +kernel
theorem dX9_cycles_68 : decode cX9_cycles 68 = .ok (.getfield 24, 3) := by decide +kernel
theorem dX9_cycles_71 : decode cX9_cycles 71 = .ok (.fsub, 1) := by decide +kernel
theorem dX9_cycles_72 : decode cX9_cycles 72 = .ok (.aload_n 0, 1) := by decide +kernel
theorem dX9_cycles_73 : decode cX9_cycles 73 = .ok (.getfield 7, 3) := by decide +kernel
theorem dX9_cycles_76 : decode cX9_cycles 76 = .ok (.sipush 167, 3) := by decide +kernel
theorem dX9_cycles_79 : decode cX9_cycles 79 = .ok (.iaload, 1) := by decide +kernel
theorem dX9_cycles_80 : decode cX9_cycles 80 = .ok (.i2f, 1) := by decide +kernel
theorem dX9_cycles_81 : decode cX9_cycles 81 = .ok (.ldc 142, 2) := by decide +kernel
theorem dX9_cycles_83 : decode cX9_cycles 83 = .ok (.fdiv, 1) := by decide +kernel
theorem dX9_cycles_84 : decode cX9_cycles 84 = .ok (.fmul, 1) := by decide +kernel
theorem dX9_cycles_85 : decode cX9_cycles 85 = .ok (.fadd, 1) := by decide +kernel
theorem dX9_cycles_86 : decode cX9_cycles 86 = .ok (.putfield 24, 3) := by decide +kernel
theorem dX9_cycles_89 : decode cX9_cycles 89 = .ok (.aload_n 0, 1) := by decide +kernel
theorem dX9_cycles_90 : decode cX9_cycles 90 = .ok (.getfield 7, 3) := by decide +kernel
theorem dX9_cycles_93 : decode cX9_cycles 93 = .ok (.sipush 184, 3) := by decide +kernel
theorem dX9_cycles_96 : decode cX9_cycles 96 = .ok (.dup2, 1) := by decide +kernel
theorem dX9_cycles_97 : decode cX9_cycles 97 = .ok (.iaload, 1) := by decide +kernel
theorem dX9_cycles_98 : decode cX9_cycles 98 = .ok (.iload_n 3, 1) := by decide +kernel
theorem dX9_cycles_99 : decode cX9_cycles 99 = .ok (.ifCond .ne 7, 3) := by decide +kernel
theorem dX9_cycles_102 : decode cX9_cycles 102 = .ok (.iconst 1, 1) := by decide +kernel
theorem dX9_cycles_103 : decode cX9_cycles 103 = .ok (.goto 4, 3) := by decide +kernel
theorem dX9_cycles_106 : decode cX9_cycles 106 = .ok (.iconst 0, 1) := by decide +kernel
theorem dX9_cycles_107 : decode cX9_cycles 107 = .ok (.iadd, 1) := by decide +kernel
theorem dX9_cycles_108 : decode cX9_cycles 108 = .ok (.iastore, 1) := by decide +kernel
theorem dX9_cycles_109 : decode cX9_cycles 109 = .ok (.aload_n 0, 1) := by decide +kernel
theorem dX9_cycles_110 : decode cX9_cycles 110 = .ok (.getfield 7, 3) := by decide +kernel
theorem dX9_cycles_113 : decode cX9_cycles 113 = .ok (.sipush 185, 3) := by decide +kernel
theorem dX9_cycles_116 : decode cX9_cycles 116 = .ok (.dup2, 1) := by decide +kernel
theorem dX9_cycles_117 : decode cX9_cycles 117 = .ok (.iaload, 1) := by decide +kernel
theorem dX9_cycles_118 : decode cX9_cycles 118 = .ok (.iload_n 3, 1) := by decide +kernel
theorem dX9_cycles_119 : decode cX9_cycles 119 = .ok (.ifCond .ne 7, 3) := by decide +kernel
theorem dX9_cycles_122 : decode cX9_cycles 122 = .ok (.iconst 0, 1) := by decide +kernel
theorem dX9_cycles_123 : decode cX9_cycles 123 = .ok (.goto 7, 3) := by decide +kernel
theorem dX9_cycles_126 : decode cX9_cycles 126 = .ok (.aload_n 0, 1) := by decide +kernel
theorem dX9_cycles_127 : decode cX9_cycles 127 = .ok (.getfield 122, 3) := by decide +kernel
theorem dX9_cycles_130 : decode cX9_cycles 130 = .ok (.iadd, 1) := by decide +kernel
theorem dX9_cycles_131 : decode cX9_cycles 131 = .ok (.iastore, 1) := by decide +kernel
theorem dX9_cycles_132 : decode cX9_cycles 132 = .ok (.aload_n 0, 1) := by decide +kernel
theorem dX9_cycles_133 : decode cX9_cycles 133 = .ok (.getfield 7, 3) := by decide +kernel
theorem dX9_cycles_136 : decode cX9_cycles 136 = .ok (.sipush 186, 3) := by decide +kernel
theorem dX9_cycles_139 : decode cX9_cycles 139 = .ok (.dup2, 1) := by decide +kernel
theorem dX9_cycles_140 : decode cX9_cycles 140 = .ok (.iaload, 1) := by decide +kernel
theorem dX9_cycles_141 : decode cX9_cycles 141 = .ok (.aload_n 0, 1) := by decide +kernel
theorem dX9_cycles_142 : decode cX9_cycles 142 = .ok (.getfield 125, 3) := by decide +kernel
theorem dX9_cycles_145 : decode cX9_cycles 145 = .ok (.ifCond .eq 7, 3) := by decide +kernel
theorem dX9_cycles_148 : decode cX9_cycles 148 = .ok (.iconst 1, 1) := by decide +kernel
theorem dX9_cycles_149 : decode cX9_cycles 149 = .ok (.goto 4, 3) := by decide +kernel
theorem dX9_cycles_152 : decode cX9_cycles 152 = .ok (.iconst 0, 1) := by decide +kernel
theorem dX9_cycles_153 : decode cX9_cycles 153 = .ok (.iadd, 1) := by decide +kernel
theorem dX9_cycles_154 : decode cX9_cycles 154 = .ok (.iastore, 1) := by decide +kernel
theorem dX9_cycles_155 : decode cX9_cycles 155 = .ok (.aload_n 0, 1) := by decide +kernel
theorem dX9_cycles_156 : decode cX9_cycles 156 = .ok (.getfield 7, 3) := by decide +kernel
theorem dX9_cycles_159 : decode cX9_cycles 159 = .ok (.sipush 187, 3) := by decide +kernel
theorem dX9_cycles_162 : decode cX9_cycles 162 = .ok (.dup2, 1) := by decide +kernel
theorem dX9_cycles_163 : decode cX9_cycles 163 = .ok (.iaload, 1) := by decide +kernel
theorem dX9_cycles_164 : decode cX9_cycles 164 = .ok (.iload_n 2, 1) := by decide +kernel
theorem dX9_cycles_165 : decode cX9_cycles 165 = .ok (.ifCond .eq 7, 3) := by decide +kernel
theorem dX9_cycles_168 : decode cX9_cycles 168 = .ok (.iconst 1, 1) := by decide +kernel
theorem dX9_cycles_169 : decode cX9_cycles 169 = .ok (.goto 4, 3) := by decide +kernel
theorem dX9_cycles_172 : decode cX9_cycles 172 = .ok (.iconst 0, 1) := by decide +kernel
theorem dX9_cycles_173 : decode cX9_cycles 173 = .ok (.iadd, 1) := by decide +kernel
theorem dX9_cycles_174 : decode cX9_cycles 174 = .ok (.iastore, 1) := by decide +kernel
theorem dX9_cycles_175 : decode cX9_cycles 175 = .ok (.aload_n 0, 1) := by decide +kernel
theorem dX9_cycles_176 : decode cX9_cycles 176 = .ok (.getfield 7, 3) := by decide +kernel
theorem dX9_cycles_179 : decode cX9_cycles 179 = .ok (.sipush 190, 3) := by decide +kernel
theorem dX9_cycles_182 : decode cX9_cycles 182 = .ok (.iload_n 3, 1) := by decide +kernel
theorem dX9_cycles_183 : decode cX9_cycles 183 = .ok (.iadd, 1) := by decide +kernel
theorem dX9_cycles_184 : decode cX9_cycles 184 = .ok (.dup2, 1) := by decide +kernel
theorem dX9_cycles_185 : decode cX9_cycles 185 = .ok (.iaload, 1) := by decide +kernel
theorem dX9_cycles_186 : decode cX9_cycles 186 = .ok (.iconst 1, 1) := by decide +kernel
theorem dX9_cycles_187 : decode cX9_cycles 187 = .ok (.iadd, 1) := by decide +kernel
theorem dX9_cycles_188 : decode cX9_cycles 188 = .ok (.iastore, 1) := by decide +kernel
theorem dX9_cycles_189 : decode cX9_cycles 189 = .ok (.aload_n 0, 1) := by decide +kernel
theorem dX9_cycles_190 : decode cX9_cycles 190 = .ok (.getfield 7, 3) := by decide +kernel
theorem dX9_cycles_193 : decode cX9_cycles 193 = .ok (.sipush 181, 3) := by decide +kernel
theorem dX9_cycles_196 : decode cX9_cycles 196 = .ok (.dup2, 1) := by decide +kernel
theorem dX9_cycles_197 : decode cX9_cycles 197 = .ok (.iaload, 1) := by decide +kernel
theorem dX9_cycles_198 : decode cX9_cycles 198 = .ok (.iconst 1, 1) := by decide +kernel
theorem dX9_cycles_199 : decode cX9_cycles 199 = .ok (.iadd, 1) := by decide +kernel
theorem dX9_cycles_200 : decode cX9_cycles 200 = .ok (.iastore, 1) := by decide +kernel
theorem dX9_cycles_201 : decode cX9_cycles 201 = .ok (.aload_n 0, 1) := by decide +kernel
theorem dX9_cycles_202 : decode cX9_cycles 202 = .ok (.getfield 7, 3) := by decide +kernel
end
section
theorem dX9_cycles_205 : decode cX9_cycles 205 = .ok (.sipush 188, 3) := by decide +kernel
theorem dX9_cycles_208 : decode cX9_cycles 208 = .ok (.iload_n 3, 1) := by decide +kernel
theorem dX9_cycles_209 : decode cX9_cycles 209 = .ok (.iconst 1, 1) := by decide +kernel
theorem dX9_cycles_210 : decode cX9_cycles 210 = .ok (.if_icmp .eq 19, 3) := by decide +kernel
theorem dX9_cycles_213 : decode cX9_cycles 213 = .ok (.iload_n 3, 1) := by decide +kernel
theorem dX9_cycles_214 : decode cX9_cycles 214 = .ok (.iconst 2, 1) := by decide +kernel
theorem dX9_cycles_215 : decode cX9_cycles 215 = .ok (.if_icmp .eq 14, 3) := by decide +kernel
theorem dX9_cycles_218 : decode cX9_cycles 218 = .ok (.iload_n 3, 1) := by decide +kernel
theorem dX9_cycles_219 : decode cX9_cycles 219 = .ok (.iconst 4, 1) := by decide +kernel
theorem dX9_cycles_220 : decode cX9_cycles 220 = .ok (.if_icmp .eq 9, 3) := by decide +kernel
theorem dX9_cycles_223 : decode cX9_cycles 223 = .ok (.iload_n 3, 1) := by decide +kernel
theorem dX9_cycles_224 : decode cX9_cycles 224 = .ok (.bipush 6, 2) := by decide +kernel
theorem dX9_cycles_226 : decode cX9_cycles 226 = .ok (.if_icmp .ne 16, 3) := by decide +kernel
theorem dX9_cycles_229 : decode cX9_cycles 229 = .ok (.aload_n 0, 1) := by decide +kernel
theorem dX9_cycles_230 : decode cX9_cycles 230 = .ok (.getfield 7, 3) := by decide +kernel
theorem dX9_cycles_233 : decode cX9_cycles 233 = .ok (.sipush 188, 3) := by decide +kernel
theorem dX9_cycles_236 : decode cX9_cycles 236 = .ok (.iaload, 1) := by decide +kernel
theorem dX9_cycles_237 : decode cX9_cycles 237 = .ok (.iconst 1, 1) := by decide +kernel
theorem dX9_cycles_238 : decode cX9_cycles 238 = .ok (.iadd, 1) := by decide +kernel
theorem dX9_cycles_239 : decode cX9_cycles 239 = .ok (.goto 4, 3) := by decide +kernel
theorem dX9_cycles_242 : decode cX9_cycles 242 = .ok (.iconst 0, 1) := by decide +kernel
theorem dX9_cycles_243 : decode cX9_cycles 243 = .ok (.iastore, 1) := by decide +kernel
theorem dX9_cycles_244 : decode cX9_cycles 244 = .ok (.aload_n 0, 1) := by decide +kernel
theorem dX9_cycles_245 : decode cX9_cycles 245 = .ok (.iload_n 3, 1) := by decide +kernel
theorem dX9_cycles_246 : decode cX9_cycles 246 = .ok (.invokevirtual 143, 3) := by decide +kernel
theorem dX9_cycles_249 : decode cX9_cycles 249 = .ok (.aload_n 0, 1) := by decide +kernel
theorem dX9_cycles_250 : decode cX9_cycles 250 = .ok (.getfield 7, 3) := by decide +kernel
theorem dX9_cycles_253 : decode cX9_cycles 253 = .ok (.sipush 198, 3) := by decide +kernel
theorem dX9_cycles_256 : decode cX9_cycles 256 = .ok (.aload_n 0, 1) := by decide +kernel
theorem dX9_cycles_257 : decode cX9_cycles 257 = .ok (.getfield 116, 3) := by decide +kernel
theorem dX9_cycles_260 : decode cX9_cycles 260 = .ok (.iastore, 1) := by decide +kernel
theorem dX9_cycles_261 : decode cX9_cycles 261 = .ok (.aload_n 0, 1) := by decide +kernel
theorem dX9_cycles_262 : decode cX9_cycles 262 = .ok (.getfield 7, 3) := by decide +kernel
theorem dX9_cycles_265 : decode cX9_cycles 265 = .ok (.sipush 199, 3) := by decide +kernel
theorem dX9_cycles_268 : decode cX9_cycles 268 = .ok (.aload_n 0, 1) := by decide +kernel
theorem dX9_cycles_269 : decode cX9_cycles 269 = .ok (.getfield 122, 3) := by decide +kernel
theorem dX9_cycles_272 : decode cX9_cycles 272 = .ok (.iastore, 1) := by decide +kernel
theorem dX9_cycles_273 : decode cX9_cycles 273 = .ok (.aload_n 0, 1) := by decide +kernel
theorem dX9_cycles_274 : decode cX9_cycles 274 = .ok (.getfield 7, 3) := by decide +kernel
theorem dX9_cycles_277 : decode cX9_cycles 277 = .ok (.sipush 200, 3) := by decide +kernel
theorem dX9_cycles_280 : decode cX9_cycles 280 = .ok (.iload_n 3, 1) := by decide +kernel
theorem dX9_cycles_281 : decode cX9_cycles 281 = .ok (.iastore, 1) := by decide +kernel
theorem dX9_cycles_282 : decode cX9_cycles 282 = .ok (.aload_n 0, 1) := by decide +kernel
theorem dX9_cycles_283 : decode cX9_cycles 283 = .ok (.getfield 7, 3) := by decide +kernel
theorem dX9_cycles_286 : decode cX9_cycles 286 = .ok (.sipush 201, 3) := by decide +kernel
theorem dX9_cycles_289 : decode cX9_cycles 289 = .ok (.aload_n 0, 1) := by decide +kernel
theorem dX9_cycles_290 : decode cX9_cycles 290 = .ok (.getfield 7, 3) := by decide +kernel
theorem dX9_cycles_293 : decode cX9_cycles 293 = .ok (.sipush 169, 3) := by decide +kernel
theorem dX9_cycles_296 : decode cX9_cycles 296 = .ok (.iaload, 1) := by decide +kernel
theorem dX9_cycles_297 : decode cX9_cycles 297 = .ok (.iastore, 1) := by decide +kernel
theorem dX9_cycles_298 : decode cX9_cycles 298 = .ok (.aload_n 0, 1) := by decide +kernel
theorem dX9_cycles_299 : decode cX9_cycles 299 = .ok (.getfield 7, 3) := by decide +kernel
theorem dX9_cycles_302 : decode cX9_cycles 302 = .ok (.sipush 202, 3) := by decide +kernel
theorem dX9_cycles_305 : decode cX9_cycles 305 = .ok (.aload_n 0, 1) := by decide +kernel
theorem dX9_cycles_306 : decode cX9_cycles 306 = .ok (.getfield 119, 3) := by decide +kernel
theorem dX9_cycles_309 : decode cX9_cycles 309 = .ok (.iastore, 1) := by decide +kernel
theorem dX9_cycles_310 : decode cX9_cycles 310 = .ok (.aload_n 0, 1) := by decide +kernel
theorem dX9_cycles_311 : decode cX9_cycles 311 = .ok (.getfield 7, 3) := by decide +kernel
theorem dX9_cycles_314 : decode cX9_cycles 314 = .ok (.sipush 203, 3) := by decide +kernel
theorem dX9_cycles_317 : decode cX9_cycles 317 = .ok (.aload_n 0, 1) := by decide +kernel
theorem dX9_cycles_318 : decode cX9_cycles 318 = .ok (.getfield 129, 3) := by decide +kernel
theorem dX9_cycles_321 : decode cX9_cycles 321 = .ok (.iastore, 1) := by decide +kernel
theorem dX9_cycles_322 : decode cX9_cycles 322 = .ok (.aload_n 0, 1) := by decide +kernel
theorem dX9_cycles_323 : decode cX9_cycles 323 = .ok (.getfield 7, 3) := by decide +kernel
theorem dX9_cycles_326 : decode cX9_cycles 326 = .ok (.sipush 189, 3) := by decide +kernel
theorem dX9_cycles_329 : decode cX9_cycles 329 = .ok (.aload_n 0, 1) := by decide +kernel
theorem dX9_cycles_330 : decode cX9_cycles 330 = .ok (.getfield 7, 3) := by decide +kernel
theorem dX9_cycles_333 : decode cX9_cycles 333 = .ok (.sipush 188, 3) := by decide +kernel
theorem dX9_cycles_336 : decode cX9_cycles 336 = .ok (.iaload, 1) := by decide +kernel
theorem dX9_cycles_337 : decode cX9_cycles 337 = .ok (.aload_n 0, 1) := by decide +kernel
theorem dX9_cycles_338 : decode cX9_cycles 338 = .ok (.getfield 7, 3) := by decide +kernel
theorem dX9_cycles_341 : decode cX9_cycles 341 = .ok (.sipush 168, 3) := by decide +kernel
theorem dX9_cycles_344 : decode cX9_cycles 344 = .ok (.iaload, 1) := by decide +kernel
theorem dX9_cycles_345 : decode cX9_cycles 345 = .ok (.if_icmp .lt 7, 3) := by decide +kernel
theorem dX9_cycles_348 : decode cX9_cycles 348 = .ok (.iconst 1, 1) := by decide +kernel
theorem dX9_cycles_349 : decode cX9_cycles 349 = .ok (.goto 11, 3) := by decide +kernel
theorem dX9_cycles_352 : decode cX9_cycles 352 = .ok (.aload_n 0, 1) := by decide +kernel
theorem dX9_cycles_353 : decode cX9_cycles 353 = .ok (.getfield 7, 3) := by decide +kernel
theorem dX9_cycles_356 : decode cX9_cycles 356 = .ok (.sipush 189, 3) := by decide +kernel
theorem dX9_cycles_359 : decode cX9_cycles 359 = .ok (.iaload, 1) := by decide +kernel
theorem dX9_cycles_360 : decode cX9_cycles 360 = .ok (.iastore, 1) := by decide +kernel
theorem dX9_cycles_361 : decode cX9_cycles 361 = .ok (.return_, 1) := by decide +kernel
set_option maxRecDepth 20000 in
theorem ggX9_run_X9_in : GoodIn wsX9_run wsX9_in := goodIn_r _ [5] (by decide +kernel) (by decide +kernel)
set_option maxRecDepth 20000 in
theorem gX9_run_X9_in : GoodIn wsX9_run (va_wsS RX9 43 yX9_in wsX9_in) := goodIn_app (goodIn_of _ (by decide +kernel)) ggX9_run_X9_in
set_option maxRecDepth 20000 in
theorem ggX9_run_X9_cycles : GoodIn wsX9_run wsX9_cycles := goodIn_r _ [9, 10, 11, 12, 1, 13, 14, 15, 16, 17, 18, 19, 4, 20, 21, 22, 23, 24, 25, 26, 27, 28, 29, 30, 31, 32, 33, 34, 35, 36, 37, 38, 39, 40, 41, 42, 43, 44, 45, 46, 47, 48, 49, 50, 51, 52, 53, 54, 55, 56, 57, 58, 59, 60] (by decide +kernel) (by decide +kernel)
set_option maxRecDepth 20000 in
theorem gX9_run_X9_cycles : GoodIn wsX9_run (wsV RX9 146 RX9 yX9_cycles wsX9_cycles) := goodIn_app (goodIn_of _ (by decide +kernel)) ggX9_run_X9_cycles
theorem dX9_run_0 : decode cX9_run 0 = .ok (.iload_n 1, 1) := by decide +kernel
theorem dX9_run_1 : decode cX9_run 1 = .ok (.iconst 1, 1) := by decide +kernel
theorem dX9_run_2 : decode cX9_run 2 = .ok (.bipush 100, 2) := by decide +kernel
theorem dX9_run_4 : decode cX9_run 4 = .ok (.invokestatic 43, 3) := by decide +kernel
theorem dX9_run_7 : decode cX9_run 7 = .ok (.ifCond .eq 14, 3) := by decide +kernel
theorem dX9_run_10 : decode cX9_run 10 = .ok (.iload_n 2, 1) := by decide +kernel
theorem dX9_run_11 : decode cX9_run 11 = .ok (.iconst 0, 1) := by decide +kernel
theorem dX9_run_12 : decode cX9_run 12 = .ok (.sipush 1000, 3) := by decide +kernel
theorem dX9_run_15 : decode cX9_run 15 = .ok (.invokestatic 43, 3) := by decide +kernel
theorem dX9_run_18 : decode cX9_run 18 = .ok (.ifCond .ne 6, 3) := by decide +kernel
theorem dX9_run_21 : decode cX9_run 21 = .ok (.bipush (-2), 2) := by decide +kernel
theorem dX9_run_23 : decode cX9_run 23 = .ok (.ireturn, 1) := by decide +kernel
theorem dX9_run_24 : decode cX9_run 24 = .ok (.aload_n 0, 1) := by decide +kernel
theorem dX9_run_25 : decode cX9_run 25 = .ok (.getfield 7, 3) := by decide +kernel
theorem dX9_run_28 : decode cX9_run 28 = .ok (.sipush 189, 3) := by decide +kernel
theorem dX9_run_31 : decode cX9_run 31 = .ok (.iaload, 1) := by decide +kernel
theorem dX9_run_32 : decode cX9_run 32 = .ok (.iconst 1, 1) := by decide +kernel
theorem dX9_run_33 : decode cX9_run 33 = .ok (.if_icmp .ne 6, 3) := by decide +kernel
theorem dX9_run_36 : decode cX9_run 36 = .ok (.bipush (-3), 2) := by decide +kernel
theorem dX9_run_38 : decode cX9_run 38 = .ok (.ireturn, 1) := by decide +kernel
theorem dX9_run_39 : decode cX9_run 39 = .ok (.iconst 0, 1) := by decide +kernel
theorem dX9_run_40 : decode cX9_run 40 = .ok (.istore_n 3, 1) := by decide +kernel
theorem dX9_run_41 : decode cX9_run 41 = .ok (.iload_n 3, 1) := by decide +kernel
theorem dX9_run_42 : decode cX9_run 42 = .ok (.iload_n 1, 1) := by decide +kernel
theorem dX9_run_43 : decode cX9_run 43 = .ok (.if_icmp .ge 25, 3) := by decide +kernel
theorem dX9_run_46 : decode cX9_run 46 = .ok (.aload_n 0, 1) := by decide +kernel
theorem dX9_run_47 : decode cX9_run 47 = .ok (.getfield 7, 3) := by decide +kernel
theorem dX9_run_50 : decode cX9_run 50 = .ok (.sipush 189, 3) := by decide +kernel
theorem dX9_run_53 : decode cX9_run 53 = .ok (.iaload, 1) := by decide +kernel
theorem dX9_run_54 : decode cX9_run 54 = .ok (.ifCond .ne 14, 3) := by decide +kernel
theorem dX9_run_57 : decode cX9_run 57 = .ok (.aload_n 0, 1) := by decide +kernel
theorem dX9_run_58 : decode cX9_run 58 = .ok (.iload_n 2, 1) := by decide +kernel
theorem dX9_run_59 : decode cX9_run 59 = .ok (.invokevirtual 146, 3) := by decide +kernel
theorem dX9_run_62 : decode cX9_run 62 = .ok (.iinc 3 1, 3) := by decide +kernel
theorem dX9_run_65 : decode cX9_run 65 = .ok (.goto (-24), 3) := by decide +kernel
theorem dX9_run_68 : decode cX9_run 68 = .ok (.iload_n 3, 1) := by decide +kernel
theorem dX9_run_69 : decode cX9_run 69 = .ok (.ireturn, 1) := by decide +kernel
theorem dX9_clearFaults_0 : decode cX9_clearFaults 0 = .ok (.aload_n 0, 1) := by decide +kernel
theorem dX9_clearFaults_1 : decode cX9_clearFaults 1 = .ok (.getfield 7, 3) := by decide +kernel
theorem dX9_clearFaults_4 : decode cX9_clearFaults 4 = .ok (.sipush 188, 3) := by decide +kernel
theorem dX9_clearFaults_7 : decode cX9_clearFaults 7 = .ok (.iaload, 1) := by decide +kernel
theorem dX9_clearFaults_8 : decode cX9_clearFaults 8 = .ok (.istore_n 1, 1) := by decide +kernel
theorem dX9_clearFaults_9 : decode cX9_clearFaults 9 = .ok (.aload_n 0, 1) := by decide +kernel
theorem dX9_clearFaults_10 : decode cX9_clearFaults 10 = .ok (.getfield 7, 3) := by decide +kernel
theorem dX9_clearFaults_13 : decode cX9_clearFaults 13 = .ok (.sipush 188, 3) := by decide +kernel
theorem dX9_clearFaults_16 : decode cX9_clearFaults 16 = .ok (.iconst 0, 1) := by decide +kernel
theorem dX9_clearFaults_17 : decode cX9_clearFaults 17 = .ok (.iastore, 1) := by decide +kernel
theorem dX9_clearFaults_18 : decode cX9_clearFaults 18 = .ok (.aload_n 0, 1) := by decide +kernel
theorem dX9_clearFaults_19 : decode cX9_clearFaults 19 = .ok (.getfield 7, 3) := by decide +kernel
theorem dX9_clearFaults_22 : decode cX9_clearFaults 22 = .ok (.sipush 189, 3) := by decide +kernel
theorem dX9_clearFaults_25 : decode cX9_clearFaults 25 = .ok (.iconst 0, 1) := by decide +kernel
theorem dX9_clearFaults_26 : decode cX9_clearFaults 26 = .ok (.iastore, 1) := by decide +kernel
theorem dX9_clearFaults_27 : decode cX9_clearFaults 27 = .ok (.iload_n 1, 1) := by decide +kernel
theorem dX9_clearFaults_28 : decode cX9_clearFaults 28 = .ok (.ireturn, 1) := by decide +kernel
set_option maxRecDepth 20000 in
theorem ggX9_latest_X9_in : GoodIn wsX9_latest wsX9_in := goodIn_r _ [5] (by decide +kernel) (by decide +kernel)
set_option maxRecDepth 20000 in
theorem gX9_latest_X9_in : GoodIn wsX9_latest (va_wsS RX9 43 yX9_in wsX9_in) := goodIn_app (goodIn_of _ (by decide +kernel)) ggX9_latest_X9_in
theorem dX9_latest_0 : decode cX9_latest 0 = .ok (.iload_n 1, 1) := by decide +kernel
theorem dX9_latest_1 : decode cX9_latest 1 = .ok (.iconst 0, 1) := by decide +kernel
theorem dX9_latest_2 : decode cX9_latest 2 = .ok (.iconst 5, 1) := by decide +kernel
theorem dX9_latest_3 : decode cX9_latest 3 = .ok (.invokestatic 43, 3) := by decide +kernel
theorem dX9_latest_6 : decode cX9_latest 6 = .ok (.ifCond .eq 16, 3) := by decide +kernel
theorem dX9_latest_9 : decode cX9_latest 9 = .ok (.aload_n 0, 1) := by decide +kernel
theorem dX9_latest_10 : decode cX9_latest 10 = .ok (.getfield 7, 3) := by decide +kernel
theorem dX9_latest_13 : decode cX9_latest 13 = .ok (.sipush 198, 3) := by decide +kernel
theorem dX9_latest_16 : decode cX9_latest 16 = .ok (.iload_n 1, 1) := by decide +kernel
theorem dX9_latest_17 : decode cX9_latest 17 = .ok (.iadd, 1) := by decide +kernel
theorem dX9_latest_18 : decode cX9_latest 18 = .ok (.iaload, 1) := by decide +kernel
theorem dX9_latest_19 : decode cX9_latest 19 = .ok (.goto 5, 3) := by decide +kernel
theorem dX9_latest_22 : decode cX9_latest 22 = .ok (.bipush (-2), 2) := by decide +kernel
theorem dX9_latest_24 : decode cX9_latest 24 = .ok (.ireturn, 1) := by decide +kernel
set_option maxRecDepth 20000 in
theorem ggX9_station_X9_in : GoodIn wsX9_station wsX9_in := goodIn_r _ [5] (by decide +kernel) (by decide +kernel)
set_option maxRecDepth 20000 in
theorem gX9_station_X9_in : GoodIn wsX9_station (va_wsS RX9 43 yX9_in wsX9_in) := goodIn_app (goodIn_of _ (by decide +kernel)) ggX9_station_X9_in
theorem dX9_station_0 : decode cX9_station 0 = .ok (.iload_n 1, 1) := by decide +kernel
theorem dX9_station_1 : decode cX9_station 1 = .ok (.iconst 0, 1) := by decide +kernel
theorem dX9_station_2 : decode cX9_station 2 = .ok (.aload_n 0, 1) := by decide +kernel
theorem dX9_station_3 : decode cX9_station 3 = .ok (.getfield 7, 3) := by decide +kernel
theorem dX9_station_6 : decode cX9_station 6 = .ok (.sipush 170, 3) := by decide +kernel
theorem dX9_station_9 : decode cX9_station 9 = .ok (.iaload, 1) := by decide +kernel
theorem dX9_station_10 : decode cX9_station 10 = .ok (.iconst 1, 1) := by decide +kernel
theorem dX9_station_11 : decode cX9_station 11 = .ok (.isub, 1) := by decide +kernel
theorem dX9_station_12 : decode cX9_station 12 = .ok (.invokestatic 43, 3) := by decide +kernel
theorem dX9_station_15 : decode cX9_station 15 = .ok (.ifCond .eq 16, 3) := by decide +kernel
theorem dX9_station_18 : decode cX9_station 18 = .ok (.aload_n 0, 1) := by decide +kernel
theorem dX9_station_19 : decode cX9_station 19 = .ok (.getfield 7, 3) := by decide +kernel
theorem dX9_station_22 : decode cX9_station 22 = .ok (.sipush 171, 3) := by decide +kernel
theorem dX9_station_25 : decode cX9_station 25 = .ok (.iload_n 1, 1) := by decide +kernel
theorem dX9_station_26 : decode cX9_station 26 = .ok (.iadd, 1) := by decide +kernel
theorem dX9_station_27 : decode cX9_station 27 = .ok (.iaload, 1) := by decide +kernel
theorem dX9_station_28 : decode cX9_station 28 = .ok (.goto 5, 3) := by decide +kernel
theorem dX9_station_31 : decode cX9_station 31 = .ok (.bipush (-2), 2) := by decide +kernel
theorem dX9_station_33 : decode cX9_station 33 = .ok (.ireturn, 1) := by decide +kernel
set_option maxRecDepth 20000 in
theorem ggX9_pitch_Jxf58ca_floatToIntBits_5c35a : GoodIn wsX9_pitch wsJxf58ca_floatToIntBits_5c35a := goodIn_r _ [5, 6, 7, 8, 9, 10, 11, 12, 4, 13] (by decide +kernel) (by decide +kernel)
set_option maxRecDepth 20000 in
theorem gX9_pitch_Jxf58ca_floatToIntBits_5c35a : GoodIn wsX9_pitch (va_wsS RX9 106 yJxf58ca_floatToIntBits_5c35a wsJxf58ca_floatToIntBits_5c35a) := goodIn_app (goodIn_of _ (by decide +kernel)) ggX9_pitch_Jxf58ca_floatToIntBits_5c35a
theorem dX9_pitch_0 : decode cX9_pitch 0 = .ok (.aload_n 0, 1) := by decide +kernel
theorem dX9_pitch_1 : decode cX9_pitch 1 = .ok (.getfield 24, 3) := by decide +kernel
theorem dX9_pitch_4 : decode cX9_pitch 4 = .ok (.invokestatic 106, 3) := by decide +kernel
theorem dX9_pitch_7 : decode cX9_pitch 7 = .ok (.ireturn, 1) := by decide +kernel
theorem dX9_keepsAside_0 : decode cX9_keepsAside 0 = .ok (.iconst 0, 1) := by decide +kernel
theorem dX9_keepsAside_1 : decode cX9_keepsAside 1 = .ok (.istore_n 1, 1) := by decide +kernel
theorem dX9_keepsAside_2 : decode cX9_keepsAside 2 = .ok (.iload_n 1, 1) := by decide +kernel
theorem dX9_keepsAside_3 : decode cX9_keepsAside 3 = .ok (.sipush 204, 3) := by decide +kernel
theorem dX9_keepsAside_6 : decode cX9_keepsAside 6 = .ok (.if_icmp .ge 21, 3) := by decide +kernel
theorem dX9_keepsAside_9 : decode cX9_keepsAside 9 = .ok (.aload_n 0, 1) := by decide +kernel
theorem dX9_keepsAside_10 : decode cX9_keepsAside 10 = .ok (.getfield 13, 3) := by decide +kernel
theorem dX9_keepsAside_13 : decode cX9_keepsAside 13 = .ok (.iload_n 1, 1) := by decide +kernel
theorem dX9_keepsAside_14 : decode cX9_keepsAside 14 = .ok (.aload_n 0, 1) := by decide +kernel
theorem dX9_keepsAside_15 : decode cX9_keepsAside 15 = .ok (.getfield 7, 3) := by decide +kernel
theorem dX9_keepsAside_18 : decode cX9_keepsAside 18 = .ok (.iload_n 1, 1) := by decide +kernel
theorem dX9_keepsAside_19 : decode cX9_keepsAside 19 = .ok (.iaload, 1) := by decide +kernel
theorem dX9_keepsAside_20 : decode cX9_keepsAside 20 = .ok (.iastore, 1) := by decide +kernel
theorem dX9_keepsAside_21 : decode cX9_keepsAside 21 = .ok (.iinc 1 1, 3) := by decide +kernel
theorem dX9_keepsAside_24 : decode cX9_keepsAside 24 = .ok (.goto (-22), 3) := by decide +kernel
theorem dX9_keepsAside_27 : decode cX9_keepsAside 27 = .ok (.aload_n 0, 1) := by decide +kernel
theorem dX9_keepsAside_28 : decode cX9_keepsAside 28 = .ok (.aload_n 0, 1) := by decide +kernel
theorem dX9_keepsAside_29 : decode cX9_keepsAside 29 = .ok (.getfield 24, 3) := by decide +kernel
theorem dX9_keepsAside_32 : decode cX9_keepsAside 32 = .ok (.putfield 149, 3) := by decide +kernel
theorem dX9_keepsAside_35 : decode cX9_keepsAside 35 = .ok (.return_, 1) := by decide +kernel
theorem dX9_returns_0 : decode cX9_returns 0 = .ok (.iconst 0, 1) := by decide +kernel
theorem dX9_returns_1 : decode cX9_returns 1 = .ok (.istore_n 1, 1) := by decide +kernel
theorem dX9_returns_2 : decode cX9_returns 2 = .ok (.iload_n 1, 1) := by decide +kernel
theorem dX9_returns_3 : decode cX9_returns 3 = .ok (.sipush 204, 3) := by decide +kernel
theorem dX9_returns_6 : decode cX9_returns 6 = .ok (.if_icmp .ge 21, 3) := by decide +kernel
theorem dX9_returns_9 : decode cX9_returns 9 = .ok (.aload_n 0, 1) := by decide +kernel
theorem dX9_returns_10 : decode cX9_returns 10 = .ok (.getfield 7, 3) := by decide +kernel
theorem dX9_returns_13 : decode cX9_returns 13 = .ok (.iload_n 1, 1) := by decide +kernel
theorem dX9_returns_14 : decode cX9_returns 14 = .ok (.aload_n 0, 1) := by decide +kernel
theorem dX9_returns_15 : decode cX9_returns 15 = .ok (.getfield 13, 3) := by decide +kernel
theorem dX9_returns_18 : decode cX9_returns 18 = .ok (.iload_n 1, 1) := by decide +kernel
theorem dX9_returns_19 : decode cX9_returns 19 = .ok (.iaload, 1) := by decide +kernel
theorem dX9_returns_20 : decode cX9_returns 20 = .ok (.iastore, 1) := by decide +kernel
theorem dX9_returns_21 : decode cX9_returns 21 = .ok (.iinc 1 1, 3) := by decide +kernel
theorem dX9_returns_24 : decode cX9_returns 24 = .ok (.goto (-22), 3) := by decide +kernel
theorem dX9_returns_27 : decode cX9_returns 27 = .ok (.aload_n 0, 1) := by decide +kernel
theorem dX9_returns_28 : decode cX9_returns 28 = .ok (.aload_n 0, 1) := by decide +kernel
theorem dX9_returns_29 : decode cX9_returns 29 = .ok (.getfield 149, 3) := by decide +kernel
theorem dX9_returns_32 : decode cX9_returns 32 = .ok (.putfield 24, 3) := by decide +kernel
theorem dX9_returns_35 : decode cX9_returns 35 = .ok (.return_, 1) := by decide +kernel
set_option maxRecDepth 20000 in
theorem ggX9_looksAhead_X9_cycles : GoodIn wsX9_looksAhead wsX9_cycles := goodIn_r _ [6, 7, 8, 9, 1, 10, 11, 12, 13, 14, 15, 16, 5, 17, 18, 19, 20, 21, 22, 23, 24, 25, 26, 27, 28, 29, 30, 31, 32, 33, 34, 35, 36, 37, 38, 39, 40, 41, 42, 43, 44, 45, 46, 47, 48, 49, 50, 51, 52, 53, 54, 55, 56, 57] (by decide +kernel) (by decide +kernel)
set_option maxRecDepth 20000 in
theorem gX9_looksAhead_X9_cycles : GoodIn wsX9_looksAhead (wsV RX9 146 RX9 yX9_cycles wsX9_cycles) := goodIn_app (goodIn_of _ (by decide +kernel)) ggX9_looksAhead_X9_cycles
theorem dX9_looksAhead_0 : decode cX9_looksAhead 0 = .ok (.aload_n 0, 1) := by decide +kernel
theorem dX9_looksAhead_1 : decode cX9_looksAhead 1 = .ok (.getfield 7, 3) := by decide +kernel
theorem dX9_looksAhead_4 : decode cX9_looksAhead 4 = .ok (.sipush 190, 3) := by decide +kernel
theorem dX9_looksAhead_7 : decode cX9_looksAhead 7 = .ok (.iaload, 1) := by decide +kernel
theorem dX9_looksAhead_8 : decode cX9_looksAhead 8 = .ok (.istore 4, 2) := by decide +kernel
theorem dX9_looksAhead_10 : decode cX9_looksAhead 10 = .ok (.aload_n 0, 1) := by decide +kernel
theorem dX9_looksAhead_11 : decode cX9_looksAhead 11 = .ok (.getfield 7, 3) := by decide +kernel
theorem dX9_looksAhead_14 : decode cX9_looksAhead 14 = .ok (.sipush 185, 3) := by decide +kernel
theorem dX9_looksAhead_17 : decode cX9_looksAhead 17 = .ok (.iaload, 1) := by decide +kernel
theorem dX9_looksAhead_18 : decode cX9_looksAhead 18 = .ok (.istore 5, 2) := by decide +kernel
theorem dX9_looksAhead_20 : decode cX9_looksAhead 20 = .ok (.iconst (-1), 1) := by decide +kernel
theorem dX9_looksAhead_21 : decode cX9_looksAhead 21 = .ok (.istore 6, 2) := by decide +kernel
theorem dX9_looksAhead_23 : decode cX9_looksAhead 23 = .ok (.iconst 1, 1) := by decide +kernel
theorem dX9_looksAhead_24 : decode cX9_looksAhead 24 = .ok (.istore 7, 2) := by decide +kernel
theorem dX9_looksAhead_26 : decode cX9_looksAhead 26 = .ok (.iload 7, 2) := by decide +kernel
theorem dX9_looksAhead_28 : decode cX9_looksAhead 28 = .ok (.iload_n 1, 1) := by decide +kernel
theorem dX9_looksAhead_29 : decode cX9_looksAhead 29 = .ok (.if_icmp .gt 48, 3) := by decide +kernel
theorem dX9_looksAhead_32 : decode cX9_looksAhead 32 = .ok (.aload_n 0, 1) := by decide +kernel
theorem dX9_looksAhead_33 : decode cX9_looksAhead 33 = .ok (.iload_n 2, 1) := by decide +kernel
theorem dX9_looksAhead_34 : decode cX9_looksAhead 34 = .ok (.invokevirtual 146, 3) := by decide +kernel
theorem dX9_looksAhead_37 : decode cX9_looksAhead 37 = .ok (.iload 6, 2) := by decide +kernel
theorem dX9_looksAhead_39 : decode cX9_looksAhead 39 = .ok (.iconst (-1), 1) := by decide +kernel
theorem dX9_looksAhead_40 : decode cX9_looksAhead 40 = .ok (.if_icmp .ne 27, 3) := by decide +kernel
theorem dX9_looksAhead_43 : decode cX9_looksAhead 43 = .ok (.aload_n 0, 1) := by decide +kernel
theorem dX9_looksAhead_44 : decode cX9_looksAhead 44 = .ok (.getfield 7, 3) := by decide +kernel
theorem dX9_looksAhead_47 : decode cX9_looksAhead 47 = .ok (.sipush 188, 3) := by decide +kernel
theorem dX9_looksAhead_50 : decode cX9_looksAhead 50 = .ok (.iaload, 1) := by decide +kernel
theorem dX9_looksAhead_51 : decode cX9_looksAhead 51 = .ok (.aload_n 0, 1) := by decide +kernel
theorem dX9_looksAhead_52 : decode cX9_looksAhead 52 = .ok (.getfield 7, 3) := by decide +kernel
theorem dX9_looksAhead_55 : decode cX9_looksAhead 55 = .ok (.sipush 168, 3) := by decide +kernel
theorem dX9_looksAhead_58 : decode cX9_looksAhead 58 = .ok (.iaload, 1) := by decide +kernel
theorem dX9_looksAhead_59 : decode cX9_looksAhead 59 = .ok (.if_icmp .lt 8, 3) := by decide +kernel
theorem dX9_looksAhead_62 : decode cX9_looksAhead 62 = .ok (.iload 7, 2) := by decide +kernel
theorem dX9_looksAhead_64 : decode cX9_looksAhead 64 = .ok (.goto 5, 3) := by decide +kernel
theorem dX9_looksAhead_67 : decode cX9_looksAhead 67 = .ok (.iload 6, 2) := by decide +kernel
theorem dX9_looksAhead_69 : decode cX9_looksAhead 69 = .ok (.istore 6, 2) := by decide +kernel
theorem dX9_looksAhead_71 : decode cX9_looksAhead 71 = .ok (.iinc 7 1, 3) := by decide +kernel
theorem dX9_looksAhead_74 : decode cX9_looksAhead 74 = .ok (.goto (-48), 3) := by decide +kernel
theorem dX9_looksAhead_77 : decode cX9_looksAhead 77 = .ok (.iload_n 3, 1) := by decide +kernel
theorem dX9_looksAhead_78 : decode cX9_looksAhead 78 = .ok (.tableswitch 57 0 2 #[26, 38, 50], 26) := by decide +kernel
theorem dX9_looksAhead_104 : decode cX9_looksAhead 104 = .ok (.aload_n 0, 1) := by decide +kernel
theorem dX9_looksAhead_105 : decode cX9_looksAhead 105 = .ok (.getfield 7, 3) := by decide +kernel
theorem dX9_looksAhead_108 : decode cX9_looksAhead 108 = .ok (.sipush 190, 3) := by decide +kernel
theorem dX9_looksAhead_111 : decode cX9_looksAhead 111 = .ok (.iaload, 1) := by decide +kernel
theorem dX9_looksAhead_112 : decode cX9_looksAhead 112 = .ok (.iload 4, 2) := by decide +kernel
theorem dX9_looksAhead_114 : decode cX9_looksAhead 114 = .ok (.isub, 1) := by decide +kernel
theorem dX9_looksAhead_115 : decode cX9_looksAhead 115 = .ok (.ireturn, 1) := by decide +kernel
theorem dX9_looksAhead_116 : decode cX9_looksAhead 116 = .ok (.aload_n 0, 1) := by decide +kernel
theorem dX9_looksAhead_117 : decode cX9_looksAhead 117 = .ok (.getfield 7, 3) := by decide +kernel
theorem dX9_looksAhead_120 : decode cX9_looksAhead 120 = .ok (.sipush 185, 3) := by decide +kernel
theorem dX9_looksAhead_123 : decode cX9_looksAhead 123 = .ok (.iaload, 1) := by decide +kernel
theorem dX9_looksAhead_124 : decode cX9_looksAhead 124 = .ok (.iload 5, 2) := by decide +kernel
theorem dX9_looksAhead_126 : decode cX9_looksAhead 126 = .ok (.isub, 1) := by decide +kernel
theorem dX9_looksAhead_127 : decode cX9_looksAhead 127 = .ok (.ireturn, 1) := by decide +kernel
theorem dX9_looksAhead_128 : decode cX9_looksAhead 128 = .ok (.aload_n 0, 1) := by decide +kernel
theorem dX9_looksAhead_129 : decode cX9_looksAhead 129 = .ok (.getfield 7, 3) := by decide +kernel
theorem dX9_looksAhead_132 : decode cX9_looksAhead 132 = .ok (.iconst 0, 1) := by decide +kernel
theorem dX9_looksAhead_133 : decode cX9_looksAhead 133 = .ok (.iaload, 1) := by decide +kernel
theorem dX9_looksAhead_134 : decode cX9_looksAhead 134 = .ok (.ireturn, 1) := by decide +kernel
theorem dX9_looksAhead_135 : decode cX9_looksAhead 135 = .ok (.iload 6, 2) := by decide +kernel
theorem dX9_looksAhead_137 : decode cX9_looksAhead 137 = .ok (.ireturn, 1) := by decide +kernel
set_option maxRecDepth 20000 in
theorem ggX9_ahead_X9_keepsAside : GoodIn wsX9_ahead wsX9_keepsAside := goodIn_r _ [5, 6, 7, 8, 9, 48, 49, 50, 51, 52, 53, 54, 55, 56, 57, 58, 59, 60, 61, 62, 63, 64, 65, 66, 67, 68, 69, 70, 71] (by decide +kernel) (by decide +kernel)
set_option maxRecDepth 20000 in
theorem gX9_ahead_X9_keepsAside : GoodIn wsX9_ahead (wsV RX9 152 RX9 yX9_keepsAside wsX9_keepsAside) := goodIn_app (goodIn_of _ (by decide +kernel)) ggX9_ahead_X9_keepsAside
set_option maxRecDepth 20000 in
theorem ggX9_ahead_X9_looksAhead : GoodIn wsX9_ahead wsX9_looksAhead := goodIn_r _ [13, 7, 14, 15, 16, 4, 17, 18, 19, 8, 20, 21, 22, 23, 24, 25, 26, 27, 28, 29, 30, 31, 32, 33, 34, 35, 36, 37, 38, 39, 40, 41, 42, 43, 48, 49, 50, 51, 52, 53, 54, 55, 56, 57, 58, 59, 60, 61, 62, 63, 64, 65, 66, 67, 68, 69, 70, 71] (by decide +kernel) (by decide +kernel)
set_option maxRecDepth 20000 in
theorem gX9_ahead_X9_looksAhead : GoodIn wsX9_ahead (wsV RX9 155 RX9 yX9_looksAhead wsX9_looksAhead) := goodIn_app (goodIn_of _ (by decide +kernel)) ggX9_ahead_X9_looksAhead
set_option maxRecDepth 20000 in
theorem ggX9_ahead_X9_returns : GoodIn wsX9_ahead wsX9_returns := goodIn_r _ [47, 7, 6, 9, 8, 48, 49, 50, 51, 52, 53, 54, 55, 56, 57, 58, 59, 60, 61, 62, 63, 64, 65, 66, 67, 68, 69, 70, 71] (by decide +kernel) (by decide +kernel)
set_option maxRecDepth 20000 in
theorem gX9_ahead_X9_returns : GoodIn wsX9_ahead (wsV RX9 159 RX9 yX9_returns wsX9_returns) := goodIn_app (goodIn_of _ (by decide +kernel)) ggX9_ahead_X9_returns
theorem dX9_ahead_0 : decode cX9_ahead 0 = .ok (.aload_n 0, 1) := by decide +kernel
theorem dX9_ahead_1 : decode cX9_ahead 1 = .ok (.invokevirtual 152, 3) := by decide +kernel
theorem dX9_ahead_4 : decode cX9_ahead 4 = .ok (.aload_n 0, 1) := by decide +kernel
theorem dX9_ahead_5 : decode cX9_ahead 5 = .ok (.iload_n 1, 1) := by decide +kernel
theorem dX9_ahead_6 : decode cX9_ahead 6 = .ok (.iload_n 2, 1) := by decide +kernel
theorem dX9_ahead_7 : decode cX9_ahead 7 = .ok (.iload_n 3, 1) := by decide +kernel
theorem dX9_ahead_8 : decode cX9_ahead 8 = .ok (.invokevirtual 155, 3) := by decide +kernel
theorem dX9_ahead_11 : decode cX9_ahead 11 = .ok (.istore 4, 2) := by decide +kernel
theorem dX9_ahead_13 : decode cX9_ahead 13 = .ok (.aload_n 0, 1) := by decide +kernel
theorem dX9_ahead_14 : decode cX9_ahead 14 = .ok (.invokevirtual 159, 3) := by decide +kernel
theorem dX9_ahead_17 : decode cX9_ahead 17 = .ok (.iload 4, 2) := by decide +kernel
theorem dX9_ahead_19 : decode cX9_ahead 19 = .ok (.ireturn, 1) := by decide +kernel
set_option maxRecDepth 20000 in
theorem ggX9_foretell_X9_in : GoodIn wsX9_foretell wsX9_in := goodIn_r _ [4] (by decide +kernel) (by decide +kernel)
set_option maxRecDepth 20000 in
theorem gX9_foretell_X9_in : GoodIn wsX9_foretell (va_wsS RX9 43 yX9_in wsX9_in) := goodIn_app (goodIn_of _ (by decide +kernel)) ggX9_foretell_X9_in
set_option maxRecDepth 20000 in
theorem ggX9_foretell_X9_ahead : GoodIn wsX9_foretell wsX9_ahead := goodIn_r _ [8, 9, 10, 11, 3, 12, 13, 14, 15, 16, 17, 18, 19, 20, 21, 22, 23, 24, 25, 26, 27, 28, 29, 30, 31, 32, 33, 34, 35, 36, 37, 38, 39, 40, 41, 42, 43, 44, 45, 46, 47, 48, 49, 50, 51, 52, 53, 54, 55, 56, 57, 58, 59, 60, 61, 62, 63, 64, 65, 66, 67, 68, 69, 70, 71, 72, 73, 74, 75, 76, 77, 78] (by decide +kernel) (by decide +kernel)
set_option maxRecDepth 20000 in
theorem gX9_foretell_X9_ahead : GoodIn wsX9_foretell (wsV RX9 162 RX9 yX9_ahead wsX9_ahead) := goodIn_app (goodIn_of _ (by decide +kernel)) ggX9_foretell_X9_ahead
theorem dX9_foretell_0 : decode cX9_foretell 0 = .ok (.iload_n 1, 1) := by decide +kernel
theorem dX9_foretell_1 : decode cX9_foretell 1 = .ok (.iconst 1, 1) := by decide +kernel
theorem dX9_foretell_2 : decode cX9_foretell 2 = .ok (.bipush 100, 2) := by decide +kernel
theorem dX9_foretell_4 : decode cX9_foretell 4 = .ok (.invokestatic 43, 3) := by decide +kernel
theorem dX9_foretell_7 : decode cX9_foretell 7 = .ok (.ifCond .eq 33, 3) := by decide +kernel
theorem dX9_foretell_10 : decode cX9_foretell 10 = .ok (.iload_n 2, 1) := by decide +kernel
theorem dX9_foretell_11 : decode cX9_foretell 11 = .ok (.iconst 0, 1) := by decide +kernel
theorem dX9_foretell_12 : decode cX9_foretell 12 = .ok (.sipush 1000, 3) := by decide +kernel
theorem dX9_foretell_15 : decode cX9_foretell 15 = .ok (.invokestatic 43, 3) := by decide +kernel
theorem dX9_foretell_18 : decode cX9_foretell 18 = .ok (.ifCond .eq 22, 3) := by decide +kernel
theorem dX9_foretell_21 : decode cX9_foretell 21 = .ok (.iload_n 3, 1) := by decide +kernel
theorem dX9_foretell_22 : decode cX9_foretell 22 = .ok (.iconst 0, 1) := by decide +kernel
theorem dX9_foretell_23 : decode cX9_foretell 23 = .ok (.iconst 3, 1) := by decide +kernel
theorem dX9_foretell_24 : decode cX9_foretell 24 = .ok (.invokestatic 43, 3) := by decide +kernel
theorem dX9_foretell_27 : decode cX9_foretell 27 = .ok (.ifCond .eq 13, 3) := by decide +kernel
theorem dX9_foretell_30 : decode cX9_foretell 30 = .ok (.aload_n 0, 1) := by decide +kernel
theorem dX9_foretell_31 : decode cX9_foretell 31 = .ok (.iload_n 1, 1) := by decide +kernel
theorem dX9_foretell_32 : decode cX9_foretell 32 = .ok (.iload_n 2, 1) := by decide +kernel
theorem dX9_foretell_33 : decode cX9_foretell 33 = .ok (.iload_n 3, 1) := by decide +kernel
theorem dX9_foretell_34 : decode cX9_foretell 34 = .ok (.invokevirtual 162, 3) := by decide +kernel
theorem dX9_foretell_37 : decode cX9_foretell 37 = .ok (.goto 5, 3) := by decide +kernel
theorem dX9_foretell_40 : decode cX9_foretell 40 = .ok (.bipush (-2), 2) := by decide +kernel
theorem dX9_foretell_42 : decode cX9_foretell 42 = .ok (.ireturn, 1) := by decide +kernel
set_option maxRecDepth 20000 in
theorem ggX9_best_X9_in : GoodIn wsX9_best wsX9_in := goodIn_r _ [5] (by decide +kernel) (by decide +kernel)
set_option maxRecDepth 20000 in
theorem gX9_best_X9_in : GoodIn wsX9_best (va_wsS RX9 43 yX9_in wsX9_in) := goodIn_app (goodIn_of _ (by decide +kernel)) ggX9_best_X9_in
set_option maxRecDepth 20000 in
theorem ggX9_best_X9_least : GoodIn wsX9_best wsX9_least := goodIn_r _ [8] (by decide +kernel) (by decide +kernel)
set_option maxRecDepth 20000 in
theorem gX9_best_X9_least : GoodIn wsX9_best (va_wsS RX9 100 yX9_least wsX9_least) := goodIn_app (goodIn_of _ (by decide +kernel)) ggX9_best_X9_least
set_option maxRecDepth 20000 in
theorem ggX9_best_X9_most : GoodIn wsX9_best wsX9_most := goodIn_r _ [11] (by decide +kernel) (by decide +kernel)
set_option maxRecDepth 20000 in
theorem gX9_best_X9_most : GoodIn wsX9_best (va_wsS RX9 103 yX9_most wsX9_most) := goodIn_app (goodIn_of _ (by decide +kernel)) ggX9_best_X9_most
set_option maxRecDepth 20000 in
theorem ggX9_best_X9_ahead : GoodIn wsX9_best wsX9_ahead := goodIn_r _ [15, 16, 17, 18, 4, 19, 20, 1, 21, 22, 23, 24, 25, 26, 27, 28, 29, 30, 31, 32, 33, 34, 35, 36, 37, 38, 39, 40, 41, 42, 43, 44, 45, 46, 47, 48, 49, 50, 51, 52, 53, 54, 55, 56, 57, 58, 59, 60, 61, 62, 63, 64, 65, 66, 67, 68, 69, 70, 71, 72, 73, 74, 75, 76, 77, 78, 79, 80, 81, 82, 83, 84] (by decide +kernel) (by decide +kernel)
set_option maxRecDepth 20000 in
theorem gX9_best_X9_ahead : GoodIn wsX9_best (wsV RX9 162 RX9 yX9_ahead wsX9_ahead) := goodIn_app (goodIn_of _ (by decide +kernel)) ggX9_best_X9_ahead
theorem dX9_best_0 : decode cX9_best 0 = .ok (.iload_n 1, 1) := by decide +kernel
theorem dX9_best_1 : decode cX9_best 1 = .ok (.ifCond .eq 13, 3) := by decide +kernel
theorem dX9_best_4 : decode cX9_best 4 = .ok (.iload_n 1, 1) := by decide +kernel
theorem dX9_best_5 : decode cX9_best 5 = .ok (.iconst 1, 1) := by decide +kernel
theorem dX9_best_6 : decode cX9_best 6 = .ok (.if_icmp .eq 8, 3) := by decide +kernel
theorem dX9_best_9 : decode cX9_best 9 = .ok (.iload_n 1, 1) := by decide +kernel
theorem dX9_best_10 : decode cX9_best 10 = .ok (.iconst 5, 1) := by decide +kernel
theorem dX9_best_11 : decode cX9_best 11 = .ok (.if_icmp .ne 24, 3) := by decide +kernel
theorem dX9_best_14 : decode cX9_best 14 = .ok (.iload_n 2, 1) := by decide +kernel
theorem dX9_best_15 : decode cX9_best 15 = .ok (.iconst 1, 1) := by decide +kernel
theorem dX9_best_16 : decode cX9_best 16 = .ok (.bipush 100, 2) := by decide +kernel
theorem dX9_best_18 : decode cX9_best 18 = .ok (.invokestatic 43, 3) := by decide +kernel
theorem dX9_best_21 : decode cX9_best 21 = .ok (.ifCond .eq 14, 3) := by decide +kernel
theorem dX9_best_24 : decode cX9_best 24 = .ok (.iload_n 3, 1) := by decide +kernel
theorem dX9_best_25 : decode cX9_best 25 = .ok (.iconst 0, 1) := by decide +kernel
theorem dX9_best_26 : decode cX9_best 26 = .ok (.sipush 1000, 3) := by decide +kernel
theorem dX9_best_29 : decode cX9_best 29 = .ok (.invokestatic 43, 3) := by decide +kernel
theorem dX9_best_32 : decode cX9_best 32 = .ok (.ifCond .ne 6, 3) := by decide +kernel
theorem dX9_best_35 : decode cX9_best 35 = .ok (.bipush (-2), 2) := by decide +kernel
theorem dX9_best_37 : decode cX9_best 37 = .ok (.ireturn, 1) := by decide +kernel
theorem dX9_best_38 : decode cX9_best 38 = .ok (.iconst (-1), 1) := by decide +kernel
theorem dX9_best_39 : decode cX9_best 39 = .ok (.istore 4, 2) := by decide +kernel
theorem dX9_best_41 : decode cX9_best 41 = .ok (.iconst (-1), 1) := by decide +kernel
theorem dX9_best_42 : decode cX9_best 42 = .ok (.istore 5, 2) := by decide +kernel
theorem dX9_best_44 : decode cX9_best 44 = .ok (.aload_n 0, 1) := by decide +kernel
theorem dX9_best_45 : decode cX9_best 45 = .ok (.getfield 7, 3) := by decide +kernel
theorem dX9_best_48 : decode cX9_best 48 = .ok (.sipush 161, 3) := by decide +kernel
theorem dX9_best_51 : decode cX9_best 51 = .ok (.iload_n 1, 1) := by decide +kernel
theorem dX9_best_52 : decode cX9_best 52 = .ok (.iadd, 1) := by decide +kernel
theorem dX9_best_53 : decode cX9_best 53 = .ok (.iaload, 1) := by decide +kernel
theorem dX9_best_54 : decode cX9_best 54 = .ok (.istore 6, 2) := by decide +kernel
theorem dX9_best_56 : decode cX9_best 56 = .ok (.iload_n 1, 1) := by decide +kernel
theorem dX9_best_57 : decode cX9_best 57 = .ok (.invokestatic 100, 3) := by decide +kernel
theorem dX9_best_60 : decode cX9_best 60 = .ok (.istore 7, 2) := by decide +kernel
theorem dX9_best_62 : decode cX9_best 62 = .ok (.iload 7, 2) := by decide +kernel
theorem dX9_best_64 : decode cX9_best 64 = .ok (.iload_n 1, 1) := by decide +kernel
theorem dX9_best_65 : decode cX9_best 65 = .ok (.invokestatic 103, 3) := by decide +kernel
theorem dX9_best_68 : decode cX9_best 68 = .ok (.if_icmp .gt 62, 3) := by decide +kernel
theorem dX9_best_71 : decode cX9_best 71 = .ok (.aload_n 0, 1) := by decide +kernel
theorem dX9_best_72 : decode cX9_best 72 = .ok (.getfield 7, 3) := by decide +kernel
theorem dX9_best_75 : decode cX9_best 75 = .ok (.sipush 161, 3) := by decide +kernel
theorem dX9_best_78 : decode cX9_best 78 = .ok (.iload_n 1, 1) := by decide +kernel
theorem dX9_best_79 : decode cX9_best 79 = .ok (.iadd, 1) := by decide +kernel
theorem dX9_best_80 : decode cX9_best 80 = .ok (.iload 7, 2) := by decide +kernel
theorem dX9_best_82 : decode cX9_best 82 = .ok (.iastore, 1) := by decide +kernel
theorem dX9_best_83 : decode cX9_best 83 = .ok (.aload_n 0, 1) := by decide +kernel
theorem dX9_best_84 : decode cX9_best 84 = .ok (.iload_n 2, 1) := by decide +kernel
theorem dX9_best_85 : decode cX9_best 85 = .ok (.iload_n 3, 1) := by decide +kernel
theorem dX9_best_86 : decode cX9_best 86 = .ok (.iconst 0, 1) := by decide +kernel
theorem dX9_best_87 : decode cX9_best 87 = .ok (.invokevirtual 162, 3) := by decide +kernel
theorem dX9_best_90 : decode cX9_best 90 = .ok (.istore 8, 2) := by decide +kernel
theorem dX9_best_92 : decode cX9_best 92 = .ok (.iload 8, 2) := by decide +kernel
theorem dX9_best_94 : decode cX9_best 94 = .ok (.iload 5, 2) := by decide +kernel
theorem dX9_best_96 : decode cX9_best 96 = .ok (.if_icmp .le 8, 3) := by decide +kernel
theorem dX9_best_99 : decode cX9_best 99 = .ok (.iload 7, 2) := by decide +kernel
theorem dX9_best_101 : decode cX9_best 101 = .ok (.goto 5, 3) := by decide +kernel
theorem dX9_best_104 : decode cX9_best 104 = .ok (.iload 4, 2) := by decide +kernel
theorem dX9_best_106 : decode cX9_best 106 = .ok (.istore 4, 2) := by decide +kernel
theorem dX9_best_108 : decode cX9_best 108 = .ok (.iload 8, 2) := by decide +kernel
theorem dX9_best_110 : decode cX9_best 110 = .ok (.iload 5, 2) := by decide +kernel
theorem dX9_best_112 : decode cX9_best 112 = .ok (.if_icmp .le 8, 3) := by decide +kernel
theorem dX9_best_115 : decode cX9_best 115 = .ok (.iload 8, 2) := by decide +kernel
theorem dX9_best_117 : decode cX9_best 117 = .ok (.goto 5, 3) := by decide +kernel
theorem dX9_best_120 : decode cX9_best 120 = .ok (.iload 5, 2) := by decide +kernel
theorem dX9_best_122 : decode cX9_best 122 = .ok (.istore 5, 2) := by decide +kernel
theorem dX9_best_124 : decode cX9_best 124 = .ok (.iinc 7 1, 3) := by decide +kernel
theorem dX9_best_127 : decode cX9_best 127 = .ok (.goto (-65), 3) := by decide +kernel
theorem dX9_best_130 : decode cX9_best 130 = .ok (.aload_n 0, 1) := by decide +kernel
theorem dX9_best_131 : decode cX9_best 131 = .ok (.getfield 7, 3) := by decide +kernel
theorem dX9_best_134 : decode cX9_best 134 = .ok (.sipush 161, 3) := by decide +kernel
theorem dX9_best_137 : decode cX9_best 137 = .ok (.iload_n 1, 1) := by decide +kernel
theorem dX9_best_138 : decode cX9_best 138 = .ok (.iadd, 1) := by decide +kernel
theorem dX9_best_139 : decode cX9_best 139 = .ok (.iload 6, 2) := by decide +kernel
theorem dX9_best_141 : decode cX9_best 141 = .ok (.iastore, 1) := by decide +kernel
theorem dX9_best_142 : decode cX9_best 142 = .ok (.iload 4, 2) := by decide +kernel
theorem dX9_best_144 : decode cX9_best 144 = .ok (.ireturn, 1) := by decide +kernel
set_option maxRecDepth 20000 in
theorem ggX9_save_X9_in : GoodIn wsX9_save wsX9_in := goodIn_r _ [10] (by decide +kernel) (by decide +kernel)
set_option maxRecDepth 20000 in
theorem gX9_save_X9_in : GoodIn wsX9_save (va_wsS RX9 43 yX9_in wsX9_in) := goodIn_app (goodIn_of _ (by decide +kernel)) ggX9_save_X9_in
theorem dX9_save_0 : decode cX9_save 0 = .ok (.iload_n 1, 1) := by decide +kernel
theorem dX9_save_1 : decode cX9_save 1 = .ok (.iconst 0, 1) := by decide +kernel
theorem dX9_save_2 : decode cX9_save 2 = .ok (.iconst 1, 1) := by decide +kernel
theorem dX9_save_3 : decode cX9_save 3 = .ok (.invokestatic 43, 3) := by decide +kernel
theorem dX9_save_6 : decode cX9_save 6 = .ok (.ifCond .ne 6, 3) := by decide +kernel
theorem dX9_save_9 : decode cX9_save 9 = .ok (.bipush (-2), 2) := by decide +kernel
theorem dX9_save_11 : decode cX9_save 11 = .ok (.ireturn, 1) := by decide +kernel
theorem dX9_save_12 : decode cX9_save 12 = .ok (.iconst 0, 1) := by decide +kernel
theorem dX9_save_13 : decode cX9_save 13 = .ok (.istore_n 2, 1) := by decide +kernel
theorem dX9_save_14 : decode cX9_save 14 = .ok (.iload_n 2, 1) := by decide +kernel
theorem dX9_save_15 : decode cX9_save 15 = .ok (.sipush 204, 3) := by decide +kernel
theorem dX9_save_18 : decode cX9_save 18 = .ok (.if_icmp .ge 27, 3) := by decide +kernel
theorem dX9_save_21 : decode cX9_save 21 = .ok (.aload_n 0, 1) := by decide +kernel
theorem dX9_save_22 : decode cX9_save 22 = .ok (.getfield 16, 3) := by decide +kernel
theorem dX9_save_25 : decode cX9_save 25 = .ok (.sipush 204, 3) := by decide +kernel
theorem dX9_save_28 : decode cX9_save 28 = .ok (.iload_n 1, 1) := by decide +kernel
theorem dX9_save_29 : decode cX9_save 29 = .ok (.imul, 1) := by decide +kernel
theorem dX9_save_30 : decode cX9_save 30 = .ok (.iload_n 2, 1) := by decide +kernel
theorem dX9_save_31 : decode cX9_save 31 = .ok (.iadd, 1) := by decide +kernel
theorem dX9_save_32 : decode cX9_save 32 = .ok (.aload_n 0, 1) := by decide +kernel
theorem dX9_save_33 : decode cX9_save 33 = .ok (.getfield 7, 3) := by decide +kernel
theorem dX9_save_36 : decode cX9_save 36 = .ok (.iload_n 2, 1) := by decide +kernel
theorem dX9_save_37 : decode cX9_save 37 = .ok (.iaload, 1) := by decide +kernel
theorem dX9_save_38 : decode cX9_save 38 = .ok (.iastore, 1) := by decide +kernel
theorem dX9_save_39 : decode cX9_save 39 = .ok (.iinc 2 1, 3) := by decide +kernel
theorem dX9_save_42 : decode cX9_save 42 = .ok (.goto (-28), 3) := by decide +kernel
theorem dX9_save_45 : decode cX9_save 45 = .ok (.aload_n 0, 1) := by decide +kernel
theorem dX9_save_46 : decode cX9_save 46 = .ok (.iload_n 1, 1) := by decide +kernel
theorem dX9_save_47 : decode cX9_save 47 = .ok (.ifCond .ne 10, 3) := by decide +kernel
theorem dX9_save_50 : decode cX9_save 50 = .ok (.aload_n 0, 1) := by decide +kernel
theorem dX9_save_51 : decode cX9_save 51 = .ok (.getfield 24, 3) := by decide +kernel
theorem dX9_save_54 : decode cX9_save 54 = .ok (.goto 7, 3) := by decide +kernel
theorem dX9_save_57 : decode cX9_save 57 = .ok (.aload_n 0, 1) := by decide +kernel
theorem dX9_save_58 : decode cX9_save 58 = .ok (.getfield 165, 3) := by decide +kernel
theorem dX9_save_61 : decode cX9_save 61 = .ok (.putfield 165, 3) := by decide +kernel
theorem dX9_save_64 : decode cX9_save 64 = .ok (.aload_n 0, 1) := by decide +kernel
theorem dX9_save_65 : decode cX9_save 65 = .ok (.iload_n 1, 1) := by decide +kernel
theorem dX9_save_66 : decode cX9_save 66 = .ok (.iconst 1, 1) := by decide +kernel
theorem dX9_save_67 : decode cX9_save 67 = .ok (.if_icmp .ne 10, 3) := by decide +kernel
theorem dX9_save_70 : decode cX9_save 70 = .ok (.aload_n 0, 1) := by decide +kernel
theorem dX9_save_71 : decode cX9_save 71 = .ok (.getfield 24, 3) := by decide +kernel
theorem dX9_save_74 : decode cX9_save 74 = .ok (.goto 7, 3) := by decide +kernel
theorem dX9_save_77 : decode cX9_save 77 = .ok (.aload_n 0, 1) := by decide +kernel
theorem dX9_save_78 : decode cX9_save 78 = .ok (.getfield 168, 3) := by decide +kernel
theorem dX9_save_81 : decode cX9_save 81 = .ok (.putfield 168, 3) := by decide +kernel
theorem dX9_save_84 : decode cX9_save 84 = .ok (.aload_n 0, 1) := by decide +kernel
theorem dX9_save_85 : decode cX9_save 85 = .ok (.getfield 19, 3) := by decide +kernel
theorem dX9_save_88 : decode cX9_save 88 = .ok (.iload_n 1, 1) := by decide +kernel
theorem dX9_save_89 : decode cX9_save 89 = .ok (.iconst 1, 1) := by decide +kernel
theorem dX9_save_90 : decode cX9_save 90 = .ok (.bastore, 1) := by decide +kernel
theorem dX9_save_91 : decode cX9_save 91 = .ok (.aload_n 0, 1) := by decide +kernel
theorem dX9_save_92 : decode cX9_save 92 = .ok (.getfield 7, 3) := by decide +kernel
theorem dX9_save_95 : decode cX9_save 95 = .ok (.iconst 0, 1) := by decide +kernel
theorem dX9_save_96 : decode cX9_save 96 = .ok (.iaload, 1) := by decide +kernel
theorem dX9_save_97 : decode cX9_save 97 = .ok (.ireturn, 1) := by decide +kernel
set_option maxRecDepth 20000 in
theorem ggX9_restore_X9_in : GoodIn wsX9_restore wsX9_in := goodIn_r _ [10] (by decide +kernel) (by decide +kernel)
set_option maxRecDepth 20000 in
theorem gX9_restore_X9_in : GoodIn wsX9_restore (va_wsS RX9 43 yX9_in wsX9_in) := goodIn_app (goodIn_of _ (by decide +kernel)) ggX9_restore_X9_in
theorem dX9_restore_0 : decode cX9_restore 0 = .ok (.iload_n 1, 1) := by decide +kernel
theorem dX9_restore_1 : decode cX9_restore 1 = .ok (.iconst 0, 1) := by decide +kernel
theorem dX9_restore_2 : decode cX9_restore 2 = .ok (.iconst 1, 1) := by decide +kernel
theorem dX9_restore_3 : decode cX9_restore 3 = .ok (.invokestatic 43, 3) := by decide +kernel
theorem dX9_restore_6 : decode cX9_restore 6 = .ok (.ifCond .ne 6, 3) := by decide +kernel
theorem dX9_restore_9 : decode cX9_restore 9 = .ok (.bipush (-2), 2) := by decide +kernel
theorem dX9_restore_11 : decode cX9_restore 11 = .ok (.ireturn, 1) := by decide +kernel
theorem dX9_restore_12 : decode cX9_restore 12 = .ok (.aload_n 0, 1) := by decide +kernel
theorem dX9_restore_13 : decode cX9_restore 13 = .ok (.getfield 19, 3) := by decide +kernel
theorem dX9_restore_16 : decode cX9_restore 16 = .ok (.iload_n 1, 1) := by decide +kernel
theorem dX9_restore_17 : decode cX9_restore 17 = .ok (.baload, 1) := by decide +kernel
theorem dX9_restore_18 : decode cX9_restore 18 = .ok (.ifCond .ne 6, 3) := by decide +kernel
theorem dX9_restore_21 : decode cX9_restore 21 = .ok (.bipush (-3), 2) := by decide +kernel
theorem dX9_restore_23 : decode cX9_restore 23 = .ok (.ireturn, 1) := by decide +kernel
theorem dX9_restore_24 : decode cX9_restore 24 = .ok (.iconst 0, 1) := by decide +kernel
theorem dX9_restore_25 : decode cX9_restore 25 = .ok (.istore_n 2, 1) := by decide +kernel
theorem dX9_restore_26 : decode cX9_restore 26 = .ok (.iload_n 2, 1) := by decide +kernel
theorem dX9_restore_27 : decode cX9_restore 27 = .ok (.sipush 204, 3) := by decide +kernel
theorem dX9_restore_30 : decode cX9_restore 30 = .ok (.if_icmp .ge 27, 3) := by decide +kernel
theorem dX9_restore_33 : decode cX9_restore 33 = .ok (.aload_n 0, 1) := by decide +kernel
theorem dX9_restore_34 : decode cX9_restore 34 = .ok (.getfield 7, 3) := by decide +kernel
theorem dX9_restore_37 : decode cX9_restore 37 = .ok (.iload_n 2, 1) := by decide +kernel
theorem dX9_restore_38 : decode cX9_restore 38 = .ok (.aload_n 0, 1) := by decide +kernel
theorem dX9_restore_39 : decode cX9_restore 39 = .ok (.getfield 16, 3) := by decide +kernel
theorem dX9_restore_42 : decode cX9_restore 42 = .ok (.sipush 204, 3) := by decide +kernel
theorem dX9_restore_45 : decode cX9_restore 45 = .ok (.iload_n 1, 1) := by decide +kernel
theorem dX9_restore_46 : decode cX9_restore 46 = .ok (.imul, 1) := by decide +kernel
theorem dX9_restore_47 : decode cX9_restore 47 = .ok (.iload_n 2, 1) := by decide +kernel
theorem dX9_restore_48 : decode cX9_restore 48 = .ok (.iadd, 1) := by decide +kernel
theorem dX9_restore_49 : decode cX9_restore 49 = .ok (.iaload, 1) := by decide +kernel
theorem dX9_restore_50 : decode cX9_restore 50 = .ok (.iastore, 1) := by decide +kernel
theorem dX9_restore_51 : decode cX9_restore 51 = .ok (.iinc 2 1, 3) := by decide +kernel
theorem dX9_restore_54 : decode cX9_restore 54 = .ok (.goto (-28), 3) := by decide +kernel
theorem dX9_restore_57 : decode cX9_restore 57 = .ok (.aload_n 0, 1) := by decide +kernel
theorem dX9_restore_58 : decode cX9_restore 58 = .ok (.iload_n 1, 1) := by decide +kernel
theorem dX9_restore_59 : decode cX9_restore 59 = .ok (.ifCond .ne 10, 3) := by decide +kernel
theorem dX9_restore_62 : decode cX9_restore 62 = .ok (.aload_n 0, 1) := by decide +kernel
theorem dX9_restore_63 : decode cX9_restore 63 = .ok (.getfield 165, 3) := by decide +kernel
theorem dX9_restore_66 : decode cX9_restore 66 = .ok (.goto 7, 3) := by decide +kernel
theorem dX9_restore_69 : decode cX9_restore 69 = .ok (.aload_n 0, 1) := by decide +kernel
theorem dX9_restore_70 : decode cX9_restore 70 = .ok (.getfield 168, 3) := by decide +kernel
theorem dX9_restore_73 : decode cX9_restore 73 = .ok (.putfield 24, 3) := by decide +kernel
theorem dX9_restore_76 : decode cX9_restore 76 = .ok (.aload_n 0, 1) := by decide +kernel
theorem dX9_restore_77 : decode cX9_restore 77 = .ok (.getfield 7, 3) := by decide +kernel
theorem dX9_restore_80 : decode cX9_restore 80 = .ok (.iconst 0, 1) := by decide +kernel
theorem dX9_restore_81 : decode cX9_restore 81 = .ok (.iaload, 1) := by decide +kernel
theorem dX9_restore_82 : decode cX9_restore 82 = .ok (.ireturn, 1) := by decide +kernel
theorem dX9_labelsOnWeb_0 : decode cX9_labelsOnWeb 0 = .ok (.iconst 0, 1) := by decide +kernel
theorem dX9_labelsOnWeb_1 : decode cX9_labelsOnWeb 1 = .ok (.istore_n 1, 1) := by decide +kernel
theorem dX9_labelsOnWeb_2 : decode cX9_labelsOnWeb 2 = .ok (.iconst 0, 1) := by decide +kernel
theorem dX9_labelsOnWeb_3 : decode cX9_labelsOnWeb 3 = .ok (.istore_n 2, 1) := by decide +kernel
theorem dX9_labelsOnWeb_4 : decode cX9_labelsOnWeb 4 = .ok (.iload_n 2, 1) := by decide +kernel
theorem dX9_labelsOnWeb_5 : decode cX9_labelsOnWeb 5 = .ok (.aload_n 0, 1) := by decide +kernel
theorem dX9_labelsOnWeb_6 : decode cX9_labelsOnWeb 6 = .ok (.getfield 7, 3) := by decide +kernel
theorem dX9_labelsOnWeb_9 : decode cX9_labelsOnWeb 9 = .ok (.iconst 0, 1) := by decide +kernel
theorem dX9_labelsOnWeb_10 : decode cX9_labelsOnWeb 10 = .ok (.iaload, 1) := by decide +kernel
theorem dX9_labelsOnWeb_11 : decode cX9_labelsOnWeb 11 = .ok (.if_icmp .ge 28, 3) := by decide +kernel
theorem dX9_labelsOnWeb_14 : decode cX9_labelsOnWeb 14 = .ok (.iload_n 1, 1) := by decide +kernel
theorem dX9_labelsOnWeb_15 : decode cX9_labelsOnWeb 15 = .ok (.aload_n 0, 1) := by decide +kernel
theorem dX9_labelsOnWeb_16 : decode cX9_labelsOnWeb 16 = .ok (.getfield 7, 3) := by decide +kernel
theorem dX9_labelsOnWeb_19 : decode cX9_labelsOnWeb 19 = .ok (.iconst 1, 1) := by decide +kernel
theorem dX9_labelsOnWeb_20 : decode cX9_labelsOnWeb 20 = .ok (.iload_n 2, 1) := by decide +kernel
theorem dX9_labelsOnWeb_21 : decode cX9_labelsOnWeb 21 = .ok (.iadd, 1) := by decide +kernel
theorem dX9_labelsOnWeb_22 : decode cX9_labelsOnWeb 22 = .ok (.iaload, 1) := by decide +kernel
theorem dX9_labelsOnWeb_23 : decode cX9_labelsOnWeb 23 = .ok (.ifCond .ne 7, 3) := by decide +kernel
theorem dX9_labelsOnWeb_26 : decode cX9_labelsOnWeb 26 = .ok (.iconst 1, 1) := by decide +kernel
theorem dX9_labelsOnWeb_27 : decode cX9_labelsOnWeb 27 = .ok (.goto 4, 3) := by decide +kernel
theorem dX9_labelsOnWeb_30 : decode cX9_labelsOnWeb 30 = .ok (.iconst 0, 1) := by decide +kernel
theorem dX9_labelsOnWeb_31 : decode cX9_labelsOnWeb 31 = .ok (.iadd, 1) := by decide +kernel
theorem dX9_labelsOnWeb_32 : decode cX9_labelsOnWeb 32 = .ok (.istore_n 1, 1) := by decide +kernel
theorem dX9_labelsOnWeb_33 : decode cX9_labelsOnWeb 33 = .ok (.iinc 2 1, 3) := by decide +kernel
theorem dX9_labelsOnWeb_36 : decode cX9_labelsOnWeb 36 = .ok (.goto (-32), 3) := by decide +kernel
theorem dX9_labelsOnWeb_39 : decode cX9_labelsOnWeb 39 = .ok (.iload_n 1, 1) := by decide +kernel
theorem dX9_labelsOnWeb_40 : decode cX9_labelsOnWeb 40 = .ok (.ireturn, 1) := by decide +kernel
theorem dX9_productsInRing_0 : decode cX9_productsInRing 0 = .ok (.iconst 0, 1) := by decide +kernel
theorem dX9_productsInRing_1 : decode cX9_productsInRing 1 = .ok (.istore_n 1, 1) := by decide +kernel
theorem dX9_productsInRing_2 : decode cX9_productsInRing 2 = .ok (.iconst 0, 1) := by decide +kernel
theorem dX9_productsInRing_3 : decode cX9_productsInRing 3 = .ok (.istore_n 2, 1) := by decide +kernel
theorem dX9_productsInRing_4 : decode cX9_productsInRing 4 = .ok (.iload_n 2, 1) := by decide +kernel
theorem dX9_productsInRing_5 : decode cX9_productsInRing 5 = .ok (.aload_n 0, 1) := by decide +kernel
theorem dX9_productsInRing_6 : decode cX9_productsInRing 6 = .ok (.getfield 7, 3) := by decide +kernel
theorem dX9_productsInRing_9 : decode cX9_productsInRing 9 = .ok (.sipush 170, 3) := by decide +kernel
theorem dX9_productsInRing_12 : decode cX9_productsInRing 12 = .ok (.iaload, 1) := by decide +kernel
theorem dX9_productsInRing_13 : decode cX9_productsInRing 13 = .ok (.if_icmp .ge 31, 3) := by decide +kernel
theorem dX9_productsInRing_16 : decode cX9_productsInRing 16 = .ok (.iload_n 1, 1) := by decide +kernel
theorem dX9_productsInRing_17 : decode cX9_productsInRing 17 = .ok (.aload_n 0, 1) := by decide +kernel
theorem dX9_productsInRing_18 : decode cX9_productsInRing 18 = .ok (.getfield 7, 3) := by decide +kernel
theorem dX9_productsInRing_21 : decode cX9_productsInRing 21 = .ok (.sipush 171, 3) := by decide +kernel
theorem dX9_productsInRing_24 : decode cX9_productsInRing 24 = .ok (.iload_n 2, 1) := by decide +kernel
theorem dX9_productsInRing_25 : decode cX9_productsInRing 25 = .ok (.iadd, 1) := by decide +kernel
theorem dX9_productsInRing_26 : decode cX9_productsInRing 26 = .ok (.iaload, 1) := by decide +kernel
theorem dX9_productsInRing_27 : decode cX9_productsInRing 27 = .ok (.iconst (-1), 1) := by decide +kernel
theorem dX9_productsInRing_28 : decode cX9_productsInRing 28 = .ok (.if_icmp .ne 7, 3) := by decide +kernel
theorem dX9_productsInRing_31 : decode cX9_productsInRing 31 = .ok (.iconst 0, 1) := by decide +kernel
theorem dX9_productsInRing_32 : decode cX9_productsInRing 32 = .ok (.goto 4, 3) := by decide +kernel
theorem dX9_productsInRing_35 : decode cX9_productsInRing 35 = .ok (.iconst 1, 1) := by decide +kernel
theorem dX9_productsInRing_36 : decode cX9_productsInRing 36 = .ok (.iadd, 1) := by decide +kernel
theorem dX9_productsInRing_37 : decode cX9_productsInRing 37 = .ok (.istore_n 1, 1) := by decide +kernel
theorem dX9_productsInRing_38 : decode cX9_productsInRing 38 = .ok (.iinc 2 1, 3) := by decide +kernel
theorem dX9_productsInRing_41 : decode cX9_productsInRing 41 = .ok (.goto (-37), 3) := by decide +kernel
theorem dX9_productsInRing_44 : decode cX9_productsInRing 44 = .ok (.iload_n 1, 1) := by decide +kernel
theorem dX9_productsInRing_45 : decode cX9_productsInRing 45 = .ok (.ireturn, 1) := by decide +kernel
set_option maxRecDepth 20000 in
theorem ggX9_number_X9_labelsOnWeb : GoodIn wsX9_number wsX9_labelsOnWeb := goodIn_r _ [7, 1, 16, 17, 18, 19, 20, 21, 22, 23, 24, 25, 26, 27, 28, 29, 30, 31, 32, 33, 34, 35, 36, 37, 38, 39] (by decide +kernel) (by decide +kernel)
set_option maxRecDepth 20000 in
theorem gX9_number_X9_labelsOnWeb : GoodIn wsX9_number (wsV RX9 171 RX9 yX9_labelsOnWeb wsX9_labelsOnWeb) := goodIn_app (goodIn_of _ (by decide +kernel)) ggX9_number_X9_labelsOnWeb
set_option maxRecDepth 20000 in
theorem ggX9_number_X9_lengthBefore : GoodIn wsX9_number wsX9_lengthBefore := goodIn_r _ [11, 1, 16, 17, 18, 19, 20, 21, 22, 23, 24, 25, 26, 27, 28, 29, 30, 31, 32, 33, 34, 35, 36, 37, 38, 39] (by decide +kernel) (by decide +kernel)
set_option maxRecDepth 20000 in
theorem gX9_number_X9_lengthBefore : GoodIn wsX9_number (wsV RX9 97 RX9 yX9_lengthBefore wsX9_lengthBefore) := goodIn_app (goodIn_of _ (by decide +kernel)) ggX9_number_X9_lengthBefore
set_option maxRecDepth 20000 in
theorem ggX9_number_X9_productsInRing : GoodIn wsX9_number wsX9_productsInRing := goodIn_r _ [15, 1, 16, 17, 18, 19, 20, 21, 22, 23, 24, 25, 26, 27, 28, 29, 30, 31, 32, 33, 34, 35, 36, 37, 38, 39] (by decide +kernel) (by decide +kernel)
set_option maxRecDepth 20000 in
theorem gX9_number_X9_productsInRing : GoodIn wsX9_number (wsV RX9 174 RX9 yX9_productsInRing wsX9_productsInRing) := goodIn_app (goodIn_of _ (by decide +kernel)) ggX9_number_X9_productsInRing
theorem dX9_number_0 : decode cX9_number 0 = .ok (.iload_n 1, 1) := by decide +kernel
theorem dX9_number_1 : decode cX9_number 1 = .ok (.tableswitch 162 0 23 #[111, 118, 123, 134, 143, 152, 162, 162, 162, 162, 162, 162, 162, 162, 162, 162, 162, 162, 162, 162, 162, 162, 162, 157], 111) := by decide +kernel
theorem dX9_number_112 : decode cX9_number 112 = .ok (.aload_n 0, 1) := by decide +kernel
theorem dX9_number_113 : decode cX9_number 113 = .ok (.getfield 7, 3) := by decide +kernel
theorem dX9_number_116 : decode cX9_number 116 = .ok (.iconst 0, 1) := by decide +kernel
theorem dX9_number_117 : decode cX9_number 117 = .ok (.iaload, 1) := by decide +kernel
theorem dX9_number_118 : decode cX9_number 118 = .ok (.ireturn, 1) := by decide +kernel
theorem dX9_number_119 : decode cX9_number 119 = .ok (.aload_n 0, 1) := by decide +kernel
theorem dX9_number_120 : decode cX9_number 120 = .ok (.invokevirtual 171, 3) := by decide +kernel
theorem dX9_number_123 : decode cX9_number 123 = .ok (.ireturn, 1) := by decide +kernel
theorem dX9_number_124 : decode cX9_number 124 = .ok (.aload_n 0, 1) := by decide +kernel
theorem dX9_number_125 : decode cX9_number 125 = .ok (.aload_n 0, 1) := by decide +kernel
theorem dX9_number_126 : decode cX9_number 126 = .ok (.getfield 7, 3) := by decide +kernel
theorem dX9_number_129 : decode cX9_number 129 = .ok (.iconst 0, 1) := by decide +kernel
theorem dX9_number_130 : decode cX9_number 130 = .ok (.iaload, 1) := by decide +kernel
theorem dX9_number_131 : decode cX9_number 131 = .ok (.invokevirtual 97, 3) := by decide +kernel
theorem dX9_number_134 : decode cX9_number 134 = .ok (.ireturn, 1) := by decide +kernel
theorem dX9_number_135 : decode cX9_number 135 = .ok (.aload_n 0, 1) := by decide +kernel
theorem dX9_number_136 : decode cX9_number 136 = .ok (.getfield 7, 3) := by decide +kernel
theorem dX9_number_139 : decode cX9_number 139 = .ok (.sipush 169, 3) := by decide +kernel
theorem dX9_number_142 : decode cX9_number 142 = .ok (.iaload, 1) := by decide +kernel
theorem dX9_number_143 : decode cX9_number 143 = .ok (.ireturn, 1) := by decide +kernel
theorem dX9_number_144 : decode cX9_number 144 = .ok (.aload_n 0, 1) := by decide +kernel
theorem dX9_number_145 : decode cX9_number 145 = .ok (.getfield 7, 3) := by decide +kernel
theorem dX9_number_148 : decode cX9_number 148 = .ok (.sipush 170, 3) := by decide +kernel
theorem dX9_number_151 : decode cX9_number 151 = .ok (.iaload, 1) := by decide +kernel
theorem dX9_number_152 : decode cX9_number 152 = .ok (.ireturn, 1) := by decide +kernel
theorem dX9_number_153 : decode cX9_number 153 = .ok (.aload_n 0, 1) := by decide +kernel
theorem dX9_number_154 : decode cX9_number 154 = .ok (.invokevirtual 174, 3) := by decide +kernel
theorem dX9_number_157 : decode cX9_number 157 = .ok (.ireturn, 1) := by decide +kernel
theorem dX9_number_158 : decode cX9_number 158 = .ok (.aload_n 0, 1) := by decide +kernel
theorem dX9_number_159 : decode cX9_number 159 = .ok (.getfield 47, 3) := by decide +kernel
theorem dX9_number_162 : decode cX9_number 162 = .ok (.ireturn, 1) := by decide +kernel
theorem dX9_number_163 : decode cX9_number 163 = .ok (.iload_n 1, 1) := by decide +kernel
theorem dX9_number_164 : decode cX9_number 164 = .ok (.bipush 15, 2) := by decide +kernel
theorem dX9_number_166 : decode cX9_number 166 = .ok (.if_icmp .ge 19, 3) := by decide +kernel
theorem dX9_number_169 : decode cX9_number 169 = .ok (.aload_n 0, 1) := by decide +kernel
theorem dX9_number_170 : decode cX9_number 170 = .ok (.getfield 7, 3) := by decide +kernel
theorem dX9_number_173 : decode cX9_number 173 = .ok (.sipush 181, 3) := by decide +kernel
theorem dX9_number_176 : decode cX9_number 176 = .ok (.iload_n 1, 1) := by decide +kernel
theorem dX9_number_177 : decode cX9_number 177 = .ok (.iadd, 1) := by decide +kernel
theorem dX9_number_178 : decode cX9_number 178 = .ok (.bipush 6, 2) := by decide +kernel
theorem dX9_number_180 : decode cX9_number 180 = .ok (.isub, 1) := by decide +kernel
theorem dX9_number_181 : decode cX9_number 181 = .ok (.iaload, 1) := by decide +kernel
theorem dX9_number_182 : decode cX9_number 182 = .ok (.goto 38, 3) := by decide +kernel
theorem dX9_number_185 : decode cX9_number 185 = .ok (.iload_n 1, 1) := by decide +kernel
theorem dX9_number_186 : decode cX9_number 186 = .ok (.bipush 23, 2) := by decide +kernel
theorem dX9_number_188 : decode cX9_number 188 = .ok (.if_icmp .ge 19, 3) := by decide +kernel
theorem dX9_number_191 : decode cX9_number 191 = .ok (.aload_n 0, 1) := by decide +kernel
theorem dX9_number_192 : decode cX9_number 192 = .ok (.getfield 7, 3) := by decide +kernel
theorem dX9_number_195 : decode cX9_number 195 = .ok (.sipush 161, 3) := by decide +kernel
theorem dX9_number_198 : decode cX9_number 198 = .ok (.iload_n 1, 1) := by decide +kernel
theorem dX9_number_199 : decode cX9_number 199 = .ok (.iadd, 1) := by decide +kernel
theorem dX9_number_200 : decode cX9_number 200 = .ok (.bipush 15, 2) := by decide +kernel
theorem dX9_number_202 : decode cX9_number 202 = .ok (.isub, 1) := by decide +kernel
theorem dX9_number_203 : decode cX9_number 203 = .ok (.iaload, 1) := by decide +kernel
theorem dX9_number_204 : decode cX9_number 204 = .ok (.goto 16, 3) := by decide +kernel
theorem dX9_number_207 : decode cX9_number 207 = .ok (.aload_n 0, 1) := by decide +kernel
theorem dX9_number_208 : decode cX9_number 208 = .ok (.getfield 7, 3) := by decide +kernel
theorem dX9_number_211 : decode cX9_number 211 = .ok (.sipush 190, 3) := by decide +kernel
theorem dX9_number_214 : decode cX9_number 214 = .ok (.iload_n 1, 1) := by decide +kernel
theorem dX9_number_215 : decode cX9_number 215 = .ok (.iadd, 1) := by decide +kernel
theorem dX9_number_216 : decode cX9_number 216 = .ok (.bipush 24, 2) := by decide +kernel
theorem dX9_number_218 : decode cX9_number 218 = .ok (.isub, 1) := by decide +kernel
theorem dX9_number_219 : decode cX9_number 219 = .ok (.iaload, 1) := by decide +kernel
theorem dX9_number_220 : decode cX9_number 220 = .ok (.ireturn, 1) := by decide +kernel
set_option maxRecDepth 20000 in
theorem ggX9_count_X9_in : GoodIn wsX9_count wsX9_in := goodIn_r _ [4] (by decide +kernel) (by decide +kernel)
set_option maxRecDepth 20000 in
theorem gX9_count_X9_in : GoodIn wsX9_count (va_wsS RX9 43 yX9_in wsX9_in) := goodIn_app (goodIn_of _ (by decide +kernel)) ggX9_count_X9_in
set_option maxRecDepth 20000 in
theorem ggX9_count_X9_number : GoodIn wsX9_count wsX9_number := goodIn_r _ [8, 9, 10, 11, 12, 13, 3, 14, 15, 16, 17, 18, 19, 20, 21, 22, 23, 24, 25, 26, 27, 28, 29, 30, 31, 32, 33, 34, 35, 36, 37, 38, 39, 40, 41, 42, 43, 44, 45, 46] (by decide +kernel) (by decide +kernel)
set_option maxRecDepth 20000 in
theorem gX9_count_X9_number : GoodIn wsX9_count (wsV RX9 177 RX9 yX9_number wsX9_number) := goodIn_app (goodIn_of _ (by decide +kernel)) ggX9_count_X9_number
theorem dX9_count_0 : decode cX9_count 0 = .ok (.iload_n 1, 1) := by decide +kernel
theorem dX9_count_1 : decode cX9_count 1 = .ok (.iconst 0, 1) := by decide +kernel
theorem dX9_count_2 : decode cX9_count 2 = .ok (.bipush 31, 2) := by decide +kernel
theorem dX9_count_4 : decode cX9_count 4 = .ok (.invokestatic 43, 3) := by decide +kernel
theorem dX9_count_7 : decode cX9_count 7 = .ok (.ifCond .eq 11, 3) := by decide +kernel
theorem dX9_count_10 : decode cX9_count 10 = .ok (.aload_n 0, 1) := by decide +kernel
theorem dX9_count_11 : decode cX9_count 11 = .ok (.iload_n 1, 1) := by decide +kernel
theorem dX9_count_12 : decode cX9_count 12 = .ok (.invokevirtual 177, 3) := by decide +kernel
theorem dX9_count_15 : decode cX9_count 15 = .ok (.goto 5, 3) := by decide +kernel
theorem dX9_count_18 : decode cX9_count 18 = .ok (.bipush (-2), 2) := by decide +kernel
theorem dX9_count_20 : decode cX9_count 20 = .ok (.ireturn, 1) := by decide +kernel
theorem dX9_mixes_0 : decode cX9_mixes 0 = .ok (.aload_n 0, 1) := by decide +kernel
theorem dX9_mixes_1 : decode cX9_mixes 1 = .ok (.ldc2_w 180, 3) := by decide +kernel
theorem dX9_mixes_4 : decode cX9_mixes 4 = .ok (.aload_n 0, 1) := by decide +kernel
theorem dX9_mixes_5 : decode cX9_mixes 5 = .ok (.getfield 182, 3) := by decide +kernel
theorem dX9_mixes_8 : decode cX9_mixes 8 = .ok (.lmul, 1) := by decide +kernel
theorem dX9_mixes_9 : decode cX9_mixes 9 = .ok (.lload_n 1, 1) := by decide +kernel
theorem dX9_mixes_10 : decode cX9_mixes 10 = .ok (.ladd, 1) := by decide +kernel
theorem dX9_mixes_11 : decode cX9_mixes 11 = .ok (.putfield 182, 3) := by decide +kernel
theorem dX9_mixes_14 : decode cX9_mixes 14 = .ok (.return_, 1) := by decide +kernel
set_option maxRecDepth 20000 in
theorem ggX9_digest_X9_number : GoodIn wsX9_digest wsX9_number := goodIn_r _ [10, 3, 4, 11, 12, 13, 9, 14, 15, 16, 17, 18, 19, 20, 21, 22, 104, 105, 106, 107, 108, 109, 110, 111, 112, 113, 114, 115, 116, 117, 118, 119, 120, 121, 122, 123, 124, 125, 126, 127] (by decide +kernel) (by decide +kernel)
set_option maxRecDepth 20000 in
theorem gX9_digest_X9_number : GoodIn wsX9_digest (wsV RX9 177 RX9 yX9_number wsX9_number) := goodIn_app (goodIn_of _ (by decide +kernel)) ggX9_digest_X9_number
set_option maxRecDepth 20000 in
theorem ggX9_digest_X9_mixes : GoodIn wsX9_digest wsX9_mixes := goodIn_r _ [26, 27, 2, 104, 105, 106, 107, 108, 109, 110, 111, 112, 113, 114, 115, 116, 117, 118, 119, 120, 121, 122, 123, 124, 125, 126, 127] (by decide +kernel) (by decide +kernel)
set_option maxRecDepth 20000 in
theorem gX9_digest_X9_mixes : GoodIn wsX9_digest (wsV RX9 188 RX9 yX9_mixes wsX9_mixes) := goodIn_app (goodIn_of _ (by decide +kernel)) ggX9_digest_X9_mixes
set_option maxRecDepth 20000 in
theorem ggX9_digest_X9_item : GoodIn wsX9_digest wsX9_item := goodIn_r _ [31, 3, 32, 33, 9, 34, 15, 16, 17, 18, 104, 105, 106, 107, 108, 109, 110, 111, 112, 113, 114, 115, 116, 117, 118, 119, 120, 121, 122, 123, 124, 125, 126, 127] (by decide +kernel) (by decide +kernel)
set_option maxRecDepth 20000 in
theorem gX9_digest_X9_item : GoodIn wsX9_digest (wsV RX9 192 RX9 yX9_item wsX9_item) := goodIn_app (goodIn_of _ (by decide +kernel)) ggX9_digest_X9_item
set_option maxRecDepth 20000 in
theorem ggX9_digest_X9_pitch : GoodIn wsX9_digest wsX9_pitch := goodIn_r _ [38, 39, 40, 41, 42, 43, 44, 45, 46, 47, 48, 49, 50, 51, 104, 105, 106, 107, 108, 109, 110, 111, 112, 113, 114, 115, 116, 117, 118, 119, 120, 121, 122, 123, 124, 125, 126, 127] (by decide +kernel) (by decide +kernel)
set_option maxRecDepth 20000 in
theorem gX9_digest_X9_pitch : GoodIn wsX9_digest (wsV RX9 196 RX9 yX9_pitch wsX9_pitch) := goodIn_app (goodIn_of _ (by decide +kernel)) ggX9_digest_X9_pitch
set_option maxRecDepth 20000 in
theorem ggX9_digest_X9_foretell : GoodIn wsX9_digest wsX9_foretell := goodIn_r _ [55, 32, 33, 9, 34, 56, 57, 58, 59, 60, 61, 62, 63, 64, 3, 39, 65, 66, 67, 68, 69, 70, 71, 72, 73, 74, 75, 76, 77, 78, 79, 80, 81, 82, 83, 84, 85, 86, 87, 88, 89, 90, 91, 92, 93, 94, 95, 96, 97, 98, 99, 100, 101, 102, 103, 104, 105, 106, 107, 108, 109, 110, 111, 112, 113, 114, 115, 116, 117, 118, 119, 120, 121, 122, 123, 124, 125, 126, 127] (by decide +kernel) (by decide +kernel)
set_option maxRecDepth 20000 in
theorem gX9_digest_X9_foretell : GoodIn wsX9_digest (wsV RX9 198 RX9 yX9_foretell wsX9_foretell) := goodIn_app (goodIn_of _ (by decide +kernel)) ggX9_digest_X9_foretell
theorem dX9_digest_0 : decode cX9_digest 0 = .ok (.aload_n 0, 1) := by decide +kernel
theorem dX9_digest_1 : decode cX9_digest 1 = .ok (.ldc2_w 186, 3) := by decide +kernel
theorem dX9_digest_4 : decode cX9_digest 4 = .ok (.putfield 182, 3) := by decide +kernel
theorem dX9_digest_7 : decode cX9_digest 7 = .ok (.iconst 0, 1) := by decide +kernel
theorem dX9_digest_8 : decode cX9_digest 8 = .ok (.istore_n 1, 1) := by decide +kernel
theorem dX9_digest_9 : decode cX9_digest 9 = .ok (.iload_n 1, 1) := by decide +kernel
theorem dX9_digest_10 : decode cX9_digest 10 = .ok (.bipush 32, 2) := by decide +kernel
theorem dX9_digest_12 : decode cX9_digest 12 = .ok (.if_icmp .ge 19, 3) := by decide +kernel
theorem dX9_digest_15 : decode cX9_digest 15 = .ok (.aload_n 0, 1) := by decide +kernel
theorem dX9_digest_16 : decode cX9_digest 16 = .ok (.aload_n 0, 1) := by decide +kernel
theorem dX9_digest_17 : decode cX9_digest 17 = .ok (.iload_n 1, 1) := by decide +kernel
theorem dX9_digest_18 : decode cX9_digest 18 = .ok (.invokevirtual 177, 3) := by decide +kernel
theorem dX9_digest_21 : decode cX9_digest 21 = .ok (.i2l, 1) := by decide +kernel
theorem dX9_digest_22 : decode cX9_digest 22 = .ok (.invokevirtual 188, 3) := by decide +kernel
theorem dX9_digest_25 : decode cX9_digest 25 = .ok (.iinc 1 1, 3) := by decide +kernel
theorem dX9_digest_28 : decode cX9_digest 28 = .ok (.goto (-19), 3) := by decide +kernel
theorem dX9_digest_31 : decode cX9_digest 31 = .ok (.iconst 0, 1) := by decide +kernel
theorem dX9_digest_32 : decode cX9_digest 32 = .ok (.istore_n 1, 1) := by decide +kernel
theorem dX9_digest_33 : decode cX9_digest 33 = .ok (.iload_n 1, 1) := by decide +kernel
theorem dX9_digest_34 : decode cX9_digest 34 = .ok (.iconst 3, 1) := by decide +kernel
theorem dX9_digest_35 : decode cX9_digest 35 = .ok (.aload_n 0, 1) := by decide +kernel
theorem dX9_digest_36 : decode cX9_digest 36 = .ok (.getfield 7, 3) := by decide +kernel
theorem dX9_digest_39 : decode cX9_digest 39 = .ok (.iconst 0, 1) := by decide +kernel
theorem dX9_digest_40 : decode cX9_digest 40 = .ok (.iaload, 1) := by decide +kernel
theorem dX9_digest_41 : decode cX9_digest 41 = .ok (.imul, 1) := by decide +kernel
theorem dX9_digest_42 : decode cX9_digest 42 = .ok (.if_icmp .ge 24, 3) := by decide +kernel
theorem dX9_digest_45 : decode cX9_digest 45 = .ok (.aload_n 0, 1) := by decide +kernel
theorem dX9_digest_46 : decode cX9_digest 46 = .ok (.aload_n 0, 1) := by decide +kernel
theorem dX9_digest_47 : decode cX9_digest 47 = .ok (.iload_n 1, 1) := by decide +kernel
theorem dX9_digest_48 : decode cX9_digest 48 = .ok (.iconst 3, 1) := by decide +kernel
theorem dX9_digest_49 : decode cX9_digest 49 = .ok (.idiv, 1) := by decide +kernel
theorem dX9_digest_50 : decode cX9_digest 50 = .ok (.iload_n 1, 1) := by decide +kernel
theorem dX9_digest_51 : decode cX9_digest 51 = .ok (.iconst 3, 1) := by decide +kernel
theorem dX9_digest_52 : decode cX9_digest 52 = .ok (.irem, 1) := by decide +kernel
theorem dX9_digest_53 : decode cX9_digest 53 = .ok (.invokevirtual 192, 3) := by decide +kernel
theorem dX9_digest_56 : decode cX9_digest 56 = .ok (.i2l, 1) := by decide +kernel
theorem dX9_digest_57 : decode cX9_digest 57 = .ok (.invokevirtual 188, 3) := by decide +kernel
theorem dX9_digest_60 : decode cX9_digest 60 = .ok (.iinc 1 1, 3) := by decide +kernel
theorem dX9_digest_63 : decode cX9_digest 63 = .ok (.goto (-30), 3) := by decide +kernel
theorem dX9_digest_66 : decode cX9_digest 66 = .ok (.aload_n 0, 1) := by decide +kernel
theorem dX9_digest_67 : decode cX9_digest 67 = .ok (.aload_n 0, 1) := by decide +kernel
theorem dX9_digest_68 : decode cX9_digest 68 = .ok (.invokevirtual 196, 3) := by decide +kernel
theorem dX9_digest_71 : decode cX9_digest 71 = .ok (.i2l, 1) := by decide +kernel
theorem dX9_digest_72 : decode cX9_digest 72 = .ok (.invokevirtual 188, 3) := by decide +kernel
theorem dX9_digest_75 : decode cX9_digest 75 = .ok (.iconst 0, 1) := by decide +kernel
theorem dX9_digest_76 : decode cX9_digest 76 = .ok (.istore_n 1, 1) := by decide +kernel
theorem dX9_digest_77 : decode cX9_digest 77 = .ok (.iload_n 1, 1) := by decide +kernel
theorem dX9_digest_78 : decode cX9_digest 78 = .ok (.aload_n 0, 1) := by decide +kernel
theorem dX9_digest_79 : decode cX9_digest 79 = .ok (.getfield 7, 3) := by decide +kernel
theorem dX9_digest_82 : decode cX9_digest 82 = .ok (.sipush 170, 3) := by decide +kernel
theorem dX9_digest_85 : decode cX9_digest 85 = .ok (.iaload, 1) := by decide +kernel
theorem dX9_digest_86 : decode cX9_digest 86 = .ok (.if_icmp .ge 24, 3) := by decide +kernel
theorem dX9_digest_89 : decode cX9_digest 89 = .ok (.aload_n 0, 1) := by decide +kernel
theorem dX9_digest_90 : decode cX9_digest 90 = .ok (.aload_n 0, 1) := by decide +kernel
theorem dX9_digest_91 : decode cX9_digest 91 = .ok (.getfield 7, 3) := by decide +kernel
theorem dX9_digest_94 : decode cX9_digest 94 = .ok (.sipush 171, 3) := by decide +kernel
theorem dX9_digest_97 : decode cX9_digest 97 = .ok (.iload_n 1, 1) := by decide +kernel
theorem dX9_digest_98 : decode cX9_digest 98 = .ok (.iadd, 1) := by decide +kernel
theorem dX9_digest_99 : decode cX9_digest 99 = .ok (.iaload, 1) := by decide +kernel
theorem dX9_digest_100 : decode cX9_digest 100 = .ok (.i2l, 1) := by decide +kernel
theorem dX9_digest_101 : decode cX9_digest 101 = .ok (.invokevirtual 188, 3) := by decide +kernel
theorem dX9_digest_104 : decode cX9_digest 104 = .ok (.iinc 1 1, 3) := by decide +kernel
theorem dX9_digest_107 : decode cX9_digest 107 = .ok (.goto (-30), 3) := by decide +kernel
theorem dX9_digest_110 : decode cX9_digest 110 = .ok (.iconst 0, 1) := by decide +kernel
theorem dX9_digest_111 : decode cX9_digest 111 = .ok (.istore_n 1, 1) := by decide +kernel
theorem dX9_digest_112 : decode cX9_digest 112 = .ok (.iload_n 1, 1) := by decide +kernel
theorem dX9_digest_113 : decode cX9_digest 113 = .ok (.bipush 6, 2) := by decide +kernel
theorem dX9_digest_115 : decode cX9_digest 115 = .ok (.if_icmp .ge 24, 3) := by decide +kernel
theorem dX9_digest_118 : decode cX9_digest 118 = .ok (.aload_n 0, 1) := by decide +kernel
theorem dX9_digest_119 : decode cX9_digest 119 = .ok (.aload_n 0, 1) := by decide +kernel
theorem dX9_digest_120 : decode cX9_digest 120 = .ok (.getfield 7, 3) := by decide +kernel
theorem dX9_digest_123 : decode cX9_digest 123 = .ok (.sipush 198, 3) := by decide +kernel
theorem dX9_digest_126 : decode cX9_digest 126 = .ok (.iload_n 1, 1) := by decide +kernel
theorem dX9_digest_127 : decode cX9_digest 127 = .ok (.iadd, 1) := by decide +kernel
theorem dX9_digest_128 : decode cX9_digest 128 = .ok (.iaload, 1) := by decide +kernel
theorem dX9_digest_129 : decode cX9_digest 129 = .ok (.i2l, 1) := by decide +kernel
theorem dX9_digest_130 : decode cX9_digest 130 = .ok (.invokevirtual 188, 3) := by decide +kernel
theorem dX9_digest_133 : decode cX9_digest 133 = .ok (.iinc 1 1, 3) := by decide +kernel
theorem dX9_digest_136 : decode cX9_digest 136 = .ok (.goto (-24), 3) := by decide +kernel
theorem dX9_digest_139 : decode cX9_digest 139 = .ok (.iconst 0, 1) := by decide +kernel
theorem dX9_digest_140 : decode cX9_digest 140 = .ok (.istore_n 1, 1) := by decide +kernel
theorem dX9_digest_141 : decode cX9_digest 141 = .ok (.iload_n 1, 1) := by decide +kernel
theorem dX9_digest_142 : decode cX9_digest 142 = .ok (.iconst 4, 1) := by decide +kernel
theorem dX9_digest_143 : decode cX9_digest 143 = .ok (.if_icmp .ge 24, 3) := by decide +kernel
theorem dX9_digest_146 : decode cX9_digest 146 = .ok (.aload_n 0, 1) := by decide +kernel
theorem dX9_digest_147 : decode cX9_digest 147 = .ok (.aload_n 0, 1) := by decide +kernel
theorem dX9_digest_148 : decode cX9_digest 148 = .ok (.bipush 20, 2) := by decide +kernel
theorem dX9_digest_150 : decode cX9_digest 150 = .ok (.sipush 300, 3) := by decide +kernel
theorem dX9_digest_153 : decode cX9_digest 153 = .ok (.iload_n 1, 1) := by decide +kernel
theorem dX9_digest_154 : decode cX9_digest 154 = .ok (.invokevirtual 198, 3) := by decide +kernel
theorem dX9_digest_157 : decode cX9_digest 157 = .ok (.i2l, 1) := by decide +kernel
theorem dX9_digest_158 : decode cX9_digest 158 = .ok (.invokevirtual 188, 3) := by decide +kernel
theorem dX9_digest_161 : decode cX9_digest 161 = .ok (.iinc 1 1, 3) := by decide +kernel
theorem dX9_digest_164 : decode cX9_digest 164 = .ok (.goto (-23), 3) := by decide +kernel
theorem dX9_digest_167 : decode cX9_digest 167 = .ok (.iconst 0, 1) := by decide +kernel
theorem dX9_digest_168 : decode cX9_digest 168 = .ok (.istore_n 1, 1) := by decide +kernel
theorem dX9_digest_169 : decode cX9_digest 169 = .ok (.iload_n 1, 1) := by decide +kernel
theorem dX9_digest_170 : decode cX9_digest 170 = .ok (.aload_n 0, 1) := by decide +kernel
theorem dX9_digest_171 : decode cX9_digest 171 = .ok (.getfield 47, 3) := by decide +kernel
theorem dX9_digest_174 : decode cX9_digest 174 = .ok (.if_icmp .ge 20, 3) := by decide +kernel
theorem dX9_digest_177 : decode cX9_digest 177 = .ok (.aload_n 0, 1) := by decide +kernel
theorem dX9_digest_178 : decode cX9_digest 178 = .ok (.aload_n 0, 1) := by decide +kernel
theorem dX9_digest_179 : decode cX9_digest 179 = .ok (.getfield 28, 3) := by decide +kernel
theorem dX9_digest_182 : decode cX9_digest 182 = .ok (.iload_n 1, 1) := by decide +kernel
theorem dX9_digest_183 : decode cX9_digest 183 = .ok (.iaload, 1) := by decide +kernel
theorem dX9_digest_184 : decode cX9_digest 184 = .ok (.i2l, 1) := by decide +kernel
theorem dX9_digest_185 : decode cX9_digest 185 = .ok (.invokevirtual 188, 3) := by decide +kernel
theorem dX9_digest_188 : decode cX9_digest 188 = .ok (.iinc 1 1, 3) := by decide +kernel
theorem dX9_digest_191 : decode cX9_digest 191 = .ok (.goto (-22), 3) := by decide +kernel
theorem dX9_digest_194 : decode cX9_digest 194 = .ok (.aload_n 0, 1) := by decide +kernel
theorem dX9_digest_195 : decode cX9_digest 195 = .ok (.getfield 182, 3) := by decide +kernel
theorem dX9_digest_198 : decode cX9_digest 198 = .ok (.lreturn, 1) := by decide +kernel
theorem dJxf58ca_isNaN_12338_0 : decode cJxf58ca_isNaN_12338 0 = .ok (.fload_n 0, 1) := by decide +kernel
theorem dJxf58ca_isNaN_12338_1 : decode cJxf58ca_isNaN_12338 1 = .ok (.fload_n 0, 1) := by decide +kernel
theorem dJxf58ca_isNaN_12338_2 : decode cJxf58ca_isNaN_12338 2 = .ok (.fcmp .l, 1) := by decide +kernel
theorem dJxf58ca_isNaN_12338_3 : decode cJxf58ca_isNaN_12338 3 = .ok (.ifCond .eq 7, 3) := by decide +kernel
theorem dJxf58ca_isNaN_12338_6 : decode cJxf58ca_isNaN_12338 6 = .ok (.iconst 1, 1) := by decide +kernel
theorem dJxf58ca_isNaN_12338_7 : decode cJxf58ca_isNaN_12338 7 = .ok (.goto 4, 3) := by decide +kernel
theorem dJxf58ca_isNaN_12338_10 : decode cJxf58ca_isNaN_12338 10 = .ok (.iconst 0, 1) := by decide +kernel
theorem dJxf58ca_isNaN_12338_11 : decode cJxf58ca_isNaN_12338 11 = .ok (.ireturn, 1) := by decide +kernel
set_option maxRecDepth 20000 in
theorem ggJxf58ca_floatToIntBits_5c35a_Jxf58ca_isNaN_12338 : GoodIn wsJxf58ca_floatToIntBits_5c35a wsJxf58ca_isNaN_12338 := goodIn_r _ [9] (by decide +kernel) (by decide +kernel)
set_option maxRecDepth 20000 in
theorem gJxf58ca_floatToIntBits_5c35a_Jxf58ca_isNaN_12338 : GoodIn wsJxf58ca_floatToIntBits_5c35a (va_wsS RJxf58ca 59 yJxf58ca_isNaN_12338 wsJxf58ca_isNaN_12338) := goodIn_app (goodIn_of _ (by decide +kernel)) ggJxf58ca_floatToIntBits_5c35a_Jxf58ca_isNaN_12338
theorem dJxf58ca_floatToIntBits_5c35a_0 : decode cJxf58ca_floatToIntBits_5c35a 0 = .ok (.fload_n 0, 1) := by decide +kernel
theorem dJxf58ca_floatToIntBits_5c35a_1 : decode cJxf58ca_floatToIntBits_5c35a 1 = .ok (.invokestatic 59, 3) := by decide +kernel
theorem dJxf58ca_floatToIntBits_5c35a_4 : decode cJxf58ca_floatToIntBits_5c35a 4 = .ok (.ifCond .ne 8, 3) := by decide +kernel
theorem dJxf58ca_floatToIntBits_5c35a_7 : decode cJxf58ca_floatToIntBits_5c35a 7 = .ok (.fload_n 0, 1) := by decide +kernel
theorem dJxf58ca_floatToIntBits_5c35a_8 : decode cJxf58ca_floatToIntBits_5c35a 8 = .ok (.invokestatic 74, 3) := by decide +kernel
theorem dJxf58ca_floatToIntBits_5c35a_11 : decode cJxf58ca_floatToIntBits_5c35a 11 = .ok (.ireturn, 1) := by decide +kernel
theorem dJxf58ca_floatToIntBits_5c35a_12 : decode cJxf58ca_floatToIntBits_5c35a 12 = .ok (.ldc 77, 2) := by decide +kernel
theorem dJxf58ca_floatToIntBits_5c35a_14 : decode cJxf58ca_floatToIntBits_5c35a 14 = .ok (.ireturn, 1) := by decide +kernel
theorem dJ9_abs_0f7a4_0 : decode cJ9_abs_0f7a4 0 = .ok (.iload_n 0, 1) := by decide +kernel
theorem dJ9_abs_0f7a4_1 : decode cJ9_abs_0f7a4 1 = .ok (.ifCond .ge 8, 3) := by decide +kernel
theorem dJ9_abs_0f7a4_4 : decode cJ9_abs_0f7a4 4 = .ok (.iload_n 0, 1) := by decide +kernel
theorem dJ9_abs_0f7a4_5 : decode cJ9_abs_0f7a4 5 = .ok (.ineg, 1) := by decide +kernel
theorem dJ9_abs_0f7a4_6 : decode cJ9_abs_0f7a4 6 = .ok (.goto 4, 3) := by decide +kernel
theorem dJ9_abs_0f7a4_9 : decode cJ9_abs_0f7a4 9 = .ok (.iload_n 0, 1) := by decide +kernel
theorem dJ9_abs_0f7a4_10 : decode cJ9_abs_0f7a4 10 = .ok (.ireturn, 1) := by decide +kernel
theorem dJ9_max_7cf53_0 : decode cJ9_max_7cf53 0 = .ok (.iload_n 0, 1) := by decide +kernel
theorem dJ9_max_7cf53_1 : decode cJ9_max_7cf53 1 = .ok (.iload_n 1, 1) := by decide +kernel
theorem dJ9_max_7cf53_2 : decode cJ9_max_7cf53 2 = .ok (.if_icmp .lt 7, 3) := by decide +kernel
theorem dJ9_max_7cf53_5 : decode cJ9_max_7cf53 5 = .ok (.iload_n 0, 1) := by decide +kernel
theorem dJ9_max_7cf53_6 : decode cJ9_max_7cf53 6 = .ok (.goto 4, 3) := by decide +kernel
theorem dJ9_max_7cf53_9 : decode cJ9_max_7cf53 9 = .ok (.iload_n 1, 1) := by decide +kernel
theorem dJ9_max_7cf53_10 : decode cJ9_max_7cf53 10 = .ok (.ireturn, 1) := by decide +kernel
theorem dJ9_min_7cf53_0 : decode cJ9_min_7cf53 0 = .ok (.iload_n 0, 1) := by decide +kernel
theorem dJ9_min_7cf53_1 : decode cJ9_min_7cf53 1 = .ok (.iload_n 1, 1) := by decide +kernel
theorem dJ9_min_7cf53_2 : decode cJ9_min_7cf53 2 = .ok (.if_icmp .gt 7, 3) := by decide +kernel
theorem dJ9_min_7cf53_5 : decode cJ9_min_7cf53 5 = .ok (.iload_n 0, 1) := by decide +kernel
theorem dJ9_min_7cf53_6 : decode cJ9_min_7cf53 6 = .ok (.goto 4, 3) := by decide +kernel
theorem dJ9_min_7cf53_9 : decode cJ9_min_7cf53 9 = .ok (.iload_n 1, 1) := by decide +kernel
theorem dJ9_min_7cf53_10 : decode cJ9_min_7cf53 10 = .ok (.ireturn, 1) := by decide +kernel
set_option maxRecDepth 20000 in
theorem ggL_law_X8_init : GoodIn wsL_law wsX8_init := goodIn_r _ [8, 9, 10, 11, 12, 13, 14, 15, 16, 17, 18, 19, 20, 21, 22, 23, 24, 25, 26, 27, 28, 29, 30, 31, 32, 33, 34, 35, 36, 37, 38, 39, 40, 41, 42, 43, 44, 45, 46, 47, 48, 49, 50, 51, 52, 53, 54, 55, 56, 57, 58, 59, 60, 61, 62, 63, 64, 65, 66, 67, 68, 69, 70, 71, 72, 73, 74, 75, 76, 77, 78, 79, 80, 81, 82, 83, 84, 85, 86, 87, 88, 89, 90, 91, 92, 93, 94, 95, 96, 97, 98, 99, 100, 764, 765, 734, 735, 736, 737, 738, 739, 766, 767, 768, 769, 770, 771, 772, 773, 774, 775, 776, 777, 778, 779, 780, 781, 782, 783, 784, 785, 786, 787, 788, 789, 790, 791, 792, 793, 794, 795, 796, 797, 798, 799, 800, 801, 802, 803, 804, 805, 806] (by decide +kernel) (by decide +kernel)
set_option maxRecDepth 20000 in
theorem gL_law_X8_init : GoodIn wsL_law (wsX8_init) := ggL_law_X8_init
set_option maxRecDepth 20000 in
theorem ggL_law_X9_init : GoodIn wsL_law wsX9_init := goodIn_r _ [103, 104, 10, 11, 45, 105, 106, 107, 108, 109, 110, 111, 112, 113, 114, 115, 116, 740, 741, 742, 743, 744, 745, 746, 747, 748, 749, 750, 751, 752, 753, 754, 755, 756, 757, 758, 759, 760, 761, 762, 763] (by decide +kernel) (by decide +kernel)
set_option maxRecDepth 20000 in
theorem gL_law_X9_init : GoodIn wsL_law (wsX9_init) := ggL_law_X9_init
set_option maxRecDepth 20000 in
theorem ggL_law_X8_type : GoodIn wsL_law wsX8_type := goodIn_r _ [120, 15, 121, 122, 123, 2, 124, 125, 126, 127, 14, 128, 129, 35, 734, 735, 736, 737, 738, 739, 764, 765] (by decide +kernel) (by decide +kernel)
set_option maxRecDepth 20000 in
theorem gL_law_X8_type : GoodIn wsL_law (wsV RL 13 RX8 yX8_type wsX8_type) := goodIn_app (goodIn_of _ (by decide +kernel)) ggL_law_X8_type
end
section
/-! BASE: one form of contract for all methods (CQ), rows whose numbers are naturals -/
abbrev vwCl : List vw_C := [(RX0, TX0, 8), (RX1, TX1, 4), (RX2, TX2, 16), (RX3, TX3, 8), (RX4, TX4, 2), (RX5, TX5, 1), (RX6, TX6, 2), (RX7, TX7, 2), (RX8, TX8, 6), (RX9, TX9, 24)]
/-- the surroundings: where the classes' fields lie, the classes of the arrays of int, byte, boolean, the two static arrays -/
abbrev ee_T : Type := va_G × (ClassId × ClassId × ClassId) × (Nat × Nat)
abbrev ee_ty (E : ee_T) : List (ClassId × FieldType) := [(E.2.1.1, .int), (E.2.1.2.1, .byte), (E.2.1.2.2, .boolean)]
abbrev ee_i (E : ee_T) (n : Nat) (f : Nat → Int32) : va_E := .inl (E.2.1.1, n, .inl f)
abbrev ee_b (E : ee_T) (n : Nat) (f : Nat → Int32) : va_E := .inl (E.2.1.2.1, n, .inl f)
abbrev ee_z (E : ee_T) (n : Nat) (f : Nat → Int32) : va_E := .inl (E.2.1.2.2, n, .inl f)
abbrev ee_o (k : Nat) (fs : List Value) : va_E := .inr (k, fs)
/-- the settings' bounds, as the class's static arrays and the model's methods have them -/
def st_lo (j : Nat) : Nat := match j with
  | 0 => 1 | 1 => 0 | 2 => 10 | 3 => 1 | 4 => 1 | 5 => 0 | 6 => 0 | _ => 1
def st_hi (j : Nat) : Nat := match j with
  | 0 => 30 | 1 => 50 | 2 => 400 | 3 => 1000 | 4 => 1000 | 5 => 100 | 6 => 8 | _ => 9
def ee_fL : Nat → Value := fun j => .int (nI (st_lo j))
def ee_fG : Nat → Value := fun j => .int (nI (st_hi j))
def ee_N (U : State) : Prop := va_Nw (.methodLinkNest RX2 34 yX0_init "LabelApplicator") U ∧ va_Nw (.methodLinkNest RX3 101 yX8_isWithin "LabelApplicator") U ∧ va_Nw (.methodLinkNest RX5 15 yX8_isWithin "LabelApplicator") U
def ee_St (E : ee_T) (A : Nat → Prop) (U : State) (H : Heap) : Prop := (va_Z RX5 "LEAST" "[I" (.ref E.2.2.1) A U H ∧ va_T .int E.2.2.1 8 ee_fL A U H) ∧ va_Z RX5 "GREATEST" "[I" (.ref E.2.2.2) A U H ∧ va_T .int E.2.2.2 8 ee_fG A U H
def ee_V (E : ee_T) (A : Nat → Prop) (U : State) (H : Heap) : Prop := va_K E.1 vwCl (ee_ty E) U ∧ ee_N U ∧ ee_St E A U H
theorem ee_N_warm {s U : State} (hW : s.WarmedH U.vm) (h : ee_N s) : ee_N U := ⟨va_Nw.warmM hW h.1, va_Nw.warmM hW h.2.1, va_Nw.warmM hW h.2.2⟩
theorem ee_N_same {u U : State} (hW : u.vm = U.vm) (h : ee_N u) : ee_N U := ⟨va_Nw.same rfl hW h.1, va_Nw.same rfl hW h.2.1, va_Nw.same rfl hW h.2.2⟩
theorem ee_St_to {E : ee_T} {A B : Nat → Prop} {u U : State} {H H1 : Heap} (hvm : u.vm.Alike U.vm) (hq : ∀ a : Nat, a < H.size → ¬ A a → H1[a]? = H[a]?) (hAB : ∀ q, B q → A q) (h : ee_St E A u H) : ee_St E B U H1 :=
  ⟨⟨((h.1.1.kept hq).narrow hAB).moved hvm, ((h.1.2.kept hq).narrow hAB).moved hvm⟩, ((h.2.1.kept hq).narrow hAB).moved hvm, ((h.2.2.kept hq).narrow hAB).moved hvm⟩
theorem ee_V_call {E : ee_T} {A B : Nat → Prop} {s U : State} {H : Heap} {locs : List Loc} (h : ee_V E A s s.heap) (hS : va_S A s.heap H locs) (hF : ∀ q, B q → A q) (hU : U.heap = H) (hW : s.WarmedH U.vm) : ee_V E B U U.heap := by
  refine ⟨va_K.moved hW.alike h.1, ee_N_warm hW h.2.1, ?_⟩
  rw [hU]
  exact ee_St_to hW.alike (fun a h1 h2 => hS.2.1 a h1 h2) hF h.2.2
def ee_Pre (E : ee_T) (av : List Value) (w0 : va_W) (sz : Nat) : Array Value → State → Prop := va_Pc av (fun U => U.heap.size = sz ∧ va_P E.1 vwCl w0 U.heap ∧ ee_V E (va_A w0 sz) U U.heap ∧ va_D (fun _ => True) w0)
theorem ee_Pre_blind (E : ee_T) (av : List Value) (w0 : va_W) (sz : Nat) : FrameBlind (ee_Pre E av w0 sz) := by
  intro a U g mk h
  obtain ⟨h1, h2, h3, ⟨h4, h5, h6⟩, h7⟩ := h
  exact ⟨h1, h2, h3, ⟨va_K.moved (u := U) (U := U.calling g mk a) (Vm.Alike.refl U.vm) h4, ee_N_same (u := U) (U := U.calling g mk a) rfl h5, ee_St_to (u := U) (U := U.calling g mk a) (H := U.heap) (H1 := (U.calling g mk a).heap) (Vm.Alike.refl U.vm) (fun _ _ _ => rfl) (fun _ h => h) h6⟩, h7⟩
def ee_B (E : ee_T) (A : Nat → Prop) {S : Type} (w1 : S → va_W) : S → State → Prop := fun u t => va_P E.1 vwCl (w1 u) t.heap ∧ va_D A (w1 u)
/-- a contract: from the cells w0 (nothing else is written), with the arguments av -/
def CQ (l : Launch) (E : ee_T) (y : MethodName) (ws : List Cond) (rm : Room) (av : List Value) (w0 : va_W) (Qf : (Nat → Prop) → Array Value → State → Outcome → State → Prop) (mc ms : Nat) : Prop :=
  ∀ sz : Nat, Met l y ws rm (ee_Pre E av w0 sz) (Qf (va_A w0 sz)) mc ms (va_A w0 sz)
/-- its end: an int, a long, nothing, a reference -/
def QI (E : ee_T) {S : Type} (post : Int32 → S → Prop) (w1 : S → va_W) : (Nat → Prop) → Array Value → State → Outcome → State → Prop := fun A => va_Qi post (ee_B E A w1) A
def QL (E : ee_T) {S : Type} (post : Int64 → S → Prop) (w1 : S → va_W) : (Nat → Prop) → Array Value → State → Outcome → State → Prop := fun A => va_Ql post (ee_B E A w1) A
def QV (E : ee_T) {S : Type} (post : S → Prop) (w1 : S → va_W) : (Nat → Prop) → Array Value → State → Outcome → State → Prop := fun A => va_Qv post (ee_B E A w1) A
def QR (E : ee_T) {S : Type} (ra : Nat) (post : S → Prop) (w1 : S → va_W) : (Nat → Prop) → Array Value → State → Outcome → State → Prop := fun A => va_Qr post (fun u a t => a = ra ∧ ee_B E A w1 u t) A
section EE
variable {l : Launch} {E : ee_T} {y : MethodName} {ws : List Cond} {rm : Room} {av : List Value} {w0 : va_W} {Qf : (Nat → Prop) → Array Value → State → Outcome → State → Prop} {mc ms : Nat}
theorem CQ_ofW {ws' : List Cond} {cc : ByteArray} {maxL : Nat} {ret : Option FieldType} (hy : plainName y.cls = true) (hw : ws = Cond.code y cc maxL ret :: ws') (hle : (lg_sl av).length ≤ maxL)
    (body : ∀ (p : Program) (e : Env) (s : State) (m : MethodId) (below : List Frame) (meth : Method) (c : Code) (A : Nat → Prop) (Q : State → Prop), Q = MQ below (Qf A) av.toArray s mc ms A → p.tables.exec = Jvm.exec → c.code = cc → meth.sig.returnType = ret → c.maxLocals = maxL → s.vm.findClass y.cls = some m.cls → meth.locks = false → meth.name = y.name → (∀ w ∈ ws, w.before av.toArray s = true) → ee_V E A s s.heap → (∀ q, s.heap.size ≤ q → A q) → va_P E.1 vwCl w0 s.heap → va_D A w0 → va_S A s.heap s.heap [] → ∀ ls : Array Slot, lv_has ls maxL (lv_args 0 av) → W p l e rm s m av.toArray below meth c s.heap [] 0 0 Q (F0 m 0 ls [])) : CQ l E y ws rm av w0 Qf mc ms := by
  intro sz
  refine Met.ofW (cc := cc) (maxL := maxL) (ret := ret) hy hw ?_
  intro p e s m args below meth c s₁ B hml hv
  obtain ⟨rfl, hsz, hP, hV, hD0⟩ := hv
  subst hsz
  have hl := lv_entry av (n := maxL) hle
  rw [lg_entry_eq]
  exact body p e s m below meth c (va_A w0 s.heap.size) _ rfl B.exec B.bytes B.returns hml (findClass_of_methodNamed B.named) B.notSynchronized (name_of_methodNamed B.named B.method).1 (atoms_spec (ws := ws) B.pre) hV (fun q h => Or.inr h) hP hD0.self va_S.rf _ hl
end EE
section EW
variable {p : Program} {l : Launch} {e : Env} {R : Room} {s : State} {m : MethodId} {args : Array Value} {below : List Frame} {meth : Method} {c : Code} {H : Heap} {locs : List Loc} {cells slots : Nat} {Q : State → Prop}
variable {cc : ByteArray} {pc : Nat} {ls : Array Slot} {rest : List Value} {E : ee_T} {A : Nat → Prop} {a : Nat} {w : va_W} {mc ms : Nat}
/-! ends -/
theorem ee_fi {S : Type} {post : Int32 → S → Prop} {w1 : S → va_W} {v : Int32} {ty : FieldType} (hQ : Q = MQ below (QI E post w1 A) args s cells slots A) (hx : p.tables.exec = Jvm.exec) (hb : c.code = cc) (hr : meth.sig.returnType = some ty) (hn : narrow ty (.int v) = .int v) (hlocks : meth.locks = false) (hS : va_S A s.heap H locs) (u : S) (hp : post v u) (hP : va_P E.1 vwCl (w1 u) H) (hD : va_D A (w1 u)) (hdg : decode cc pc = .ok (.ireturn, 1)) : W p l e R s m args below meth c H locs cells slots Q (F0 m pc ls [.int v]) := by
  subst hQ
  exact W.zret (v := v) hx hb hr hn (fun t ht hW => ⟨⟨v, u, rfl, hp, by rw [ht]; exact hP, hD⟩, hS.F ht⟩) hS.2.2 hdg
theorem ee_fl {S : Type} {post : Int64 → S → Prop} {w1 : S → va_W} {v : Int64} (hQ : Q = MQ below (QL E post w1 A) args s cells slots A) (hx : p.tables.exec = Jvm.exec) (hb : c.code = cc) (hr : meth.sig.returnType = some .long) (hlocks : meth.locks = false) (hS : va_S A s.heap H locs) (u : S) (hp : post v u) (hP : va_P E.1 vwCl (w1 u) H) (hD : va_D A (w1 u)) (hdg : decode cc pc = .ok (.lreturn, 1)) : W p l e R s m args below meth c H locs cells slots Q (F0 m pc ls [.long v]) := by
  subst hQ
  exact W.lret (v := v) hx hb hr (fun t ht hW => ⟨⟨v, u, rfl, hp, by rw [ht]; exact hP, hD⟩, hS.F ht⟩) hS.2.2 hdg
theorem ee_fr {S : Type} {ra : Nat} {rt : FieldType} {post : S → Prop} {w1 : S → va_W} (hQ : Q = MQ below (QR E ra post w1 A) args s cells slots A) (hx : p.tables.exec = Jvm.exec) (hb : c.code = cc) (hr : meth.sig.returnType = some rt) (hrt : (∃ n, rt = .object n) ∨ ∃ t, rt = .array t) (hlocks : meth.locks = false) (hS : va_S A s.heap H locs) (u : S) (hp : post u) (hP : va_P E.1 vwCl (w1 u) H) (hD : va_D A (w1 u)) (hdg : decode cc pc = .ok (.areturn, 1)) : W p l e R s m args below meth c H locs cells slots Q (F0 m pc ls [.ref ra]) := by
  subst hQ
  exact W.aret (v := .ref ra) hx hb hr hrt (Or.inr ⟨_, rfl⟩) (fun t ht hW => ⟨⟨u, ra, rfl, hp, rfl, by rw [ht]; exact hP, hD⟩, hS.F ht⟩) hS.2.2 hdg
theorem ee_fv {S : Type} {post : S → Prop} {w1 : S → va_W} (hQ : Q = MQ below (QV E post w1 A) args s cells slots A) (hx : p.tables.exec = Jvm.exec) (hb : c.code = cc) (hr : meth.sig.returnType = none) (hlocks : meth.locks = false) (hS : va_S A s.heap H locs) (u : S) (hp : post u) (hP : va_P E.1 vwCl (w1 u) H) (hD : va_D A (w1 u)) (hdg : decode cc pc = .ok (.return_, 1)) : W p l e R s m args below meth c H locs cells slots Q (F0 m pc ls []) := by
  subst hQ
  exact W.vret hx hb hr (fun t ht hW => ⟨⟨u, rfl, hp, by rw [ht]; exact hP, hD⟩, hS.F ht⟩) hS.2.2 hdg
/-! calls -/
theorem ee_pre {b : Nat} {As : List Value} {wc : va_W} (hV : ee_V E A s s.heap) (hP : va_P E.1 vwCl w H) (hD : va_D A w) (hS : va_S A s.heap H locs) (hA : ∀ q, s.heap.size ≤ q → A q) (isC : List Nat) (hC : isC.map (fun i => w[i]?) = wc.map some) (hnd : va_nd isC = true) : PreS s H (ee_Pre E As wc H.size) As := by
  have hF := va_free (wc := wc) hD hS hA isC hC
  have hPc : va_P E.1 vwCl wc H := by
    intro k q hq
    have h1 : (isC.map (fun i => w[i]?))[k]? = some (some q) := by rw [hC, List.getElem?_map, hq]; rfl
    rw [List.getElem?_map] at h1
    cases hi : isC[k]? with
    | none => rw [hi] at h1; cases h1
    | some i => rw [hi] at h1; exact hP i q (Option.some.inj h1)
  exact ⟨ee_Pre_blind _ _ _ _, fun U hU hW => ⟨rfl, by rw [hU], by rw [hU]; exact hPc, ee_V_call hV hS hF hU hW, (hD.sub isC hnd hC).weaken (fun _ _ _ _ => trivial)⟩⟩
theorem ee_ki {S : Type} {post : Int32 → S → Prop} {w1 : S → va_W} {wc wr : va_W} {st0 : List Value} {av : Array Value} (hr : va_Run p l e R s m args below meth c H locs cells slots mc ms (F0 m pc ls st0) rest (QI E post w1 (va_A wc H.size) av) (va_A wc H.size)) (hP : va_P E.1 vwCl w H) (hD : va_D A w) (hS : va_S A s.heap H locs) (hA : ∀ q, s.heap.size ≤ q → A q) (isC isR : List Nat) (hC : isC.map (fun i => w[i]?) = wc.map some) (hR : isR.map (fun i => w[i]?) = wr.map some) (hn : va_nd isR = true) (hdis : ∀ i ∈ isR, i ∉ isC)
    (kk : ∀ (r : Int32) (u : S) (H1 : Heap) (locs1 : List Loc), post r u → va_P E.1 vwCl (wr ++ w1 u) H1 → va_D A (wr ++ w1 u) → va_S A s.heap H1 locs1 → W p l e R s m args below meth c H1 locs1 (cells + mc) (slots + ms) Q (F0 m (pc + 3) ls (.int r :: rest))) : W p l e R s m args below meth c H locs cells slots Q (F0 m pc ls st0) := by
  have hF := va_free (wc := wc) hD hS hA isC hC
  refine va_calli hr hS (fun q _ h => hF q h) hF (fun r u t H1 locs1 ht hvm hp hB hz hk hS1 => ?_)
  obtain ⟨hP1, hD1⟩ := hB
  rw [ht] at hP1
  obtain ⟨hP2, hD2⟩ := va_join hP hD isC isR hC hR hn hdis hk hF hP1 hD1
  exact kk r u H1 locs1 hp hP2 hD2 hS1
theorem ee_kl {S : Type} {post : Int64 → S → Prop} {w1 : S → va_W} {wc wr : va_W} {st0 : List Value} {av : Array Value} (hr : va_Run p l e R s m args below meth c H locs cells slots mc ms (F0 m pc ls st0) rest (QL E post w1 (va_A wc H.size) av) (va_A wc H.size)) (hP : va_P E.1 vwCl w H) (hD : va_D A w) (hS : va_S A s.heap H locs) (hA : ∀ q, s.heap.size ≤ q → A q) (isC isR : List Nat) (hC : isC.map (fun i => w[i]?) = wc.map some) (hR : isR.map (fun i => w[i]?) = wr.map some) (hn : va_nd isR = true) (hdis : ∀ i ∈ isR, i ∉ isC)
    (kk : ∀ (r : Int64) (u : S) (H1 : Heap) (locs1 : List Loc), post r u → va_P E.1 vwCl (wr ++ w1 u) H1 → va_D A (wr ++ w1 u) → va_S A s.heap H1 locs1 → W p l e R s m args below meth c H1 locs1 (cells + mc) (slots + ms) Q (F0 m (pc + 3) ls (.long r :: rest))) : W p l e R s m args below meth c H locs cells slots Q (F0 m pc ls st0) := by
  have hF := va_free (wc := wc) hD hS hA isC hC
  refine va_calll hr hS (fun q _ h => hF q h) hF (fun r u t H1 locs1 ht hvm hp hB hz hk hS1 => ?_)
  obtain ⟨hP1, hD1⟩ := hB
  rw [ht] at hP1
  obtain ⟨hP2, hD2⟩ := va_join hP hD isC isR hC hR hn hdis hk hF hP1 hD1
  exact kk r u H1 locs1 hp hP2 hD2 hS1
theorem ee_kv {S : Type} {post : S → Prop} {w1 : S → va_W} {wc wr : va_W} {st0 : List Value} {av : Array Value} (hr : va_Run p l e R s m args below meth c H locs cells slots mc ms (F0 m pc ls st0) rest (QV E post w1 (va_A wc H.size) av) (va_A wc H.size)) (hP : va_P E.1 vwCl w H) (hD : va_D A w) (hS : va_S A s.heap H locs) (hA : ∀ q, s.heap.size ≤ q → A q) (isC isR : List Nat) (hC : isC.map (fun i => w[i]?) = wc.map some) (hR : isR.map (fun i => w[i]?) = wr.map some) (hn : va_nd isR = true) (hdis : ∀ i ∈ isR, i ∉ isC)
    (kk : ∀ (u : S) (H1 : Heap) (locs1 : List Loc), post u → va_P E.1 vwCl (wr ++ w1 u) H1 → va_D A (wr ++ w1 u) → va_S A s.heap H1 locs1 → W p l e R s m args below meth c H1 locs1 (cells + mc) (slots + ms) Q (F0 m (pc + 3) ls rest)) : W p l e R s m args below meth c H locs cells slots Q (F0 m pc ls st0) := by
  have hF := va_free (wc := wc) hD hS hA isC hC
  refine va_callv hr hS (fun q _ h => hF q h) hF (fun u t H1 locs1 ht hvm hp hB hz hk hS1 => ?_)
  obtain ⟨hP1, hD1⟩ := hB
  rw [ht] at hP1
  obtain ⟨hP2, hD2⟩ := va_join hP hD isC isR hC hR hn hdis hk hF hP1 hD1
  exact kk u H1 locs1 hp hP2 hD2 hS1
theorem ee_kr {S : Type} {ra : Nat} {post : S → Prop} {w1 : S → va_W} {wc wr : va_W} {st0 : List Value} {av : Array Value} (hr : va_Run p l e R s m args below meth c H locs cells slots mc ms (F0 m pc ls st0) rest (QR E ra post w1 (va_A wc H.size) av) (va_A wc H.size)) (hP : va_P E.1 vwCl w H) (hD : va_D A w) (hS : va_S A s.heap H locs) (hA : ∀ q, s.heap.size ≤ q → A q) (isC isR : List Nat) (hC : isC.map (fun i => w[i]?) = wc.map some) (hR : isR.map (fun i => w[i]?) = wr.map some) (hn : va_nd isR = true) (hdis : ∀ i ∈ isR, i ∉ isC)
    (kk : ∀ (u : S) (H1 : Heap) (locs1 : List Loc), post u → va_P E.1 vwCl (wr ++ w1 u) H1 → va_D A (wr ++ w1 u) → va_S A s.heap H1 locs1 → W p l e R s m args below meth c H1 locs1 (cells + mc) (slots + ms) Q (F0 m (pc + 3) ls (.ref ra :: rest))) : W p l e R s m args below meth c H locs cells slots Q (F0 m pc ls st0) := by
  have hF := va_free (wc := wc) hD hS hA isC hC
  refine va_callr hr hS (fun q _ h => hF q h) hF (fun u a t H1 locs1 ht hvm hp hB hz hk hS1 => ?_)
  obtain ⟨rfl, hP1, hD1⟩ := hB
  rw [ht] at hP1
  obtain ⟨hP2, hD2⟩ := va_join hP hD isC isR hC hR hn hdis hk hF hP1 hD1
  exact kk u H1 locs1 hp hP2 hD2 hS1
variable {Ts ws ws' : List Cond} {bytes : ByteArray} {nL maxL index n : Nat} {own : String} {y : MethodName} {ret : Option FieldType} {rm : Room} {Qf : (Nat → Prop) → Array Value → State → Outcome → State → Prop} {b : Nat} {As st0 : List Value} {wc : va_W}
theorem ee_rV (hC : CQ l E y ws rm (.ref b :: As) wc Qf mc ms) (hx : p.tables.exec = Jvm.exec) (hb : c.code = cc) (hml : c.maxLocals = nL) (hown : s.vm.findClass own = some m.cls) (hts : ∀ w ∈ Ts, w.before args s = true) (n : Nat) (hT : GoodIn Ts (wsV own index y.cls y ws)) (hw : ws = Cond.code y bytes maxL ret :: ws') (hrc : rm.cells = mc) (hrs : rm.slots = ms)
    (hd : y.cls = y.cls ∧ y.cls ≠ "java/lang/invoke/MethodHandle" ∧ y.cls ≠ "java/lang/invoke/VarHandle" ∧ (parseMethodDescriptor y.desc).map (fun d => d.parameters.length) = some n) (hRm : rm.frames + 1 ≤ R.frames ∧ 8 + (maxL + 11) + rm.locals ≤ R.locals)
    (hV : ee_V E A s s.heap) (hP : va_P E.1 vwCl w H) (hD : va_D A w) (hS : va_S A s.heap H locs) (hA : ∀ q, s.heap.size ≤ q → A q) (isC : List Nat) (hCm : isC.map (fun i => w[i]?) = wc.map some) (hnd : va_nd isC = true) {lv : List (Nat × Value)} (hl : lv_has ls nL lv)
    (q0 : Nat) {ci : Nat} {fs : List Value} (hq : w[q0]? = some (b, .inr (ci, fs))) {T : u_T} {N : Nat} (hc : vwCl[ci]? = some (y.cls, T, N))
    (hAs : As.length = n) (hst : st0 = As.reverse ++ .ref b :: rest) (hW : (rest.map fun v => v.category).sum ≤ 8) (hdg : decode cc pc = .ok (.invokevirtual index, 3)) (hf : cells + mc ≤ R.cells ∧ slots + ms ≤ R.slots) :
    va_Run p l e R s m args below meth c H locs cells slots mc ms (F0 m pc ls st0) rest (Qf (va_A wc H.size) (Value.ref b :: As).toArray) (va_A wc H.size) := by
  subst hst
  have hpre := ee_pre (b := b) (As := .ref b :: As) hV hP hD hS hA isC hCm hnd
  exact va_runV (As := As) (rest := rest) ⟨hx, hb, hml, hown, hts⟩ (hC H.size) (cwV n hts hT hw hrc hrs hd hRm) ⟨hpre.1, va_recv hV.1 hP hc hq, hpre.2⟩ rfl hAs hl.1 rfl (lv_room hW) hdg hf
theorem ee_rS (hC : CQ l E y ws rm As wc Qf mc ms) (hx : p.tables.exec = Jvm.exec) (hb : c.code = cc) (hml : c.maxLocals = nL) (hown : s.vm.findClass own = some m.cls) (hts : ∀ w ∈ Ts, w.before args s = true) (n : Nat) (hT : GoodIn Ts (va_wsS own index y ws)) (hw : ws = Cond.code y bytes maxL ret :: ws') (hrc : rm.cells = mc) (hrs : rm.slots = ms)
    (hd : y.cls ≠ "java/lang/invoke/MethodHandle" ∧ y.cls ≠ "java/lang/invoke/VarHandle" ∧ (parseMethodDescriptor y.desc).map (fun d => d.parameters.length) = some n) (hRm : rm.frames + 1 ≤ R.frames ∧ 8 + (maxL + 11) + rm.locals ≤ R.locals)
    (hV : ee_V E A s s.heap) (hP : va_P E.1 vwCl w H) (hD : va_D A w) (hS : va_S A s.heap H locs) (hA : ∀ q, s.heap.size ≤ q → A q) (isC : List Nat) (hCm : isC.map (fun i => w[i]?) = wc.map some) (hnd : va_nd isC = true) {lv : List (Nat × Value)} (hl : lv_has ls nL lv)
    (hAs : As.length = n) (hst : st0 = As.reverse ++ rest) (hW : (rest.map fun v => v.category).sum ≤ 8) (hdg : decode cc pc = .ok (.invokestatic index, 3)) (hf : cells + mc ≤ R.cells ∧ slots + ms ≤ R.slots) :
    va_Run p l e R s m args below meth c H locs cells slots mc ms (F0 m pc ls st0) rest (Qf (va_A wc H.size) As.toArray) (va_A wc H.size) := by
  subst hst
  have hpre := ee_pre (b := 0) (As := As) hV hP hD hS hA isC hCm hnd
  exact va_runS (As := As) (rest := rest) ⟨hx, hb, hml, hown, hts⟩ (hC H.size) (va_cwS n hts hT hw hrc hrs hd hRm) hpre rfl hAs hl.1 rfl (lv_room hW) hdg hf
theorem ee_rI (hC : CQ l E y ws rm (.ref b :: As) wc Qf mc ms) (hx : p.tables.exec = Jvm.exec) (hb : c.code = cc) (hml : c.maxLocals = nL) (hown : s.vm.findClass own = some m.cls) (hts : ∀ w ∈ Ts, w.before args s = true) (n : Nat) (hT : GoodIn Ts ws) (hw : ws = Cond.code y bytes maxL none :: ws') (hrc : rm.cells = mc) (hrs : rm.slots = ms) (hini : (Cond.initialized y.cls).before args s = true) (hlk : (Cond.methodLink own index y).before args s = true) (hin : (Cond.instanceMethod y).before args s = true) (hy1 : y.name = "<init>")
    (hd : y.cls ≠ "java/lang/invoke/MethodHandle" ∧ y.cls ≠ "java/lang/invoke/VarHandle" ∧ (parseMethodDescriptor y.desc).map (fun d => d.parameters.length) = some n) (hRm : rm.frames + 1 ≤ R.frames ∧ 8 + (maxL + 11) + rm.locals ≤ R.locals)
    (hV : ee_V E A s s.heap) (hP : va_P E.1 vwCl w H) (hD : va_D A w) (hS : va_S A s.heap H locs) (hA : ∀ q, s.heap.size ≤ q → A q) (isC : List Nat) (hCm : isC.map (fun i => w[i]?) = wc.map some) (hnd : va_nd isC = true) {lv : List (Nat × Value)} (hl : lv_has ls nL lv)
    (hAs : As.length = n) (hst : st0 = As.reverse ++ .ref b :: rest) (hW : (rest.map fun v => v.category).sum ≤ 8) (hdg : decode cc pc = .ok (.invokespecial index, 3)) (hf : cells + mc ≤ R.cells ∧ slots + ms ≤ R.slots) :
    va_Run p l e R s m args below meth c H locs cells slots mc ms (F0 m pc ls st0) rest (Qf (va_A wc H.size) (Value.ref b :: As).toArray) (va_A wc H.size) := by
  subst hst
  have hpre := ee_pre (b := b) (As := .ref b :: As) hV hP hD hS hA isC hCm hnd
  exact va_runI (As := As) (rest := rest) ⟨hx, hb, hml, hown, hts⟩ (hC H.size) (cwI n hts hT hw hrc hrs hini hlk hin hy1 hd hRm) hpre rfl hAs hl.1 rfl (lv_room hW) hdg hf
theorem ee_rSN {host : String} (hC : CQ l E y ws rm As wc Qf mc ms) (hx : p.tables.exec = Jvm.exec) (hb : c.code = cc) (hml : c.maxLocals = nL) (hown : s.vm.findClass own = some m.cls) (hts : ∀ w ∈ Ts, w.before args s = true) (n : Nat) (hG : GoodIn Ts ws) (hw : ws = Cond.code y bytes maxL ret :: ws') (hrc : rm.cells = mc) (hrs : rm.slots = ms) (hlk : va_Nw (.methodLinkNest own index y host) s) (hini : (Cond.initialized y.cls).before args s = true) (hstc : (Cond.static y).before args s = true)
    (hd : y.cls ≠ "java/lang/invoke/MethodHandle" ∧ y.cls ≠ "java/lang/invoke/VarHandle" ∧ (parseMethodDescriptor y.desc).map (fun d => d.parameters.length) = some n) (hRm : rm.frames + 1 ≤ R.frames ∧ 8 + (maxL + 11) + rm.locals ≤ R.locals)
    (hV : ee_V E A s s.heap) (hP : va_P E.1 vwCl w H) (hD : va_D A w) (hS : va_S A s.heap H locs) (hA : ∀ q, s.heap.size ≤ q → A q) (isC : List Nat) (hCm : isC.map (fun i => w[i]?) = wc.map some) (hnd : va_nd isC = true) {lv : List (Nat × Value)} (hl : lv_has ls nL lv)
    (hAs : As.length = n) (hst : st0 = As.reverse ++ rest) (hW : (rest.map fun v => v.category).sum ≤ 8) (hdg : decode cc pc = .ok (.invokestatic index, 3)) (hf : cells + mc ≤ R.cells ∧ slots + ms ≤ R.slots) :
    va_Run p l e R s m args below meth c H locs cells slots mc ms (F0 m pc ls st0) rest (Qf (va_A wc H.size) As.toArray) (va_A wc H.size) := by
  subst hst
  have hpre := ee_pre (b := 0) (As := As) hV hP hD hS hA isC hCm hnd
  exact va_runSN (As := As) (rest := rest) ⟨hx, hb, hml, hown, hts⟩ (hC H.size) ⟨va_cnB n hts hG hw hrc hrs hlk hini hd hRm, hstc, trivial⟩ hpre rfl hAs hl.1 rfl (lv_room hW) hdg hf
theorem ee_rIN {host : String} (hC : CQ l E y ws rm (.ref b :: As) wc Qf mc ms) (hx : p.tables.exec = Jvm.exec) (hb : c.code = cc) (hml : c.maxLocals = nL) (hown : s.vm.findClass own = some m.cls) (hts : ∀ w ∈ Ts, w.before args s = true) (n : Nat) (hG : GoodIn Ts ws) (hw : ws = Cond.code y bytes maxL none :: ws') (hrc : rm.cells = mc) (hrs : rm.slots = ms) (hlk : va_Nw (.methodLinkNest own index y host) s) (hini : (Cond.initialized y.cls).before args s = true) (hin : (Cond.instanceMethod y).before args s = true) (hy1 : y.name = "<init>")
    (hd : y.cls ≠ "java/lang/invoke/MethodHandle" ∧ y.cls ≠ "java/lang/invoke/VarHandle" ∧ (parseMethodDescriptor y.desc).map (fun d => d.parameters.length) = some n) (hRm : rm.frames + 1 ≤ R.frames ∧ 8 + (maxL + 11) + rm.locals ≤ R.locals)
    (hV : ee_V E A s s.heap) (hP : va_P E.1 vwCl w H) (hD : va_D A w) (hS : va_S A s.heap H locs) (hA : ∀ q, s.heap.size ≤ q → A q) (isC : List Nat) (hCm : isC.map (fun i => w[i]?) = wc.map some) (hnd : va_nd isC = true) {lv : List (Nat × Value)} (hl : lv_has ls nL lv)
    (hAs : As.length = n) (hst : st0 = As.reverse ++ .ref b :: rest) (hW : (rest.map fun v => v.category).sum ≤ 8) (hdg : decode cc pc = .ok (.invokespecial index, 3)) (hf : cells + mc ≤ R.cells ∧ slots + ms ≤ R.slots) :
    va_Run p l e R s m args below meth c H locs cells slots mc ms (F0 m pc ls st0) rest (Qf (va_A wc H.size) (Value.ref b :: As).toArray) (va_A wc H.size) := by
  subst hst
  have hpre := ee_pre (b := b) (As := .ref b :: As) hV hP hD hS hA isC hCm hnd
  exact va_runIN (As := As) (rest := rest) ⟨hx, hb, hml, hown, hts⟩ (hC H.size) ⟨va_cnB n hts hG hw hrc hrs hlk hini hd hRm, hy1, hin⟩ hpre rfl hAs hl.1 rfl (lv_room hW) hdg hf
/-! arrays by natural places -/
theorem ee_ild (hx : p.tables.exec = Jvm.exec) (hb : c.code = cc) (hV : ee_V E A s s.heap) (hP : va_P E.1 vwCl w H) (q0 : Nat) {n : Nat} {f : Nat → Int32} (ha : w[q0]? = some (a, ee_i E n f)) {j : Nat} (hj : j < n) (hn : n < 2 ^ 31) (hdg : decode cc pc = .ok (.iaload, 1)) (kk : W p l e R s m args below meth c H locs cells slots Q (F0 m (pc + 1) ls (.int (f j) :: rest))) : W p l e R s m args below meth c H locs cells slots Q (F0 m pc ls (.int (nI j) :: .ref a :: rest)) := by
  refine va_iald hx hb hV.1 hP q0 0 ha rfl (vp_in_nI hj hn) hdg ?_
  rw [nI_clamp (by omega)]
  exact kk
theorem ee_bld (hx : p.tables.exec = Jvm.exec) (hb : c.code = cc) (hV : ee_V E A s s.heap) (hP : va_P E.1 vwCl w H) (q0 : Nat) {n : Nat} {f : Nat → Int32} (ha : w[q0]? = some (a, ee_b E n f)) {j : Nat} (hj : j < n) (hn : n < 2 ^ 31) (hdg : decode cc pc = .ok (.baload, 1)) (kk : W p l e R s m args below meth c H locs cells slots Q (F0 m (pc + 1) ls (.int (f j) :: rest))) : W p l e R s m args below meth c H locs cells slots Q (F0 m pc ls (.int (nI j) :: .ref a :: rest)) := by
  refine va_bald hx hb hV.1 hP q0 1 ha rfl (vp_in_nI hj hn) hdg ?_
  rw [nI_clamp (by omega)]
  exact kk
theorem ee_zld (hx : p.tables.exec = Jvm.exec) (hb : c.code = cc) (hV : ee_V E A s s.heap) (hP : va_P E.1 vwCl w H) (q0 : Nat) {n : Nat} {f : Nat → Int32} (ha : w[q0]? = some (a, ee_z E n f)) {j : Nat} (hj : j < n) (hn : n < 2 ^ 31) (hdg : decode cc pc = .ok (.baload, 1)) (kk : W p l e R s m args below meth c H locs cells slots Q (F0 m (pc + 1) ls (.int (f j) :: rest))) : W p l e R s m args below meth c H locs cells slots Q (F0 m pc ls (.int (nI j) :: .ref a :: rest)) := by
  refine va_zald hx hb hV.1 hP q0 2 ha rfl (vp_in_nI hj hn) hdg ?_
  rw [nI_clamp (by omega)]
  exact kk
theorem ee_ist (hx : p.tables.exec = Jvm.exec) (hb : c.code = cc) (hV : ee_V E A s s.heap) (hP : va_P E.1 vwCl w H) (hD : va_D A w) (hS : va_S A s.heap H locs) (q0 : Nat) {n : Nat} {f : Nat → Int32} (ha : w[q0]? = some (a, ee_i E n f)) {j : Nat} {x : Int32} (hj : j < n) (hn : n < 2 ^ 31) (hdg : decode cc pc = .ok (.iastore, 1)) (kk : ∀ (H1 : Heap) (locs1 : List Loc), va_P E.1 vwCl (w.set q0 (a, ee_i E n (upd f j x))) H1 → va_D A (w.set q0 (a, ee_i E n (upd f j x))) → va_S A s.heap H1 locs1 → W p l e R s m args below meth c H1 locs1 cells slots Q (F0 m (pc + 1) ls rest)) : W p l e R s m args below meth c H locs cells slots Q (F0 m pc ls (.int x :: .int (nI j) :: .ref a :: rest)) := by
  refine va_iast hx hb hV.1 hP hD hS q0 0 ha rfl (vp_in_nI hj hn) hdg ?_
  rw [nI_clamp (by omega)]
  exact kk
theorem ee_bst (hx : p.tables.exec = Jvm.exec) (hb : c.code = cc) (hV : ee_V E A s s.heap) (hP : va_P E.1 vwCl w H) (hD : va_D A w) (hS : va_S A s.heap H locs) (q0 : Nat) {n : Nat} {f : Nat → Int32} (ha : w[q0]? = some (a, ee_b E n f)) {j : Nat} {x : Int32} (hxn : vp_nar .byte x = x) (hj : j < n) (hn : n < 2 ^ 31) (hdg : decode cc pc = .ok (.bastore, 1)) (kk : ∀ (H1 : Heap) (locs1 : List Loc), va_P E.1 vwCl (w.set q0 (a, ee_b E n (upd f j x))) H1 → va_D A (w.set q0 (a, ee_b E n (upd f j x))) → va_S A s.heap H1 locs1 → W p l e R s m args below meth c H1 locs1 cells slots Q (F0 m (pc + 1) ls rest)) : W p l e R s m args below meth c H locs cells slots Q (F0 m pc ls (.int x :: .int (nI j) :: .ref a :: rest)) := by
  refine va_bast hx hb hV.1 hP hD hS q0 1 ha rfl (vp_in_nI hj hn) hdg ?_
  rw [nI_clamp (by omega), hxn]
  exact kk
theorem ee_zst (hx : p.tables.exec = Jvm.exec) (hb : c.code = cc) (hV : ee_V E A s s.heap) (hP : va_P E.1 vwCl w H) (hD : va_D A w) (hS : va_S A s.heap H locs) (q0 : Nat) {n : Nat} {f : Nat → Int32} (ha : w[q0]? = some (a, ee_z E n f)) {j : Nat} {x : Int32} (hxn : vp_nar .boolean x = x) (hj : j < n) (hn : n < 2 ^ 31) (hdg : decode cc pc = .ok (.bastore, 1)) (kk : ∀ (H1 : Heap) (locs1 : List Loc), va_P E.1 vwCl (w.set q0 (a, ee_z E n (upd f j x))) H1 → va_D A (w.set q0 (a, ee_z E n (upd f j x))) → va_S A s.heap H1 locs1 → W p l e R s m args below meth c H1 locs1 cells slots Q (F0 m (pc + 1) ls rest)) : W p l e R s m args below meth c H locs cells slots Q (F0 m pc ls (.int x :: .int (nI j) :: .ref a :: rest)) := by
  refine va_zast hx hb hV.1 hP hD hS q0 2 ha rfl (vp_in_nI hj hn) hdg ?_
  rw [nI_clamp (by omega), hxn]
  exact kk
/-! a new array -/
theorem ee_cI {cA cB : ClassId} {ty : FieldType} {n1 : String} {G : va_G} {tys : List (ClassId × FieldType)} (h : va_K G vwCl tys s) (hs : ∀ U c, va_RA U c ty → U.vm.findClass n1 = some c) (i j : Nat) (h1 : tys[i]? = some (cA, ty)) (h2 : tys[j]? = some (cB, ty)) : cA = cB := by
  have e1 := hs _ _ (h.2 i _ h1).2
  have e2 := hs _ _ (h.2 j _ h2).2
  exact Option.some.inj (e1.symm.trans e2)
theorem ee_newi (hx : p.tables.exec = Jvm.exec) (hb : c.code = cc) (harr : (Cond.arrayClass .int).before args s = true) (hV : ee_V E A s s.heap) (hP : va_P E.1 vwCl w H) (hD : va_D A w) (hS : va_S A s.heap H locs) (hA : ∀ q, s.heap.size ≤ q → A q) {N : Nat} (hN : N < 1000000) (hcells : cells + 1 ≤ R.cells) (hslots : slots + N ≤ R.slots) (hdg : decode cc pc = .ok (.newarray .int, 2))
    (kk : ∀ (q : Nat) (H1 : Heap), va_P E.1 vwCl (w ++ [(q, ee_i E N (fun _ => nI 0))]) H1 → va_D A (w ++ [(q, ee_i E N (fun _ => nI 0))]) → va_S A s.heap H1 locs → W p l e R s m args below meth c H1 locs (cells + 1) (slots + N) Q (F0 m (pc + 2) ls (.ref q :: rest))) : W p l e R s m args below meth c H locs cells slots Q (F0 m pc ls (.int (nI N) :: rest)) := by
  refine va_newa (atype := .int) (ty := .int) (N' := N) (a0 := (N, .inl (fun _ => nI 0))) hx hb harr rfl hV.1 hP hD hS hA (fun _ => rfl) (nI_pos (by omega)) (nI_clamp (by omega)) ?_ hcells hslots hdg (fun q cA H1 hK hP hD hS => ?_)
  · show N * 4 ≤ 536870912
    omega
  · have e : cA = E.2.1.1 := ee_cI hK (ty := .int) (n1 := "[" ++ FieldType.int.toString) (fun _ _ h => h) 3 0 rfl rfl
    subst e
    exact kk q H1 hP hD hS
theorem ee_newb (hx : p.tables.exec = Jvm.exec) (hb : c.code = cc) (harr : (Cond.arrayClass .byte).before args s = true) (hV : ee_V E A s s.heap) (hP : va_P E.1 vwCl w H) (hD : va_D A w) (hS : va_S A s.heap H locs) (hA : ∀ q, s.heap.size ≤ q → A q) {N : Nat} (hN : N < 1000000) (hcells : cells + 1 ≤ R.cells) (hslots : slots + N ≤ R.slots) (hdg : decode cc pc = .ok (.newarray .byte, 2))
    (kk : ∀ (q : Nat) (H1 : Heap), va_P E.1 vwCl (w ++ [(q, ee_b E N (fun _ => nI 0))]) H1 → va_D A (w ++ [(q, ee_b E N (fun _ => nI 0))]) → va_S A s.heap H1 locs → W p l e R s m args below meth c H1 locs (cells + 1) (slots + N) Q (F0 m (pc + 2) ls (.ref q :: rest))) : W p l e R s m args below meth c H locs cells slots Q (F0 m pc ls (.int (nI N) :: rest)) := by
  refine va_newa (atype := .byte) (ty := .byte) (N' := N) (a0 := (N, .inl (fun _ => nI 0))) hx hb harr rfl hV.1 hP hD hS hA (fun _ => rfl) (nI_pos (by omega)) (nI_clamp (by omega)) ?_ hcells hslots hdg (fun q cA H1 hK hP hD hS => ?_)
  · show N * 1 ≤ 536870912
    omega
  · have e : cA = E.2.1.2.1 := ee_cI hK (ty := .byte) (n1 := "[" ++ FieldType.byte.toString) (fun _ _ h => h) 3 1 rfl rfl
    subst e
    exact kk q H1 hP hD hS
theorem ee_newz (hx : p.tables.exec = Jvm.exec) (hb : c.code = cc) (harr : (Cond.arrayClass .boolean).before args s = true) (hV : ee_V E A s s.heap) (hP : va_P E.1 vwCl w H) (hD : va_D A w) (hS : va_S A s.heap H locs) (hA : ∀ q, s.heap.size ≤ q → A q) {N : Nat} (hN : N < 1000000) (hcells : cells + 1 ≤ R.cells) (hslots : slots + N ≤ R.slots) (hdg : decode cc pc = .ok (.newarray .boolean, 2))
    (kk : ∀ (q : Nat) (H1 : Heap), va_P E.1 vwCl (w ++ [(q, ee_z E N (fun _ => nI 0))]) H1 → va_D A (w ++ [(q, ee_z E N (fun _ => nI 0))]) → va_S A s.heap H1 locs → W p l e R s m args below meth c H1 locs (cells + 1) (slots + N) Q (F0 m (pc + 2) ls (.ref q :: rest))) : W p l e R s m args below meth c H locs cells slots Q (F0 m pc ls (.int (nI N) :: rest)) := by
  refine va_newa (atype := .boolean) (ty := .boolean) (N' := N) (a0 := (N, .inl (fun _ => nI 0))) hx hb harr rfl hV.1 hP hD hS hA (fun _ => rfl) (nI_pos (by omega)) (nI_clamp (by omega)) ?_ hcells hslots hdg (fun q cA H1 hK hP hD hS => ?_)
  · show N * 1 ≤ 536870912
    omega
  · have e : cA = E.2.1.2.2 := ee_cI hK (ty := .boolean) (n1 := "[" ++ FieldType.boolean.toString) (fun _ _ h => h) 3 2 rfl rfl
    subst e
    exact kk q H1 hP hD hS
/-! the value on top, said otherwise -/
theorem ee_to {x z : Int32} (h : x = z) (k : W p l e R s m args below meth c H locs cells slots Q (F0 m pc ls (.int z :: rest))) : W p l e R s m args below meth c H locs cells slots Q (F0 m pc ls (.int x :: rest)) := h ▸ k
theorem ee_tof {x z : UInt32} (h : x = z) (k : W p l e R s m args below meth c H locs cells slots Q (F0 m pc ls (.float z :: rest))) : W p l e R s m args below meth c H locs cells slots Q (F0 m pc ls (.float x :: rest)) := h ▸ k
theorem ee_tol {x z : Int64} (h : x = z) (k : W p l e R s m args below meth c H locs cells slots Q (F0 m pc ls (.long z :: rest))) : W p l e R s m args below meth c H locs cells slots Q (F0 m pc ls (.long x :: rest)) := h ▸ k
/-! arithmetic and branches over naturals -/
theorem ee_iadd (hx : p.tables.exec = Jvm.exec) (hb : c.code = cc) {i j : Nat} (hdg : decode cc pc = .ok (.iadd, 1)) (k : W p l e R s m args below meth c H locs cells slots Q (F0 m (pc + 1) ls (.int (nI (i + j)) :: rest))) : W p l e R s m args below meth c H locs cells slots Q (F0 m pc ls (.int (nI j) :: .int (nI i) :: rest)) := lv_iadd hx hb hdg (by rw [nI_add]; exact k)
theorem ee_isub (hx : p.tables.exec = Jvm.exec) (hb : c.code = cc) {i j : Nat} (h : j ≤ i) (hdg : decode cc pc = .ok (.isub, 1)) (k : W p l e R s m args below meth c H locs cells slots Q (F0 m (pc + 1) ls (.int (nI (i - j)) :: rest))) : W p l e R s m args below meth c H locs cells slots Q (F0 m pc ls (.int (nI j) :: .int (nI i) :: rest)) := lv_isub hx hb hdg (by rw [pk_sub h]; exact k)
theorem ee_imul (hx : p.tables.exec = Jvm.exec) (hb : c.code = cc) {i j : Nat} (hdg : decode cc pc = .ok (.imul, 1)) (k : W p l e R s m args below meth c H locs cells slots Q (F0 m (pc + 1) ls (.int (nI (i * j)) :: rest))) : W p l e R s m args below meth c H locs cells slots Q (F0 m pc ls (.int (nI j) :: .int (nI i) :: rest)) := lv_imul hx hb hdg (by rw [pk_mul]; exact k)
theorem ee_inc (a : Nat) : nI a + Int32.ofInt 1 = nI (a + 1) := nI_1 a
theorem ee_incN (a k : Nat) : nI a + Int32.ofInt (k : Int) = nI (a + k) := by
  rw [← nI_add]
  congr 1
theorem ee_dec {a : Nat} (h : 0 < a) : nI a + Int32.ofInt (-1) = nI (a - 1) := sb_m1 h
theorem ee_lt (hx : p.tables.exec = Jvm.exec) (hb : c.code = cc) {i j : Nat} {off : Int} {tgt : Nat} (hi : i < 2 ^ 31) (hj : j < 2 ^ 31) (hdg : decode cc pc = .ok (.if_icmp .lt off, 3)) (ht : (pc : Int) + off = (tgt : Int)) (kt : i < j → W p l e R s m args below meth c H locs cells slots Q (F0 m tgt ls rest)) (kf : ¬ i < j → W p l e R s m args below meth c H locs cells slots Q (F0 m (pc + 3) ls rest)) : W p l e R s m args below meth c H locs cells slots Q (F0 m pc ls (.int (nI j) :: .int (nI i) :: rest)) := lv_icmp_lt hx hb hdg ht (fun h => kt ((nI_ltI hi hj).mp h)) (fun h => kf (fun q => h ((nI_ltI hi hj).mpr q)))
theorem ee_ge (hx : p.tables.exec = Jvm.exec) (hb : c.code = cc) {i j : Nat} {off : Int} {tgt : Nat} (hi : i < 2 ^ 31) (hj : j < 2 ^ 31) (hdg : decode cc pc = .ok (.if_icmp .ge off, 3)) (ht : (pc : Int) + off = (tgt : Int)) (kt : j ≤ i → W p l e R s m args below meth c H locs cells slots Q (F0 m tgt ls rest)) (kf : ¬ j ≤ i → W p l e R s m args below meth c H locs cells slots Q (F0 m (pc + 3) ls rest)) : W p l e R s m args below meth c H locs cells slots Q (F0 m pc ls (.int (nI j) :: .int (nI i) :: rest)) := lv_icmp_ge hx hb hdg ht (fun h => kt ((nI_leI hj hi).mp h)) (fun h => kf (fun q => h ((nI_leI hj hi).mpr q)))
theorem ee_gt (hx : p.tables.exec = Jvm.exec) (hb : c.code = cc) {i j : Nat} {off : Int} {tgt : Nat} (hi : i < 2 ^ 31) (hj : j < 2 ^ 31) (hdg : decode cc pc = .ok (.if_icmp .gt off, 3)) (ht : (pc : Int) + off = (tgt : Int)) (kt : j < i → W p l e R s m args below meth c H locs cells slots Q (F0 m tgt ls rest)) (kf : ¬ j < i → W p l e R s m args below meth c H locs cells slots Q (F0 m (pc + 3) ls rest)) : W p l e R s m args below meth c H locs cells slots Q (F0 m pc ls (.int (nI j) :: .int (nI i) :: rest)) := lv_icmp_gt hx hb hdg ht (fun h => kt ((nI_ltI hj hi).mp h)) (fun h => kf (fun q => h ((nI_ltI hj hi).mpr q)))
theorem ee_le (hx : p.tables.exec = Jvm.exec) (hb : c.code = cc) {i j : Nat} {off : Int} {tgt : Nat} (hi : i < 2 ^ 31) (hj : j < 2 ^ 31) (hdg : decode cc pc = .ok (.if_icmp .le off, 3)) (ht : (pc : Int) + off = (tgt : Int)) (kt : i ≤ j → W p l e R s m args below meth c H locs cells slots Q (F0 m tgt ls rest)) (kf : ¬ i ≤ j → W p l e R s m args below meth c H locs cells slots Q (F0 m (pc + 3) ls rest)) : W p l e R s m args below meth c H locs cells slots Q (F0 m pc ls (.int (nI j) :: .int (nI i) :: rest)) := lv_icmp_le hx hb hdg ht (fun h => kt ((nI_leI hi hj).mp h)) (fun h => kf (fun q => h ((nI_leI hi hj).mpr q)))
theorem ee_eq (hx : p.tables.exec = Jvm.exec) (hb : c.code = cc) {i j : Nat} {off : Int} {tgt : Nat} (hi : i < 2 ^ 31) (hj : j < 2 ^ 31) (hdg : decode cc pc = .ok (.if_icmp .eq off, 3)) (ht : (pc : Int) + off = (tgt : Int)) (kt : i = j → W p l e R s m args below meth c H locs cells slots Q (F0 m tgt ls rest)) (kf : ¬ i = j → W p l e R s m args below meth c H locs cells slots Q (F0 m (pc + 3) ls rest)) : W p l e R s m args below meth c H locs cells slots Q (F0 m pc ls (.int (nI j) :: .int (nI i) :: rest)) := lv_icmp_eq hx hb hdg ht (fun h => kt ((nI_eq hi hj).mp h)) (fun h => kf (fun q => h ((nI_eq hi hj).mpr q)))
theorem ee_ne (hx : p.tables.exec = Jvm.exec) (hb : c.code = cc) {i j : Nat} {off : Int} {tgt : Nat} (hi : i < 2 ^ 31) (hj : j < 2 ^ 31) (hdg : decode cc pc = .ok (.if_icmp .ne off, 3)) (ht : (pc : Int) + off = (tgt : Int)) (kt : ¬ i = j → W p l e R s m args below meth c H locs cells slots Q (F0 m tgt ls rest)) (kf : i = j → W p l e R s m args below meth c H locs cells slots Q (F0 m (pc + 3) ls rest)) : W p l e R s m args below meth c H locs cells slots Q (F0 m pc ls (.int (nI j) :: .int (nI i) :: rest)) := lv_icmp_ne hx hb hdg ht (fun h => kt (fun q => h ((nI_eq hi hj).mpr q))) (fun h => kf ((nI_eq hi hj).mp h))
theorem ee_eq0 (hx : p.tables.exec = Jvm.exec) (hb : c.code = cc) {i : Nat} {off : Int} {tgt : Nat} (hi : i < 2 ^ 31) (hdg : decode cc pc = .ok (.ifCond .eq off, 3)) (ht : (pc : Int) + off = (tgt : Int)) (kt : i = 0 → W p l e R s m args below meth c H locs cells slots Q (F0 m tgt ls rest)) (kf : ¬ i = 0 → W p l e R s m args below meth c H locs cells slots Q (F0 m (pc + 3) ls rest)) : W p l e R s m args below meth c H locs cells slots Q (F0 m pc ls (.int (nI i) :: rest)) := lv_if_eq hx hb hdg ht (fun h => kt ((nI_eq hi (by omega)).mp (h.trans nI_0.symm))) (fun h => kf (fun q => h (by rw [q]; exact nI_0)))
theorem ee_ne0 (hx : p.tables.exec = Jvm.exec) (hb : c.code = cc) {i : Nat} {off : Int} {tgt : Nat} (hi : i < 2 ^ 31) (hdg : decode cc pc = .ok (.ifCond .ne off, 3)) (ht : (pc : Int) + off = (tgt : Int)) (kt : ¬ i = 0 → W p l e R s m args below meth c H locs cells slots Q (F0 m tgt ls rest)) (kf : i = 0 → W p l e R s m args below meth c H locs cells slots Q (F0 m (pc + 3) ls rest)) : W p l e R s m args below meth c H locs cells slots Q (F0 m pc ls (.int (nI i) :: rest)) := lv_if_ne hx hb hdg ht (fun h => kt (fun q => h (by rw [q]; exact nI_0))) (fun h => kf ((nI_eq hi (by omega)).mp (h.trans nI_0.symm)))
theorem ee_gt0 (hx : p.tables.exec = Jvm.exec) (hb : c.code = cc) {i : Nat} {off : Int} {tgt : Nat} (hi : i < 2 ^ 31) (hdg : decode cc pc = .ok (.ifCond .gt off, 3)) (ht : (pc : Int) + off = (tgt : Int)) (kt : 0 < i → W p l e R s m args below meth c H locs cells slots Q (F0 m tgt ls rest)) (kf : ¬ 0 < i → W p l e R s m args below meth c H locs cells slots Q (F0 m (pc + 3) ls rest)) : W p l e R s m args below meth c H locs cells slots Q (F0 m pc ls (.int (nI i) :: rest)) := lv_if_gt hx hb hdg ht (fun h => kt ((nI_ltI (by omega) hi).mp (nI_0 ▸ h))) (fun h => kf (fun q => h (nI_0 ▸ (nI_ltI (by omega) hi).mpr q)))
theorem ee_le0 (hx : p.tables.exec = Jvm.exec) (hb : c.code = cc) {i : Nat} {off : Int} {tgt : Nat} (hi : i < 2 ^ 31) (hdg : decode cc pc = .ok (.ifCond .le off, 3)) (ht : (pc : Int) + off = (tgt : Int)) (kt : i = 0 → W p l e R s m args below meth c H locs cells slots Q (F0 m tgt ls rest)) (kf : ¬ i = 0 → W p l e R s m args below meth c H locs cells slots Q (F0 m (pc + 3) ls rest)) : W p l e R s m args below meth c H locs cells slots Q (F0 m pc ls (.int (nI i) :: rest)) := lv_if_le hx hb hdg ht (fun h => kt (by
  have h2 := (nI_leI hi (by omega)).mp (show nI i ≤ nI 0 from nI_0 ▸ h)
  omega)) (fun h => kf (fun q => h (by rw [q, nI_0]; decide)))
theorem ee_lt0 (hx : p.tables.exec = Jvm.exec) (hb : c.code = cc) {i : Nat} {off : Int} {tgt : Nat} (hi : i < 2 ^ 31) (hdg : decode cc pc = .ok (.ifCond .lt off, 3)) (ht : (pc : Int) + off = (tgt : Int)) (kf : W p l e R s m args below meth c H locs cells slots Q (F0 m (pc + 3) ls rest)) : W p l e R s m args below meth c H locs cells slots Q (F0 m pc ls (.int (nI i) :: rest)) := lv_if_lt hx hb hdg ht (fun h => absurd h (nI_pos hi)) (fun _ => kf)
theorem ee_ge0 (hx : p.tables.exec = Jvm.exec) (hb : c.code = cc) {i : Nat} {off : Int} {tgt : Nat} (hi : i < 2 ^ 31) (hdg : decode cc pc = .ok (.ifCond .ge off, 3)) (ht : (pc : Int) + off = (tgt : Int)) (kt : W p l e R s m args below meth c H locs cells slots Q (F0 m tgt ls rest)) : W p l e R s m args below meth c H locs cells slots Q (F0 m pc ls (.int (nI i) :: rest)) := lv_if_ge hx hb hdg ht (fun _ => kt) (fun h => absurd (nI_pos' hi) h)
theorem ee_z_eq (hx : p.tables.exec = Jvm.exec) (hb : c.code = cc) {x : Int32} {off : Int} {tgt : Nat} (hdg : decode cc pc = .ok (.ifCond .eq off, 3)) (ht : (pc : Int) + off = (tgt : Int)) (kt : x = nI 0 → W p l e R s m args below meth c H locs cells slots Q (F0 m tgt ls rest)) (kf : ¬ x = nI 0 → W p l e R s m args below meth c H locs cells slots Q (F0 m (pc + 3) ls rest)) : W p l e R s m args below meth c H locs cells slots Q (F0 m pc ls (.int x :: rest)) := lv_if_eq hx hb hdg ht (fun h => kt (h.trans nI_0.symm)) (fun h => kf (fun q => h (q.trans nI_0)))
theorem ee_z_ne (hx : p.tables.exec = Jvm.exec) (hb : c.code = cc) {x : Int32} {off : Int} {tgt : Nat} (hdg : decode cc pc = .ok (.ifCond .ne off, 3)) (ht : (pc : Int) + off = (tgt : Int)) (kt : ¬ x = nI 0 → W p l e R s m args below meth c H locs cells slots Q (F0 m tgt ls rest)) (kf : x = nI 0 → W p l e R s m args below meth c H locs cells slots Q (F0 m (pc + 3) ls rest)) : W p l e R s m args below meth c H locs cells slots Q (F0 m pc ls (.int x :: rest)) := lv_if_ne hx hb hdg ht (fun h => kt (fun q => h (q.trans nI_0))) (fun h => kf (h.trans nI_0.symm))
end EW
end
section
/-! pure facts for 03.cycle.lean.txt -/
def cyL (k : Int32) (n : Nat) : Nat := if k = nI 0 then n + 1 else n
def cyS (k : Int32) (n : Nat) : Nat := if k = nI 3 then n + 1 else n
def cyN (t lb rs sd tk ed : Int32) (w : Nat) : Int32 := match w with
  | 0 => t | 1 => lb | 2 => rs | 3 => sd | 4 => tk | _ => ed
end
section
/-! pure facts for 03a.items.lean.txt -/
theorem up_s {g F : Nat → Int32} {i : Nat} {x : Int32} (h : ∀ j, j < i → g j = F j) (hx : x = F i) : ∀ j, j < i + 1 → upd g i x j = F j := by
  intro j hj
  by_cases e : j = i
  · subst e; rw [pk_us]; exact hx
  · rw [pk_un e]; exact h j (by omega)
theorem up_r {g f : Nat → Int32} {i : Nat} {x : Int32} (h : ∀ j, i ≤ j → g j = f j) : ∀ j, i + 1 ≤ j → upd g i x j = f j := fun j hj => by
  rw [pk_un (by omega)]; exact h j (by omega)
theorem lt_no {P : Nat → Prop} : ∀ j, j < 0 → P j := fun _ h => absurd h (Nat.not_lt_zero _)
/-- the sum of n values from place a on -/
def sumF (f : Nat → Int32) (a : Nat) : Nat → Int32
  | 0 => nI 0
  | n + 1 => sumF f a n + f (a + n)
/-- how many of n values from place a on are 0 -/
def cnt0 (f : Nat → Int32) (a : Nat) : Nat → Nat
  | 0 => 0
  | n + 1 => if f (a + n) = nI 0 then cnt0 f a n + 1 else cnt0 f a n
theorem cnt0_le (f : Nat → Int32) (a : Nat) : ∀ n, cnt0 f a n ≤ n
  | 0 => Nat.le_refl _
  | n + 1 => by
    have := cnt0_le f a n
    unfold cnt0
    split <;> omega
def appF (n : Nat) (f g : Nat → Int32) : Nat → Int32 := fun j => if j < n then f j else g (j - n)
theorem appF_lo {n : Nat} {f g : Nat → Int32} {j : Nat} (h : j < n) : appF n f g j = f j := if_pos h
theorem appF_hi {n : Nat} {f g : Nat → Int32} {j : Nat} : appF n f g (n + j) = g j := by
  unfold appF
  rw [if_neg (by omega), Nat.add_sub_cancel_left]
end
section
/-! pure facts for 03b.ring.lean.txt -/
theorem nI_m1 {k : Nat} (h : k < 2 ^ 31) : nI k ≠ (-1 : Int32) := by
  intro q
  have := congrArg Int32.toInt q
  rw [nI_toInt h] at this
  simp at this
/-- how many of the first n places aren't empty -/
def cntR (f : Nat → Int32) : Nat → Nat
  | 0 => 0
  | n + 1 => if f n = (-1) then cntR f n else cntR f n + 1
theorem cntR_le (f : Nat → Int32) : ∀ n, cntR f n ≤ n
  | 0 => Nat.le_refl _
  | n + 1 => by
    have := cntR_le f n
    unfold cntR
    split <;> omega
/-- the ring of st stations, moved on, x at station 0 -/
def rgS (rg : Nat → Int32) (st : Nat) (x : Int32) : Nat → Int32 := fun j => if j < st then (if j = 0 then x else rg (j - 1)) else rg j
theorem rgS_0 (rg : Nat → Int32) (x : Int32) : rg = rgS rg 0 x := by
  funext j
  simp [rgS]
theorem rgS_s (rg : Nat → Int32) (i : Nat) (x y : Int32) (hy : y = if i = 0 then x else rg (i - 1)) : upd (rgS rg i x) i y = rgS rg (i + 1) x := by
  funext j
  by_cases h : j = i
  · subst h
    rw [pk_us, hy]
    simp [rgS]
  · rw [pk_un h]
    unfold rgS
    by_cases h2 : j < i
    · have h3 : j < i + 1 := by omega
      simp only [h2, h3, if_true]
    · have h3 : ¬ j < i + 1 := by omega
      simp only [h2, h3, if_false]
theorem rgS_at (rg : Nat → Int32) (i : Nat) (x : Int32) : rgS rg i x i = rg i := by
  unfold rgS
  rw [if_neg (by omega)]
def sv0 : Nat → Int32 := upd (upd (upd (upd (upd (upd (upd (upd (fun _ => nI 0) 0 (nI 3)) 1 (nI 5)) 2 (nI 150)) 3 (nI 400)) 4 (nI 100)) 5 (nI 10)) 6 (nI 2)) 7 (nI 3)
def inR (v a b : Int32) : Prop := a ≤ v ∧ v ≤ b
theorem inR_nat {v : Int32} {a b : Nat} (hb : b < 2 ^ 31) (ha : a ≤ b) (h : inR v (nI a) (nI b)) : ∃ w, a ≤ w ∧ w ≤ b ∧ v = nI w := by
  have h1 : ¬ v < 0 := by
    intro q
    have h2 := h.1
    rw [Int32.le_iff_toInt_le, nI_toInt (by omega)] at h2
    rw [Int32.lt_iff_toInt_lt, Int32.toInt_zero] at q
    omega
  obtain ⟨w, hw, rfl⟩ := nI_of2 (M := nI b) (n := b) (nI_toInt hb) h1 h.2
  exact ⟨w, (nI_leI (by omega) (by omega)).mp h.1, hw, rfl⟩
theorem inR_iff {w a b : Nat} (hb : b < 2 ^ 31) (ha : a ≤ b) (hw : w < 2 ^ 31) : inR (nI w) (nI a) (nI b) ↔ a ≤ w ∧ w ≤ b := by
  unfold inR
  rw [nI_leI (by omega) hw, nI_leI hw hb]
/-- a setting's number and value that stand -/
def okS (what x : Int32) : Prop := ∃ w, w ≤ 7 ∧ what = nI w ∧ inR x (nI (st_lo w)) (nI (st_hi w))
theorem okS_iff {w : Nat} {x : Int32} (hw : w ≤ 7) : okS (nI w) x ↔ inR x (nI (st_lo w)) (nI (st_hi w)) := by
  constructor
  · rintro ⟨u, h1, h2, h3⟩
    have := (nI_eq (a := w) (b := u) (by omega) (by omega)).mp h2
    subst this
    exact h3
  · exact fun h => ⟨w, hw, rfl, h⟩
end
section
/-! SPEC: what a cycle does, over mathematical values; both sides are walked to it -/
/-- the natural number of an int that is one -/
abbrev nv (x : Int32) : Nat := x.toNatClampNeg
theorem nv_nI {k : Nat} (h : k < 2 ^ 31) : nv (nI k) = k := nI_clamp h
/-- an item's length -/
def lnOK (x : Int32) : Prop := ∃ k, 1 ≤ k ∧ k ≤ 99 ∧ x = nI k
theorem lnOK_nv {x : Int32} (h : lnOK x) : x = nI (nv x) ∧ 1 ≤ nv x ∧ nv x ≤ 99 := by
  obtain ⟨k, h1, h2, rfl⟩ := h
  rw [nv_nI (by omega)]
  exact ⟨rfl, h1, h2⟩
/-- the speed that the web takes on -/
def follow (s c g v : Int32) : Int32 :=
  let low := if s - c < 0 then 0 else s - c
  let high := if g < s + c then g else s + c
  if high < low then g else if v < low then low else if high < v then high else v
/-- the comparisons with the pitch, as fcmpl tells them -/
def fqM (pt : UInt32) (w : Int32) (tr : Nat) : Int32 := Op.cmpValue (FP.fcmp (FP.i2f (nI tr)) (FP.fsub pt (FP.i2f w))) CmpOp.l
def fqL (pt : UInt32) (w : Int32) (tr : Nat) : Int32 := Op.cmpValue (FP.fcmp (FP.i2f (nI tr)) (FP.fadd pt (FP.i2f w))) CmpOp.l
/-- how the cycle ends behind an item of kind k and length x, the travel being tr: 0 not yet, 1 marked, 2 lost -/
def fdE (sv : Nat → Int32) (pt : UInt32) (k x : Int32) (tr : Nat) : Nat :=
  if (k = nI 1 ∧ ¬ x < sv 0) ∧ ¬ fqM pt (sv 1) tr < 0 then 1 else if nI tr ≤ sv 2 then 0 else 2
/-- a feed from item tk on, m items being left: taken, travel, labels, splices, end -/
def fdS (κ lm : Nat → Int32) (sv : Nat → Int32) (pt : UInt32) : Nat → Nat → Nat → Nat → Nat → Nat × Nat × Nat × Nat × Nat
  | 0, tk, tr, lb, sc => (tk, tr, lb, sc, 3)
  | m + 1, tk, tr, lb, sc =>
    if fdE sv pt (κ tk) (lm tk) (tr + nv (lm tk)) = 0 then fdS κ lm sv pt m (tk + 1) (tr + nv (lm tk)) (cyL (κ tk) lb) (cyS (κ tk) sc)
    else (tk + 1, tr + nv (lm tk), cyL (κ tk) lb, cyS (κ tk) sc, fdE sv pt (κ tk) (lm tk) (tr + nv (lm tk)))
theorem fdE_le (sv : Nat → Int32) (pt : UInt32) (k x : Int32) (tr : Nat) : fdE sv pt k x tr ≤ 2 := by
  unfold fdE
  split
  · decide
  · split <;> decide
/-- it speaks of the items that are left alone -/
theorem fdS_congr {κ κ' lm lm' sv sv' : Nat → Int32} {pt : UInt32} (hs : ∀ j, j < 8 → sv' j = sv j) : ∀ (m tk tr lb sc : Nat), (∀ j, tk ≤ j → j < tk + m → κ' j = κ j ∧ lm' j = lm j) → fdS κ' lm' sv' pt m tk tr lb sc = fdS κ lm sv pt m tk tr lb sc
  | 0, _, _, _, _, _ => rfl
  | m + 1, tk, tr, lb, sc, h => by
    obtain ⟨h1, h2⟩ := h tk (Nat.le_refl _) (by omega)
    have ih := fdS_congr (pt := pt) hs m (tk + 1) (tr + nv (lm tk)) (cyL (κ tk) lb) (cyS (κ tk) sc) (fun j h1 h2 => h j (by omega) (by omega))
    have e : ∀ k x tr, fdE sv' pt k x tr = fdE sv pt k x tr := fun k x tr => by
      unfold fdE
      rw [hs 0 (by decide), hs 1 (by decide), hs 2 (by decide)]
    unfold fdS
    rw [h1, h2, e, ih]
/-- what a feed's numbers are: taken no more than there are, travel bounded, counts -/
theorem fdS_inv {κ lm sv : Nat → Int32} {pt : UInt32} {G : Nat} (hg : sv 2 = nI G) (hG : G ≤ 400) : ∀ (m tk tr lb sc : Nat), (∀ j, tk ≤ j → j < tk + m → lnOK (lm j)) → tr ≤ 400 → tk ≤ tr → lb ≤ tk → sc ≤ tk →
    ∃ tk' tr' lb' sc' ed, fdS κ lm sv pt m tk tr lb sc = (tk', tr', lb', sc', ed) ∧ tk ≤ tk' ∧ tk' ≤ tk + m ∧ tk' ≤ tr' ∧ tr' ≤ 499 ∧ lb' ≤ tk' ∧ sc' ≤ tk' ∧ 1 ≤ ed ∧ ed ≤ 3 ∧ (ed = 1 → 1 ≤ lb' → 2 ≤ tr')
  | 0, tk, tr, lb, sc, _, h1, h2, h3, h4 => ⟨tk, tr, lb, sc, 3, rfl, by omega, by omega, h2, by omega, h3, h4, by omega, by omega, fun q => by omega⟩
  | m + 1, tk, tr, lb, sc, hl, h1, h2, h3, h4 => by
    obtain ⟨-, l1, l2⟩ := lnOK_nv (hl tk (Nat.le_refl _) (by omega))
    have c1 : cyL (κ tk) lb ≤ tk + 1 := by unfold cyL; split <;> omega
    have c2 : cyS (κ tk) sc ≤ tk + 1 := by unfold cyS; split <;> omega
    have he := fdE_le sv pt (κ tk) (lm tk) (tr + nv (lm tk))
    unfold fdS
    by_cases q : fdE sv pt (κ tk) (lm tk) (tr + nv (lm tk)) = 0
    · rw [if_pos q]
      have ht : tr + nv (lm tk) ≤ 400 := by
        unfold fdE at q
        split at q
        · omega
        · split at q
          · rename_i hh
            rw [hg] at hh
            have := (nI_leI (by omega) (by omega)).mp hh
            omega
          · omega
      obtain ⟨tk', tr', lb', sc', ed, e1, e2, e3, e4, e5, e6, e7, e8, e9, e10⟩ := fdS_inv (κ := κ) (pt := pt) hg hG m (tk + 1) (tr + nv (lm tk)) (cyL (κ tk) lb) (cyS (κ tk) sc) (fun j q1 q2 => hl j (by omega) (by omega)) ht (by omega) c1 c2
      exact ⟨tk', tr', lb', sc', ed, e1, by omega, by omega, e4, e5, e6, e7, e8, e9, e10⟩
    · rw [if_neg q]
      refine ⟨_, _, _, _, _, rfl, by omega, by omega, by omega, by omega, c1, c2, by omega, by omega, fun e1 e2 => ?_⟩
      have hk : κ tk = nI 1 := by
        unfold fdE at e1
        split at e1
        · rename_i hh
          exact hh.1.1
        · split at e1 <;> omega
      have : cyL (κ tk) lb = lb := by
        unfold cyL
        rw [hk, if_neg (by decide)]
      omega
/-- why the product is bad: 0 it's good -/
def rsS (ed sc lb : Nat) (late : Prop) [Decidable late] (sp v tol : Int32) : Nat :=
  if ed = 3 then 1 else if ed = 2 then 2 else if 0 < sc then 3 else if lb = 0 then 4 else if 1 < lb then 5 else if late then 6 else if tol < sp - v ∨ tol < -(sp - v) then 7 else 0
theorem rsS_le (ed sc lb : Nat) (late : Prop) [Decidable late] (sp v tol : Int32) : rsS ed sc lb late sp v tol ≤ 7 := by
  unfold rsS
  repeat' split
  all_goals omega
def isFl (r : Nat) : Bool := r == 1 || r == 2 || r == 4 || r == 6
/-- the pitch that is learned -/
def lrP (pt : UInt32) (tr : Nat) (g : Int32) : UInt32 := FP.fadd pt (FP.fmul (FP.fsub (FP.i2f (nI tr)) pt) (FP.fdiv (FP.i2f g) 1090519040))
end
section
/-! FLOATS: what the pitch's arithmetic keeps. A float's magnitude in units of 2^-400: mg c q -/
abbrev fB : FP.Core.Fmt := FP.Core.b32
def mg (c : Nat) (q : Int) : Nat := c * 2 ^ (q + 400).toNat
def gd (c : Nat) (q : Int) : Prop := c < 16777216 ∧ -149 ≤ q ∧ q ≤ 104 ∧ (8388608 ≤ c ∨ q = -149)
theorem fB_tails : fB.tails = 8388608 := by decide
theorem fB_exps : fB.exps = 256 := by decide
theorem fB_qmin : fB.qmin = -149 := by decide
theorem fB_qmax : fB.qmax = 104 := by decide
theorem fB_p : fB.p = 24 := rfl
theorem fA (s : Bool) (e t : Nat) (he : e < 256) (ht : t < 8388608) : FP.Core.fieldE fB (FP.Core.assemble fB s e t) = e ∧ FP.Core.fieldT fB (FP.Core.assemble fB s e t) = t ∧ FP.Core.fieldS fB (FP.Core.assemble fB s e t) = s ∧ FP.Core.assemble fB s e t < 4294967296 ∧ FP.Core.assemble fB s e t % 2147483648 = e * 8388608 + t := by
  unfold FP.Core.fieldE FP.Core.fieldT FP.Core.fieldS FP.Core.assemble
  rw [fB_tails, fB_exps]
  cases s
  · refine ⟨by simp; omega, by simp; omega, ?_, by simp; omega, by simp; omega⟩
    rw [show (((false.toNat * 256 + e) * 8388608 + t) / 8388608 / 256 % 2) = 0 by simp; omega]
    rfl
  · refine ⟨by simp; omega, by simp; omega, ?_, by simp; omega, by simp; omega⟩
    rw [show (((true.toNat * 256 + e) * 8388608 + t) / 8388608 / 256 % 2) = 1 by simp; omega]
    rfl
theorem u32_of {n : Nat} (h : n < 4294967296) : (UInt32.ofNat n).toNat = n := by
  rw [UInt32.toNat_ofNat']
  exact Nat.mod_eq_of_lt h
theorem vf_asm (s : Bool) (e t : Nat) (he : e < 256) (ht : t < 8388608) (h : e < 255 ∨ t = 0) : vf_n32 (UInt32.ofNat (FP.Core.assemble fB s e t)) := by
  obtain ⟨-, -, -, h4, h5⟩ := fA s e t he ht
  unfold vf_n32
  rw [UInt32.le_iff_toNat_le, UInt32.toNat_and, u32_of h4]
  rw [show (0x7fffffff : UInt32).toNat = 2 ^ 31 - 1 from rfl, Nat.and_two_pow_sub_one_eq_mod]
  rw [show (2 : Nat) ^ 31 = 2147483648 from rfl, h5]
  rw [show (0x7f800000 : UInt32).toNat = 2139095040 from rfl]
  omega
theorem enc_fin {s : Bool} {c : Nat} {q : Int} (h : gd c q) : ∃ e t, FP.Core.encode fB (.fin s c q) = FP.Core.assemble fB s e t ∧ e < 255 ∧ t < 8388608 ∧ (c < 8388608 → e = 0 ∧ t = c) ∧ (8388608 ≤ c → (e : Int) = q + 150 ∧ t = c - 8388608) := by
  obtain ⟨h1, h2, h3, h4⟩ := h
  unfold FP.Core.encode
  simp only
  rw [fB_tails, fB_qmin]
  by_cases hc : c < 8388608
  · rw [if_pos hc]
    exact ⟨0, c, rfl, by omega, hc, fun _ => ⟨rfl, rfl⟩, fun q => by omega⟩
  · rw [if_neg hc]
    exact ⟨_, _, rfl, by omega, by omega, fun q => by omega, fun _ => ⟨by omega, rfl⟩⟩
theorem dec_enc {s : Bool} {c : Nat} {q : Int} (h : gd c q) : FP.Core.decode fB (UInt32.ofNat (FP.Core.encode fB (.fin s c q))).toNat = .fin s c q := by
  obtain ⟨e, t, h1, h2, h3, h4, h5⟩ := enc_fin (s := s) h
  obtain ⟨a1, a2, a3, a4, -⟩ := fA s e t (by omega) h3
  rw [h1, u32_of a4]
  unfold FP.Core.decode
  rw [a1, a2, a3, fB_exps, fB_qmin, fB_tails, if_neg (by omega)]
  obtain ⟨g1, g2, g3, g4⟩ := h
  by_cases hc : c < 8388608
  · obtain ⟨rfl, rfl⟩ := h4 hc
    rw [if_pos rfl, g4.resolve_left (by omega)]
  · obtain ⟨e1, e2⟩ := h5 (by omega)
    have a : 8388608 + t = c := by omega
    have b : (-149 + ((e : Int) - 1)) = q := by omega
    rw [if_neg (by omega), a, b]
theorem vf_fin {s : Bool} {c : Nat} {q : Int} (h : gd c q) : vf_n32 (UInt32.ofNat (FP.Core.encode fB (.fin s c q))) := by
  obtain ⟨e, t, h1, h2, h3, -⟩ := enc_fin (s := s) h
  rw [h1]
  exact vf_asm s e t (by omega) h3 (Or.inl h2)
/-! rounding -/
theorem near_up {U D k : Nat} (hD : 0 < D) (h : U ≤ k * D) : FP.Core.nearest U D ≤ k := by
  have h1 := Nat.div_add_mod U D
  have h2 := Nat.mod_lt U hD
  have h3 : U / D ≤ k := by
    have := Nat.div_le_div_right (c := D) h
    rwa [Nat.mul_div_cancel _ hD] at this
  unfold FP.Core.nearest
  by_cases e : U / D = k
  · have h4 : U % D = 0 := by
      rw [e, Nat.mul_comm] at h1
      omega
    rw [h4, if_pos (by omega)]
    exact h3
  · split
    · exact h3
    · split
      · omega
      · omega
theorem near_lo {U D k : Nat} (hD : 0 < D) (h : k * D ≤ U) : k ≤ FP.Core.nearest U D := by
  have h3 : k ≤ U / D := (Nat.le_div_iff_mul_le hD).mpr h
  unfold FP.Core.nearest
  split
  · exact h3
  · split <;> omega
theorem pw (a b : Nat) : 2 ^ (a + b) = 2 ^ a * 2 ^ b := Nat.pow_add 2 a b
theorem pw_le {a b : Nat} (h : a ≤ b) : 2 ^ a ≤ 2 ^ b := Nat.pow_le_pow_right (by decide) h
/-- a number other than zero that a float bounds: what it is rounded to; every float below it stays below -/
theorem rr {s : Bool} {num : Nat} {e : Int} {B : Nat} {r : Int} (hn : 0 < num) (he : -350 ≤ e) (hB : B < 16777216) (hr : -149 ≤ r) (hr2 : r ≤ 50) (hup : mg num e ≤ mg B r) :
    ∃ c q, FP.Core.roundRatio fB s num 1 e = .fin s c q ∧ gd c q ∧ mg c q ≤ mg B r ∧ ∀ (B' : Nat) (r' : Int), B' < 16777216 → -149 ≤ r' → mg B' r' ≤ mg num e → mg B' r' ≤ mg c q := by
  obtain ⟨en, hen⟩ : ∃ n : Nat, (n : Int) = e + 400 := ⟨(e + 400).toNat, by omega⟩
  have hL1 : 2 ^ num.log2 ≤ num := Nat.log2_self_le (by omega)
  have hL2 : num < 2 ^ (num.log2 + 1) := Nat.lt_log2_self
  generalize hL : num.log2 = L at hL1 hL2
  obtain ⟨qn, hqn⟩ : ∃ n : Nat, (n : Int) = max (-149) ((L : Int) + e - 23) + 400 := ⟨(max (-149) ((L : Int) + e - 23) + 400).toNat, by omega⟩
  have hq : FP.Core.quantum fB num 1 e = (qn : Int) - 400 := by
    unfold FP.Core.quantum FP.Core.leading
    simp only
    rw [hL, show (1 : Nat).log2 = 0 from by decide, show (((L : Int) - ((0 : Nat) : Int)).toNat) = L by omega, show ((-((L : Int) - ((0 : Nat) : Int))).toNat) = 0 by omega, if_pos (by simpa using hL1), fB_qmin, fB_p]
    omega
  have M1 : mg num e = num * 2 ^ en := by unfold mg; rw [show (e + 400).toNat = en by omega]
  have hU : FP.Core.unitsNum num e ((qn : Int) - 400) = num * 2 ^ (en - qn) := by unfold FP.Core.unitsNum; rw [show (e - ((qn : Int) - 400)).toNat = en - qn by omega]
  have hDn : FP.Core.unitsDen 1 e ((qn : Int) - 400) = 2 ^ (qn - en) := by unfold FP.Core.unitsDen; rw [show (((qn : Int) - 400) - e).toNat = qn - en by omega, Nat.one_mul]
  have hD0 : 0 < 2 ^ (qn - en) := Nat.two_pow_pos _
  have hP0 : 0 < 2 ^ qn := Nat.two_pow_pos _
  have hUP : num * 2 ^ (en - qn) * 2 ^ qn = num * 2 ^ en * 2 ^ (qn - en) := by
    by_cases h : qn ≤ en
    · rw [show qn - en = 0 by omega, Nat.pow_zero, Nat.mul_one, Nat.mul_assoc, ← pw, show en - qn + qn = en by omega]
    · rw [show en - qn = 0 by omega, Nat.pow_zero, Nat.mul_one, Nat.mul_assoc, ← pw, show en + (qn - en) = qn by omega]
  have up : ∀ k, num * 2 ^ en ≤ k * 2 ^ qn → FP.Core.nearest (num * 2 ^ (en - qn)) (2 ^ (qn - en)) ≤ k := fun k h => by
    refine near_up hD0 (Nat.le_of_mul_le_mul_right (c := 2 ^ qn) ?_ hP0)
    rw [hUP, Nat.mul_assoc k, Nat.mul_comm (2 ^ (qn - en)), ← Nat.mul_assoc]
    exact Nat.mul_le_mul_right _ h
  have lo : ∀ k, k * 2 ^ qn ≤ num * 2 ^ en → k ≤ FP.Core.nearest (num * 2 ^ (en - qn)) (2 ^ (qn - en)) := fun k h => by
    refine near_lo hD0 (Nat.le_of_mul_le_mul_right (c := 2 ^ qn) ?_ hP0)
    rw [hUP, Nat.mul_assoc k, Nat.mul_comm (2 ^ (qn - en)), ← Nat.mul_assoc]
    exact Nat.mul_le_mul_right _ h
  have mB : ∀ (B : Nat) (r : Int), B < 16777216 → -149 ≤ r → (qn : Int) ≤ r + 400 → ∃ k, mg B r = k * 2 ^ qn := fun B r _ hr h => by
    refine ⟨B * 2 ^ ((r + 400).toNat - qn), ?_⟩
    unfold mg
    rw [Nat.mul_assoc, ← pw, show (r + 400).toNat - qn + qn = (r + 400).toNat by omega]
  have mS : ∀ (B : Nat) (r : Int), B < 16777216 → -149 ≤ r → r + 400 < (qn : Int) → mg B r < 2 ^ (qn + 23) := fun B r hB hr h => by
    unfold mg
    have h1 : B * 2 ^ (r + 400).toNat < 2 ^ 24 * 2 ^ (r + 400).toNat := Nat.mul_lt_mul_of_pos_right hB (Nat.two_pow_pos _)
    rw [← pw] at h1
    exact Nat.lt_of_lt_of_le h1 (pw_le (by omega))
  have hMlo : (qn : Int) ≠ 251 → 2 ^ (qn + 23) ≤ num * 2 ^ en := fun h => by
    rw [show qn + 23 = L + en by omega, pw]
    exact Nat.mul_le_mul_right _ hL1
  have hrq : (qn : Int) ≤ r + 400 := by
    refine Int.not_lt.mp fun h => ?_
    have h1 := mS B r hB hr h
    have h2 := hMlo (by omega)
    rw [M1] at hup
    omega
  obtain ⟨k, hk⟩ := mB B r hB hr hrq
  have hc1 := up k (by rw [← M1, ← hk]; exact hup)
  have hc2 := up 16777216 (by
    have h1 : num * 2 ^ en ≤ 2 ^ (L + 1) * 2 ^ en := Nat.mul_le_mul_right _ (Nat.le_of_lt hL2)
    rw [← pw] at h1
    refine Nat.le_trans h1 (Nat.le_trans (pw_le (show L + 1 + en ≤ 24 + qn by omega)) ?_)
    rw [pw]
    exact Nat.le_refl _)
  have hc3 : (qn : Int) ≠ 251 → 8388608 ≤ FP.Core.nearest (num * 2 ^ (en - qn)) (2 ^ (qn - en)) := fun h => lo 8388608 (by
    have := hMlo h
    rw [Nat.add_comm, pw] at this
    exact this)
  unfold FP.Core.roundRatio FP.Core.roundAt
  rw [if_neg (by omega), hq, hU, hDn]
  have key : ∀ (B' : Nat) (r' : Int), B' < 16777216 → -149 ≤ r' → mg B' r' ≤ mg num e → mg B' r' ≤ FP.Core.nearest (num * 2 ^ (en - qn)) (2 ^ (qn - en)) * 2 ^ qn := fun B' r' h1 h2 h3 => by
    by_cases h : (qn : Int) ≤ r' + 400
    · obtain ⟨k', hk'⟩ := mB B' r' h1 h2 h
      rw [hk']
      exact Nat.mul_le_mul_right _ (lo k' (by rw [← M1, ← hk']; exact h3))
    · have h4 := mS B' r' h1 h2 (by omega)
      refine Nat.le_trans (Nat.le_of_lt h4) ?_
      rw [Nat.add_comm, pw]
      exact Nat.mul_le_mul_right _ (hc3 (by omega))
  generalize FP.Core.nearest (num * 2 ^ (en - qn)) (2 ^ (qn - en)) = c0 at *
  unfold FP.Core.settle FP.Core.bound
  rw [fB_p, fB_qmax, fB_tails]
  by_cases hc : c0 < 16777216
  · rw [if_pos (by simpa using hc), if_pos (by omega)]
    have m1 : mg c0 ((qn : Int) - 400) = c0 * 2 ^ qn := by unfold mg; rw [show ((qn : Int) - 400 + 400).toNat = qn by omega]
    refine ⟨c0, (qn : Int) - 400, rfl, ⟨hc, by omega, by omega, ?_⟩, ?_, ?_⟩
    · by_cases z : (qn : Int) = 251
      · exact Or.inr (by omega)
      · exact Or.inl (hc3 z)
    · rw [m1, hk]
      exact Nat.mul_le_mul_right _ hc1
    · rw [m1]
      exact key
  · have e0 : c0 = 16777216 := by omega
    rw [if_neg (by simpa using hc), if_pos (by omega)]
    have m1 : mg 8388608 ((qn : Int) - 400 + 1) = c0 * 2 ^ qn := by
      unfold mg
      rw [show ((qn : Int) - 400 + 1 + 400).toNat = 1 + qn by omega, pw, ← Nat.mul_assoc, e0]
    refine ⟨8388608, (qn : Int) - 400 + 1, rfl, ⟨by omega, by omega, by omega, Or.inl (Nat.le_refl _)⟩, ?_, ?_⟩
    · rw [m1, hk]
      exact Nat.mul_le_mul_right _ hc1
    · rw [m1]
      exact key
end
section
/-! FLOATS, part 2: the pitch stays from 1 to 512 -/
def pOK (pt : UInt32) : Prop := 1065353216 ≤ pt.toNat ∧ pt.toNat < 1140850688
theorem mg_nat (k : Nat) : mg k 0 = k * 2 ^ 400 := rfl
theorem pOK_dec {pt : UInt32} (h : pOK pt) : ∃ P q, FP.Core.decode fB pt.toNat = .fin false P q ∧ gd P q ∧ mg 1 0 ≤ mg P q ∧ mg P q < mg 512 0 := by
  obtain ⟨h1, h2⟩ := h
  generalize pt.toNat = n at h1 h2
  refine ⟨8388608 + n % 8388608, -149 + ((n / 8388608 : Nat) - 1 : Int), ?_, ?_, ?_, ?_⟩
  · have e1 : FP.Core.fieldE fB n = n / 8388608 := by unfold FP.Core.fieldE; rw [fB_tails, fB_exps]; omega
    have e2 : FP.Core.fieldT fB n = n % 8388608 := by unfold FP.Core.fieldT; rw [fB_tails]
    have e3 : FP.Core.fieldS fB n = false := by
      unfold FP.Core.fieldS
      rw [fB_tails, fB_exps, show n / 8388608 / 256 % 2 = 0 by omega]
      rfl
    unfold FP.Core.decode
    rw [e1, e2, e3, fB_exps, fB_qmin, fB_tails, if_neg (by omega), if_neg (by omega)]
  · exact ⟨by omega, by omega, by omega, Or.inl (by omega)⟩
  · unfold mg
    rw [Nat.one_mul]
    refine Nat.le_trans (pw_le (show ((0 : Int) + 400).toNat ≤ 23 + (-149 + ((n / 8388608 : Nat) - 1 : Int) + 400).toNat by omega)) ?_
    rw [pw]
    exact Nat.mul_le_mul_right _ (by omega)
  · unfold mg
    refine Nat.lt_of_lt_of_le (Nat.mul_lt_mul_of_pos_right (show 8388608 + n % 8388608 < 2 ^ 24 by omega) (Nat.two_pow_pos _)) ?_
    rw [← pw, show (512 : Nat) = 2 ^ 9 from rfl, ← pw]
    exact pw_le (by omega)
theorem pOK_enc {c : Nat} {q : Int} (h : gd c q) (h1 : mg 1 0 ≤ mg c q) (h2 : mg c q < mg 512 0) : pOK (UInt32.ofNat (FP.Core.encode fB (.fin false c q))) := by
  obtain ⟨g1, g2, g3, g4⟩ := id h
  have a1 : -23 ≤ q := by
    refine Int.not_lt.mp fun hq => ?_
    have : mg c q < mg 1 0 := by
      unfold mg
      rw [Nat.one_mul]
      refine Nat.lt_of_lt_of_le (Nat.mul_lt_mul_of_pos_right (show c < 2 ^ 24 by omega) (Nat.two_pow_pos _)) ?_
      rw [← pw]
      exact pw_le (by omega)
    omega
  have a2 : 8388608 ≤ c := by omega
  have a3 : q ≤ -15 := by
    refine Int.not_lt.mp fun hq => ?_
    have : mg 512 0 ≤ mg c q := by
      unfold mg
      rw [show (512 : Nat) = 2 ^ 9 from rfl, ← pw]
      refine Nat.le_trans (pw_le (show 9 + ((0 : Int) + 400).toNat ≤ 23 + (q + 400).toNat by omega)) ?_
      rw [pw]
      exact Nat.mul_le_mul_right _ (by omega)
    omega
  obtain ⟨e, t, b1, b2, b3, -, b5⟩ := enc_fin (s := false) h
  obtain ⟨b6, b7⟩ := b5 a2
  obtain ⟨-, -, -, c4, c5⟩ := fA false e t (by omega) b3
  unfold pOK
  rw [b1, u32_of c4]
  unfold FP.Core.assemble
  rw [fB_tails, fB_exps]
  simp only [Bool.toNat_false]
  omega
theorem i2f_dec {t : Nat} (h : t ≤ 2000) : ∃ c q, FP.Core.decode fB (FP.i2f (nI t)).toNat = .fin false c q ∧ gd c q ∧ mg c q = mg t 0 := by
  have e0 : FP.i2f (nI t) = UInt32.ofNat (FP.Core.encode fB (FP.Core.roundRatio fB false t 1 0)) := by
    show UInt32.ofNat (FP.Core.encode fB (FP.Core.round fB (FP.Core.ofInt (nI t).toInt))) = _
    rw [nI_toInt (by omega)]
    unfold FP.Core.ofInt FP.Core.round
    rw [show decide ((t : Int) < 0) = false by simp, show (t : Int).natAbs = t by omega]
  rw [e0]
  by_cases z : t = 0
  · subst z
    have g0 : gd 0 (-149) := ⟨by decide, by decide, by decide, Or.inr rfl⟩
    refine ⟨0, -149, ?_, g0, by unfold mg; rw [Nat.zero_mul, Nat.zero_mul]⟩
    rw [show FP.Core.roundRatio fB false 0 1 0 = .fin false 0 (-149) by unfold FP.Core.roundRatio; rw [if_pos rfl, fB_qmin]]
    exact dec_enc g0
  · obtain ⟨c, q, h1, h2, h3, h4⟩ := rr (s := false) (num := t) (e := 0) (B := t) (r := 0) (by omega) (by decide) (by omega) (by decide) (by decide) (Nat.le_refl _)
    rw [h1]
    exact ⟨c, q, dec_enc h2, h2, Nat.le_antisymm h3 (h4 t 0 (by omega) (by decide) (Nat.le_refl _))⟩
theorem su {s t : Bool} {c d : Nat} {q r : Int} (hq : -300 ≤ q) (hr : -300 ≤ r) : mg (FP.Core.sumUnits s c q t d r (min q r)).natAbs (min q r) = (FP.Core.signed s (mg c q) + FP.Core.signed t (mg d r)).natAbs ∧ (FP.Core.sumUnits s c q t d r (min q r) < 0 ↔ FP.Core.signed s (mg c q) + FP.Core.signed t (mg d r) < 0) := by
  obtain ⟨k, hk⟩ : ∃ k : Nat, (k : Int) = min q r + 400 := ⟨(min q r + 400).toNat, by omega⟩
  have f2 : ∀ (s : Bool) (c : Nat) (q' : Int), min q r ≤ q' → FP.Core.signed s (mg c q') = FP.Core.signed s (FP.Core.inUnits c q' (min q r)) * ((2 ^ k : Nat) : Int) := fun s c q' h => by
    have : mg c q' = FP.Core.inUnits c q' (min q r) * 2 ^ k := by
      unfold mg FP.Core.inUnits
      rw [Nat.mul_assoc, ← pw, show (q' - min q r).toNat + k = (q' + 400).toNat by omega]
    rw [this]
    cases s
    · simp [FP.Core.signed]
    · simp [FP.Core.signed, Int.neg_mul]
  have hS : FP.Core.signed s (mg c q) + FP.Core.signed t (mg d r) = FP.Core.sumUnits s c q t d r (min q r) * ((2 ^ k : Nat) : Int) := by
    rw [f2 s c q (by omega), f2 t d r (by omega)]
    unfold FP.Core.sumUnits
    rw [Int.add_mul]
  have hp : (0 : Int) < ((2 ^ k : Nat) : Int) := by exact_mod_cast Nat.two_pow_pos k
  constructor
  · rw [hS, Int.natAbs_mul]
    unfold mg
    rw [show (min q r + 400).toNat = k by omega]
    rfl
  · rw [hS]
    constructor
    · intro h
      exact Int.mul_neg_of_neg_of_pos h hp
    · intro h
      refine Int.not_le.mp fun h2 => ?_
      have := Int.mul_nonneg h2 (Int.le_of_lt hp)
      omega
/-- a sum: its value V is bounded by a float -/
theorem sum_dec {s t : Bool} {c d : Nat} {q r : Int} {B : Nat} {rB : Int} {V : Int} (hc : gd c q) (hd : gd d r) (hV : FP.Core.signed s (mg c q) + FP.Core.signed t (mg d r) = V) (hB : B < 16777216) (h1 : -149 ≤ rB) (h2 : rB ≤ 50) (hb : V.natAbs ≤ mg B rB) :
    ∃ s' c' q', FP.Core.round fB (FP.Core.exactSum (.fin s c q) (.fin t d r)) = .fin s' c' q' ∧ gd c' q' ∧ mg c' q' ≤ mg B rB ∧ (0 < V → s' = false) ∧ (V < 0 → s' = true) ∧ (V = 0 → c' = 0) ∧ (V = 0 → s ≠ t → s' = false) ∧ ∀ (B' : Nat) (r' : Int), B' < 16777216 → -149 ≤ r' → mg B' r' ≤ V.natAbs → mg B' r' ≤ mg c' q' := by
  obtain ⟨e1, e2⟩ := su (s := s) (t := t) (c := c) (d := d) (q := q) (r := r) (by have := hc.2.1; omega) (by have := hd.2.1; omega)
  rw [hV] at e1 e2
  unfold FP.Core.exactSum FP.Core.round
  simp only
  generalize hu : FP.Core.sumUnits s c q t d r (min q r) = u at *
  have hz : u = 0 ↔ V = 0 := by
    constructor
    · intro h
      rw [h] at e1
      have : mg (0 : Int).natAbs (min q r) = 0 := by unfold mg; simp
      omega
    · intro h
      rw [h] at e1
      unfold mg at e1
      have := Nat.two_pow_pos (min q r + 400).toNat
      rcases Nat.mul_eq_zero.mp (show u.natAbs * 2 ^ (min q r + 400).toNat = 0 by simpa using e1) with z | z <;> omega
  by_cases z : u = 0
  · have hV0 := hz.mp z
    refine ⟨FP.Core.sumSign s t u, 0, -149, ?_, ⟨by decide, by decide, by decide, Or.inr rfl⟩, by unfold mg; omega, fun h => by omega, fun h => by omega, fun _ => rfl, fun _ h => ?_, fun B' r' _ _ h => ?_⟩
    · rw [z]
      unfold FP.Core.roundRatio
      rw [if_pos (show (0 : Int).natAbs = 0 from rfl), fB_qmin]
    · rw [z]
      unfold FP.Core.sumSign
      rw [if_pos rfl]
      cases s <;> cases t <;> simp_all
    · rw [hV0] at h
      exact Nat.le_trans h (Nat.zero_le _)
  · have hV0 : V ≠ 0 := fun h => z (hz.mpr h)
    obtain ⟨c', q', g1, g2, g3, g4⟩ := rr (s := FP.Core.sumSign s t u) (num := u.natAbs) (e := min q r) (B := B) (r := rB) (by omega) (by have := hc.2.1; have := hd.2.1; omega) hB h1 h2 (by rw [e1]; exact hb)
    refine ⟨_, c', q', g1, g2, g3, fun h => ?_, fun h => ?_, fun h => absurd h hV0, fun h => absurd h hV0, fun B' r' b1 b2 b3 => g4 B' r' b1 b2 (by rw [e1]; exact b3)⟩
    · unfold FP.Core.sumSign
      rw [if_neg z]
      have : ¬ u < 0 := fun q => by have := e2.mp q; omega
      simp [this]
    · unfold FP.Core.sumSign
      rw [if_neg z]
      simp [e2.mpr h]
theorem sg_f (x : Nat) : FP.Core.signed false x = (x : Int) := rfl
theorem sg_t (x : Nat) : FP.Core.signed true x = -(x : Int) := rfl
theorem fsub_of {x y : UInt32} {s : Bool} {c d : Nat} {q r : Int} (hx : FP.Core.decode fB x.toNat = .fin s c q) (hy : FP.Core.decode fB y.toNat = .fin false d r) : FP.fsub x y = UInt32.ofNat (FP.Core.encode fB (FP.Core.round fB (FP.Core.exactSum (.fin s c q) (.fin true d r)))) := by
  show UInt32.ofNat (FP.Core.encode fB (FP.Core.round fB (FP.Core.exactSum (FP.Core.decode fB x.toNat) (FP.Core.negate (FP.Core.decode fB y.toNat))))) = _
  rw [hx, hy]
  rfl
theorem fadd_of {x y : UInt32} {s t : Bool} {c d : Nat} {q r : Int} (hx : FP.Core.decode fB x.toNat = .fin s c q) (hy : FP.Core.decode fB y.toNat = .fin t d r) : FP.fadd x y = UInt32.ofNat (FP.Core.encode fB (FP.Core.round fB (FP.Core.exactSum (.fin s c q) (.fin t d r)))) := by
  show UInt32.ofNat (FP.Core.encode fB (FP.Core.round fB (FP.Core.exactSum (FP.Core.decode fB x.toNat) (FP.Core.decode fB y.toNat)))) = _
  rw [hx, hy]
theorem mg_lt {a b : Nat} (h : a < b) : mg a 0 < mg b 0 := by
  rw [mg_nat, mg_nat]
  exact Nat.mul_lt_mul_of_pos_right h (Nat.two_pow_pos 400)
theorem mg_le {a b : Nat} (h : a ≤ b) : mg a 0 ≤ mg b 0 := by
  rw [mg_nat, mg_nat]
  exact Nat.mul_le_mul_right _ h
theorem mg_add (a b : Nat) : mg (a + b) 0 = mg a 0 + mg b 0 := by
  rw [mg_nat, mg_nat, mg_nat, Nat.add_mul]
/-- the bounds of the marks: no NaN -/
theorem fl_win {pt : UInt32} {w : Nat} (hp : pOK pt) (hw : w ≤ 50) : vf_n32 (FP.fsub pt (FP.i2f (nI w))) ∧ vf_n32 (FP.fadd pt (FP.i2f (nI w))) := by
  obtain ⟨P, q, d1, g1, b1, b2⟩ := pOK_dec hp
  obtain ⟨c, r, d2, g2, b3⟩ := i2f_dec (t := w) (by omega)
  have b4 := mg_le (show w ≤ 50 by omega)
  have b5 := mg_le (show 0 ≤ 512 by omega)
  have b6 : mg 562 0 = mg 512 0 + mg 50 0 := mg_add 512 50
  constructor
  · rw [fsub_of d1 d2]
    obtain ⟨s', c', q', h1, h2, -⟩ := sum_dec (s := false) (t := true) (B := 562) (rB := 0) g1 g2 rfl (by decide) (by decide) (by decide) (by rw [sg_f, sg_t, b3]; omega)
    rw [h1]
    exact vf_fin h2
  · rw [fadd_of d1 d2]
    obtain ⟨s', c', q', h1, h2, -⟩ := sum_dec (s := false) (t := false) (B := 562) (rB := 0) g1 g2 rfl (by decide) (by decide) (by decide) (by rw [sg_f, sg_f, b3]; omega)
    rw [h1]
    exact vf_fin h2
def fchk : FP.Core.Datum → Bool
  | .fin false c q => decide (c < 16777216) && decide (-149 ≤ q) && decide (q ≤ 104) && (decide (8388608 ≤ c) || decide (q = -149)) && decide (mg c q ≤ mg 1 0)
  | _ => false
theorem fchk_8 : ∀ g, g < 9 → fchk (FP.Core.decode fB (FP.fdiv (FP.i2f (nI g)) 1090519040).toNat) = true ∧ FP.fdiv (FP.i2f (nI g)) 1090519040 &&& 0x7fffffff ≤ 0x7f800000 := by decide +kernel
theorem share_dec {g : Nat} (h : g ≤ 8) : ∃ c q, FP.Core.decode fB (FP.fdiv (FP.i2f (nI g)) 1090519040).toNat = .fin false c q ∧ gd c q ∧ mg c q ≤ mg 1 0 := by
  have h1 := (fchk_8 g (by omega)).1
  generalize FP.Core.decode fB (FP.fdiv (FP.i2f (nI g)) 1090519040).toNat = d at h1
  match d, h1 with
  | .fin false c q, h1 =>
    simp only [fchk, Bool.and_eq_true, Bool.or_eq_true, decide_eq_true_eq] at h1
    exact ⟨c, q, rfl, ⟨h1.1.1.1.1, h1.1.1.1.2, h1.1.1.2, h1.1.2⟩, h1.2⟩
/-- a product by a share of at most 1 -/
theorem mul_dec {s : Bool} {c d B : Nat} {q r : Int} (hc : gd c q) (hd : gd d r) (h1 : mg d r ≤ mg 1 0) (hB : B < 16777216) (hb : mg c q ≤ mg B 0) :
    ∃ c' q', FP.Core.round fB (FP.Core.exactProduct (.fin s c q) (.fin false d r)) = .fin s c' q' ∧ gd c' q' ∧ mg c' q' ≤ mg B 0 := by
  unfold FP.Core.exactProduct FP.Core.round
  simp only [Bool.bne_false]
  by_cases z : c * d = 0
  · rw [z]
    refine ⟨0, -149, ?_, ⟨by decide, by decide, by decide, Or.inr rfl⟩, by unfold mg; omega⟩
    unfold FP.Core.roundRatio
    rw [if_pos rfl, fB_qmin]
  · have hq := hc.2.1
    have hr := hd.2.1
    have hle : mg (c * d) (q + r) ≤ mg c q := by
      have h2 : d * 2 ^ (r + 400).toNat * (c * 2 ^ (q + 400).toNat) ≤ 2 ^ 400 * (c * 2 ^ (q + 400).toNat) := Nat.mul_le_mul_right _ (by unfold mg at h1; rw [Nat.one_mul] at h1; exact h1)
      have h3 : d * 2 ^ (r + 400).toNat * (c * 2 ^ (q + 400).toNat) = 2 ^ 400 * (c * d * 2 ^ (q + r + 400).toNat) := by
        have h4 : 2 ^ (r + 400).toNat * 2 ^ (q + 400).toNat = 2 ^ 400 * 2 ^ (q + r + 400).toNat := by
          rw [← pw, ← pw]
          congr 1
          omega
        calc d * 2 ^ (r + 400).toNat * (c * 2 ^ (q + 400).toNat) = c * d * (2 ^ (r + 400).toNat * 2 ^ (q + 400).toNat) := by ac_rfl
          _ = c * d * (2 ^ 400 * 2 ^ (q + r + 400).toNat) := by rw [h4]
          _ = 2 ^ 400 * (c * d * 2 ^ (q + r + 400).toNat) := by ac_rfl
      rw [h3] at h2
      exact Nat.le_of_mul_le_mul_left h2 (Nat.two_pow_pos 400)
    obtain ⟨c', q', g1, g2, g3, -⟩ := rr (s := s) (num := c * d) (e := q + r) (B := B) (r := 0) (by omega) (by omega) hB (by decide) (by decide) (Nat.le_trans hle hb)
    exact ⟨c', q', g1, g2, g3⟩
/-- the pitch that is learned: no NaN on the way, and a pitch again -/
theorem fl_learn {pt : UInt32} {tr g : Nat} (hp : pOK pt) (h2 : 2 ≤ tr) (h499 : tr ≤ 499) (hg : g ≤ 8) :
    vf_n32 (FP.fdiv (FP.i2f (nI g)) 1090519040) ∧ vf_n32 (FP.fsub (FP.i2f (nI tr)) pt) ∧ vf_n32 (FP.fmul (FP.fsub (FP.i2f (nI tr)) pt) (FP.fdiv (FP.i2f (nI g)) 1090519040)) ∧ vf_n32 (lrP pt tr (nI g)) ∧ pOK (lrP pt tr (nI g)) := by
  obtain ⟨P, q, d1, g1, b1, b2⟩ := pOK_dec hp
  obtain ⟨T, r, d2, g2, b3⟩ := i2f_dec (t := tr) (by omega)
  obtain ⟨G, rg, d3, g3, b4⟩ := share_dec hg
  -- the whole millimeters of the pitch
  obtain ⟨k, k1, k2⟩ : ∃ k, mg k 0 ≤ mg P q ∧ mg P q < mg (k + 1) 0 := by
    refine ⟨mg P q / 2 ^ 400, ?_, ?_⟩
    · rw [mg_nat]
      exact Nat.div_mul_le_self _ _
    · rw [mg_nat]
      exact Nat.lt_mul_of_div_lt (Nat.lt_succ_self _) (Nat.two_pow_pos 400)
  have k3 : k < 512 := by
    refine Nat.not_le.mp fun h => ?_
    have := mg_le h
    omega
  have k4 : 1 ≤ k := by
    refine Nat.not_lt.mp fun h => ?_
    have : k = 0 := by omega
    subst this
    rw [Nat.zero_add] at k2
    omega
  have mg1 : 0 < mg 1 0 := by
    rw [mg_nat, Nat.one_mul]
    exact Nat.two_pow_pos 400
  have e1 : FP.fsub (FP.i2f (nI tr)) pt = _ := fsub_of d2 d1
  have hv1 : FP.Core.signed false (mg T r) + FP.Core.signed true (mg P q) = (mg tr 0 : Int) - mg P q := by rw [sg_f, sg_t, b3]; omega
  have e9 : lrP pt tr (nI g) = FP.fadd pt (FP.fmul (FP.fsub (FP.i2f (nI tr)) pt) (FP.fdiv (FP.i2f (nI g)) 1090519040)) := rfl
  have fm : ∀ {s1 : Bool} {c1 : Nat} {q1 : Int}, gd c1 q1 → FP.fsub (FP.i2f (nI tr)) pt = UInt32.ofNat (FP.Core.encode fB (.fin s1 c1 q1)) → FP.fmul (FP.fsub (FP.i2f (nI tr)) pt) (FP.fdiv (FP.i2f (nI g)) 1090519040) = UInt32.ofNat (FP.Core.encode fB (FP.Core.round fB (FP.Core.exactProduct (.fin s1 c1 q1) (.fin false G rg)))) := fun hgd he => by
    show UInt32.ofNat (FP.Core.encode fB (FP.Core.round fB (FP.Core.exactProduct (FP.Core.decode fB (FP.fsub (FP.i2f (nI tr)) pt).toNat) (FP.Core.decode fB (FP.fdiv (FP.i2f (nI g)) 1090519040).toNat)))) = _
    rw [d3, he, dec_enc hgd]
  refine ⟨(fchk_8 g (by omega)).2, ?_⟩
  by_cases ht : mg P q ≤ mg tr 0
  · have hkt : k ≤ tr := by
      refine Nat.not_lt.mp fun h => ?_
      have := mg_lt h
      omega
    have ha := mg_add k (tr - k)
    rw [show k + (tr - k) = tr by omega] at ha
    obtain ⟨s1, c1, q1, h1, h2', h3, h4, -, -, h7, -⟩ := sum_dec (s := false) (t := true) (B := tr - k) (rB := 0) g2 g1 hv1 (by omega) (by decide) (by decide) (by omega)
    have hs1 : s1 = false := by
      by_cases z : (mg tr 0 : Int) - mg P q = 0
      · exact h7 z (by decide)
      · exact h4 (by omega)
    subst hs1
    rw [h1] at e1
    obtain ⟨c2, q2, m1, m2, m3⟩ := mul_dec (s := false) h2' g3 b4 (B := tr - k) (by omega) h3
    have e2 := fm h2' e1
    rw [m1] at e2
    obtain ⟨s3, c3, q3, n1, n2, n3, n4, -, -, -, n8⟩ := sum_dec (s := false) (t := false) (B := tr + 1) (rB := 0) g1 m2 (V := (mg P q : Int) + mg c2 q2) (by rw [sg_f, sg_f]) (by omega) (by decide) (by decide) (by
      have := mg_add k 1
      have := mg_add tr 1
      omega)
    have hs3 : s3 = false := n4 (by omega)
    subst hs3
    rw [e9, fadd_of d1 (by rw [e2]; exact dec_enc m2), n1, e2, e1]
    have l1 := n8 1 0 (by decide) (by decide) (by omega)
    have l2 := mg_lt (show tr + 1 < 512 by omega)
    exact ⟨vf_fin h2', vf_fin m2, vf_fin n2, pOK_enc n2 l1 (by omega)⟩
  · have hkt : tr ≤ k := by
      refine Nat.not_lt.mp fun h => ?_
      have := mg_le (show k + 1 ≤ tr from h)
      omega
    have ha := mg_add tr (k + 1 - tr)
    rw [show tr + (k + 1 - tr) = k + 1 by omega] at ha
    obtain ⟨s1, c1, q1, h1, h2', h3, -, h5, -⟩ := sum_dec (s := false) (t := true) (B := k + 1 - tr) (rB := 0) g2 g1 hv1 (by omega) (by decide) (by decide) (by omega)
    have hs1 : s1 = true := h5 (by omega)
    subst hs1
    rw [h1] at e1
    obtain ⟨c2, q2, m1, m2, m3⟩ := mul_dec (s := true) h2' g3 b4 (B := k + 1 - tr) (by omega) h3
    have e2 := fm h2' e1
    rw [m1] at e2
    have hb := mg_add (tr - 1) (k + 1 - tr)
    rw [show tr - 1 + (k + 1 - tr) = k by omega] at hb
    have hc := mg_le (show 1 ≤ tr - 1 by omega)
    obtain ⟨s3, c3, q3, n1, n2, n3, n4, -, -, -, n8⟩ := sum_dec (s := false) (t := true) (B := P) (rB := q) g1 m2 (V := (mg P q : Int) - mg c2 q2) (by rw [sg_f, sg_t]; omega) g1.1 g1.2.1 (by
      refine Int.not_lt.mp fun h => ?_
      have h9 := g1.2.2.2
      have h8 : 8388608 ≤ P := by omega
      have : mg 512 0 ≤ mg P q := by
        unfold mg
        rw [show (512 : Nat) = 2 ^ 9 from rfl, ← pw]
        refine Nat.le_trans (pw_le (show 9 + ((0 : Int) + 400).toNat ≤ 23 + (q + 400).toNat by omega)) ?_
        rw [pw]
        exact Nat.mul_le_mul_right _ (by omega)
      omega) (by omega)
    have hs3 : s3 = false := n4 (by omega)
    subst hs3
    rw [e9, fadd_of d1 (by rw [e2]; exact dec_enc m2), n1, e2, e1]
    have l1 := n8 1 0 (by decide) (by decide) (by omega)
    exact ⟨vf_fin h2', vf_fin m2, vf_fin n2, pOK_enc n2 l1 (by omega)⟩
theorem fl_set : ∀ n, n < 1991 → (1065353216 ≤ (FP.fdiv (FP.i2f (nI (n + 10))) 1092616192).toNat ∧ (FP.fdiv (FP.i2f (nI (n + 10))) 1092616192).toNat < 1140850688) ∧ FP.fdiv (FP.i2f (nI (n + 10))) 1092616192 &&& 0x7fffffff ≤ 0x7f800000 := by decide +kernel
theorem fl_tenths {n : Nat} (h1 : 10 ≤ n) (h2 : n ≤ 2000) : pOK (FP.fdiv (FP.i2f (nI n)) 1092616192) ∧ vf_n32 (FP.fdiv (FP.i2f (nI n)) 1092616192) := by
  have := fl_set (n - 10) (by omega)
  rw [show n - 10 + 10 = n by omega] at this
  exact this
theorem pOK_50 : pOK 1112014848 := ⟨by decide, by decide⟩
end
section
/-! FLOATS, part 3: the bits of a pitch, found by arithmetic -/
theorem dn {n : Nat} (h1 : 1065353216 ≤ n) (h2 : n < 1140850688) : FP.Core.decode fB n = .fin false (8388608 + n % 8388608) (-149 + ((n / 8388608 : Nat) - 1 : Int)) := by
  have e1 : FP.Core.fieldE fB n = n / 8388608 := by unfold FP.Core.fieldE; rw [fB_tails, fB_exps]; omega
  have e2 : FP.Core.fieldT fB n = n % 8388608 := by unfold FP.Core.fieldT; rw [fB_tails]
  have e3 : FP.Core.fieldS fB n = false := by
    unfold FP.Core.fieldS
    rw [fB_tails, fB_exps, show n / 8388608 / 256 % 2 = 0 by omega]
    rfl
  unfold FP.Core.decode
  rw [e1, e2, e3, fB_exps, fB_qmin, fB_tails, if_neg (by omega), if_neg (by omega)]
theorem fdiv_of {x y : UInt32} {d1 d2 : FP.Core.Datum} (hx : FP.Core.decode fB x.toNat = d1) (hy : FP.Core.decode fB y.toNat = d2) : FP.fdiv x y = UInt32.ofNat (FP.Core.encode fB (FP.Core.quotient fB d1 d2)) := by
  subst hx hy
  rfl
theorem fmul_of {x y : UInt32} {d1 d2 : FP.Core.Datum} (hx : FP.Core.decode fB x.toNat = d1) (hy : FP.Core.decode fB y.toNat = d2) : FP.fmul x y = UInt32.ofNat (FP.Core.encode fB (FP.Core.round fB (FP.Core.exactProduct d1 d2))) := by
  subst hx hy
  rfl
theorem fcmp_of {x y : UInt32} {d1 d2 : FP.Core.Datum} (hx : FP.Core.decode fB x.toNat = d1) (hy : FP.Core.decode fB y.toNat = d2) : FP.fcmp x y = FP.Core.order d1 d2 := by
  subst hx hy
  rfl
theorem dno {n : Nat} (h1 : 1065353216 ≤ n) (h2 : n < 1140850688) : FP.Core.decode fB (UInt32.ofNat n).toNat = .fin false (8388608 + n % 8388608) (-149 + ((n / 8388608 : Nat) - 1 : Int)) := by
  rw [u32_of (by omega)]
  exact dn h1 h2
theorem dec2 : FP.Core.decode fB (FP.fconst2).toNat = .fin false 8388608 (-22) := by decide +kernel
theorem cmp_lt {x y : Int} (h : x < y) : compare x y = Ordering.lt := by
  show compareOfLessAndEq x y = _
  unfold compareOfLessAndEq
  rw [if_pos h]
theorem cmp_eq (x : Int) : compare x x = Ordering.eq := by
  show compareOfLessAndEq x x = _
  unfold compareOfLessAndEq
  rw [if_neg (Int.lt_irrefl x), if_pos rfl]
theorem cmp_gt {x y : Int} (h : y < x) : compare x y = Ordering.gt := by
  show compareOfLessAndEq x y = _
  unfold compareOfLessAndEq
  rw [if_neg (by omega), if_neg (by omega)]
end
section
/-! FLOATS, part 3a -/
/-- less than 2 -/
theorem fb1 {n : Nat} (h1 : 1065353216 ≤ n) (h2 : n < 1140850688) : Op.cmpValue (FP.fcmp (UInt32.ofNat n) FP.fconst2) CmpOp.l < 0 ↔ n < 1073741824 := by
  rw [fcmp_of (dno h1 h2) dec2]
  unfold FP.Core.order
  simp only [sg_f]
  by_cases h : n < 1073741824
  · rw [show n / 8388608 = 127 by omega]
    have : FP.Core.inUnits (8388608 + n % 8388608) (-149 + (((127 : Nat) : Int) - 1)) (min (-149 + (((127 : Nat) : Int) - 1)) (-22)) < FP.Core.inUnits 8388608 (-22) (min (-149 + (((127 : Nat) : Int) - 1)) (-22)) := by
      unfold FP.Core.inUnits
      rw [show ((-149 + (((127 : Nat) : Int) - 1)) - min (-149 + (((127 : Nat) : Int) - 1)) (-22)).toNat = 0 by omega, show ((-22 : Int) - min (-149 + (((127 : Nat) : Int) - 1)) (-22)).toNat = 1 by omega]
      omega
    rw [cmp_lt (by omega)]
    exact iff_of_true (by decide) h
  · obtain ⟨k, hk⟩ : ∃ k : Nat, n / 8388608 = 128 + k := ⟨n / 8388608 - 128, by omega⟩
    rw [hk]
    have : ¬ FP.Core.inUnits (8388608 + n % 8388608) (-149 + (((128 + k : Nat) : Int) - 1)) (min (-149 + (((128 + k : Nat) : Int) - 1)) (-22)) < FP.Core.inUnits 8388608 (-22) (min (-149 + (((128 + k : Nat) : Int) - 1)) (-22)) := by
      unfold FP.Core.inUnits
      rw [show ((-149 + (((128 + k : Nat) : Int) - 1)) - min (-149 + (((128 + k : Nat) : Int) - 1)) (-22)).toNat = k by omega, show ((-22 : Int) - min (-149 + (((128 + k : Nat) : Int) - 1)) (-22)).toNat = 0 by omega]
      have h3 := Nat.two_pow_pos k
      have h4 : (8388608 + n % 8388608) * 1 ≤ (8388608 + n % 8388608) * 2 ^ k := Nat.mul_le_mul_left _ h3
      omega
    generalize FP.Core.inUnits (8388608 + n % 8388608) (-149 + (((128 + k : Nat) : Int) - 1)) (min (-149 + (((128 + k : Nat) : Int) - 1)) (-22)) = x at *
    generalize FP.Core.inUnits 8388608 (-22) (min (-149 + (((128 + k : Nat) : Int) - 1)) (-22)) = y at *
    refine iff_of_false ?_ h
    by_cases hxy : x = y
    · subst hxy
      rw [cmp_eq]
      decide
    · rw [cmp_gt (by omega)]
      decide
end
section
/-! FLOATS, part 3b -/
/-- halved -/
theorem fb2 {n : Nat} (h1 : 1073741824 ≤ n) (h2 : n < 1140850688) : FP.fdiv (UInt32.ofNat n) FP.fconst2 = UInt32.ofNat (n - 8388608) ∧ vf_n32 (FP.fdiv (UInt32.ofNat n) FP.fconst2) := by
  obtain ⟨c, hc⟩ : ∃ c, 8388608 + n % 8388608 = c := ⟨_, rfl⟩
  obtain ⟨q, hq⟩ : ∃ q : Int, -149 + ((n / 8388608 : Nat) - 1 : Int) = q := ⟨_, rfl⟩
  have hl1 : c.log2 = 23 := by
    have a1 : 2 ^ 23 ≤ c := by omega
    have a2 : c < 2 ^ 24 := by omega
    have b1 := (Nat.le_log2 (n := c) (k := 23) (by omega)).mpr a1
    have b2 : c.log2 < 24 := (Nat.log2_lt (n := c) (k := 24) (by omega)).mpr a2
    omega
  have hl2 : (8388608 : Nat).log2 = 23 := by decide +kernel
  have key : FP.Core.quotient fB (.fin false c q) (.fin false 8388608 (-22)) = .fin false c (q - 1) := by
    unfold FP.Core.quotient FP.Core.roundRatio FP.Core.roundAt
    simp only
    rw [if_neg (by omega), if_neg (by omega)]
    have hqq : FP.Core.quantum fB c 8388608 (q - -22) = q - 1 := by
      unfold FP.Core.quantum FP.Core.leading
      simp only
      rw [hl1, hl2, if_pos (by simp; omega), fB_qmin, fB_p]
      omega
    rw [hqq]
    have hu : FP.Core.unitsNum c (q - -22) (q - 1) = c * 8388608 := by
      unfold FP.Core.unitsNum
      rw [show (q - -22 - (q - 1)).toNat = 23 by omega]
    have hd : FP.Core.unitsDen 8388608 (q - -22) (q - 1) = 8388608 := by
      unfold FP.Core.unitsDen
      rw [show (q - 1 - (q - -22)).toNat = 0 by omega]
    rw [hu, hd]
    have hn : FP.Core.nearest (c * 8388608) 8388608 = c := by
      unfold FP.Core.nearest
      rw [Nat.mul_mod_left, if_pos (by omega), Nat.mul_div_cancel _ (by omega)]
    rw [hn]
    unfold FP.Core.settle FP.Core.bound
    rw [fB_p, fB_qmax, if_pos (by simp; omega), if_pos (by omega)]
    rfl
  rw [fdiv_of (dno (by omega) h2) dec2, hc, hq, key]
  have hg : gd c (q - 1) := ⟨by omega, by omega, by omega, Or.inl (by omega)⟩
  have he : FP.Core.encode fB (.fin false c (q - 1)) = n - 8388608 := by
    unfold FP.Core.encode FP.Core.assemble
    simp only
    rw [fB_tails, fB_exps, fB_qmin, if_neg (by omega)]
    simp only [Bool.toNat_false]
    omega
  exact ⟨by rw [he], vf_fin hg⟩
end
section
/-! FLOATS, part 4 -/
theorem ofInt_nI (k : Nat) : Int32.ofInt (k : Int) = nI k := rfl
theorem dec23 : FP.Core.decode fB (FP.i2f (nI 8388608)).toNat = .fin false 8388608 0 := by decide +kernel
/-- the fraction's bits -/
theorem fb3 {n : Nat} (h1 : 1065353216 ≤ n) (h2 : n < 1073741824) : FP.f2i (FP.fmul (UInt32.ofNat n) (FP.i2f (nI 8388608))) = nI (n - 1056964608) ∧ vf_n32 (FP.fmul (UInt32.ofNat n) (FP.i2f (nI 8388608))) := by
  obtain ⟨c, hc⟩ : ∃ c, 8388608 + n % 8388608 = c := ⟨_, rfl⟩
  have e : FP.fmul (UInt32.ofNat n) (FP.i2f (nI 8388608)) = UInt32.ofNat (FP.Core.encode fB (FP.Core.round fB (FP.Core.exactProduct (.fin false c (-23)) (.fin false 8388608 0)))) := by
    show UInt32.ofNat (FP.Core.encode fB (FP.Core.round fB (FP.Core.exactProduct (FP.Core.decode fB (UInt32.ofNat n).toNat) (FP.Core.decode fB (FP.i2f (nI 8388608)).toNat)))) = _
    rw [u32_of (by omega), dec23, dn h1 (by omega), hc, show (-149 + ((n / 8388608 : Nat) - 1 : Int)) = -23 by omega]
  have hg0 : gd c 0 := ⟨by omega, by decide, by decide, Or.inl (by omega)⟩
  have key : FP.Core.round fB (FP.Core.exactProduct (.fin false c (-23)) (.fin false 8388608 0)) = .fin false c 0 := by
    unfold FP.Core.exactProduct FP.Core.round
    simp only
    have hm : mg (c * 8388608) (-23 + 0) = mg c 0 := by
      unfold mg
      rw [Nat.mul_assoc, show (-23 + 0 + 400 : Int).toNat = 377 from rfl, show ((0 : Int) + 400).toNat = 400 from rfl, show (8388608 : Nat) = 2 ^ 23 from rfl, ← pw]
    obtain ⟨c', q', g1, g2, g3, g4⟩ := rr (s := (false != false)) (num := c * 8388608) (e := -23 + 0) (B := c) (r := 0) (by omega) (by decide) (by omega) (by decide) (by decide) (by rw [hm]; exact Nat.le_refl _)
    have g5 := g4 c 0 (by omega) (by decide) (by rw [hm]; exact Nat.le_refl _)
    have g6 : mg c' q' = mg c 0 := Nat.le_antisymm g3 g5
    rw [g1]
    obtain ⟨k1, k2, k3, k4⟩ := g2
    have hq' : q' = 0 := by
      unfold mg at g6
      have l1 : 2 ^ 423 ≤ c * 2 ^ ((0 : Int) + 400).toNat := by
        rw [show (423 : Nat) = 23 + ((0 : Int) + 400).toNat from rfl, pw]
        exact Nat.mul_le_mul_right _ (by omega)
      have l2 : c * 2 ^ ((0 : Int) + 400).toNat < 2 ^ 424 := by
        rw [show (424 : Nat) = 24 + ((0 : Int) + 400).toNat from rfl, pw]
        exact Nat.mul_lt_mul_of_pos_right (by omega) (Nat.two_pow_pos _)
      rw [← g6] at l1 l2
      have m1 : ¬ q' < 0 := fun h => by
        have : c' * 2 ^ (q' + 400).toNat < 2 ^ 423 := by
          refine Nat.lt_of_lt_of_le (Nat.mul_lt_mul_of_pos_right (show c' < 2 ^ 24 by omega) (Nat.two_pow_pos _)) ?_
          rw [← pw]
          exact pw_le (by omega)
        omega
      have m2 : ¬ 0 < q' := fun h => by
        have : 2 ^ 424 ≤ c' * 2 ^ (q' + 400).toNat := by
          refine Nat.le_trans (pw_le (show 424 ≤ 23 + (q' + 400).toNat by omega)) ?_
          rw [pw]
          exact Nat.mul_le_mul_right _ (by omega)
        omega
      omega
    subst hq'
    have : c' = c := by
      unfold mg at g6
      exact Nat.eq_of_mul_eq_mul_right (Nat.two_pow_pos _) g6
    rw [this]
    rfl
  rw [e, key]
  refine ⟨?_, vf_fin hg0⟩
  show FP.Core.toI (FP.Core.decode fB (UInt32.ofNat (FP.Core.encode fB (.fin false c 0))).toNat) = _
  rw [dec_enc hg0]
  unfold FP.Core.toI FP.Core.toInt FP.Core.truncate
  simp only [sg_f]
  have ec : c * 2 ^ (0 : Int).toNat / 2 ^ (-(0 : Int)).toNat = n - 1056964608 := by
    rw [show (0 : Int).toNat = 0 from rfl, show (-(0 : Int)).toNat = 0 from rfl, Nat.pow_zero, Nat.mul_one, Nat.div_one]
    omega
  rw [ec, show max (-2 ^ 31 : Int) (min (2 ^ 31 - 1) ((n - 1056964608 : Nat) : Int)) = ((n - 1056964608 : Nat) : Int) by omega]
  exact ofInt_nI _
/-- no pitch is a NaN: the JDK's own question -/
theorem fb_self {pt : UInt32} (h : pOK pt) : Op.cmpValue (FP.fcmp pt pt) CmpOp.l = 0 := by
  have e : FP.fcmp pt pt = FP.Core.order (FP.Core.decode fB pt.toNat) (FP.Core.decode fB pt.toNat) := rfl
  rw [e, dn h.1 h.2]
  unfold FP.Core.order
  simp only
  rw [cmp_eq]
  rfl
theorem bits_nI (pt : UInt32) : pt.toInt32 = nI pt.toNat := by
  apply Int32.toBitVec_inj.mp
  show pt.toBitVec = BitVec.ofNat 32 pt.toNat
  exact BitVec.eq_of_toNat_eq (by rw [BitVec.toNat_ofNat]; exact (Nat.mod_eq_of_lt pt.toNat_lt).symm)
end
section
/-! pure facts for 05.machine.lean.txt -/
def gtA (x c1 : Int32) : Int32 := if x = nI 0 then c1 + nI 1 else c1
def gtB (x c2 : Int32) : Int32 := if x = nI 0 then c2 else if x = (-1) then c2 else c2 + nI 1
theorem follow_hi {s c g v : Int32} (h : ¬ (if s - c < nI 0 then nI 0 else s - c) ≤ (if g < s + c then g else s + c)) : g = follow s c g v := by
  rw [nI_0] at h
  unfold follow
  simp only
  rw [if_pos (Int32.not_le.mp h)]
theorem follow_lo {s c g v : Int32} (h : (if s - c < nI 0 then nI 0 else s - c) ≤ (if g < s + c then g else s + c)) :
    (if (if s - c < nI 0 then nI 0 else s - c) < (if v < (if g < s + c then g else s + c) then v else (if g < s + c then g else s + c)) then (if v < (if g < s + c then g else s + c) then v else (if g < s + c then g else s + c)) else (if s - c < nI 0 then nI 0 else s - c)) = follow s c g v := by
  rw [nI_0] at h ⊢
  unfold follow
  simp only
  rw [if_neg (Int32.not_lt.mpr h)]
  generalize (if s - c < 0 then 0 else s - c) = lo at *
  generalize (if g < s + c then g else s + c) = hi at *
  repeat' split
  all_goals first
    | rfl
    | (apply Int32.toInt_inj.mp
       simp only [Int32.lt_iff_toInt_lt, Int32.le_iff_toInt_le] at *
       omega)
theorem fd_next {κ lm sv : Nat → Int32} {pt : UInt32} {n i tr lb sc : Nat} {R : Nat × Nat × Nat × Nat × Nat} (hi : i < n) (h : fdS κ lm sv pt (n - i) i tr lb sc = R) :
    (fdE sv pt (κ i) (lm i) (tr + nv (lm i)) = 0 ∧ fdS κ lm sv pt (n - (i + 1)) (i + 1) (tr + nv (lm i)) (cyL (κ i) lb) (cyS (κ i) sc) = R) ∨ (fdE sv pt (κ i) (lm i) (tr + nv (lm i)) ≠ 0 ∧ (i + 1, tr + nv (lm i), cyL (κ i) lb, cyS (κ i) sc, fdE sv pt (κ i) (lm i) (tr + nv (lm i))) = R) := by
  obtain ⟨m, hm⟩ : ∃ m, n - i = m + 1 := ⟨n - i - 1, by omega⟩
  rw [hm] at h
  rw [show n - (i + 1) = m by omega]
  unfold fdS at h
  by_cases q : fdE sv pt (κ i) (lm i) (tr + nv (lm i)) = 0
  · rw [if_pos q] at h
    exact Or.inl ⟨q, h⟩
  · rw [if_neg q] at h
    exact Or.inr ⟨q, h⟩
theorem fd_end {κ lm sv : Nat → Int32} {pt : UInt32} {n i tr lb sc : Nat} {R : Nat × Nat × Nat × Nat × Nat} (hi : n ≤ i) (h : fdS κ lm sv pt (n - i) i tr lb sc = R) : (i, tr, lb, sc, 3) = R := by
  rw [show n - i = 0 by omega] at h
  exact h
theorem fd_5 {a b c d e a' b' c' d' e' : Nat} (h : (a, b, c, d, e) = (a', b', c', d', e')) : a = a' ∧ b = b' ∧ c = c' ∧ d = d' ∧ e = e' := by
  cases h
  exact ⟨rfl, rfl, rfl, rfl, rfl⟩
end
section
/-! THE STATE of an applicator as one value, a cycle over it, and how the class's cells and the model's row hold it -/
/-- items on the web, their kinds, their lengths, the settings, the speed, the stations, the ring, the counters (came, delivered, diverted, applied, rejected, splices, late, faults in a row, stopped), by reasons, the latest cycle, the pitch -/
abbrev Sg : Type := Nat × (Nat → Int32) × (Nat → Int32) × (Nat → Int32) × Int32 × Nat × (Nat → Int32) × (Nat → Int32) × (Nat → Int32) × (Nat → Int32) × UInt32
def gN (z : Sg) : Nat := z.1
def gK (z : Sg) : Nat → Int32 := z.2.1
def gL (z : Sg) : Nat → Int32 := z.2.2.1
def gS (z : Sg) : Nat → Int32 := z.2.2.2.1
def gV (z : Sg) : Int32 := z.2.2.2.2.1
def gT (z : Sg) : Nat := z.2.2.2.2.2.1
def gR (z : Sg) : Nat → Int32 := z.2.2.2.2.2.2.1
def gC (z : Sg) : Nat → Int32 := z.2.2.2.2.2.2.2.1
def gB (z : Sg) : Nat → Int32 := z.2.2.2.2.2.2.2.2.1
def gA (z : Sg) : Nat → Int32 := z.2.2.2.2.2.2.2.2.2.1
def gP (z : Sg) : UInt32 := z.2.2.2.2.2.2.2.2.2.2
def lf (l : List Int32) (j : Nat) : Int32 := l.getD j 0
def OKs (z : Sg) : Prop := gN z ≤ 80 ∧ (∀ i, i < gN z → lnOK (gL z i)) ∧ (∀ j, j < 8 → ∃ k, st_lo j ≤ k ∧ k ≤ st_hi j ∧ gS z j = nI k) ∧ (∃ k, k ≤ 1000 ∧ gV z = nI k) ∧ (1 ≤ gT z ∧ gT z ≤ 10) ∧ (∀ j, j < 10 → gR z j = (-1) ∨ ∃ k, k ≤ 7 ∧ gR z j = nI k) ∧ (∀ j, gT z ≤ j → j < 10 → gR z j = (-1)) ∧ (gC z 8 = nI 0 ∨ gC z 8 = nI 1) ∧ pOK (gP z)
def rC (z : Sg) (fr en : Nat) (fk fl sv : Nat → Int32) (st : Nat) (rg rs : Nat → Int32) (pt : UInt32) (sc cy : Nat → Int32) : Prop :=
  OKs z ∧ (fr ≤ en ∧ en ≤ 80 ∧ gN z = en - fr) ∧ (∀ i, i < gN z → fk (fr + i) = gK z i ∧ fl (fr + i) = gL z i) ∧ (∀ j, j < 8 → sv j = gS z j) ∧ st = gT z ∧ (∀ j, j < 10 → rg j = gR z j) ∧ (∀ j, j < 8 → rs j = gB z j) ∧ pt = gP z ∧ (sc 0 = gV z ∧ sc 1 = gC z 7 ∧ sc 2 = gC z 8 ∧ ∀ j, j < 7 → sc (3 + j) = gC z j) ∧ (∀ j, j < 6 → gA z j = if cy 4 = nI 0 then (-1) else cyN (cy 0) (cy 1) (cy 6) (cy 5) (cy 3) (cy 4) j) ∧ (cy 7 = nI 0 ∨ cy 7 = nI 1)
def rM (z : Sg) (ar : Nat → Int32) (pt : UInt32) : Prop :=
  OKs z ∧ ar 0 = nI (gN z) ∧ (∀ i, i < gN z → ar (1 + i) = gK z i ∧ ar (81 + i) = gL z i) ∧ (∀ j, j < 8 → ar (161 + j) = gS z j) ∧ ar 169 = gV z ∧ ar 170 = nI (gT z) ∧ (∀ j, j < 10 → ar (171 + j) = gR z j) ∧ (∀ j, j < 9 → ar (181 + j) = gC z j) ∧ (∀ j, j < 8 → ar (190 + j) = gB z j) ∧ (∀ j, j < 6 → ar (198 + j) = gA z j) ∧ pt = gP z
/-! a cycle -/
def cyF (z : Sg) : Nat × Nat × Nat × Nat × Nat := fdS (gK z) (gL z) (gS z) (gP z) (gN z) 0 0 0 0
def cTk (z : Sg) : Nat := (cyF z).1
def cTr (z : Sg) : Nat := (cyF z).2.1
def cLb (z : Sg) : Nat := (cyF z).2.2.1
def cSc (z : Sg) : Nat := (cyF z).2.2.2.1
def cEd (z : Sg) : Nat := (cyF z).2.2.2.2
def cSp (z : Sg) (v : Int32) : Int32 := follow (gV z) (gS z 4) (gS z 3) v
def cBl (z : Sg) : Nat := if (cEd z = 1 ∧ ¬ fqL (gP z) (gS z 1) (cTr z) ≤ 0) then 1 else 0
def cRs (z : Sg) (v : Int32) : Nat := rsS (cEd z) (cSc z) (cLb z) (cBl z ≠ 0) (cSp z v) v (gS z 5)
def cRw (z : Sg) (v : Int32) : Int32 := if isFl (cRs z v) = true then gC z 7 + nI 1 else nI 0
def cPt (z : Sg) (v : Int32) : UInt32 := if cRs z v = 0 then lrP (gP z) (cTr z) (gS z 6) else gP z
def cyc (z : Sg) (v : Int32) : Sg :=
  (gN z - cTk z, fun i => gK z (i + cTk z), fun i => gL z (i + cTk z), gS z, cSp z v, gT z, rgS (gR z) (gT z) (nI (cRs z v)),
   lf [gC z 0 + nI 1, gtA (gR z (gT z - 1)) (gC z 1), gtB (gR z (gT z - 1)) (gC z 2), if cRs z v = 0 then gC z 3 + nI 1 else gC z 3, if cRs z v = 0 then gC z 4 else gC z 4 + nI (cLb z), if 0 < cSc z then gC z 5 + nI 1 else gC z 5, if cBl z = 0 then gC z 6 else gC z 6 + nI 1, cRw z v, if cRw z v < gS z 7 then gC z 8 else nI 1],
   upd (gB z) (cRs z v) (gB z (cRs z v) + nI 1), lf [nI (cTr z), nI (cLb z), nI (cRs z v), cSp z v, nI (cTk z), nI (cEd z)], cPt z v)
theorem set_nat {z : Sg} (h : OKs z) (j : Nat) (hj : j < 8) : ∃ k, st_lo j ≤ k ∧ k ≤ st_hi j ∧ gS z j = nI k := h.2.2.1 j hj
/-- the feed's numbers -/
theorem cy_inv {z : Sg} (h : OKs z) : cyF z = (cTk z, cTr z, cLb z, cSc z, cEd z) ∧ cTk z ≤ gN z ∧ cTr z ≤ 499 ∧ cLb z ≤ 80 ∧ cSc z ≤ 80 ∧ 1 ≤ cEd z ∧ cEd z ≤ 3 ∧ (cEd z = 1 → 1 ≤ cLb z → 2 ≤ cTr z) := by
  obtain ⟨G, -, hG, hg⟩ := set_nat h 2 (by decide)
  obtain ⟨tk, tr, lb, sc, ed, e0, e1, e2, e3, e4, e5, e6, e7, e8, e9⟩ := fdS_inv (κ := gK z) (lm := gL z) (pt := gP z) hg (by simpa [st_hi] using hG) (gN z) 0 0 0 0 (fun j _ hj => h.2.1 j (by omega)) (by omega) (by omega) (by omega) (by omega)
  have e : cyF z = (tk, tr, lb, sc, ed) := e0
  unfold cTk cTr cLb cSc cEd
  rw [e]
  have := h.1
  exact ⟨rfl, by simp only; omega, e4, by simp only; omega, by simp only; omega, e7, e8, e9⟩
theorem follow_ok {a b g v : Nat} (ha : a ≤ 1000) (hb : b ≤ 1000) (hg : g ≤ 1000) (hv : v ≤ 1000) : ∃ k, k ≤ 1000 ∧ follow (nI a) (nI b) (nI g) (nI v) = nI k := by
  have low : ∃ lo, lo ≤ 1000 ∧ (if nI a - nI b < 0 then (0 : Int32) else nI a - nI b) = nI lo := by
    by_cases h : b ≤ a
    · rw [pk_sub h, if_neg (nI_pos (by omega))]
      exact ⟨_, by omega, rfl⟩
    · rw [if_pos (pk_sneg (by omega) (by omega))]
      exact ⟨0, by omega, nI_0.symm⟩
  have high : ∃ hi, hi ≤ 1000 ∧ (if nI g < nI a + nI b then nI g else nI a + nI b) = nI hi := by
    rw [nI_add]
    by_cases h : g < a + b
    · rw [if_pos ((nI_ltI (by omega) (by omega)).mpr h)]
      exact ⟨g, hg, rfl⟩
    · rw [if_neg (fun q => h ((nI_ltI (by omega) (by omega)).mp q))]
      exact ⟨a + b, by omega, rfl⟩
  obtain ⟨lo, l1, l2⟩ := low
  obtain ⟨hi, h1, h2⟩ := high
  unfold follow
  simp only
  rw [l2, h2]
  split
  · exact ⟨g, hg, rfl⟩
  · split
    · exact ⟨lo, l1, rfl⟩
    · split
      · exact ⟨hi, h1, rfl⟩
      · exact ⟨v, hv, rfl⟩
theorem cSp_ok {z : Sg} (h : OKs z) {v : Nat} (hv : v ≤ 1000) : ∃ k, k ≤ 1000 ∧ cSp z (nI v) = nI k := by
  obtain ⟨a, ha, ea⟩ := h.2.2.2.1
  obtain ⟨b, -, hb, eb⟩ := set_nat h 4 (by decide)
  obtain ⟨g, -, hg, eg⟩ := set_nat h 3 (by decide)
  unfold cSp
  rw [ea, eb, eg]
  exact follow_ok ha (by simpa [st_hi] using hb) (by simpa [st_hi] using hg) hv
theorem cRs_le (z : Sg) (v : Int32) : cRs z v ≤ 7 := rsS_le _ _ _ _ _ _ _
/-- a good product: marked, one label -/
theorem cRs_0 {z : Sg} {v : Int32} (h : OKs z) (h0 : cRs z v = 0) : cEd z = 1 ∧ cLb z = 1 := by
  obtain ⟨-, -, -, -, -, e1, e2, -⟩ := cy_inv h
  unfold cRs rsS at h0
  by_cases a1 : cEd z = 3
  · rw [if_pos a1] at h0; omega
  · rw [if_neg a1] at h0
    by_cases a2 : cEd z = 2
    · rw [if_pos a2] at h0; omega
    · rw [if_neg a2] at h0
      by_cases a3 : 0 < cSc z
      · rw [if_pos a3] at h0; omega
      · rw [if_neg a3] at h0
        by_cases a4 : cLb z = 0
        · rw [if_pos a4] at h0; omega
        · rw [if_neg a4] at h0
          by_cases a5 : 1 < cLb z
          · rw [if_pos a5] at h0; omega
          · exact ⟨by omega, by omega⟩
/-- the arithmetic of a good product makes no NaN, and a pitch again -/
theorem cy_fl {z : Sg} {v : Int32} (h : OKs z) (h0 : cRs z v = 0) : vf_n32 (FP.fdiv (FP.i2f (gS z 6)) 1090519040) ∧ vf_n32 (FP.fsub (FP.i2f (nI (cTr z))) (gP z)) ∧ vf_n32 (FP.fmul (FP.fsub (FP.i2f (nI (cTr z))) (gP z)) (FP.fdiv (FP.i2f (gS z 6)) 1090519040)) ∧ vf_n32 (lrP (gP z) (cTr z) (gS z 6)) ∧ pOK (lrP (gP z) (cTr z) (gS z 6)) := by
  obtain ⟨-, -, e3, -, -, -, -, e8⟩ := cy_inv h
  obtain ⟨a1, a2⟩ := cRs_0 h h0
  obtain ⟨g, -, hg, eg⟩ := set_nat h 6 (by decide)
  rw [eg]
  exact fl_learn h.2.2.2.2.2.2.2.2 (e8 a1 (by omega)) e3 (by simpa [st_hi] using hg)
theorem cy_win {z : Sg} (h : OKs z) : vf_n32 (FP.fsub (gP z) (FP.i2f (gS z 1))) ∧ vf_n32 (FP.fadd (gP z) (FP.i2f (gS z 1))) := by
  obtain ⟨g, -, hg, eg⟩ := set_nat h 1 (by decide)
  rw [eg]
  exact fl_win h.2.2.2.2.2.2.2.2 (by simpa [st_hi] using hg)
theorem cPt_ok {z : Sg} {v : Int32} (h : OKs z) : pOK (cPt z v) := by
  unfold cPt
  by_cases h0 : cRs z v = 0
  · rw [if_pos h0]
    exact (cy_fl h h0).2.2.2.2
  · rw [if_neg h0]
    exact h.2.2.2.2.2.2.2.2
theorem cyc_OK {z : Sg} (h : OKs z) {v : Nat} (hv : v ≤ 1000) : OKs (cyc z (nI v)) := by
  obtain ⟨-, e2, -⟩ := cy_inv h
  obtain ⟨h1, h2, h3, h4, h5, h6, h7, h8, h9⟩ := id h
  refine ⟨?_, ?_, h3, cSp_ok h hv, h5, ?_, ?_, ?_, cPt_ok h⟩
  · show gN z - cTk z ≤ 80
    omega
  · intro i hi
    have hi : i < gN z - cTk z := hi
    exact h2 (i + cTk z) (by omega)
  · intro j hj
    show rgS (gR z) (gT z) (nI (cRs z (nI v))) j = (-1) ∨ ∃ k, k ≤ 7 ∧ rgS (gR z) (gT z) (nI (cRs z (nI v))) j = nI k
    unfold rgS
    split
    · split
      · exact Or.inr ⟨_, cRs_le _ _, rfl⟩
      · exact h6 (j - 1) (by omega)
    · exact h6 j hj
  · intro j hj1 hj2
    have hj1 : gT z ≤ j := hj1
    show rgS (gR z) (gT z) (nI (cRs z (nI v))) j = (-1)
    unfold rgS
    rw [if_neg (by omega)]
    exact h7 j hj1 hj2
  · show (if cRw z (nI v) < gS z 7 then gC z 8 else nI 1) = nI 0 ∨ (if cRw z (nI v) < gS z 7 then gC z 8 else nI 1) = nI 1
    split
    · exact h8
    · exact Or.inr rfl
/-- the absolute value, asked as the class asks it -/
theorem abs_ok {s v t : Nat} (hs : s ≤ 1000) (hv : v ≤ 1000) (ht : t ≤ 1000) : nI t < (if 0 ≤ nI s - nI v then nI s - nI v else 0 - (nI s - nI v)) ↔ nI t < nI s - nI v ∨ nI t < -(nI s - nI v) := by
  have e1 : (nI s - nI v).toInt = (s : Int) - v := pk_sub_toInt (by omega) (by omega)
  have e2 : (0 - (nI s - nI v)).toInt = (v : Int) - s := by
    rw [Int32.toInt_sub, e1, Int32.toInt_zero, Int.bmod_eq_of_le (by omega) (by omega)]
    omega
  have e3 : -(nI s - nI v) = 0 - (nI s - nI v) := (Int32.zero_sub _).symm
  have e4 : (nI t).toInt = t := nI_toInt (by omega)
  rw [e3]
  simp only [Int32.lt_iff_toInt_lt, Int32.le_iff_toInt_le]
  by_cases h : (0 : Int32).toInt ≤ (nI s - nI v).toInt
  · rw [if_pos h, e1, e2, e4]
    rw [e1, Int32.toInt_zero] at h
    omega
  · rw [if_neg h, e1, e2, e4]
    rw [e1, Int32.toInt_zero] at h
    omega
end
