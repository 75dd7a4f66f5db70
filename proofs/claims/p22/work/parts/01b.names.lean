theorem goodIn_1 {big : List Cond} {w : Cond} (i : Nat) (h : big[i]? = some w) (hg : goodWord w = true) : GoodIn big [w] := fun v hv => by
  rw [List.mem_singleton.mp hv]
  exact ⟨List.mem_of_getElem? h, good_of_word hg⟩
