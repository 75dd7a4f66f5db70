/-! pure facts for 03.cycle.lean.txt -/
def cyL (k : Int32) (n : Nat) : Nat := if k = nI 0 then n + 1 else n
def cyS (k : Int32) (n : Nat) : Nat := if k = nI 3 then n + 1 else n
def cyN (t lb rs sd tk ed : Int32) (w : Nat) : Int32 := match w with
  | 0 => t | 1 => lb | 2 => rs | 3 => sd | 4 => tk | _ => ed
