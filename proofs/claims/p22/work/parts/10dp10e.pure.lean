/-! pure facts for 10e.class.lean.txt -/
theorem coA_n {z : Sg} {tl : Int32} {i : Nat} (h : i < 32) : coA z tl (nI i) = nuS z tl i := by
  rw [coA, inB_t ((inR_iff (by decide) (by decide) (by omega)).mpr ⟨Nat.zero_le i, by omega⟩), if_pos rfl, nv_nI (by omega)]
theorem stnA_n {z : Sg} {i : Nat} (hT : gT z ≤ 10) (h : i < gT z) : stnA z (nI i) = gR z i := by
  rw [stnA, inB_t ((inR_iff (by omega) (Nat.zero_le _) (by omega)).mpr ⟨Nat.zero_le i, by omega⟩), if_pos rfl, nv_nI (by omega)]
theorem latA_n {z : Sg} {i : Nat} (h : i < 6) : latA z (nI i) = gA z i := by
  rw [latA, inB_t ((inR_iff (by decide) (by decide) (by omega)).mpr ⟨Nat.zero_le i, by omega⟩), if_pos rfl, nv_nI (by omega)]
theorem hsh_s {f : Nat → Int32} {b hv : Int64} {n : Nat} {x : Int32} (h : hv = hsh f b n) (hx : x = f n) : (31 : Int64) * hv + x.toInt64 = hsh f b (n + 1) := by rw [hsh, h, hx]
theorem it_3 {z : Sg} {a b : Nat} (h : b < 3) : itA z (nI a) (nI b) = (fun i => itA z (nI (i / 3)) (nI (i % 3))) (3 * a + b) := by
  show itA z (nI a) (nI b) = itA z (nI ((3 * a + b) / 3)) (nI ((3 * a + b) % 3))
  rw [show (3 * a + b) / 3 = a by omega, show (3 * a + b) % 3 = b by omega]
def dg1 (z : Sg) (tl : Int32) : Int64 := hsh (fun i => nuS z tl i) 743 32
def dg2 (z : Sg) (tl : Int32) : Int64 := hsh (fun i => itA z (nI (i / 3)) (nI (i % 3))) (dg1 z tl) (3 * gN z)
def dg3 (z : Sg) (tl : Int32) : Int64 := (31 : Int64) * dg2 z tl + (UInt32.toInt32 (gP z)).toInt64
def dg4 (z : Sg) (tl : Int32) : Int64 := hsh (gR z) (dg3 z tl) (gT z)
def dg5 (z : Sg) (tl : Int32) : Int64 := hsh (gA z) (dg4 z tl) 6
def dg6 (z : Sg) (tl : Int32) : Int64 := hsh (fun i => foA z (nI 20) (nI 300) (nI i)) (dg5 z tl) 4
def dgA (z : Sg) (tq : Nat) (tx : Nat → Int32) : Int64 := hsh tx (dg6 z (nI tq)) tq
