/-! OWN: numbers that the law draws -/
def lo31 (x : Int32) : Nat := (x.toBitVec &&& 2147483647#32).toNat
theorem lo31_lt (x : Int32) : lo31 x < 2147483648 := by
  unfold lo31; rw [BitVec.toNat_and]; exact Nat.lt_of_le_of_lt Nat.and_le_right (by decide)
theorem lo31_eq (x : Int32) : x &&& 2147483647 = nI (lo31 x) := by
  apply Int32.toBitVec.inj
  show x.toBitVec &&& 2147483647#32 = BitVec.ofNat 32 _
  unfold lo31
  rw [BitVec.ofNat_toNat, BitVec.setWidth_eq]
/-- x, without its sign, by n -/
def ptv (x : Int32) (n : Nat) : Nat := lo31 x % n
def fr (k : Nat) (lo hi : Int) : Int := if k = 0 then lo - 1 else if k = 1 then hi + 1 else if k = 2 then -2147483648 else 2147483647
theorem fr_out (k : Nat) {lo hi : Int} (h1 : -2147483648 < lo) (h2 : hi < 2147483647) (h : lo ≤ hi + 1) : ¬ (lo ≤ fr k lo hi ∧ fr k lo hi ≤ hi) := by
  unfold fr; (repeat' split) <;> omega
theorem fr_b (k : Nat) {lo hi : Int} (h1 : -2147483648 < lo) (h2 : hi < 2147483647) (h : lo ≤ hi + 1) : -2147483648 ≤ fr k lo hi ∧ fr k lo hi < 2147483648 := by
  unfold fr; (repeat' split) <;> omega
