/-! sets of at most eight as bits -/
def popN (x : Nat) : Nat := x % 2 + x / 2 % 2 + x / 4 % 2 + x / 8 % 2 + x / 16 % 2 + x / 32 % 2 + x / 64 % 2 + x / 128 % 2
theorem popN_and : ∀ x : Fin 256, x.val ≠ 0 → popN (x.val &&& (x.val - 1)) + 1 = popN x.val ∧ (x.val &&& (x.val - 1)) < x.val := by decide +kernel
theorem popN_s {x : Nat} (h : x < 256) (h0 : x ≠ 0) : popN (x &&& (x - 1)) + 1 = popN x ∧ (x &&& (x - 1)) < x := popN_and ⟨x, h⟩ h0
theorem popN_le (x : Nat) : popN x ≤ 8 := by unfold popN; omega
def lowN (z : Nat) : Nat := z &&& (256 - z)
theorem n_and (a b : Nat) : nI a &&& nI b = nI (a &&& b) := by
  apply Int32.toBitVec_inj.mp
  show BitVec.ofNat 32 a &&& BitVec.ofNat 32 b = BitVec.ofNat 32 (a &&& b)
  simp [BitVec.ofNat_and]
theorem n_xor (a b : Nat) : nI a ^^^ nI b = nI (a ^^^ b) := by
  apply Int32.toBitVec_inj.mp
  show BitVec.ofNat 32 a ^^^ BitVec.ofNat 32 b = BitVec.ofNat 32 (a ^^^ b)
  simp [BitVec.ofNat_xor]
theorem low_d : ∀ z : Fin 256, nI z.val &&& -(nI z.val) = nI (lowN z.val) := by decide +kernel
theorem n_low {z : Nat} (h : z < 256) : nI z &&& -(nI z) = nI (lowN z) := low_d ⟨z, h⟩
abbrev aheadN (x y : Nat) : Prop := x &&& lowN (x ^^^ y) ≠ 0
theorem xor_lt {x y : Nat} (hx : x < 256) (hy : y < 256) : x ^^^ y < 256 := Nat.xor_lt_two_pow (n := 8) hx hy
theorem and_lt' {x y : Nat} (hx : x < 256) : x &&& y < 256 := Nat.lt_of_le_of_lt Nat.and_le_left hx
