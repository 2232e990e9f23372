/-! the parts of a set of bolts, in order -/
def rowS (n b : Nat) : List (Nat × Nat) := (List.range n).map (fun i => (b, i))
theorem rowS_s (n b : Nat) : rowS (n + 1) b = rowS n b ++ [(b, n)] := by simp [rowS, List.range_succ]
theorem rowS_len (n b : Nat) : (rowS n b).length = n := by simp [rowS]
def takeS (Y : YT) (K : Nat → Nat) (x : Nat) : Nat → List (Nat × Nat)
  | 0 => []
  | k + 1 => takeS Y K x k ++ (if x / 2 ^ k % 2 = 1 then rowS (yP Y (K k)).length (K k) else [])
theorem takeS_t {Y : YT} {K : Nat → Nat} {x k : Nat} (h : x / 2 ^ k % 2 = 1) : takeS Y K x (k + 1) = takeS Y K x k ++ rowS (yP Y (K k)).length (K k) := by rw [takeS, if_pos h]
theorem takeS_f {Y : YT} {K : Nat → Nat} {x k : Nat} (h : x / 2 ^ k % 2 ≠ 1) : takeS Y K x (k + 1) = takeS Y K x k := by rw [takeS, if_neg h, List.append_nil]
theorem takeS_len {Y : YT} {K : Nat → Nat} {x : Nat} (hK : ∀ k, k < 8 → x / 2 ^ k % 2 = 1 → (yP Y (K k)).length ≤ 4) : ∀ k, k ≤ 8 → (takeS Y K x k).length ≤ 4 * k
  | 0, _ => by simp [takeS]
  | k + 1, hk => by
    have h1 := takeS_len hK k (by omega)
    by_cases q : x / 2 ^ k % 2 = 1
    · have h2 := hK k (by omega) q
      rw [takeS_t q, List.length_append, rowS_len]; omega
    · rw [takeS_f q]; omega
