theorem bit_lt {x k n : Nat} (hx : x < 2 ^ n) (h : x / 2 ^ k % 2 = 1) : k < n := by
  rcases Nat.lt_or_ge k n with q | q
  · exact q
  · have h1 : 2 ^ n ≤ 2 ^ k := Nat.pow_le_pow_right (by decide) q
    rw [Nat.div_eq_of_lt (by omega)] at h
    omega
theorem look_lt {Y : YT} {k : Nat} (h : k < (lookL Y).length) : lookK Y k < yB Y := by
  have e : (lookL Y)[k]? = some (lookK Y k) := by simp [lookK, List.getD, List.getElem?_eq_getElem h]
  exact (ripeL_lt (List.mem_of_mem_take (List.mem_of_getElem? e))).1
theorem look_row {g : Nat → Int32} {R : List Nat} {n b : Nat} (h : ∀ k, k < n → g k = nI (R.getD k 0)) (hn : n = R.length) : ∀ k, k < n + 1 → upd g n (nI b) k = nI ((R ++ [b]).getD k 0) := by
  intro k hk
  by_cases e : k = n
  · subst e; rw [upd_s, hn]; simp [List.getD]
  · rw [upd_n e, h k (by omega)]
    have : k < R.length := by omega
    simp [List.getD, List.getElem?_append_left this]
theorem takeS_mem {Y : YT} {K : Nat → Nat} {x : Nat} (hK : ∀ k, k < 8 → x / 2 ^ k % 2 = 1 → K k < yB Y) : ∀ k, k ≤ 8 → ∀ z ∈ takeS Y K x k, z.1 < yB Y ∧ z.2 < (yP Y z.1).length
  | 0, _, z, h => by simp [takeS] at h
  | k + 1, hk, z, h => by
    by_cases q : x / 2 ^ k % 2 = 1
    · rw [takeS_t q] at h
      rcases List.mem_append.mp h with h | h
      · exact takeS_mem hK k (by omega) z h
      · obtain ⟨i, hi, rfl⟩ := List.mem_map.mp h
        exact ⟨hK k (by omega) q, List.mem_range.mp hi⟩
    · rw [takeS_f q] at h; exact takeS_mem hK k (by omega) z h
