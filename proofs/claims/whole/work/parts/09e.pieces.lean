/-! wide and narrow pieces -/
theorem girth_mid {h g e : Nat} (hh : h % 2 = 0) : girthN h g e (h / 2) = g := by
  have : dN h (h / 2) = 0 := by unfold dN; split <;> omega
  unfold girthN; rw [this]; simp
theorem div_add_ge {a b n : Nat} (hn : 0 < n) : a / n + b / n ≤ (a + b) / n := by
  rw [Nat.le_div_iff_mul_le hn, Nat.add_mul]
  exact Nat.add_le_add (Nat.div_mul_le_self a n) (Nat.div_mul_le_self b n)
theorem div_add_le {a b n : Nat} (hn : 0 < n) : (a + b) / n ≤ a / n + b / n + 1 := by
  have h1 := Nat.div_add_mod a n
  have h2 := Nat.div_add_mod b n
  have h3 := Nat.mod_lt a hn
  have h4 := Nat.mod_lt b hn
  have : (a + b) / n < a / n + b / n + 2 := by
    rw [Nat.div_lt_iff_lt_mul hn, Nat.add_mul, Nat.add_mul]
    rw [Nat.mul_comm (a / n), Nat.mul_comm (b / n)]; omega
  omega
theorem width_ge {n k g : Nat} (hn : 0 < n) : g / n ≤ widthN n k g := by
  have := div_add_ge (a := g * k) (b := g) hn
  unfold widthN; rw [Nat.mul_succ]
  revert this; generalize g * k / n = A; generalize (g * k + g) / n = C; generalize g / n = B; intro this; omega
theorem width_le {n k g : Nat} (hn : 0 < n) : widthN n k g ≤ g / n + 1 := by
  have := div_add_le (a := g * k) (b := g) hn
  unfold widthN; rw [Nat.mul_succ]
  revert this; generalize g * k / n = A; generalize (g * k + g) / n = C; generalize g / n = B; intro this; omega
theorem width_0 (n g : Nat) : widthN n 0 g = g / n := by unfold widthN; simp
theorem low_step {low w k q : Nat} (h : low = if k = 0 then 1000000 else q) (hw : q ≤ w) (h0 : k = 0 → w = q) (hq : q ≤ 1000000) : min low w = if k + 1 = 0 then 1000000 else q := by
  rw [if_neg (by omega)]
  by_cases e : k = 0
  · rw [if_pos e] at h; have := h0 e; omega
  · rw [if_neg e] at h; omega
theorem cnt_s {m k n g : Nat} (hn : 0 < n) (h : m + g * k / n = k + k * (g / n)) : (widthN n k g = g / n → (m + 1) + g * (k + 1) / n = (k + 1) + (k + 1) * (g / n)) ∧ (widthN n k g ≠ g / n → (m + 0) + g * (k + 1) / n = (k + 1) + (k + 1) * (g / n)) := by
  have h1 := width_ge (k := k) (g := g) hn
  have h2 := width_le (k := k) (g := g) hn
  have h3 : (k + 1) * (g / n) = k * (g / n) + g / n := Nat.succ_mul _ _
  have h4 : g * k / n ≤ g * (k + 1) / n := Nat.div_le_div_right (Nat.mul_le_mul_left _ (Nat.le_succ k))
  have h5 : widthN n k g = g * (k + 1) / n - g * k / n := rfl
  revert h h1 h2 h3 h4 h5
  generalize widthN n k g = W; generalize g * (k + 1) / n = C; generalize g * k / n = A; generalize (k + 1) * (g / n) = R; generalize k * (g / n) = P; generalize g / n = B
  intro h h1 h2 h3 h4 h5
  constructor <;> intro e <;> omega
theorem cnt_e {m n g : Nat} (hn : 0 < n) (h : m + g * n / n = n + n * (g / n)) : m = n - g % n ∧ n - m = g % n := by
  have h1 := Nat.div_add_mod g n
  have h2 := Nat.mod_lt g hn
  rw [Nat.mul_div_cancel _ hn] at h
  revert h h1 h2; generalize n * (g / n) = P; generalize g % n = r; intro h h1 h2; omega
