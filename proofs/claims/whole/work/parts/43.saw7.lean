/-! many bolts shortened; the bolts' cells by number -/
def boltAt (cy : Nat → ClassId) (ad : Nat → Nat) (E : Nat → va_E) (b : Nat) (sp : Int32) (L : List (Nat × Nat)) : Prop := ∃ f g, E (2000 + b) = cellB (ad (3000 + b)) (ad (4000 + b)) sp (nI L.length) ∧ E (3000 + b) = rowI cy 4 f ∧ E (4000 + b) = rowI cy 4 g ∧ arrP f g 0 L
def shD (cy : Nat → ClassId) (ad : Nat → Nat) (bn : Nat → Nat) (sp : Nat → Int32) (CL : Nat → List (Nat × Nat)) (q : Nat) (E : Nat → va_E) : Prop := ∀ p, p < q → boltAt cy ad E (bn p) (sp p) (dropP (CL p))
def shO (bn : Nat → Nat) (q : Nat) (E Ec : Nat → va_E) : Prop := ∀ k, (∀ p, p < q → k ≠ 2000 + bn p ∧ k ≠ 3000 + bn p ∧ k ≠ 4000 + bn p) → Ec k = E k
theorem boltAt_congr {cy : Nat → ClassId} {ad : Nat → Nat} {E E' : Nat → va_E} {b : Nat} {sp : Int32} {L : List (Nat × Nat)} (h : boltAt cy ad E b sp L) (h1 : E' (2000 + b) = E (2000 + b)) (h2 : E' (3000 + b) = E (3000 + b)) (h3 : E' (4000 + b) = E (4000 + b)) : boltAt cy ad E' b sp L := by
  obtain ⟨f, g, a1, a2, a3, a4⟩ := h
  exact ⟨f, g, h1.trans a1, h2.trans a2, h3.trans a3, a4⟩
theorem sh_step {cy : Nat → ClassId} {ad : Nat → Nat} {bn : Nat → Nat} {sp : Nat → Int32} {CL : Nat → List (Nat × Nat)} {q n : Nat} {E Ec E2 : Nat → va_E} (hbn : ∀ p, p < n → bn p < 40) (hmo : ∀ p r, p < r → r < n → bn p < bn r) (hq : q < n) (hd : shD cy ad bn sp CL q Ec) (ho : shO bn q E Ec)
    (hO : ∀ j, j ≠ 2000 + bn q → j ≠ 3000 + bn q → j ≠ 4000 + bn q → E2 j = Ec j) (hB : boltAt cy ad E2 (bn q) (sp q) (dropP (CL q))) : shD cy ad bn sp CL (q + 1) E2 ∧ shO bn (q + 1) E E2 := by
  refine ⟨fun p hp => ?_, fun k hk => ?_⟩
  · by_cases e : p = q
    · subst e; exact hB
    · have h1 := hmo p q (by omega) hq
      have h2 := hbn q hq
      exact boltAt_congr (hd p (by omega)) (hO _ (by omega) (by omega) (by omega)) (hO _ (by omega) (by omega) (by omega)) (hO _ (by omega) (by omega) (by omega))
  · have h1 := hk q (by omega)
    rw [hO k h1.1 h1.2.1 h1.2.2]
    exact ho k (fun p hp => hk p (by omega))
def offN (LL : Nat → List (Nat × Nat)) : Nat → Nat
  | 0 => 0
  | p + 1 => offN LL p + (LL p).length
theorem offN_mono (LL : Nat → List (Nat × Nat)) {p : Nat} : ∀ q, p ≤ q → offN LL p ≤ offN LL q
  | 0, h => by rw [show p = 0 by omega]; exact Nat.le_refl _
  | q + 1, h => by
    by_cases e : p = q + 1
    · rw [e]; exact Nat.le_refl _
    · have := offN_mono LL (p := p) q (by omega)
      rw [offN]; omega
theorem zero_row {g : Nat → Int32} {i : Nat} {v : Nat → Nat} (h : ∀ j, j < i → g j = nI (v j)) {x : Int32} (hx : x = nI (v i)) : ∀ j, j < i + 1 → upd g i x j = nI (v j) := by
  intro j hj
  by_cases e : j = i
  · subst e; rw [upd_s]; exact hx
  · rw [upd_n e]; exact h j (by omega)
theorem two_row {g : Nat → Int32} {i : Nat} {v : Nat → Nat} {y : Int32} (h : ∀ j, j < i → g j = nI (v j)) {x : Int32} (hx : x = nI (v i)) : ∀ j, j < i + 1 → upd (upd g i y) i x j = nI (v j) := by
  intro j hj
  by_cases e : j = i
  · subst e; rw [upd_s]; exact hx
  · rw [upd_n e, upd_n e]; exact h j (by omega)
theorem frm_row {g : Nat → Int32} {i n : Nat} {o : Nat → Nat} (h : ∀ j, j < n → g j = nI (frm o i j)) : ∀ j, j < n → upd g i (bI False) j = nI (frm o (i + 1) j) := by
  intro j hj
  by_cases e : j = i
  · subst e; rw [upd_s, frm, if_pos (by omega)]; rfl
  · rw [upd_n e, h j hj, frm, frm]
    by_cases q : j < i
    · rw [if_pos q, if_pos (by omega)]
    · rw [if_neg q, if_neg (by omega)]
theorem frm_row0 {g : Nat → Int32} {i n : Nat} {o : Nat → Nat} (h : ∀ j, j < n → g j = nI (frm o i j)) (h0 : o i = 0) : ∀ j, j < n → g j = nI (frm o (i + 1) j) := by
  intro j hj
  rw [h j hj, frm, frm]
  by_cases q : j < i
  · rw [if_pos q, if_pos (by omega)]
  · rw [if_neg q]
    by_cases e : j = i
    · subst e; rw [if_pos (by omega), h0]
    · rw [if_neg (by omega)]
theorem frm_le {o : Nat → Nat} (h : ∀ i, o i ≤ 1) (i j : Nat) : frm o i j ≤ 1 := by
  unfold frm; split
  · omega
  · exact h j
theorem bitO_le (P : List (Nat × Nat × Nat)) (x i : Nat) : bitO P x i ≤ 1 := by unfold bitO; split <;> omega
theorem mul_0 {j n : Nat} (h : j * n = 0) (hn : 0 < n) : j = 0 := by
  rcases Nat.mul_eq_zero.mp h with e | e
  · exact e
  · omega
theorem set_bd {j n : Nat} (h8 : n ≤ 8) (hj : j < 2 ^ n) : j * 2 ^ (8 - n) + 2 ^ (8 - n) ≤ 256 := by
  have h1 : (j + 1) * 2 ^ (8 - n) ≤ 2 ^ n * 2 ^ (8 - n) := Nat.mul_le_mul_right _ hj
  rw [pow_split h8, Nat.add_mul, Nat.one_mul] at h1
  exact h1
theorem set_top {n : Nat} (h8 : n ≤ 8) : 256 - 2 ^ (8 - n) = (2 ^ n - 1) * 2 ^ (8 - n) := by
  rw [Nat.sub_mul, pow_split h8, Nat.one_mul]
