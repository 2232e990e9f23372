/-! plain numbers: girths and widths -/
def dN (h y : Nat) : Nat := if h ≤ 2 * y then 2 * y - h else h - 2 * y
theorem dN_le {h y : Nat} (hy : y ≤ h) : dN h y ≤ h := by unfold dN; split <;> omega
theorem dN_sq (h y : Nat) : (((2 * y : Nat) : Int) - (h : Int)) * (((2 * y : Nat) : Int) - (h : Int)) = ((dN h y * dN h y : Nat) : Int) := by
  unfold dN
  by_cases q : h ≤ 2 * y
  · have e : ((2 * y : Nat) : Int) - (h : Int) = ((2 * y - h : Nat) : Int) := by omega
    rw [if_pos q, e, ← Int.natCast_mul]
  · have e : ((2 * y : Nat) : Int) - (h : Int) = -((h - 2 * y : Nat) : Int) := by omega
    rw [if_neg q, e, Int.neg_mul_neg, ← Int.natCast_mul]
/-- GIRTH at y of a form of height h, bilge g, head e -/
def girthN (h g e y : Nat) : Nat := g - (g - e) * (dN h y * dN h y) / (h * h)
theorem girth_b1 {h g e y : Nat} (hg : g ≤ 2000) (h2 : h ≤ 200) (hy : y ≤ h) : (g - e) * (dN h y * dN h y) < 2147483648 := by
  have h1 := dN_le hy
  have h3 : dN h y * dN h y ≤ 200 * 200 := Nat.mul_le_mul (by omega) (by omega)
  have h4 : (g - e) * (dN h y * dN h y) ≤ 2000 * (200 * 200) := Nat.mul_le_mul (by omega) h3
  omega
theorem girth_b2 {h : Nat} (h1 : 10 ≤ h) (h2 : h ≤ 200) : 0 < h * h ∧ h * h < 2147483648 := by
  have h3 : h * h ≤ 200 * 200 := Nat.mul_le_mul h2 h2
  have h4 : 10 * 10 ≤ h * h := Nat.mul_le_mul h1 h1
  omega
theorem girth_b3 {h g e y : Nat} (hy : y ≤ h) : (g - e) * (dN h y * dN h y) / (h * h) ≤ g - e := by
  apply Nat.div_le_of_le_mul
  rw [Nat.mul_comm (h * h)]
  exact Nat.mul_le_mul_left _ (Nat.mul_le_mul (dN_le hy) (dN_le hy))
theorem girthN_le (h g e y : Nat) : girthN h g e y ≤ g := Nat.sub_le _ _
theorem girthN_ge {h g e y : Nat} (he : e ≤ g) (hy : y ≤ h) : e ≤ girthN h g e y := by
  have := girth_b3 (g := g) (e := e) hy
  unfold girthN; omega
/-- WIDTH of stave k of n at a girth -/
def widthN (n k gi : Nat) : Nat := gi * (k + 1) / n - gi * k / n
theorem width_b {gi k n : Nat} (hg : gi ≤ 2000) (hk : k < n) (hn : n ≤ 40) : gi * (k + 1) < 2147483648 ∧ gi * k < 2147483648 ∧ gi * k / n ≤ gi * (k + 1) / n := by
  have h1 : gi * (k + 1) ≤ 2000 * 40 := Nat.mul_le_mul hg (by omega)
  have h2 : gi * k ≤ 2000 * 40 := Nat.mul_le_mul hg (by omega)
  exact ⟨by omega, by omega, Nat.div_le_div_right (Nat.mul_le_mul_left _ (Nat.le_succ k))⟩
/-- the sum over y below l of the girths' squares -/
def sqN (h g e : Nat) : Nat → Nat
  | 0 => 0
  | l + 1 => sqN h g e l + girthN h g e l * girthN h g e l
theorem sqN_le {h g e : Nat} (hg : g ≤ 2000) : ∀ l, sqN h g e l ≤ l * 4000000
  | 0 => Nat.zero_le _
  | l + 1 => by
    have h1 := sqN_le (h := h) (e := e) hg l
    have h2 := girthN_le h g e l
    have h3 : girthN h g e l * girthN h g e l ≤ 2000 * 2000 := Nat.mul_le_mul (by omega) (by omega)
    simp only [sqN]; omega
/-- HOLDS at a level -/
def holdsN (h g e l : Nat) : Nat := sqN h g e l * 113 / 1420
theorem holdsN_lt {h g e l : Nat} (hg : g ≤ 2000) (hl : l ≤ 200) : holdsN h g e l < 2147483648 := by
  have := sqN_le (h := h) (e := e) hg l
  unfold holdsN; omega
