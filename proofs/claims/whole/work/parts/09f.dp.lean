/-! how many narrow pieces the parts give besides a wide ones (-1: they don't give a) -/
def bestN (f : Nat → Int) (L wd nr a : Nat) : Nat → Int
  | 0 => -1
  | h + 1 => if h ≤ a ∧ h * wd ≤ L ∧ 0 ≤ f (a - h) then max (bestN f L wd nr a h) (f (a - h) + ((L - h * wd) / nr : Nat)) else bestN f L wd nr a h
def dpN (wd nr : Nat) : List Nat → Nat → Int
  | [], a => if a = 0 then 0 else -1
  | L :: Ls, a => bestN (dpN wd nr Ls) L wd nr a (a + 1)
theorem bestN_k {f : Nat → Int} {L wd nr a h : Nat} (q : ¬ (h ≤ a ∧ h * wd ≤ L ∧ 0 ≤ f (a - h))) : bestN f L wd nr a (h + 1) = bestN f L wd nr a h := by rw [bestN, if_neg q]
theorem bestN_t {f : Nat → Int} {L wd nr a h : Nat} (q : h ≤ a ∧ h * wd ≤ L ∧ 0 ≤ f (a - h)) : bestN f L wd nr a (h + 1) = max (bestN f L wd nr a h) (f (a - h) + ((L - h * wd) / nr : Nat)) := by rw [bestN, if_pos q]
theorem bestN_e {f : Nat → Int} {L wd nr a h : Nat} (hh : L < h * wd) : ∀ n, bestN f L wd nr a (h + n) = bestN f L wd nr a h
  | 0 => rfl
  | n + 1 => by
    have h1 : h * wd ≤ (h + n) * wd := Nat.mul_le_mul_right _ (Nat.le_add_right _ _)
    rw [show h + (n + 1) = (h + n) + 1 by omega, bestN_k (fun q => by omega), bestN_e hh n]
theorem bestN_bd {f : Nat → Int} {L wd nr a : Nat} {B : Int} (hf : ∀ x, -1 ≤ f x ∧ f x ≤ B) (hL : L ≤ 600) (hB : -1 ≤ B) : ∀ h, -1 ≤ bestN f L wd nr a h ∧ bestN f L wd nr a h ≤ B + 600
  | 0 => by simp only [bestN]; omega
  | h + 1 => by
    have h1 := bestN_bd (f := f) (wd := wd) (nr := nr) (a := a) hf hL hB h
    have h2 := hf (a - h)
    have h3 : (L - h * wd) / nr ≤ 600 := Nat.le_trans (Nat.div_le_self _ _) (by omega)
    rw [bestN]; split
    · revert h3; generalize (L - h * wd) / nr = z; intro h3; omega
    · exact h1
theorem dpN_bd {wd nr : Nat} : ∀ (Ls : List Nat), (∀ L ∈ Ls, L ≤ 600) → ∀ a, -1 ≤ dpN wd nr Ls a ∧ dpN wd nr Ls a ≤ 600 * (Ls.length : Int)
  | [], _, a => by simp only [dpN]; split <;> simp
  | L :: Ls, h, a => by
    have h1 := dpN_bd (wd := wd) (nr := nr) Ls (fun x hx => h x (List.mem_cons_of_mem _ hx))
    have h2 := bestN_bd (f := dpN wd nr Ls) (L := L) (wd := wd) (nr := nr) (a := a) (B := 600 * (Ls.length : Int)) h1 (h L List.mem_cons_self) (by omega) (a + 1)
    rw [dpN, List.length_cons]; omega
theorem row_push {g : Nat → Int32} {o a : Nat} {x : Int32} {f : Nat → Int32} (h : ∀ j, j < a → g (o + j) = f j) (hx : x = f a) : ∀ j, j < a + 1 → upd g (o + a) x (o + j) = f j := by
  intro j hj
  by_cases e : j = a
  · subst e; rw [upd_s, hx]
  · rw [upd_n (by omega)]; exact h j (by omega)
/-- the width of a part of the state -/
def plen (Y : YT) (z : Nat × Nat) : Nat := (paD (yP Y z.1) z.2).2 - (paD (yP Y z.1) z.2).1
def lenL (Y : YT) (T : List (Nat × Nat)) : List Nat := T.map (plen Y)
theorem lenL_drop (Y : YT) {T : List (Nat × Nat)} {i : Nat} (hi : i < T.length) : (lenL Y T).drop i = plen Y (paD T i) :: (lenL Y T).drop (i + 1) := by
  have hl : i < (lenL Y T).length := by simpa [lenL] using hi
  rw [List.drop_eq_getElem_cons hl]
  have e : (lenL Y T)[i] = plen Y (paD T i) := by simp [lenL, paD, List.getD, List.getElem?_eq_getElem hi]
  rw [e]
theorem lenL_bd {Y : YT} (hY : WF Y) {T : List (Nat × Nat)} (hz : ∀ z ∈ T, z.1 < yB Y ∧ z.2 < (yP Y z.1).length) : ∀ L ∈ lenL Y T, L ≤ 600 := by
  intro L hL
  obtain ⟨z, h1, rfl⟩ := List.mem_map.mp hL
  have h2 := hz z h1
  have h3 := ((hY.2.2.2.2.2.1 z.1 h2.1).2.2) _ (paD_mem h2.2)
  unfold plen; omega
theorem dpD_bd {Y : YT} (hY : WF Y) {T : List (Nat × Nat)} (hT : T.length ≤ 32) (hz : ∀ z ∈ T, z.1 < yB Y ∧ z.2 < (yP Y z.1).length) (wd nr i a : Nat) : -1 ≤ dpN wd nr ((lenL Y T).drop i) a ∧ dpN wd nr ((lenL Y T).drop i) a ≤ 19200 := by
  have h1 := dpN_bd (wd := wd) (nr := nr) ((lenL Y T).drop i) (fun L hL => lenL_bd hY hz L (List.mem_of_mem_drop hL)) a
  have h2 : ((lenL Y T).drop i).length ≤ 32 := by simp [lenL]; omega
  omega
