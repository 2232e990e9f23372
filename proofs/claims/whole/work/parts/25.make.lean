/-! a cask made: how the parts are cut, who gets what -/
/-- h wide pieces of this part leave what the parts behind can give -/
abbrev goodN (wd nr : Nat) (Ls : List Nat) (L a n h : Nat) : Prop := ((n - min n ((L - h * wd) / nr) : Nat) : Int) ≤ dpN wd nr Ls (a - h)
def chN (wd nr : Nat) (Ls : List Nat) (L a n : Nat) : Nat → Nat
  | 0 => 0
  | h + 1 => if goodN wd nr Ls L a n (h + 1) then h + 1 else chN wd nr Ls L a n h
theorem chN_hit {wd nr L a n h : Nat} {Ls : List Nat} (q : goodN wd nr Ls L a n h) : chN wd nr Ls L a n h = h := by
  cases h with
  | zero => rfl
  | succ h => rw [chN, if_pos q]
theorem chN_miss {wd nr L a n h : Nat} {Ls : List Nat} (q : ¬ goodN wd nr Ls L a n h) (h0 : 0 < h) : chN wd nr Ls L a n h = chN wd nr Ls L a n (h - 1) := by
  cases h with
  | zero => omega
  | succ h => rw [chN, if_neg q]; rfl
theorem chN_le {wd nr L a n : Nat} {Ls : List Nat} : ∀ h, chN wd nr Ls L a n h ≤ h
  | 0 => Nat.le_refl _
  | h + 1 => by
    have := chN_le (wd := wd) (nr := nr) (L := L) (a := a) (n := n) (Ls := Ls) h
    rw [chN]; split <;> omega
theorem chN_good {wd nr L a n : Nat} {Ls : List Nat} : ∀ (h h' : Nat), h' ≤ h → goodN wd nr Ls L a n h' → goodN wd nr Ls L a n (chN wd nr Ls L a n h)
  | 0, h', h1, h2 => by rw [show h' = 0 by omega] at h2; exact h2
  | h + 1, h', h1, h2 => by
    by_cases q : goodN wd nr Ls L a n (h + 1)
    · rw [chN_hit q]; exact q
    · rw [chN, if_neg q]
      refine chN_good h h' ?_ h2
      rcases Nat.eq_or_lt_of_le h1 with e | e
      · subst e; exact absurd h2 q
      · omega
theorem bestN_ex {f : Nat → Int} {L wd nr a : Nat} {n : Nat} : ∀ h, (n : Int) ≤ bestN f L wd nr a h → ∃ k, k < h ∧ k ≤ a ∧ k * wd ≤ L ∧ 0 ≤ f (a - k) ∧ (n : Int) ≤ f (a - k) + ((L - k * wd) / nr : Nat)
  | 0, q => by rw [bestN] at q; omega
  | h + 1, q => by
    by_cases c : h ≤ a ∧ h * wd ≤ L ∧ 0 ≤ f (a - h)
    · rw [bestN_t c] at q
      by_cases c2 : (n : Int) ≤ bestN f L wd nr a h
      · obtain ⟨k, h1, h2⟩ := bestN_ex h c2; exact ⟨k, by omega, h2⟩
      · exact ⟨h, by omega, c.1, c.2.1, c.2.2, by omega⟩
    · rw [bestN_k c] at q
      obtain ⟨k, h1, h2⟩ := bestN_ex h q; exact ⟨k, by omega, h2⟩
theorem good_ex {wd nr L a n : Nat} {Ls : List Nat} (hw : 0 < wd) (q : (n : Int) ≤ dpN wd nr (L :: Ls) a) : goodN wd nr Ls L a n (chN wd nr Ls L a n (min a (L / wd))) := by
  obtain ⟨k, _, h2, h3, h4, h5⟩ := bestN_ex _ (show (n : Int) ≤ bestN (dpN wd nr Ls) L wd nr a (a + 1) from q)
  refine chN_good _ k ?_ ?_
  · have : k ≤ L / wd := (Nat.le_div_iff_mul_le hw).mpr h3
    omega
  · show ((n - min n ((L - k * wd) / nr) : Nat) : Int) ≤ dpN wd nr Ls (a - k)
    revert h5; generalize (L - k * wd) / nr = z; intro h5; omega
/-- the parts in order with the pieces cut from each: bolt, part, wide ones, narrow ones -/
def planT (Y : YT) (wd nr : Nat) : List (Nat × Nat) → Nat → Nat → List (Nat × Nat × Nat × Nat)
  | [], _, _ => []
  | z :: T, a, n =>
    (z.1, z.2, chN wd nr (lenL Y T) (plen Y z) a n (min a (plen Y z / wd)), min n ((plen Y z - chN wd nr (lenL Y T) (plen Y z) a n (min a (plen Y z / wd)) * wd) / nr)) ::
      planT Y wd nr T (a - chN wd nr (lenL Y T) (plen Y z) a n (min a (plen Y z / wd))) (n - min n ((plen Y z - chN wd nr (lenL Y T) (plen Y z) a n (min a (plen Y z / wd)) * wd) / nr))
theorem drop_s {T : List (Nat × Nat)} {t : Nat} (ht : t < T.length) : T.drop t = paD T t :: T.drop (t + 1) := by
  rw [List.drop_eq_getElem_cons ht]
  have e : T[t] = paD T t := by simp [paD, List.getD, List.getElem?_eq_getElem ht]
  rw [e]
theorem lenL_dr (Y : YT) (T : List (Nat × Nat)) (t : Nat) : (lenL Y T).drop t = lenL Y (T.drop t) := by simp [lenL, List.map_drop]
theorem planT_s {Y : YT} {wd nr a n h m t : Nat} {T : List (Nat × Nat)} (ht : t < T.length) (hh : chN wd nr (lenL Y (T.drop (t + 1))) (plen Y (paD T t)) a n (min a (plen Y (paD T t) / wd)) = h) (hm : m = min n ((plen Y (paD T t) - h * wd) / nr)) :
    planT Y wd nr (T.drop t) a n = ((paD T t).1, (paD T t).2, h, m) :: planT Y wd nr (T.drop (t + 1)) (a - h) (n - m) := by
  rw [drop_s ht, planT, hh, ← hm]
def wdL (Z : List (Nat × Nat × Nat × Nat)) : List Nat := Z.flatMap (fun z => List.replicate z.2.2.1 z.1)
def nrL (Z : List (Nat × Nat × Nat × Nat)) : List Nat := Z.flatMap (fun z => List.replicate z.2.2.2 z.1)
theorem wdL_s (Z : List (Nat × Nat × Nat × Nat)) (z : Nat × Nat × Nat × Nat) : wdL (Z ++ [z]) = wdL Z ++ List.replicate z.2.2.1 z.1 := by simp [wdL]
theorem nrL_s (Z : List (Nat × Nat × Nat × Nat)) (z : Nat × Nat × Nat × Nat) : nrL (Z ++ [z]) = nrL Z ++ List.replicate z.2.2.2 z.1 := by simp [nrL]
/-- what is cut from a part -/
def amN (wd nr : Nat) : List (Nat × Nat × Nat × Nat) → Nat → Nat → Nat
  | [], _, _ => 0
  | z :: Z, b, p => (if b = z.1 ∧ p = z.2.1 then z.2.2.1 * wd + z.2.2.2 * nr else 0) + amN wd nr Z b p
theorem amN_app (wd nr : Nat) (Z : List (Nat × Nat × Nat × Nat)) (z : Nat × Nat × Nat × Nat) (b p : Nat) : amN wd nr (Z ++ [z]) b p = amN wd nr Z b p + (if b = z.1 ∧ p = z.2.1 then z.2.2.1 * wd + z.2.2.2 * nr else 0) := by
  induction Z with
  | nil => simp [amN]
  | cons y Z ih => simp only [List.cons_append, amN, ih]; omega
def cutPL (L : List (Nat × Nat)) (f : Nat → Nat) : List (Nat × Nat) := (List.range L.length).map (fun p => ((paD L p).1 + f p, (paD L p).2))
theorem cutPL_len (L : List (Nat × Nat)) (f : Nat → Nat) : (cutPL L f).length = L.length := by simp [cutPL]
theorem cutPL_get {L : List (Nat × Nat)} {f : Nat → Nat} {i : Nat} (hi : i < L.length) : (cutPL L f)[i]? = some ((paD L i).1 + f i, (paD L i).2) := by simp [cutPL, hi]
/-- how many of the first k staves are wide -/
def cwN (n g : Nat) : Nat → Nat
  | 0 => 0
  | k + 1 => cwN n g k + (if widthN n k g + 2 = g / n + 3 then 1 else 0)
theorem cwN_le (n g : Nat) : ∀ k, cwN n g k ≤ k
  | 0 => Nat.le_refl _
  | k + 1 => by have := cwN_le n g k; rw [cwN]; split <;> omega
theorem cwN_cnt {n g : Nat} (hn : 0 < n) : ∀ k, cwN n g k + k * (g / n) = g * k / n
  | 0 => by simp [cwN]
  | k + 1 => by
    have ih := cwN_cnt (g := g) hn k
    have h1 := width_ge (k := k) (g := g) hn
    have h2 := width_le (k := k) (g := g) hn
    have h3 : (k + 1) * (g / n) = k * (g / n) + g / n := Nat.succ_mul _ _
    have h4 : g * k / n ≤ g * (k + 1) / n := Nat.div_le_div_right (Nat.mul_le_mul_left _ (Nat.le_succ k))
    have h5 : widthN n k g = g * (k + 1) / n - g * k / n := rfl
    rw [cwN]
    revert ih h1 h2 h3 h4 h5
    generalize widthN n k g = W; generalize g * (k + 1) / n = C; generalize g * k / n = A; generalize (k + 1) * (g / n) = R; generalize k * (g / n) = P; generalize g / n = B
    intro ih h1 h2 h3 h4 h5
    split <;> omega
theorem cwN_all {n g : Nat} (hn : 0 < n) : cwN n g n = g % n := by
  have h := cwN_cnt (g := g) hn n
  rw [Nat.mul_div_cancel _ hn] at h
  have := Nat.div_add_mod g n
  revert h this; generalize n * (g / n) = P; intro h this; omega
theorem cwN_mono (n g : Nat) {k : Nat} : ∀ j, k ≤ j → cwN n g k ≤ cwN n g j
  | 0, h => by rw [show k = 0 by omega]; exact Nat.le_refl _
  | j + 1, h => by
    by_cases e : k = j + 1
    · rw [e]; exact Nat.le_refl _
    · have := cwN_mono n g (k := k) j (by omega)
      rw [cwN]; split <;> omega
/-- the bolt of stave k of a new cask -/
def newB (Z : List (Nat × Nat × Nat × Nat)) (n g k : Nat) : Nat := if widthN n k g + 2 = g / n + 3 then (wdL Z).getD (cwN n g k) 0 else (nrL Z).getD (k - cwN n g k) 0
abbrev wdY (Y : YT) (i : Nat) : Nat := yg Y i / ys Y i + 3
abbrev nrY (Y : YT) (i : Nat) : Nat := yg Y i / ys Y i + 2
def planY (Y : YT) (i : Nat) : List (Nat × Nat × Nat × Nat) := planT Y (yg Y i / ys Y i + 3) (yg Y i / ys Y i + 2) (takeS Y (lookK Y) (bestY Y i) 8) (yg Y i % ys Y i) (ys Y i - yg Y i % ys Y i)
def makeY (Y : YT) (i : Nat) : YT := (va_up Y.1 3 (yC Y + 1), va_up Y.2.1 5 (va_up (Y.2.1 5) (yC Y) i),
  fun b => if b < yB Y then filP (cutPL (yP Y b) (amN (yg Y i / ys Y i + 3) (yg Y i / ys Y i + 2) (planY Y i) b)) else yP Y b,
  va_up (va_up Y.2.2.2.1 0 (va_up (Y.2.2.2.1 0) (yC Y) (newB (planY Y i) (ys Y i) (yg Y i)))) 1 (va_up (Y.2.2.2.1 1) (yC Y) (fun _ => 0)),
  va_up Y.2.2.2.2 (yC Y) [])
def sp_make (Y : YT) (a : Int32) : Nat × Int32 × YT :=
  if isIx a (yF Y) then if yC Y = 30 ∨ bestY Y (ix a) = 0 then (0, zI (-1), Y) else (0, nI (yC Y), makeY Y (ix a)) else (1, nI 0, Y)
