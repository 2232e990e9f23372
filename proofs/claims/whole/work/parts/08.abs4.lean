/-! the model's cells behind tell and swap -/
theorem MR_tell {I : Nat → Int32} {F : Nat → Nat → Int32} {Y : YT} {x d k : Nat} {g15 : Nat → Int32} (h : MR I F Y) (hY : WF Y) (hx : x < yC Y) (hl : (yE Y x).length < 40)
    (hg : ∀ j, g15 j = if 40 * x ≤ j ∧ j < 40 * x + ys Y (ycf Y x) ∧ k < 16 then nI (ypa Y x (j - 40 * x) ||| 2 ^ k) else F 15 j) :
    MR (va_up I 0 (nI 0)) (va_up (va_up (va_up (va_up (va_up F 17 (upd (F 17) (40 * x + (yE Y x).length) (nI d))) 18 (upd (F 18) (40 * x + (yE Y x).length) (nI k))) 19 (upd (F 19) (40 * x + (yE Y x).length) (nI (yNow Y)))) 16 (upd (F 16) x (nI ((yE Y x).length + 1)))) 15 g15) (tellY Y x d k) := by
  obtain ⟨h1, h2, h3, h4, hF, hB, hC, hR, hW⟩ := h
  obtain ⟨hw0, hwF, hwB, hwC, hwf, hwb, hwc, hwr, hww⟩ := hY
  refine ⟨h1, h2, h3, h4, hF, hB, ?_, hR, hW⟩
  intro c hc
  have hc : c < yC Y := hc
  obtain ⟨a1, a2, a3, a4⟩ := hC c hc
  have hlc := (hwc c hc).2.1
  have hsc := (hwf (ycf Y c) (hwc c hc).1).2.2.2.2.2.2.2.2
  have hsx := (hwf (ycf Y x) (hwc x hx).1).2.2.2.2.2.2.2.2
  show F 13 c = nI (ycf Y c) ∧ upd (F 16) x (nI ((yE Y x).length + 1)) c = nI _ ∧ arrE (upd (F 17) (40 * x + (yE Y x).length) (nI d)) (upd (F 19) (40 * x + (yE Y x).length) (nI (yNow Y))) (upd (F 18) (40 * x + (yE Y x).length) (nI k)) (40 * c) _ ∧ ∀ j, j < ys Y (ycf Y c) → F 14 (40 * c + j) = nI (ybo Y c j) ∧ g15 (40 * c + j) = nI _
  refine ⟨a1, ?_, ?_, fun j hj => ⟨(a4 j hj).1, ?_⟩⟩
  · by_cases q : c = x
    · subst q; rw [upd_s]; simp [tellY, yE, va_up]
    · rw [upd_n q, a2]; simp [tellY, yE, va_up, q]
  · intro i z hz
    by_cases q : c = x
    · subst q
      have hz : (yE Y c ++ [(d, yNow Y, k)])[i]? = some z := by simpa [tellY, yE, va_up] using hz
      by_cases q2 : i < (yE Y c).length
      · rw [List.getElem?_append_left q2] at hz
        rw [upd_n (by omega), upd_n (by omega), upd_n (by omega)]
        exact a3 i z hz
      · have hlen := (List.getElem?_eq_some_iff.mp hz).1
        simp at hlen
        obtain rfl : i = (yE Y c).length := by omega
        simp at hz
        subst hz
        exact ⟨upd_s _ _ _, upd_s _ _ _, upd_s _ _ _⟩
    · have hz : (yE Y c)[i]? = some z := by simpa [tellY, yE, va_up, q] using hz
      have hi := (List.getElem?_eq_some_iff.mp hz).1
      have hlx : (yE Y x).length < 40 := hl
      rw [upd_n (by omega), upd_n (by omega), upd_n (by omega)]
      exact a3 i z hz
  · rw [hg]
    by_cases q : c = x
    · subst q
      by_cases q2 : k < 16
      · rw [if_pos ⟨by omega, by omega, q2⟩, show 40 * c + j - 40 * c = j by omega]; simp [tellY, ypa, va_up, q2]
      · rw [if_neg (fun w => q2 w.2.2), (a4 j hj).2]; simp [tellY, ypa, va_up, q2]
    · rw [if_neg (fun w => by omega), (a4 j hj).2]; simp [tellY, ypa, va_up, q]
theorem swapF_eq (f : Nat → Nat → Nat) {a b c d x y : Nat} (h : a ≠ c) : swapF f a b c d x y = if x = c ∧ y = d then f a b else if x = a ∧ y = b then f c d else f x y := by
  unfold swapF va_up
  by_cases q1 : x = c
  · subst q1
    have : ¬ x = a := fun e => h e.symm
    by_cases q2 : y = d <;> simp [q2, this]
  · by_cases q2 : x = a
    · subst q2
      by_cases q3 : y = b <;> simp [q1, q3]
    · simp [q1, q2]
theorem MR_swap {I : Nat → Int32} {F : Nat → Nat → Int32} {Y : YT} {a b c d : Nat} (h : MR I F Y) (hY : WF Y) (ha : a < yC Y) (hc : c < yC Y) (hb : b < ys Y (ycf Y a)) (hd : d < ys Y (ycf Y c)) (hac : a ≠ c) :
    MR (va_up I 0 (nI 0)) (va_up (va_up F 14 (upd (upd (F 14) (40 * a + b) (nI (ybo Y c d))) (40 * c + d) (nI (ybo Y a b)))) 15 (upd (upd (F 15) (40 * a + b) (nI (ypa Y c d))) (40 * c + d) (nI (ypa Y a b)))) (swapY Y a b c d) := by
  obtain ⟨h1, h2, h3, h4, hF, hB, hC, hR, hW⟩ := h
  obtain ⟨hw0, hwF, hwB, hwC, hwf, hwb, hwc, hwr, hww⟩ := hY
  refine ⟨h1, h2, h3, h4, hF, hB, ?_, hR, hW⟩
  intro x hx
  have hx : x < yC Y := hx
  obtain ⟨a1, a2, a3, a4⟩ := hC x hx
  refine ⟨a1, a2, a3, fun j hj => ?_⟩
  have hj : j < ys Y (ycf Y x) := hj
  have hsa := (hwf (ycf Y a) (hwc a ha).1).2.2.2.2.2.2.2.2
  have hsc := (hwf (ycf Y c) (hwc c hc).1).2.2.2.2.2.2.2.2
  have hsx := (hwf (ycf Y x) (hwc x hx).1).2.2.2.2.2.2.2.2
  have e0 : ybo (swapY Y a b c d) x j = swapF (ybo Y) a b c d x j := rfl
  have e1 : ypa (swapY Y a b c d) x j = swapF (ypa Y) a b c d x j := rfl
  rw [e0, e1, swapF_eq _ hac, swapF_eq _ hac]
  show upd (upd (F 14) (40 * a + b) (nI (ybo Y c d))) (40 * c + d) (nI (ybo Y a b)) (40 * x + j) = _ ∧ upd (upd (F 15) (40 * a + b) (nI (ypa Y c d))) (40 * c + d) (nI (ypa Y a b)) (40 * x + j) = _
  by_cases q1 : x = c ∧ j = d
  · obtain ⟨rfl, rfl⟩ := q1
    rw [upd_s, upd_s, if_pos ⟨rfl, rfl⟩, if_pos ⟨rfl, rfl⟩]; exact ⟨rfl, rfl⟩
  · rw [if_neg q1, if_neg q1, upd_n (k := 40 * c + d) (show 40 * x + j ≠ 40 * c + d by omega), upd_n (k := 40 * c + d) (show 40 * x + j ≠ 40 * c + d by omega)]
    by_cases q2 : x = a ∧ j = b
    · obtain ⟨rfl, rfl⟩ := q2
      rw [upd_s, upd_s, if_pos ⟨rfl, rfl⟩, if_pos ⟨rfl, rfl⟩]; exact ⟨rfl, rfl⟩
    · rw [if_neg q2, if_neg q2, upd_n (k := 40 * a + b) (show 40 * x + j ≠ 40 * a + b by omega), upd_n (k := 40 * a + b) (show 40 * x + j ≠ 40 * a + b by omega)]; exact a4 j hj
theorem tell_step {f g : Nat → Int32} {x i k : Nat} {pa : Nat → Nat} (hg : ∀ j, g j = if 40 * x ≤ j ∧ j < 40 * x + i ∧ k < 16 then nI (pa (j - 40 * x) ||| 2 ^ k) else f j) (hk : k < 16) :
    ∀ j, upd g (40 * x + i) (nI (pa i ||| 2 ^ k)) j = if 40 * x ≤ j ∧ j < 40 * x + (i + 1) ∧ k < 16 then nI (pa (j - 40 * x) ||| 2 ^ k) else f j := by
  intro j
  by_cases q : j = 40 * x + i
  · subst q
    rw [upd_s, if_pos ⟨by omega, by omega, hk⟩, show 40 * x + i - 40 * x = i by omega]
  · rw [upd_n q, hg j]
    by_cases q2 : 40 * x ≤ j ∧ j < 40 * x + i ∧ k < 16
    · rw [if_pos q2, if_pos ⟨q2.1, by omega, hk⟩]
    · rw [if_neg q2, if_neg (fun h => q2 ⟨h.1, by omega, hk⟩)]
theorem mid_lt {Y : YT} {x k : Nat} (h : formOk (yh Y (ycf Y x)) (yg Y (ycf Y x)) (ye Y (ycf Y x)) (ys Y (ycf Y x))) : midN Y x k ≤ 2000 * (k + 1) := by
  unfold midN widthN
  have h1 := girthN_le (yh Y (ycf Y x)) (yg Y (ycf Y x)) (ye Y (ycf Y x)) (yh Y (ycf Y x) / 2)
  refine Nat.le_trans (Nat.sub_le _ _) (Nat.le_trans (Nat.div_le_self _ _) (Nat.mul_le_mul_right _ (Nat.le_trans h1 h.2.2.2.2.1)))
