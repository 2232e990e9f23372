/-! the model's cells behind the calls that write -/
theorem MR_days {I : Nat → Int32} {F : Nat → Nat → Int32} {Y : YT} (n : Nat) (h : MR I F Y) : MR (va_up (va_up I 0 (nI 0)) 4 (nI (yNow Y + n))) F (va_up Y.1 0 (yNow Y + n), Y.2) := by
  obtain ⟨h1, h2, h3, h4, hF, hB, hC, hR, hW⟩ := h
  exact ⟨h1, h2, h3, rfl, hF, hB, hC, hR, hW⟩
theorem MR_form {I : Nat → Int32} {F : Nat → Nat → Int32} {Y : YT} (a b c d : Nat) (h : MR I F Y) (hY : WF Y) : MR (va_up (va_up I 0 (nI 0)) 1 (nI (yF Y + 1))) (va_up (va_up (va_up (va_up F 5 (upd (F 5) (yF Y) (nI a))) 6 (upd (F 6) (yF Y) (nI b))) 7 (upd (F 7) (yF Y) (nI c))) 8 (upd (F 8) (yF Y) (nI d)))
    (va_up Y.1 1 (yF Y + 1), fun j i => if i = yF Y then (if j = 0 then a else if j = 1 then b else if j = 2 then c else if j = 3 then d else Y.2.1 j i) else Y.2.1 j i, Y.2.2) := by
  obtain ⟨h1, h2, h3, h4, hF, hB, hC, hR, hW⟩ := h
  obtain ⟨hw0, hwF, hwB, hwC, hwf, hwb, hwc, hwr, hww⟩ := hY
  have e : ∀ j i, 3 < j → (if i = yF Y then (if j = 0 then a else if j = 1 then b else if j = 2 then c else if j = 3 then d else Y.2.1 j i) else Y.2.1 j i) = Y.2.1 j i := by
    intro j i hj
    rw [if_neg (show ¬ j = 0 by omega), if_neg (show ¬ j = 1 by omega), if_neg (show ¬ j = 2 by omega), if_neg (show ¬ j = 3 by omega), ite_self]
  have e2 : ∀ j i, i < yF Y → (if i = yF Y then (if j = 0 then a else if j = 1 then b else if j = 2 then c else if j = 3 then d else Y.2.1 j i) else Y.2.1 j i) = Y.2.1 j i := fun j i hi => if_neg (by omega)
  refine ⟨rfl, h2, h3, h4, ?_, ?_, ?_, hR, ?_⟩
  · intro i hi
    have hi : i < yF Y + 1 := hi
    show upd (F 5) (yF Y) (nI a) i = nI _ ∧ upd (F 6) (yF Y) (nI b) i = nI _ ∧ upd (F 7) (yF Y) (nI c) i = nI _ ∧ upd (F 8) (yF Y) (nI d) i = nI _
    by_cases q : i = yF Y
    · subst q
      rw [upd_s, upd_s, upd_s, upd_s]
      simp [yh, yg, ye, ys]
    · obtain ⟨a1, a2, a3, a4⟩ := hF i (by omega)
      rw [upd_n q, upd_n q, upd_n q, upd_n q, a1, a2, a3, a4]
      simp [yh, yg, ye, ys, q]
  · intro b' hb'
    obtain ⟨a1, a2, a3⟩ := hB b' hb'
    exact ⟨a1.trans (congrArg nI (e 4 b' (by omega)).symm), a2, a3⟩
  · intro c' hc'
    have hc1 : c' < yC Y := hc'
    obtain ⟨a1, a2, a3, a4⟩ := hC c' hc1
    have hcf : ycf (va_up Y.1 1 (yF Y + 1), fun j i => if i = yF Y then (if j = 0 then a else if j = 1 then b else if j = 2 then c else if j = 3 then d else Y.2.1 j i) else Y.2.1 j i, Y.2.2) c' = ycf Y c' := e 5 c' (by omega)
    have hst : ys (va_up Y.1 1 (yF Y + 1), fun j i => if i = yF Y then (if j = 0 then a else if j = 1 then b else if j = 2 then c else if j = 3 then d else Y.2.1 j i) else Y.2.1 j i, Y.2.2) (ycf Y c') = ys Y (ycf Y c') := e2 3 (ycf Y c') (hwc c' hc1).1
    exact ⟨by rw [hcf]; exact a1, a2, a3, fun k hk => a4 k (by rw [hcf, hst] at hk; exact hk)⟩
  · intro k hk
    exact (hW k hk).trans (congrArg nI (e 6 k (by omega)).symm)
theorem MR_bolt {I : Nat → Int32} {F : Nat → Nat → Int32} {Y : YT} (a : Nat) (h : MR I F Y) (hY : WF Y) : MR (va_up (va_up I 0 (nI 0)) 2 (nI (yB Y + 1))) (va_up (va_up (va_up (va_up F 9 (upd (F 9) (yB Y) (nI (yNow Y)))) 10 (upd (F 10) (yB Y) (nI 1))) 11 (upd (F 11) (5 * (yB Y) + 0) (nI 0))) 12 (upd (F 12) (5 * (yB Y) + 0) (nI a)))
    (va_up Y.1 2 (yB Y + 1), va_up Y.2.1 4 (va_up (Y.2.1 4) (yB Y) (yNow Y)), va_up Y.2.2.1 (yB Y) [(0, a)], Y.2.2.2) := by
  obtain ⟨h1, h2, h3, h4, hF, hB, hC, hR, hW⟩ := h
  obtain ⟨hw0, hwF, hwB, hwC, hwf, hwb, hwc, hwr, hww⟩ := hY
  refine ⟨h1, rfl, h3, h4, hF, ?_, hC, hR, hW⟩
  intro b hb
  have hb : b < yB Y + 1 := hb
  show upd (F 9) (yB Y) (nI (yNow Y)) b = nI _ ∧ upd (F 10) (yB Y) (nI 1) b = nI _ ∧ arrP (upd (F 11) (5 * (yB Y) + 0) (nI 0)) (upd (F 12) (5 * (yB Y) + 0) (nI a)) (5 * b) _
  by_cases q : b = yB Y
  · subst q
    rw [upd_s, upd_s]
    refine ⟨by simp [ysp, va_up], by simp [yP, va_up], ?_⟩
    intro i x hx
    have hx : ([(0, a)] : List (Nat × Nat))[i]? = some x := by simpa [yP, va_up] using hx
    have hi : i = 0 := by
      have := (List.getElem?_eq_some_iff.mp hx).1
      simp at this; exact this
    subst hi
    simp at hx
    subst hx
    exact ⟨upd_s _ _ _, upd_s _ _ _⟩
  · obtain ⟨a1, a2, a3⟩ := hB b (by omega)
    have e1 : yP (va_up Y.1 2 (yB Y + 1), va_up Y.2.1 4 (va_up (Y.2.1 4) (yB Y) (yNow Y)), va_up Y.2.2.1 (yB Y) [(0, a)], Y.2.2.2) b = yP Y b := by simp [yP, va_up, q]
    have e2 : ysp (va_up Y.1 2 (yB Y + 1), va_up Y.2.1 4 (va_up (Y.2.1 4) (yB Y) (yNow Y)), va_up Y.2.2.1 (yB Y) [(0, a)], Y.2.2.2) b = ysp Y b := by simp [ysp, va_up, q]
    rw [upd_n q, upd_n q, e1, e2]
    refine ⟨a1, a2, fun i x hx => ?_⟩
    have hl := (hwb b (by omega)).2.1
    have hi := (List.getElem?_eq_some_iff.mp hx).1
    rw [upd_n (by omega), upd_n (by omega)]
    exact a3 i x hx
theorem MR_bars {I : Nat → Int32} {F : Nat → Nat → Int32} {Y : YT} (a b x : Nat) (ha : a < 16) (hb : b < 16) (h : MR I F Y) : MR (va_up I 0 (nI 0)) (va_up F 20 (upd (F 20) (16 * a + b) (nI x))) (Y.1, Y.2.1, Y.2.2.1, va_up Y.2.2.2.1 2 (va_up (Y.2.2.2.1 2) a (va_up (Y.2.2.2.1 2 a) b x)), Y.2.2.2.2) := by
  obtain ⟨h1, h2, h3, h4, hF, hB, hC, hR, hW⟩ := h
  refine ⟨h1, h2, h3, h4, hF, hB, hC, ?_, hW⟩
  intro c d hc hd
  show upd (F 20) (16 * a + b) (nI x) (16 * c + d) = nI _
  by_cases q : c = a ∧ d = b
  · obtain ⟨rfl, rfl⟩ := q
    rw [upd_s]; simp [ybr, va_up]
  · rw [upd_n (by omega), hR c d hc hd]
    by_cases q2 : c = a
    · subst q2
      have : d ≠ b := fun z => q ⟨rfl, z⟩
      simp [ybr, va_up, this]
    · simp [ybr, va_up, q2]
theorem MR_weight {I : Nat → Int32} {F : Nat → Nat → Int32} {Y : YT} (a x : Nat) (h : MR I F Y) : MR (va_up I 0 (nI 0)) (va_up F 21 (upd (F 21) a (nI x))) (Y.1, va_up Y.2.1 6 (va_up (Y.2.1 6) a x), Y.2.2) := by
  obtain ⟨h1, h2, h3, h4, hF, hB, hC, hR, hW⟩ := h
  refine ⟨h1, h2, h3, h4, hF, hB, hC, hR, ?_⟩
  intro k hk
  show upd (F 21) a (nI x) k = nI _
  by_cases q : k = a
  · subst q; rw [upd_s]; simp [ywt, va_up]
  · rw [upd_n q, hW k hk]; simp [ywt, va_up, q]
theorem form_b {h g e n : Nat} (q : formOk h g e n) : 10 ≤ h ∧ h ≤ 200 ∧ e ≤ g ∧ g ≤ 2000 := ⟨q.1, q.2.1, q.2.2.2.2.2.2.1, q.2.2.2.2.1⟩
theorem ix_c {a : Int32} (h : 0 ≤ a.toInt) : (ix a : Int) = a.toInt := by unfold ix; omega
theorem MP_t {r : Int32} {I : Nat → Int32} {F : Nat → Nat → Int32} {k : Nat} {v : Int32} {Y : YT} (h : I 0 = nI (k + 1)) (hM : MR I F Y) : MP r (I, F) (k + 1, v, Y) := ⟨h, fun h9 => absurd h9 (Nat.succ_ne_zero k), hM⟩
theorem ix_m (a : Int32) : 0 ≤ a.toInt ∧ (ix a : Int) = a.toInt ∨ a.toInt < 0 ∧ ix a = 0 := by unfold ix; omega
theorem arrP_get {f g : Nat → Int32} {o : Nat} {L : List (Nat × Nat)} (h : arrP f g o L) {i : Nat} (hi : i < L.length) : f (o + i) = nI (L.getD i (0, 0)).1 ∧ g (o + i) = nI (L.getD i (0, 0)).2 := by
  have e : L[i]? = some (L.getD i (0, 0)) := by simp [List.getD, List.getElem?_eq_getElem hi]
  exact h i _ e
theorem bI_of {n : Nat} (h : n ≤ 1) : nI n = bI (n = 1) := by
  rcases (show n = 0 ∨ n = 1 by omega) with rfl | rfl <;> rfl
theorem bI_n {P : Prop} [Decidable P] : bI P = nI (if P then 1 else 0) := by
  by_cases h : P
  · rw [bI_t h, if_pos h]
  · rw [bI_f h, if_neg h]
def cmpZ (a b : Nat) : Int := if a < b then -1 else if a = b then 0 else 1
theorem cmpZ_le {a b : Nat} (h : cmpZ a b ≤ 0) : a ≤ b := by unfold cmpZ at h; split at h <;> omega
theorem cmpZ_gt {a b : Nat} (h : 0 < cmpZ a b) : b < a := by
  unfold cmpZ at h; split at h
  · omega
  · split at h <;> omega
theorem cmpZ_bd (a b : Nat) : -1 ≤ cmpZ a b ∧ cmpZ a b ≤ 1 := by unfold cmpZ; split <;> (try split) <;> omega
theorem levelN_step {h g e m q : Nat} (h1 : q ≤ h) (h2 : holdsN h g e q < m) : levelN h g e m q (h + 1 - q) = levelN h g e m (q + 1) (h + 1 - (q + 1)) := by
  rw [show h + 1 - q = (h + 1 - (q + 1)) + 1 by omega, levelN, if_neg (by omega)]
theorem levelN_hit {h g e m q : Nat} (h1 : q ≤ h) (h2 : m ≤ holdsN h g e q) : levelN h g e m q (h + 1 - q) = (q : Int) := by
  rw [show h + 1 - q = (h + 1 - (q + 1)) + 1 by omega, levelN, if_pos h2]
theorem levelN_end {h g e m q : Nat} (h1 : h < q) : levelN h g e m q (h + 1 - q) = -1 := by
  rw [show h + 1 - q = 0 by omega]; rfl
theorem lg_cmp_n {a b : Nat} (ha : a < 2 ^ 63) (hb : b < 2 ^ 63) : lg_cmp (lN a) (lN b) = zI (cmpZ a b) := by
  unfold lg_cmp cmpZ
  by_cases h1 : a < b
  · rw [if_neg (fun q => by have := (pk_lLT hb ha).mp q; omega), if_neg (fun q => by have := (pk_lEQ ha hb).mp q; omega), if_pos h1]; rfl
  · by_cases h2 : a = b
    · subst h2
      rw [if_neg (fun q => by have := (pk_lLT ha ha).mp q; omega), if_pos rfl, if_neg h1, if_pos rfl]; rfl
    · rw [if_pos ((pk_lLT hb ha).mpr (by omega)), if_neg h1, if_neg h2]; rfl
