/-! the parts of a set are apart; the model's cells while a cask is made -/
theorem ripeL_pw (Y : YT) : ∀ b, (ripeL Y b).Pairwise (· < ·)
  | 0 => List.Pairwise.nil
  | b + 1 => by
    by_cases q : ripeY Y b
    · rw [ripeL_t q, List.pairwise_append]
      refine ⟨ripeL_pw Y b, List.pairwise_singleton _ _, fun x hx y hy => ?_⟩
      rw [List.mem_singleton] at hy; subst hy
      exact (ripeL_lt hx).1
    · rw [ripeL_f q]; exact ripeL_pw Y b
theorem look_mono {Y : YT} {j k : Nat} (hk : k < (lookL Y).length) (h : j < k) : lookK Y j < lookK Y k := by
  have h1 : (lookL Y).Pairwise (· < ·) := (ripeL_pw Y (yB Y)).sublist (List.take_sublist _ _)
  have h2 := List.pairwise_iff_getElem.mp h1 j k (by omega) hk h
  have e1 : (lookL Y)[j]'(by omega) = lookK Y j := by simp [lookK, List.getD, List.getElem?_eq_getElem (show j < (lookL Y).length by omega)]
  have e2 : (lookL Y)[k] = lookK Y k := by simp [lookK, List.getD, List.getElem?_eq_getElem hk]
  rwa [e1, e2] at h2
theorem rowS_pw (n b : Nat) : (rowS n b).Pairwise (· ≠ ·) := by
  unfold rowS
  rw [List.pairwise_map]
  refine List.Pairwise.imp ?_ List.pairwise_lt_range
  intro x y hxy e
  have := (Prod.mk.inj e).2
  omega
theorem takeS_pw {Y : YT} {x : Nat} (hx : x < 2 ^ (lookL Y).length) : ∀ k, (takeS Y (lookK Y) x k).Pairwise (· ≠ ·) ∧ ∀ z ∈ takeS Y (lookK Y) x k, ∃ j, j < k ∧ j < (lookL Y).length ∧ z.1 = lookK Y j
  | 0 => ⟨List.Pairwise.nil, fun z h => by simp [takeS] at h⟩
  | k + 1 => by
    obtain ⟨h1, h2⟩ := takeS_pw hx k
    by_cases q : x / 2 ^ k % 2 = 1
    · rw [takeS_t q]
      have hk := bit_lt hx q
      refine ⟨List.pairwise_append.mpr ⟨h1, rowS_pw _ _, fun a ha b hb e => ?_⟩, fun z hz => ?_⟩
      · subst e
        obtain ⟨j, hj, _, h4⟩ := h2 a ha
        obtain ⟨i, _, h5⟩ := List.mem_map.mp hb
        have h6 := look_mono hk hj
        have h7 : a.1 = lookK Y k := by rw [← h5]
        omega
      · rcases List.mem_append.mp hz with h | h
        · obtain ⟨j, hj, h3⟩ := h2 z h; exact ⟨j, by omega, h3⟩
        · obtain ⟨i, _, h5⟩ := List.mem_map.mp h
          exact ⟨k, by omega, hk, by rw [← h5]⟩
    · rw [takeS_f q]
      exact ⟨h1, fun z hz => by obtain ⟨j, hj, h3⟩ := h2 z hz; exact ⟨j, by omega, h3⟩⟩
/-- the cells behind t parts cut as Z says -/
def mkF (F0 G : Nat → Nat → Int32) (Y : YT) (wd nr : Nat) (T : List (Nat × Nat)) (t : Nat) (Z : List (Nat × Nat × Nat × Nat)) : Prop :=
  (∀ k, 5 ≤ k → k ≤ 24 → k ≠ 11 → G k = F0 k) ∧
  (∀ b, b < yB Y → ∀ p, p < (yP Y b).length → G 11 (5 * b + p) = nI ((paD (yP Y b) p).1 + amN wd nr Z b p) ∧ (paD (yP Y b) p).1 + amN wd nr Z b p ≤ (paD (yP Y b) p).2) ∧
  (∀ z ∈ T.drop t, amN wd nr Z z.1 z.2 = 0) ∧
  (∀ k, k < (wdL Z).length → G 33 k = nI ((wdL Z).getD k 0)) ∧ ∀ k, k < (nrL Z).length → G 33 (40 + k) = nI ((nrL Z).getD k 0)
theorem mkF_0 {I : Nat → Int32} {F0 : Nat → Nat → Int32} {Y : YT} (hM : MR I F0 Y) (hY : WF Y) (wd nr : Nat) (T : List (Nat × Nat)) : mkF F0 F0 Y wd nr T 0 [] := by
  refine ⟨fun _ _ _ _ => rfl, fun b hb p hp => ?_, fun z _ => rfl, fun k hk => by simp [wdL] at hk, fun k hk => by simp [nrL] at hk⟩
  have h1 := (arrP_at (hM.2.2.2.2.2.1 b hb).2.2 hp).1
  have h2 := (hY.2.2.2.2.2.1 b hb).2.2 _ (paD_mem hp)
  exact ⟨h1, by show (paD (yP Y b) p).1 + 0 ≤ _; omega⟩
theorem rep_get {A : List Nat} {h b k : Nat} (hk : k < (A ++ List.replicate h b).length) : (A ++ List.replicate h b).getD k 0 = if k < A.length then A.getD k 0 else b := by
  by_cases q : k < A.length
  · rw [if_pos q]; simp [List.getD, List.getElem?_append_left q]
  · rw [if_neg q]
    have h1 : k - A.length < h := by simp at hk; omega
    simp [List.getD, List.getElem?_append_right (show A.length ≤ k by omega), List.getElem?_replicate, h1]
theorem mkF_step {F0 G G' : Nat → Nat → Int32} {Y : YT} {wd nr : Nat} {T : List (Nat × Nat)} {t : Nat} {Z : List (Nat × Nat × Nat × Nat)} {h m : Nat} (H : mkF F0 G Y wd nr T t Z) (hY : WF Y) (ht : t < T.length) (hz : ∀ z ∈ T, z.1 < yB Y ∧ z.2 < (yP Y z.1).length) (hpw : T.Pairwise (· ≠ ·))
    (hfit : h * wd + m * nr ≤ plen Y (paD T t)) (hW : (wdL Z).length + h ≤ 40) (hN : (nrL Z).length + m ≤ 40)
    (hk : ∀ k, 5 ≤ k → k ≤ 24 → k ≠ 11 → G' k = G k) (h11 : G' 11 = upd (G 11) (5 * (paD T t).1 + (paD T t).2) (nI ((paD (yP Y (paD T t).1) (paD T t).2).1 + (h * wd + m * nr))))
    (hA : ∀ j, j < h → G' 33 ((wdL Z).length + j) = nI (paD T t).1) (hB : ∀ j, j < m → G' 33 (40 + (nrL Z).length + j) = nI (paD T t).1) (hO : ∀ j, j < (wdL Z).length ∨ (40 ≤ j ∧ j < 40 + (nrL Z).length) → G' 33 j = G 33 j) :
    mkF F0 G' Y wd nr T (t + 1) (Z ++ [((paD T t).1, (paD T t).2, h, m)]) := by
  obtain ⟨k1, k2, k3, k4, k5⟩ := H
  have hz9 := hz _ (paD_mem ht)
  have h0 := k3 (paD T t) (by rw [drop_s ht]; exact List.mem_cons_self)
  refine ⟨fun k q1 q2 q3 => (hk k q1 q2 q3).trans (k1 k q1 q2 q3), fun b hb p hp => ?_, fun z hzz => ?_, fun k hkk => ?_, fun k hkk => ?_⟩
  · rw [h11, amN_app]
    by_cases e : b = (paD T t).1 ∧ p = (paD T t).2
    · obtain ⟨rfl, rfl⟩ := e
      have hq := (hY.2.2.2.2.2.1 _ hb).2.2 _ (paD_mem hp)
      rw [upd_s, if_pos ⟨rfl, rfl⟩, h0, Nat.zero_add]
      unfold plen at hfit
      exact ⟨rfl, by show _ + (h * wd + m * nr) ≤ _; omega⟩
    · have h5 := (hY.2.2.2.2.2.1 b hb).2.1
      have h6 := (hY.2.2.2.2.2.1 _ hz9.1).2.1
      rw [if_neg e, Nat.add_zero, upd_n (by omega)]
      exact k2 b hb p hp
  · rw [amN_app, k3 z (by rw [drop_s ht]; exact List.mem_cons_of_mem _ hzz)]
    have hp2 : (T.drop t).Pairwise (· ≠ ·) := hpw.sublist (List.drop_sublist _ _)
    rw [drop_s ht, List.pairwise_cons] at hp2
    have hne := hp2.1 z hzz
    rw [if_neg (fun e => hne (Prod.ext e.1.symm e.2.symm))]
  · rw [wdL_s] at hkk ⊢
    rw [rep_get hkk]
    by_cases q : k < (wdL Z).length
    · rw [if_pos q, hO k (Or.inl q)]; exact k4 k q
    · simp at hkk
      have := hA (k - (wdL Z).length) (by omega)
      rw [show (wdL Z).length + (k - (wdL Z).length) = k by omega] at this
      rw [if_neg q]; exact this
  · rw [nrL_s] at hkk ⊢
    rw [rep_get hkk]
    by_cases q : k < (nrL Z).length
    · rw [if_pos q, hO (40 + k) (Or.inr ⟨by omega, by omega⟩)]; exact k5 k q
    · simp at hkk
      have := hB (k - (nrL Z).length) (by omega)
      rw [show 40 + (nrL Z).length + (k - (nrL Z).length) = 40 + k by omega] at this
      rw [if_neg q]; exact this
/-- the cells while what has no width is taken out of the first q bolts -/
def mkT (F0 G : Nat → Nat → Int32) (Y : YT) (cp : Nat → List (Nat × Nat)) (q : Nat) : Prop :=
  (∀ k, 5 ≤ k → k ≤ 33 → k ≠ 10 → k ≠ 11 → k ≠ 12 → G k = F0 k) ∧ (∀ b, b < q → G 10 b = nI (filP (cp b)).length ∧ arrP (G 11) (G 12) (5 * b) (filP (cp b))) ∧
  ∀ b, q ≤ b → b < yB Y → G 10 b = nI (cp b).length ∧ arrP (G 11) (G 12) (5 * b) (cp b)
theorem arrP_oth {f g f' g' : Nat → Int32} {o : Nat} {L : List (Nat × Nat)} (h : arrP f g o L) (hL : ∀ i, i < L.length → f' (o + i) = f (o + i) ∧ g' (o + i) = g (o + i)) : arrP f' g' o L := by
  intro i q hq
  have h1 := hL i (List.getElem?_eq_some_iff.mp hq).1
  rw [h1.1, h1.2]; exact h i q hq
theorem mkT_step {F0 G G' : Nat → Nat → Int32} {Y : YT} {cp : Nat → List (Nat × Nat)} {q : Nat} {g11 g12 : Nat → Int32} (H : mkT F0 G Y cp q) (hl : ∀ b, b < yB Y → (cp b).length ≤ 4) (hq : q < yB Y)
    (hu : G' = va_up (va_up (va_up G 11 g11) 12 g12) 10 (upd (G 10) q (nI (filP (cp q)).length))) (hA : arrP g11 g12 (5 * q) (filP (cp q))) (hO : ∀ j, j < 5 * q ∨ 5 * q + 5 ≤ j → g11 j = G 11 j ∧ g12 j = G 12 j) : mkT F0 G' Y cp (q + 1) := by
  obtain ⟨k1, k2, k3⟩ := H
  have e10 : G' 10 = upd (G 10) q (nI (filP (cp q)).length) := by rw [hu]; rfl
  have e11 : G' 11 = g11 := by rw [hu]; rfl
  have e12 : G' 12 = g12 := by rw [hu]; rfl
  refine ⟨fun k q1 q2 q3 q4 q5 => by rw [hu, va_up_ne _ _ q3, va_up_ne _ _ q5, va_up_ne _ _ q4]; exact k1 k q1 q2 q3 q4 q5, fun b hb => ?_, fun b h1 h2 => ?_⟩
  · rw [e10, e11, e12]
    by_cases e : b = q
    · subst e; rw [upd_s]; exact ⟨rfl, hA⟩
    · rw [upd_n e]
      have h3 := k2 b (by omega)
      have h4 := filP_len (cp b)
      have h5 := hl b (by omega)
      exact ⟨h3.1, arrP_oth h3.2 (fun i hi => hO _ (by omega))⟩
  · rw [e10, e11, e12, upd_n (by omega)]
    have h3 := k3 b (by omega) h2
    have h5 := hl b h2
    exact ⟨h3.1, arrP_oth h3.2 (fun i hi => hO _ (by omega))⟩
theorem mkT_0 {F0 G : Nat → Nat → Int32} {Y : YT} {I : Nat → Int32} {wd nr t : Nat} {T : List (Nat × Nat)} {Z : List (Nat × Nat × Nat × Nat)} (hM : MR I F0 Y) (H : mkF F0 G Y wd nr T t Z) : mkT G G Y (fun b => cutPL (yP Y b) (amN wd nr Z b)) 0 := by
  refine ⟨fun _ _ _ _ _ _ => rfl, fun b hb => absurd hb (Nat.not_lt_zero _), fun b _ hb => ?_⟩
  have h1 := hM.2.2.2.2.2.1 b hb
  refine ⟨by rw [H.1 10 (by decide) (by decide) (by decide), h1.2.1, cutPL_len], fun i q hq => ?_⟩
  have hi := (List.getElem?_eq_some_iff.mp hq).1
  rw [cutPL_len] at hi
  rw [cutPL_get hi] at hq
  cases hq
  refine ⟨(H.2.1 b hb i hi).1, ?_⟩
  rw [H.1 12 (by decide) (by decide) (by decide)]
  exact (arrP_at h1.2.2 hi).2
theorem cp_bd {F0 G : Nat → Nat → Int32} {Y : YT} {wd nr t : Nat} {T : List (Nat × Nat)} {Z : List (Nat × Nat × Nat × Nat)} (hY : WF Y) (H : mkF F0 G Y wd nr T t Z) {b : Nat} (hb : b < yB Y) : ∀ q ∈ cutPL (yP Y b) (amN wd nr Z b), q.1 ≤ 600 ∧ q.2 ≤ 600 := by
  intro q hq
  obtain ⟨p, hp, rfl⟩ := List.mem_map.mp hq
  have hp := List.mem_range.mp hp
  have h1 := (H.2.1 b hb p hp).2
  have h2 := (hY.2.2.2.2.2.1 b hb).2.2 _ (paD_mem hp)
  exact ⟨by show (paD (yP Y b) p).1 + amN wd nr Z b p ≤ 600; omega, h2.2⟩
theorem hand_s {f g : Nat → Int32} {x k : Nat} {v : Nat → Nat} (hg : ∀ j, g j = if 40 * x ≤ j ∧ j < 40 * x + k then nI (v (j - 40 * x)) else f j) : ∀ j, upd g (40 * x + k) (nI (v k)) j = if 40 * x ≤ j ∧ j < 40 * x + (k + 1) then nI (v (j - 40 * x)) else f j := by
  intro j
  by_cases e : j = 40 * x + k
  · subst e; rw [upd_s, if_pos ⟨by omega, by omega⟩, show 40 * x + k - 40 * x = k by omega]
  · rw [upd_n e, hg j]
    by_cases e2 : 40 * x ≤ j ∧ j < 40 * x + k
    · rw [if_pos e2, if_pos ⟨e2.1, by omega⟩]
    · rw [if_neg e2, if_neg (fun h => e2 ⟨h.1, by omega⟩)]
theorem mk_end {I J : Nat → Int32} {F G G' : Nat → Nat → Int32} {Y : YT} {i : Nat} {g14 g15 : Nat → Int32} (hM : MR I F Y) (hY : WF Y) (hif : i < yF Y) (hJ : ∀ k, 1 ≤ k → k ≤ 4 → J k = if k = 3 then nI (yC Y + 1) else I k)
    (hT : ∀ b, b < yB Y → G 10 b = nI (filP (cutPL (yP Y b) (amN (yg Y i / ys Y i + 3) (yg Y i / ys Y i + 2) (planY Y i) b))).length ∧ arrP (G 11) (G 12) (5 * b) (filP (cutPL (yP Y b) (amN (yg Y i / ys Y i + 3) (yg Y i / ys Y i + 2) (planY Y i) b))))
    (hG : ∀ k, 5 ≤ k → k ≤ 21 → k ≠ 10 → k ≠ 11 → k ≠ 12 → G k = F k)
    (h14 : ∀ j, g14 j = if 40 * yC Y ≤ j ∧ j < 40 * yC Y + ys Y i then nI (newB (planY Y i) (ys Y i) (yg Y i) (j - 40 * yC Y)) else F 14 j)
    (h15 : ∀ j, g15 j = if 40 * yC Y ≤ j ∧ j < 40 * yC Y + ys Y i then nI 0 else F 15 j)
    (e14 : G' 14 = g14) (e15 : G' 15 = g15) (e13 : G' 13 = upd (F 13) (yC Y) (nI i)) (e16 : G' 16 = upd (F 16) (yC Y) (nI 0)) (hG' : ∀ k, 5 ≤ k → k ≤ 21 → k ≠ 13 → k ≠ 14 → k ≠ 15 → k ≠ 16 → G' k = G k) : MR J G' (makeY Y i) := by
  obtain ⟨h1, h2, h3, h4, hF, hB, hC, hR, hW⟩ := hM
  obtain ⟨hw0, hwF, hwB, hwC, hwf, hwb, hwc, hwr, hww⟩ := hY
  have o : ∀ k, 5 ≤ k → k ≤ 21 → k ≠ 10 → k ≠ 11 → k ≠ 12 → k ≠ 13 → k ≠ 14 → k ≠ 15 → k ≠ 16 → G' k = F k := fun k a b c d e f g h i => (hG' k a b f g h i).trans (hG k a b c d e)
  unfold MR
  rw [hJ 1 (by omega) (by omega), hJ 2 (by omega) (by omega), hJ 3 (by omega) (by omega), hJ 4 (by omega) (by omega), o 5 (by decide) (by decide) (by decide) (by decide) (by decide) (by decide) (by decide) (by decide) (by decide), o 6 (by decide) (by decide) (by decide) (by decide) (by decide) (by decide) (by decide) (by decide) (by decide), o 7 (by decide) (by decide) (by decide) (by decide) (by decide) (by decide) (by decide) (by decide) (by decide), o 8 (by decide) (by decide) (by decide) (by decide) (by decide) (by decide) (by decide) (by decide) (by decide), o 9 (by decide) (by decide) (by decide) (by decide) (by decide) (by decide) (by decide) (by decide) (by decide), o 17 (by decide) (by decide) (by decide) (by decide) (by decide) (by decide) (by decide) (by decide) (by decide), o 18 (by decide) (by decide) (by decide) (by decide) (by decide) (by decide) (by decide) (by decide) (by decide), o 19 (by decide) (by decide) (by decide) (by decide) (by decide) (by decide) (by decide) (by decide) (by decide), o 20 (by decide) (by decide) (by decide) (by decide) (by decide) (by decide) (by decide) (by decide) (by decide), o 21 (by decide) (by decide) (by decide) (by decide) (by decide) (by decide) (by decide) (by decide) (by decide), hG' 10 (by decide) (by decide) (by decide) (by decide) (by decide) (by decide), hG' 11 (by decide) (by decide) (by decide) (by decide) (by decide) (by decide), hG' 12 (by decide) (by decide) (by decide) (by decide) (by decide) (by decide), e13, e14, e15, e16]
  refine ⟨h1, h2, rfl, h4, hF, ?_, ?_, hR, hW⟩
  · intro b hb
    have hb : b < yB Y := hb
    have e : yP (makeY Y i) b = filP (cutPL (yP Y b) (amN (yg Y i / ys Y i + 3) (yg Y i / ys Y i + 2) (planY Y i) b)) := if_pos hb
    rw [e]
    exact ⟨(hB b hb).1, (hT b hb).1, (hT b hb).2⟩
  · intro c hc
    have hc : c < yC Y + 1 := hc
    have hsi := (hwf i hif).2.2.2.2.2.2.2.2
    by_cases q : c = yC Y
    · subst q
      have e1 : ycf (makeY Y i) (yC Y) = i := by simp [ycf, makeY, va_up]
      have e2 : yE (makeY Y i) (yC Y) = [] := by simp [yE, makeY, va_up]
      rw [e1, e2, upd_s, upd_s]
      refine ⟨rfl, rfl, fun j z hz => by simp at hz, fun k hk => ?_⟩
      have hk : k < ys Y i := hk
      rw [h14, h15, if_pos ⟨by omega, by omega⟩, if_pos ⟨by omega, by omega⟩, show 40 * yC Y + k - 40 * yC Y = k by omega]
      constructor
      · simp [ybo, makeY, va_up]
      · simp [ypa, makeY, va_up]
    · have hc1 : c < yC Y := by omega
      obtain ⟨a1, a2, a3, a4⟩ := hC c hc1
      have e1 : ycf (makeY Y i) c = ycf Y c := by simp [ycf, makeY, va_up, q]
      have e2 : yE (makeY Y i) c = yE Y c := by simp [yE, makeY, va_up, q]
      rw [e1, e2, upd_n q, upd_n q]
      refine ⟨a1, a2, a3, fun k hk => ?_⟩
      have hk : k < ys Y (ycf Y c) := hk
      have hsc := (hwf (ycf Y c) (hwc c hc1).1).2.2.2.2.2.2.2.2
      have h5 := a4 k hk
      rw [h14, h15, if_neg (by omega), if_neg (by omega)]
      constructor
      · rw [h5.1]; simp [ybo, makeY, va_up, q]
      · rw [h5.2]; simp [ypa, makeY, va_up, q]
theorem cwN_gap (n g : Nat) {k : Nat} : ∀ j, k ≤ j → cwN n g j + k ≤ cwN n g k + j
  | 0, h => by rw [show k = 0 by omega]; exact Nat.le_refl _
  | j + 1, h => by
    by_cases e : k = j + 1
    · rw [e]; exact Nat.le_refl _
    · have := cwN_gap n g (k := k) j (by omega)
      rw [cwN]; split <;> omega
theorem cw_t {n g k : Nat} (hn : 0 < n) (hk : k < n) (h : widthN n k g + 2 = g / n + 3) : cwN n g k < g % n := by
  have h1 := cwN_mono n g (k := k + 1) n (by omega)
  rw [cwN_all hn, cwN, if_pos h] at h1; omega
theorem cw_f {n g k : Nat} (hn : 0 < n) (hk : k < n) (h : ¬ widthN n k g + 2 = g / n + 3) : k - cwN n g k < n - g % n := by
  have h1 := cwN_gap n g (k := k + 1) n (by omega)
  have h2 := cwN_le n g k
  rw [cwN_all hn, cwN, if_neg h] at h1; omega
theorem dp_nil {wd nr a n : Nat} (h : (n : Int) ≤ dpN wd nr [] a) : a = 0 ∧ n = 0 := by
  rw [dpN] at h; split at h <;> omega
theorem plan_end {Y : YT} {wd nr a n t : Nat} {T : List (Nat × Nat)} (ht : T.length ≤ t) : planT Y wd nr (T.drop t) a n = [] := by
  rw [List.drop_of_length_le ht, planT]
theorem bestF_giv {Y : YT} {wd nr wm nm : Nat} : ∀ n, bestF Y wd nr wm nm n ≠ 0 → givesX Y wd nr wm nm (bestF Y wd nr wm nm n)
  | 0, h => absurd rfl h
  | n + 1, h => by
    by_cases q : betterN (n + 1) (bestF Y wd nr wm nm n) ∧ givesX Y wd nr wm nm (n + 1)
    · rw [bestF_t q.1 q.2]; exact q.2
    · rw [bestF_f q] at h ⊢; exact bestF_giv n h
theorem best_giv {Y : YT} {i : Nat} (h : bestY Y i ≠ 0) : ((ys Y i - yg Y i % ys Y i : Nat) : Int) ≤ dpN (wdY Y i) (nrY Y i) (lenL Y (takeS Y (lookK Y) (bestY Y i) 8)) (yg Y i % ys Y i) := bestF_giv _ h
