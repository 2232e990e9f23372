/-! the yard with a new form, a new bolt -/
theorem nin_app {K : List Nat} {k j : Nat} (h : k ∉ K) (h2 : k ≠ j) : k ∉ K ++ [j] := fun z => (List.mem_append.mp z).elim h (fun y => h2 (List.mem_singleton.mp y))
theorem mem_new (K : List Nat) (k : Nat) : k ∈ K ++ [k] := List.mem_append_right _ List.mem_cons_self
theorem KR.n {K : List Nat} {Y : YT} (h : KR K Y) {k : Nat} (hk : ¬ keyOk Y k) : k ∉ K := fun z => hk ((h k).mp z)
theorem YR_ad {cy : Nat → ClassId} {ad ad' : Nat → Nat} {E E' : Nat → va_E} {Y : YT} (hR : YR cy ad E Y) (hY : WF Y) (ha : ∀ k, keyOk Y k → ad' k = ad k) (he : ∀ k, keyOk Y k → E' k = E k) : YR cy ad' E' Y := by
  obtain ⟨⟨a0, f1, f2, f3, a1, a2, a3, r1, r2, r3⟩, h2, h3, h4, h5, h6, h7⟩ := hR
  have A : ∀ k, k < 21 → ad' k = ad k := fun k hk => ha k (Or.inl hk)
  have B : ∀ k, k < 21 → E' k = E k := fun k hk => he k (Or.inl hk)
  refine ⟨⟨?_, f1, f2, f3, (B 1 (by decide)).trans a1, (B 2 (by decide)).trans a2, (B 3 (by decide)).trans a3, ?_, ?_, ?_⟩, YR2_congr h2 (B 4 (by decide)) (B 5 (by decide)), ?_, ?_, ?_, ?_, ?_⟩
  · rw [B 0 (by decide), a0, yardO, yardO, A 1 (by decide), A 2 (by decide), A 3 (by decide), A 4 (by decide), A 5 (by decide), A 6 (by decide), A 18 (by decide)]
  · intro i
    rw [r1 i]
    by_cases q : i < yF Y
    · rw [if_pos q, if_pos q, ha _ (by unfold keyOk; omega)]
    · rw [if_neg q, if_neg q]
  · intro i
    rw [r2 i]
    by_cases q : i < yB Y
    · rw [if_pos q, if_pos q, ha _ (by unfold keyOk; omega)]
    · rw [if_neg q, if_neg q]
  · intro i
    rw [r3 i]
    by_cases q : i < yC Y
    · rw [if_pos q, if_pos q, ha _ (by unfold keyOk; omega)]
    · rw [if_neg q, if_neg q]
  · obtain ⟨nr, bl, PP, f7, f8, f9, f10, f11, f12, f13, f14, f15, f16, f17, k6, k7, k8, k9, k10, k11, k12, k13, k14, k15, k16, k17⟩ := h3
    refine ⟨nr, bl, PP, f7, f8, f9, f10, f11, f12, f13, f14, f15, f16, f17, ?_, (B 7 (by decide)).trans k7, (B 8 (by decide)).trans k8, (B 9 (by decide)).trans k9, (B 10 (by decide)).trans k10, (B 11 (by decide)).trans k11, (B 12 (by decide)).trans k12, (B 13 (by decide)).trans k13, (B 14 (by decide)).trans k14, (B 15 (by decide)).trans k15, (B 16 (by decide)).trans k16, (B 17 (by decide)).trans k17⟩
    rw [B 6 (by decide), k6, sawO, sawO, A 7 (by decide), A 8 (by decide), A 9 (by decide), A 10 (by decide), A 11 (by decide), A 12 (by decide), A 13 (by decide), A 14 (by decide), A 15 (by decide), A 16 (by decide), A 17 (by decide)]
  · obtain ⟨sp, n, f, g, k1, k2, k3⟩ := h4
    refine ⟨sp, n, f, g, ?_, (B 19 (by decide)).trans k2, (B 20 (by decide)).trans k3⟩
    rw [B 18 (by decide), k1, cellB, cellB, A 19 (by decide), A 20 (by decide)]
  · exact fun i hi => (he _ (by unfold keyOk; omega)).trans (h5 i hi)
  · intro b hb
    obtain ⟨f, g, k1, k2, k3, k4⟩ := h6 b hb
    refine ⟨f, g, ?_, (he _ (by unfold keyOk; omega)).trans k2, (he _ (by unfold keyOk; omega)).trans k3, k4⟩
    rw [he _ (by unfold keyOk; omega), k1, cellB, cellB, ha (3000 + b) (by unfold keyOk; omega), ha (4000 + b) (by unfold keyOk; omega)]
  · intro c hc
    have hcf := (hY.2.2.2.2.2.2.1 c hc).1
    obtain ⟨fb, fp, fd, ft, fk, k0, k1, k2, k3, k4, k5, k6⟩ := h7 c hc
    refine ⟨fb, fp, fd, ft, fk, ?_, (he _ (by unfold keyOk; omega)).trans k1, (he _ (by unfold keyOk; omega)).trans k2, (he _ (by unfold keyOk; omega)).trans k3, (he _ (by unfold keyOk; omega)).trans k4, (he _ (by unfold keyOk; omega)).trans k5, k6⟩
    rw [he _ (by unfold keyOk; omega), k0, caskO, caskO, ha (1000 + ycf Y c) (by unfold keyOk; omega), ha (6000 + c) (by unfold keyOk; omega), ha (7000 + c) (by unfold keyOk; omega), ha (8000 + c) (by unfold keyOk; omega), ha (9000 + c) (by unfold keyOk; omega), ha (10000 + c) (by unfold keyOk; omega)]
theorem ref_push {ad : Nat → Nat} {o n : Nat} {f : Nat → Option Nat} (h : refR ad o n f) : refR ad o (n + 1) (va_up f n (some (ad (o + n)))) := by
  intro i
  by_cases e : i = n
  · subst e; rw [va_up_self, if_pos (by omega)]
  · rw [va_up_ne _ _ e, h i]
    by_cases q : i < n
    · rw [if_pos q, if_pos (by omega)]
    · rw [if_neg q, if_neg (by omega)]
theorem YR_form {cy : Nat → ClassId} {ad : Nat → Nat} {E u : Nat → va_E} {Y : YT} {a b c d : Nat} {f1 : Nat → Option Nat} (hR : YR cy ad E Y) (hY : WF Y) (hE1 : E 1 = rowQ cy 3 8 f1) (hr1 : refR ad 1000 (yF Y) f1) (h0 : u 0 = yardO ad (yF Y + 1) (yB Y) (yC Y) (yNow Y)) (h1 : u 1 = rowQ cy 3 8 (va_up f1 (yF Y) (some (ad (1000 + yF Y))))) (hn : u (1000 + yF Y) = cellF a b c d) (ho : ∀ k, k ≠ 0 → k ≠ 1 → k ≠ 1000 + yF Y → u k = E k) :
    YR cy ad u (va_up Y.1 1 (yF Y + 1), fun j i => if i = yF Y then (if j = 0 then a else if j = 1 then b else if j = 2 then c else if j = 3 then d else Y.2.1 j i) else Y.2.1 j i, Y.2.2) := by
  obtain ⟨⟨a0, g1, f2, f3, a1, a2, a3, r1, r2, r3⟩, ⟨f4, f5, b1, b2, b3, b4⟩, h3, h4, h5, h6, h7⟩ := hR
  obtain ⟨hw0, hwF, hwB, hwC, hwf, hwb, hwc, hwr, hww⟩ := hY
  have e : ∀ j i, 3 < j → (if i = yF Y then (if j = 0 then a else if j = 1 then b else if j = 2 then c else if j = 3 then d else Y.2.1 j i) else Y.2.1 j i) = Y.2.1 j i := by
    intro j i hj
    rw [if_neg (show ¬ j = 0 by omega), if_neg (show ¬ j = 1 by omega), if_neg (show ¬ j = 2 by omega), if_neg (show ¬ j = 3 by omega), ite_self]
  refine ⟨⟨h0, _, f2, f3, h1, (ho 2 (by decide) (by decide) (by omega)).trans a2, (ho 3 (by decide) (by decide) (by omega)).trans a3, ref_push hr1, r2, r3⟩, ⟨f4, f5, (ho 4 (by decide) (by decide) (by omega)).trans b1, (ho 5 (by decide) (by decide) (by omega)).trans b2, b3, fun k hk => (b4 k hk).trans (congrArg nI (e 6 k (by omega)).symm)⟩, saw_congr h3 (fun k _ _ => ho k (by omega) (by omega) (by omega)), spare_congr h4 (fun k _ _ => ho k (by omega) (by omega) (by omega)), ?_, ?_, ?_⟩
  · intro i hi
    have hi : i < yF Y + 1 := hi
    by_cases q : i = yF Y
    · subst q; rw [hn]; simp [yh, yg, ye, ys]
    · rw [ho _ (by omega) (by omega) (by omega), h5 i (by omega)]; simp [yh, yg, ye, ys, q]
  · intro b' hb'
    have hb1 : b' < yB Y := hb'
    have := boltAt_congr (h6 b' hb1) (E' := u) (ho _ (by omega) (by omega) (by omega)) (ho _ (by omega) (by omega) (by omega)) (ho _ (by omega) (by omega) (by omega))
    have e4 : ysp (va_up Y.1 1 (yF Y + 1), fun j i => if i = yF Y then (if j = 0 then a else if j = 1 then b else if j = 2 then c else if j = 3 then d else Y.2.1 j i) else Y.2.1 j i, Y.2.2) b' = ysp Y b' := e 4 b' (by omega)
    rw [e4]; exact this
  · intro c' hc'
    have hc1 : c' < yC Y := hc'
    have hcf1 := (hwc c' hc1).1
    have := caskAt_congr (u := u) (h7 c' hc1) (fun o9 ho9 => ho _ (by omega) (by omega) (by omega))
    have hcf : ycf (va_up Y.1 1 (yF Y + 1), fun j i => if i = yF Y then (if j = 0 then a else if j = 1 then b else if j = 2 then c else if j = 3 then d else Y.2.1 j i) else Y.2.1 j i, Y.2.2) c' = ycf Y c' := e 5 c' (by omega)
    have hst : ys (va_up Y.1 1 (yF Y + 1), fun j i => if i = yF Y then (if j = 0 then a else if j = 1 then b else if j = 2 then c else if j = 3 then d else Y.2.1 j i) else Y.2.1 j i, Y.2.2) (ycf Y c') = ys Y (ycf Y c') := if_neg (by omega)
    rw [hcf, hst]; exact this
theorem YR_bolt {cy : Nat → ClassId} {ad : Nat → Nat} {E u : Nat → va_E} {Y : YT} {w : Nat} {f2 : Nat → Option Nat} (hR : YR cy ad E Y) (hY : WF Y) (hE2 : E 2 = rowQ cy 4 40 f2) (hr2 : refR ad 2000 (yB Y) f2) (h0 : u 0 = yardO ad (yF Y) (yB Y + 1) (yC Y) (yNow Y)) (h2 : u 2 = rowQ cy 4 40 (va_up f2 (yB Y) (some (ad (2000 + yB Y))))) (hb : boltAt cy ad u (yB Y) (nI (yNow Y)) [(0, w)]) (ho : ∀ k, k ≠ 0 → k ≠ 2 → k ≠ 2000 + yB Y → k ≠ 3000 + yB Y → k ≠ 4000 + yB Y → u k = E k) :
    YR cy ad u (va_up Y.1 2 (yB Y + 1), va_up Y.2.1 4 (va_up (Y.2.1 4) (yB Y) (yNow Y)), va_up Y.2.2.1 (yB Y) [(0, w)], Y.2.2.2) := by
  obtain ⟨⟨a0, f1, g2, f3, a1, a2, a3, r1, r2, r3⟩, ⟨f4, f5, b1, b2, b3, b4⟩, h3, h4, h5, h6, h7⟩ := hR
  obtain ⟨hw0, hwF, hwB, hwC, hwf, hwb, hwc, hwr, hww⟩ := hY
  have o : ∀ k, k ≠ 0 → k ≠ 2 → k < 2000 → u k = E k := fun k p q r => ho k p q (by omega) (by omega) (by omega)
  refine ⟨⟨h0, f1, _, f3, (o 1 (by decide) (by decide) (by decide)).trans a1, h2, (o 3 (by decide) (by decide) (by decide)).trans a3, r1, ref_push hr2, r3⟩, ⟨f4, f5, (o 4 (by decide) (by decide) (by decide)).trans b1, (o 5 (by decide) (by decide) (by decide)).trans b2, b3, b4⟩, saw_congr h3 (fun k _ _ => o k (by omega) (by omega) (by omega)), spare_congr h4 (fun k _ _ => o k (by omega) (by omega) (by omega)), ?_, ?_, ?_⟩
  · intro i hi
    have hi : i < yF Y := hi
    exact (o _ (by omega) (by omega) (by omega)).trans (h5 i hi)
  · intro b hb'
    have hb' : b < yB Y + 1 := hb'
    by_cases q : b = yB Y
    · subst q
      have e1 : ysp (va_up Y.1 2 (yB Y + 1), va_up Y.2.1 4 (va_up (Y.2.1 4) (yB Y) (yNow Y)), va_up Y.2.2.1 (yB Y) [(0, w)], Y.2.2.2) (yB Y) = yNow Y := by simp [ysp, va_up]
      have e2 : yP (va_up Y.1 2 (yB Y + 1), va_up Y.2.1 4 (va_up (Y.2.1 4) (yB Y) (yNow Y)), va_up Y.2.2.1 (yB Y) [(0, w)], Y.2.2.2) (yB Y) = [(0, w)] := by simp [yP, va_up]
      rw [e1, e2]; exact hb
    · have e1 : ysp (va_up Y.1 2 (yB Y + 1), va_up Y.2.1 4 (va_up (Y.2.1 4) (yB Y) (yNow Y)), va_up Y.2.2.1 (yB Y) [(0, w)], Y.2.2.2) b = ysp Y b := by simp [ysp, va_up, q]
      have e2 : yP (va_up Y.1 2 (yB Y + 1), va_up Y.2.1 4 (va_up (Y.2.1 4) (yB Y) (yNow Y)), va_up Y.2.2.1 (yB Y) [(0, w)], Y.2.2.2) b = yP Y b := by simp [yP, va_up, q]
      rw [e1, e2]
      exact boltAt_congr (h6 b (by omega)) (ho _ (by omega) (by omega) (by omega) (by omega) (by omega)) (ho _ (by omega) (by omega) (by omega) (by omega) (by omega)) (ho _ (by omega) (by omega) (by omega) (by omega) (by omega))
  · intro c hc
    have hc : c < yC Y := hc
    exact caskAt_congr (u := u) (h7 c hc) (fun o9 ho9 => ho _ (by omega) (by omega) (by omega) (by omega) (by omega))
theorem KR_form {K : List Nat} {Y Y' : YT} (h : KR K Y) (h1 : yF Y' = yF Y + 1) (h2 : yB Y' = yB Y) (h3 : yC Y' = yC Y) : KR (K ++ [1000 + yF Y]) Y' := by
  intro k
  rw [List.mem_append, h k, List.mem_singleton]
  unfold keyOk
  rw [h1, h2, h3]
  omega
theorem KR_bolt {K : List Nat} {Y Y' : YT} (h : KR K Y) (h1 : yF Y' = yF Y) (h2 : yB Y' = yB Y + 1) (h3 : yC Y' = yC Y) : KR (((K ++ [2000 + yB Y]) ++ [3000 + yB Y]) ++ [4000 + yB Y]) Y' := by
  intro k
  rw [List.mem_append, List.mem_append, List.mem_append, h k, List.mem_singleton, List.mem_singleton, List.mem_singleton]
  unfold keyOk
  rw [h1, h2, h3]
  omega
