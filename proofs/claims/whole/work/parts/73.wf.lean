/-! the state behind a call is a state of a yard -/
theorem MR_0 {g21 : Nat → Int32} (h : ∀ k, k < 16 → g21 k = nI 1000) : MR (fun _ => nI 0) (fun k => if k = 21 then g21 else fun _ => 0) y0 := by
  refine ⟨rfl, rfl, rfl, rfl, fun i hi => absurd hi (Nat.not_lt_zero _), fun i hi => absurd hi (Nat.not_lt_zero _), fun i hi => absurd hi (Nat.not_lt_zero _), fun a b _ _ => rfl, fun k hk => ?_⟩
  exact h k hk
theorem WF_days {Y : YT} (hY : WF Y) (a : Int32) : WF (sp_days Y a).2.2 := by
  unfold sp_days
  split
  next q =>
    have hq := ix_lt q
    obtain ⟨h1, h2, h3, h4, h5, h6, h7, h8, h9⟩ := hY
    refine ⟨?_, h2, h3, h4, h5, fun b hb => ⟨Nat.le_trans (h6 b hb).1 (Nat.le_add_right _ _), (h6 b hb).2⟩, fun c hc => ⟨(h7 c hc).1, (h7 c hc).2.1, fun q hq => ?_, (h7 c hc).2.2.2⟩, h8, h9⟩
    · show yNow Y + ix a ≤ 100000
      omega
    · have := (h7 c hc).2.2.1 q hq
      exact ⟨this.1, Nat.le_trans this.2.1 (Nat.le_add_right _ _), this.2.2⟩
  · exact hY
theorem WF_weight {Y : YT} (hY : WF Y) (a b : Int32) : WF (sp_weight Y a b).2.2 := by
  unfold sp_weight
  split
  next q =>
    obtain ⟨h1, h2, h3, h4, h5, h6, h7, h8, h9⟩ := hY
    refine ⟨h1, h2, h3, h4, h5, h6, h7, h8, fun k hk => ?_⟩
    show 1 ≤ va_up (Y.2.1 6) (ix a) (ix b) k ∧ va_up (Y.2.1 6) (ix a) (ix b) k ≤ 5000
    by_cases e : k = ix a
    · subst e; rw [va_up_self]; have := q.2; unfold ix; omega
    · rw [va_up_ne _ _ e]; exact h9 k hk
  · exact hY
theorem WF_bars {Y : YT} (hY : WF Y) (a b : Int32) {x : Nat} (hx : x ≤ 1) : WF (sp_bars Y a b x).2.2 := by
  unfold sp_bars
  split
  next q =>
    obtain ⟨h1, h2, h3, h4, h5, h6, h7, h8, h9⟩ := hY
    refine ⟨h1, h2, h3, h4, h5, h6, h7, fun a' b' ha hb => ?_, h9⟩
    show va_up (Y.2.2.2.1 2) (ix a) (va_up (Y.2.2.2.1 2 (ix a)) (ix b) x) a' b' ≤ 1
    by_cases e : a' = ix a
    · subst e; rw [va_up_self]
      by_cases e2 : b' = ix b
      · subst e2; rw [va_up_self]; exact hx
      · rw [va_up_ne _ _ e2]; exact h8 _ _ ha hb
    · rw [va_up_ne _ _ e]; exact h8 _ _ ha hb
  · exact hY
theorem WF_form {Y : YT} (hY : WF Y) (a b c d : Int32) : WF (sp_form Y a b c d).2.2 := by
  unfold sp_form
  split
  next q =>
    obtain ⟨h1, h2, h3, h4, h5, h6, h7, h8, h9⟩ := hY
    have hn : ∀ {i : Nat}, i < yF Y → i ≠ yF Y := fun hi => Nat.ne_of_lt hi
    refine ⟨h1, q.1, h3, h4, fun i hi => ?_, fun b' hb => ⟨?_, (h6 b' hb).2⟩, fun c' hc => ?_, h8, fun k hk => ?_⟩
    · have hi' : i < yF Y + 1 := hi
      by_cases e : i = yF Y
      · subst e
        simp only [yh, yg, ye, ys]
        simpa using q.2.2.2.2.2
      · have := h5 i (by omega)
        simp only [yh, yg, ye, ys, if_neg e]
        exact this
    · have := (h6 b' hb).1
      show (if b' = yF Y then _ else _) ≤ yNow Y
      split <;> simpa [ysp] using this
    · have h := h7 c' hc
      have ec : ycf (va_up Y.1 1 (yF Y + 1), (fun j i => if i = yF Y then (if j = 0 then ix a else if j = 1 then ix b else if j = 2 then ix c else if j = 3 then ix d else Y.2.1 j i) else Y.2.1 j i), Y.2.2) c' = ycf Y c' := by
        simp [ycf]
      have es : ∀ i, i < yF Y → ys (va_up Y.1 1 (yF Y + 1), (fun j i => if i = yF Y then (if j = 0 then ix a else if j = 1 then ix b else if j = 2 then ix c else if j = 3 then ix d else Y.2.1 j i) else Y.2.1 j i), Y.2.2) i = ys Y i := by
        intro i hi
        show (if i = yF Y then _ else _) = _
        rw [if_neg (hn hi)]; rfl
      rw [ec, es _ h.1]
      exact ⟨Nat.lt_succ_of_lt h.1, h.2⟩
    · have := h9 k hk
      show 1 ≤ (if k = yF Y then _ else _) ∧ (if k = yF Y then _ else _) ≤ 5000
      split <;> simpa [ywt] using this
  · exact hY
theorem WF_bolt {Y : YT} (hY : WF Y) (a : Int32) : WF (sp_bolt Y a).2.2 := by
  unfold sp_bolt
  split
  next q =>
    obtain ⟨h1, h2, h3, h4, h5, h6, h7, h8, h9⟩ := hY
    refine ⟨h1, h2, q.1, h4, h5, fun b hb => ?_, fun c hc => ⟨(h7 c hc).1, (h7 c hc).2.1, (h7 c hc).2.2.1, fun k hk => ⟨Nat.lt_succ_of_lt ((h7 c hc).2.2.2 k hk).1, ((h7 c hc).2.2.2 k hk).2⟩⟩, h8, h9⟩
    have hb' : b < yB Y + 1 := hb
    show va_up (Y.2.1 4) (yB Y) (yNow Y) b ≤ yNow Y ∧ partsOk (va_up Y.2.2.1 (yB Y) [(0, ix a)] b)
    by_cases e : b = yB Y
    · subst e; rw [va_up_self, va_up_self]
      refine ⟨Nat.le_refl _, (by show 1 ≤ 4; decide), fun z hz => ?_⟩
      rw [List.mem_singleton] at hz
      subst hz
      have := q.2
      simp only [ix]; omega
    · rw [va_up_ne _ _ e, va_up_ne _ _ e]; exact h6 b (by omega)
  · exact hY
theorem WF_tell {Y : YT} (hY : WF Y) (a b c : Int32) : WF (sp_tell Y a b c).2.2 := by
  unfold sp_tell
  split
  next q =>
    split
    next q2 =>
      split
      next q3 =>
        obtain ⟨h1, h2, h3, h4, h5, h6, h7, h8, h9⟩ := hY
        have hb := ix_lt q3.1
        have hc := ix_lt q2
        refine ⟨h1, h2, h3, h4, h5, h6, fun c' hc' => ?_, h8, h9⟩
        have h := h7 c' hc'
        have hb' : ∀ k, ybo (tellY Y (ix a) (ix b) (ix c)) c' k = ybo Y c' k := fun _ => rfl
        have hs : ys (tellY Y (ix a) (ix b) (ix c)) (ycf (tellY Y (ix a) (ix b) (ix c)) c') = ys Y (ycf Y c') := rfl
        refine ⟨h.1, ?_⟩
        rw [hs]
        by_cases e : c' = ix a
        · subst e
          have eE : yE (tellY Y (ix a) (ix b) (ix c)) (ix a) = yE Y (ix a) ++ [(ix b, yNow Y, ix c)] := va_up_self _ _ _
          have eP : ∀ k, ypa (tellY Y (ix a) (ix b) (ix c)) (ix a) k = if ix c < 16 then ypa Y (ix a) k ||| 2 ^ (ix c) else ypa Y (ix a) k := fun k => by
            show va_up (Y.2.2.2.1 1) (ix a) _ (ix a) k = _
            rw [va_up_self]; rfl
          rw [eE]
          refine ⟨?_, ?_, fun k hk => ⟨(h.2.2.2 k hk).1, ?_⟩⟩
          · rw [List.length_append, List.length_singleton]; have := h.2.1; have := q3.2.1; omega
          · intro z hz
            rw [List.mem_append, List.mem_singleton] at hz
            rcases hz with hz | rfl
            · exact h.2.2.1 z hz
            · exact ⟨by show ix b ≤ yNow Y; omega, Nat.le_refl _, by show ix c ≤ 16; omega⟩
          · rw [eP k]
            have hp := (h.2.2.2 k hk).2
            split
            next q5 => exact Nat.or_lt_two_pow (n := 16) hp (Nat.pow_lt_pow_right (by decide) q5)
            · exact hp
        · have eE : yE (tellY Y (ix a) (ix b) (ix c)) c' = yE Y c' := va_up_ne _ _ e
          have eP : ∀ k, ypa (tellY Y (ix a) (ix b) (ix c)) c' k = ypa Y c' k := fun k => by
            show va_up (Y.2.2.2.1 1) (ix a) _ c' k = _
            rw [va_up_ne _ _ e]; rfl
          rw [eE]
          exact ⟨h.2.1, h.2.2.1, fun k hk => ⟨(h.2.2.2 k hk).1, by rw [eP]; exact (h.2.2.2 k hk).2⟩⟩
      · exact hY
    · exact hY
  · exact hY
theorem swapF_P {f : Nat → Nat → Nat} {a b c d : Nat} {p : Nat → Nat → Prop} (hac : a ≠ c) {q : Nat → Prop} (h : ∀ x k, p x k → q (f x k)) (ha : q (f a b)) (hc : q (f c d)) (x k : Nat) (hp : p x k) : q (swapF f a b c d x k) := by
  unfold swapF
  by_cases e : x = c
  · subst e
    rw [va_up_self]
    by_cases e2 : k = d
    · subst e2; rw [va_up_self]; exact ha
    · rw [va_up_ne _ _ e2, va_up_ne _ _ (fun z => hac z.symm)]; exact h x k hp
  · rw [va_up_ne _ _ e]
    by_cases e3 : x = a
    · subst e3
      rw [va_up_self]
      by_cases e2 : k = b
      · subst e2; rw [va_up_self]; exact hc
      · rw [va_up_ne _ _ e2]; exact h x k hp
    · rw [va_up_ne _ _ e3]; exact h x k hp
theorem WF_swap {Y : YT} (hY : WF Y) (a b c d : Int32) : WF (sp_swap Y a b c d).2.2 := by
  unfold sp_swap
  split
  next q =>
    split
    next q2 =>
      obtain ⟨h1, h2, h3, h4, h5, h6, h7, h8, h9⟩ := hY
      refine ⟨h1, h2, h3, h4, h5, h6, fun c' hc' => ⟨(h7 c' hc').1, (h7 c' hc').2.1, (h7 c' hc').2.2.1, fun k hk => ⟨?_, ?_⟩⟩, h8, h9⟩
      · exact swapF_P (f := ybo Y) (p := fun x k => x < yC Y ∧ k < ys Y (ycf Y x)) (q := fun z => z < yB Y) q2.1 (fun x k hp => ((h7 x hp.1).2.2.2 k hp.2).1) (((h7 _ (ix_lt q.1.1)).2.2.2 _ (ix_lt q.1.2)).1) (((h7 _ (ix_lt q.2.1)).2.2.2 _ (ix_lt q.2.2)).1) c' k ⟨hc', hk⟩
      · exact swapF_P (f := ypa Y) (p := fun x k => x < yC Y ∧ k < ys Y (ycf Y x)) (q := fun z => z < 65536) q2.1 (fun x k hp => ((h7 x hp.1).2.2.2 k hp.2).2) (((h7 _ (ix_lt q.1.1)).2.2.2 _ (ix_lt q.1.2)).2) (((h7 _ (ix_lt q.2.1)).2.2.2 _ (ix_lt q.2.2)).2) c' k ⟨hc', hk⟩
    · exact hY
  · exact hY
/-- a bolt's parts changed -/
theorem WF_parts {Y : YT} (hY : WF Y) {b : Nat} {L : List (Nat × Nat)} (hL : partsOk L) : WF (partsY Y b L) := by
  obtain ⟨h1, h2, h3, h4, h5, h6, h7, h8, h9⟩ := hY
  refine ⟨h1, h2, h3, h4, h5, fun b' hb => ⟨(h6 b' hb).1, ?_⟩, h7, h8, h9⟩
  show partsOk (va_up Y.2.2.1 b L b')
  by_cases e : b' = b
  · subst e; rw [va_up_self]; exact hL
  · rw [va_up_ne _ _ e]; exact (h6 b' hb).2
theorem WF_boltY {Y : YT} (hY : WF Y) {c k b : Nat} (hb : b < yB Y) : WF (boltY Y c k b) := by
  obtain ⟨h1, h2, h3, h4, h5, h6, h7, h8, h9⟩ := hY
  refine ⟨h1, h2, h3, h4, h5, h6, fun c' hc' => ⟨(h7 c' hc').1, (h7 c' hc').2.1, (h7 c' hc').2.2.1, fun k' hk => ?_⟩, h8, h9⟩
  have h := (h7 c' hc').2.2.2 k' hk
  show va_up (Y.2.2.2.1 0) c (va_up (Y.2.2.2.1 0 c) k b) c' k' < yB Y ∧ va_up (Y.2.2.2.1 1) c (va_up (Y.2.2.2.1 1 c) k 0) c' k' < 65536
  by_cases e : c' = c
  · subst e
    rw [va_up_self, va_up_self]
    by_cases e2 : k' = k
    · subst e2; rw [va_up_self, va_up_self]; exact ⟨hb, by decide⟩
    · rw [va_up_ne _ _ e2, va_up_ne _ _ e2]; exact h
  · rw [va_up_ne _ _ e, va_up_ne _ _ e]; exact h
theorem filP_ok {L : List (Nat × Nat)} (hl : L.length ≤ 4) (h : ∀ q ∈ L, q.1 ≤ q.2 ∧ q.2 ≤ 600) : partsOk (filP L) := by
  refine ⟨Nat.le_trans (filP_len L) hl, fun q hq => ?_⟩
  rw [filP, List.mem_filter, decide_eq_true_eq] at hq
  have := h q hq.1
  omega
theorem fitN_ok {w : Nat} {L : List (Nat × Nat)} : ∀ {n i j : Nat}, fitN w L i n = some j → i + n ≤ L.length → j < L.length ∧ w ≤ (paD L j).2 - (paD L j).1
  | 0, _, _, h, _ => by cases h
  | n + 1, i, j, h, hn => by
    rw [fitN] at h
    split at h
    · cases h; exact ⟨by omega, by assumption⟩
    · exact fitN_ok h (by omega)
theorem renB_ok {Y : YT} {w : Nat} : ∀ {n b : Nat} {z : Nat × Nat}, renB Y w b n = some z → z.1 < b + n ∧ fitN w (yP Y z.1) 0 (yP Y z.1).length = some z.2
  | 0, _, _, h => by cases h
  | n + 1, b, z, h => by
    rw [renB] at h
    split at h
    next i hi =>
      cases h
      split at hi
      · exact ⟨by omega, hi⟩
      · cases hi
    next hi =>
      have := renB_ok h
      exact ⟨by omega, this.2⟩
theorem WF_renew {Y : YT} (hY : WF Y) (a b : Int32) : WF (sp_renew Y a b).2.2 := by
  unfold sp_renew
  split
  next q =>
    split
    next z hz =>
      have h1 := renB_ok hz
      have h2 := fitN_ok h1.2 (by omega)
      have hb : z.1 < yB Y := by have := h1.1; omega
      have hP := (hY.2.2.2.2.2.1 z.1 hb).2
      refine WF_boltY (WF_parts hY (filP_ok (by rw [shortL_len]; exact hP.1) (fun q hq => ?_))) hb
      rw [shortL] at hq
      rcases List.mem_or_eq_of_mem_set hq with hq | rfl
      · have := hP.2 q hq; omega
      · have := hP.2 _ (paD_mem h2.1); have := h2.2; dsimp only; omega
    · exact hY
  · exact hY
