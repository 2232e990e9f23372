/-! a bolt's rows by themselves -/
theorem arrP_0 {f g : Nat → Int32} {L : List (Nat × Nat)} (h : arrP f g 0 L) {i : Nat} (hi : i < L.length) : f i = nI (paD L i).1 ∧ g i = nI (paD L i).2 := by
  have := arrP_at h hi
  rwa [Nat.zero_add] at this
def dropP (L : List (Nat × Nat)) : List (Nat × Nat) := L.filter (fun q => decide (q.1 < q.2))
theorem dropP_skip {L : List (Nat × Nat)} {i : Nat} (hi : i < L.length) (h : ¬ (paD L i).1 < (paD L i).2) : dropP (L.take (i + 1)) = dropP (L.take i) := by
  rw [take_s hi]; simp [dropP, List.filter_append, h]
theorem dropP_keep {L : List (Nat × Nat)} {i : Nat} (hi : i < L.length) (h : (paD L i).1 < (paD L i).2) : dropP (L.take (i + 1)) = dropP (L.take i) ++ [((paD L i).1, (paD L i).2)] := by
  rw [take_s hi]; simp [dropP, List.filter_append, h]
theorem dropP_len (L : List (Nat × Nat)) : (dropP L).length ≤ L.length := List.length_filter_le _ _
theorem drop_step {L : List (Nat × Nat)} {f g f9 g9 f' g' : Nat → Int32} {k9 n' i : Nat} (hi : i < L.length) (hL : L.length ≤ 4) (hk : k9 = (dropP (L.take i)).length) (hA : arrP f9 g9 0 (dropP (L.take i))) (hO : ∀ j, k9 ≤ j → f9 j = f j ∧ g9 j = g j)
    (h1 : (paD L i).1 < (paD L i).2 ∧ k9 < 4 → f' = upd f9 k9 (nI (paD L i).1) ∧ g' = upd g9 k9 (nI (paD L i).2) ∧ n' = k9 + 1) (h2 : ¬ ((paD L i).1 < (paD L i).2 ∧ k9 < 4) → f' = f9 ∧ g' = g9 ∧ n' = k9) :
    n' = (dropP (L.take (i + 1))).length ∧ arrP f' g' 0 (dropP (L.take (i + 1))) ∧ ∀ j, n' ≤ j → f' j = f j ∧ g' j = g j := by
  have hk4 : k9 < 4 := by
    have := dropP_len (L.take i)
    rw [List.length_take] at this; omega
  by_cases q : (paD L i).1 < (paD L i).2
  · obtain ⟨rfl, rfl, rfl⟩ := h1 ⟨q, hk4⟩
    rw [dropP_keep hi q, List.length_append, ← hk]
    refine ⟨rfl, arrP_push hA (by omega), fun j hj => ?_⟩
    rw [upd_n (by omega), upd_n (by omega)]; exact hO j (by omega)
  · obtain ⟨rfl, rfl, rfl⟩ := h2 (fun z => q z.1)
    rw [dropP_skip hi q]
    exact ⟨hk, hA, hO⟩
theorem arrP_short0 {f g : Nat → Int32} {i w : Nat} {L : List (Nat × Nat)} (h : arrP f g 0 L) (hi : i < L.length) : arrP (upd f i (nI ((paD L i).1 + w))) g 0 (shortL L i w) := by
  have := arrP_short (w := w) h hi
  rwa [Nat.zero_add] at this
theorem shortL_bd2 {L : List (Nat × Nat)} {i w : Nat} (hi : i < L.length) (hq : ∀ q ∈ L, q.1 < q.2 ∧ q.2 ≤ 600) (hw : w ≤ (paD L i).2 - (paD L i).1) : ∀ q ∈ shortL L i w, q.1 ≤ 600 ∧ q.2 ≤ 600 := shortL_bd hi hq hw
theorem arrP_tk {f g : Nat → Int32} {i : Nat} {L : List (Nat × Nat)} (h : arrP f g 0 (L.take i)) (hi : i < L.length) : arrP (upd f i (nI (paD L i).1)) (upd g i (nI (paD L i).2)) 0 (L.take (i + 1)) := by
  rw [take_s hi]
  exact arrP_push h (by rw [List.length_take]; omega)
