/-! flaws by way of the spare rows -/
theorem fl_add {f g f' g' : Nat → Int32} {M : List (Nat × Nat)} {a b n n' : Nat} (hn : n = M.length) (hn4 : n ≤ 4) (hA : arrP f g 0 M) (h1 : a < b ∧ n < 4 → f' = upd f n (nI a) ∧ g' = upd g n (nI b) ∧ n' = n + 1) (h2 : ¬ (a < b ∧ n < 4) → f' = f ∧ g' = g ∧ n' = n) (hr : ¬ (a < b ∧ 4 ≤ n)) :
    n' = (M ++ (if a < b then [(a, b)] else [])).length ∧ n' ≤ 4 ∧ arrP f' g' 0 (M ++ (if a < b then [(a, b)] else [])) := by
  by_cases q : a < b
  · obtain ⟨rfl, rfl, rfl⟩ := h1 ⟨q, by omega⟩
    rw [if_pos q]
    exact ⟨by simp [hn], by omega, arrP_push hA (by omega)⟩
  · obtain ⟨rfl, rfl, rfl⟩ := h2 (fun z => q z.1)
    rw [if_neg q, List.append_nil]
    exact ⟨hn, hn4, hA⟩
theorem cutL_le (x y : Nat) (L : List (Nat × Nat)) (i : Nat) : (cutL x y (L.take i)).length ≤ (cutL x y L).length := by
  have h : cutL x y L = cutL x y (L.take i) ++ cutL x y (L.drop i) := by
    unfold cutL
    rw [← List.flatMap_append, List.take_append_drop]
  rw [h, List.length_append]; omega
theorem YR_spare {cy : Nat → ClassId} {ad : Nat → Nat} {E u : Nat → va_E} {Y : YT} (hR : YR cy ad E Y) (hp : spareAny cy ad u) (ho : ∀ k, k ≠ 18 → k ≠ 19 → k ≠ 20 → u k = E k) : YR cy ad u Y := by
  obtain ⟨h1, h2, h3, _, h5⟩ := hR
  exact ⟨YR1_congr h1 (fun k _ => ho k (by omega) (by omega) (by omega)), YR2_congr h2 (ho 4 (by decide) (by decide) (by decide)) (ho 5 (by decide) (by decide) (by decide)), saw_congr h3 (fun k _ _ => ho k (by omega) (by omega) (by omega)), hp, YR3_congr h5 (fun k _ => ho k (by omega) (by omega) (by omega))⟩
