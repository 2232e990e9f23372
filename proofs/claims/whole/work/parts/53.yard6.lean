/-! bolts and casks changed -/
theorem YR_bc {cy : Nat → ClassId} {ad : Nat → Nat} {E u : Nat → va_E} {Y : YT} {P : Nat → List (Nat × Nat)} {g : Nat → Nat → Nat → Nat} {h : Nat → List (Nat × Nat × Nat)} (hR : YR cy ad E Y) (hs : sawAny cy ad u) (hp : spareAny cy ad u) (ho : ∀ k, k ≤ 5 ∨ (1000 ≤ k ∧ k < 2000) → u k = E k) (hF : yF Y ≤ 8) (hB : ∀ b, b < yB Y → boltAt cy ad u b (nI (ysp Y b)) (P b)) (g2 : g 2 = Y.2.2.2.1 2) (hC : ∀ c, c < yC Y → caskAt cy ad u c (ycf Y c) (ys Y (ycf Y c)) (g 0 c) (g 1 c) (h c)) : YR cy ad u (Y.1, Y.2.1, P, g, h) := by
  obtain ⟨h1, ⟨f4, f5, b1, b2, b3, b4⟩, _, _, h6⟩ := hR
  refine ⟨YR1_congr (Y := Y) h1 (fun k _ => ho k (by omega)), ⟨f4, f5, (ho 4 (by decide)).trans b1, (ho 5 (by decide)).trans b2, fun a ha => ?_, b4⟩, hs, hp, fun i hi => ?_, hB, hC⟩
  · obtain ⟨v, c1, c2, c3⟩ := b3 a ha
    refine ⟨v, c1, c2, fun b hb => (c3 b hb).trans ?_⟩
    show Y.2.2.2.1 2 a b = g 2 a b
    rw [g2]
  · have hi : i < yF Y := hi
    exact (ho _ (by omega)).trans (h6.1 i hi)
theorem arrE_push {f g k : Nat → Int32} {L : List (Nat × Nat × Nat)} {a b c n : Nat} (h : arrE f g k 0 L) (hn : n = L.length) : arrE (upd f n (nI a)) (upd g n (nI b)) (upd k n (nI c)) 0 (L ++ [(a, b, c)]) := by
  subst hn
  intro i q hq
  rw [Nat.zero_add]
  by_cases e : i < L.length
  · rw [List.getElem?_append_left e] at hq
    have := h i q hq
    rw [Nat.zero_add] at this
    rw [upd_n (by omega), upd_n (by omega), upd_n (by omega)]; exact this
  · have hl := (List.getElem?_eq_some_iff.mp hq).1
    simp at hl
    obtain rfl : i = L.length := by omega
    simp at hq
    subst hq
    exact ⟨upd_s _ _ _, upd_s _ _ _, upd_s _ _ _⟩
theorem E_same {E u : Nat → va_E} {ko kb ke : Nat} (h0 : u ko = E ko) (h1 : u kb = E kb) (h2 : u ke = E ke) (ho : ∀ j, j ≠ ko → j ≠ kb → j ≠ ke → u j = E j) : u = E := by
  funext j
  by_cases e0 : j = ko
  · rw [e0]; exact h0
  · by_cases e1 : j = kb
    · rw [e1]; exact h1
    · by_cases e2 : j = ke
      · rw [e2]; exact h2
      · exact ho j e0 e1 e2
theorem fil_drop {L : List (Nat × Nat)} (h : ∀ q ∈ L, q.1 ≤ q.2) : dropP L = filP L := by
  unfold dropP filP
  apply List.filter_congr
  intro q hq
  have := h q hq
  by_cases e : q.1 = q.2
  · simp [e]
  · have : q.1 < q.2 := by omega
    simp [e, this]
theorem short_le {L : List (Nat × Nat)} {i w : Nat} (hi : i < L.length) (hq : ∀ q ∈ L, q.1 < q.2 ∧ q.2 ≤ 600) (hw : w ≤ (paD L i).2 - (paD L i).1) : ∀ q ∈ shortL L i w, q.1 ≤ q.2 := by
  intro q h
  have h9 := hq _ (paD_mem hi)
  rcases List.mem_or_eq_of_mem_set h with h | h
  · have := hq q h; omega
  · subst h; show (paD L i).1 + w ≤ (paD L i).2; omega
theorem fitN_spec {w : Nat} {L : List (Nat × Nat)} : ∀ (n i j : Nat), i + n = L.length → fitN w L i n = some j → j < L.length ∧ w ≤ (paD L j).2 - (paD L j).1
  | 0, i, j, _, h => by rw [fitN] at h; cases h
  | n + 1, i, j, hl, h => by
    rw [fitN] at h
    by_cases q : w ≤ (paD L i).2 - (paD L i).1
    · rw [if_pos q] at h; cases h; exact ⟨by omega, q⟩
    · rw [if_neg q] at h; exact fitN_spec n (i + 1) j (by omega) h
theorem isS_n {o : Option Nat} (h : ¬ o.isSome = true) : o = none := by cases o <;> simp_all
theorem isS_s {o : Option Nat} (h : o.isSome = true) : ∃ i, o = some i := Option.isSome_iff_exists.mp h
theorem swF_a (f : Nat → Nat → Nat) {a b c d : Nat} (h : a ≠ c) : swapF f a b c d a = fun k => if k = b then f c d else f a k := by
  funext k
  rw [swapF_eq _ h, if_neg (fun z => h z.1)]
  by_cases q : k = b
  · rw [if_pos ⟨rfl, q⟩, if_pos q]
  · rw [if_neg (fun z => q z.2), if_neg q]
theorem swF_c (f : Nat → Nat → Nat) {a b c d : Nat} (h : a ≠ c) : swapF f a b c d c = fun k => if k = d then f a b else f c k := by
  funext k
  rw [swapF_eq _ h]
  by_cases q : k = d
  · rw [if_pos ⟨rfl, q⟩, if_pos q]
  · rw [if_neg (fun z => q z.2), if_neg (fun z => h z.1.symm), if_neg q]
theorem swF_o (f : Nat → Nat → Nat) {a b c d x : Nat} (h : a ≠ c) (h1 : x ≠ a) (h2 : x ≠ c) : swapF f a b c d x = f x := by
  funext k
  rw [swapF_eq _ h, if_neg (fun z => h2 z.1), if_neg (fun z => h1 z.1)]
theorem sw_row {f g : Nat → Int32} {bo pa : Nat → Nat} {n b x y : Nat} (h : ∀ k, k < n → f k = nI (bo k) ∧ g k = nI (pa k)) : ∀ k, k < n → upd f b (nI x) k = nI (if k = b then x else bo k) ∧ upd g b (nI y) k = nI (if k = b then y else pa k) := by
  intro k hk
  by_cases q : k = b
  · subst q; rw [upd_s, upd_s, if_pos rfl, if_pos rfl]; exact ⟨rfl, rfl⟩
  · rw [upd_n q, upd_n q, if_neg q, if_neg q]; exact h k hk
