/-! putting a part into the order by loss; laying a part -/
theorem ins_get {S : List Nat} {q n : Nat} (hq : q ≤ S.length) (i : Nat) : (S.take q ++ n :: S.drop q).getD i 0 = if i < q then S.getD i 0 else if i = q then n else S.getD (i - 1) 0 := by
  have hl : (S.take q).length = q := by rw [List.length_take]; omega
  by_cases h : i < q
  · rw [if_pos h]
    simp [List.getD, List.getElem?_append_left (show i < (S.take q).length by omega), List.getElem?_take, h]
  · rw [if_neg h]
    by_cases e : i = q
    · subst e
      rw [if_pos rfl]
      simp [List.getD, List.getElem?_append_right (show (S.take i).length ≤ i by omega), hl]
    · rw [if_neg e]
      obtain ⟨d, hd⟩ : ∃ d, i = q + 1 + d := ⟨i - q - 1, by omega⟩
      subst hd
      rw [List.getD_eq_getElem?_getD, List.getElem?_append_right (by omega), hl, show q + 1 + d - q = d + 1 by omega, List.getElem?_cons_succ, List.getElem?_drop, List.getD_eq_getElem?_getD, show q + 1 + d - 1 = q + d by omega]
theorem sort_end {S : List Nat} {ls : Nat → Nat} {g : Nat → Int32} {q n : Nat} (hn : S.length = n) (hq : q ≤ n) (h1 : ∀ j, j < q → g j = nI (S.getD j 0)) (h2 : ∀ j, q ≤ j → j < n → g (j + 1) = nI (S.getD j 0) ∧ ls n < ls (S.getD j 0)) (hp : S.Pairwise (fun x y => ls x ≤ ls y)) (hs : q = 0 ∨ ls (S.getD (q - 1) 0) ≤ ls n) :
    (∀ i, i ≤ n → upd g q (nI n) i = nI ((S.take q ++ n :: S.drop q).getD i 0)) ∧ (S.take q ++ n :: S.drop q).Pairwise (fun x y => ls x ≤ ls y) := by
  have hgd : ∀ i, i < n → ∃ h : i < S.length, S[i] = S.getD i 0 := fun i hi => ⟨by omega, by simp [List.getD, List.getElem?_eq_getElem (show i < S.length by omega)]⟩
  refine ⟨fun i hi => ?_, ?_⟩
  · rw [ins_get (by omega)]
    by_cases h : i < q
    · rw [if_pos h, upd_n (by omega)]; exact h1 i h
    · rw [if_neg h]
      by_cases e : i = q
      · subst e; rw [if_pos rfl, upd_s]
      · rw [if_neg e, upd_n e]
        have := (h2 (i - 1) (by omega) (by omega)).1
        rwa [show i - 1 + 1 = i by omega] at this
  · have hp' : (S.take q ++ S.drop q).Pairwise (fun x y => ls x ≤ ls y) := by rw [List.take_append_drop]; exact hp
    rw [List.pairwise_append] at hp' ⊢
    refine ⟨hp'.1, List.pairwise_cons.mpr ⟨fun y hy => ?_, hp'.2.1⟩, fun x hx y hy => ?_⟩
    · obtain ⟨j, hj, e⟩ := List.mem_iff_getElem.mp hy
      rw [List.getElem_drop] at e
      rw [List.length_drop] at hj
      obtain ⟨h5, h6⟩ := hgd (q + j) (by omega)
      have := (h2 (q + j) (by omega) (by omega)).2
      rw [← h6] at this
      rw [← e]; omega
    · rcases List.mem_cons.mp hy with e | e
      · subst e
        obtain ⟨j, hj, e2⟩ := List.mem_iff_getElem.mp hx
        rw [List.getElem_take] at e2
        rw [List.length_take] at hj
        rcases hs with h5 | h5
        · omega
        · obtain ⟨k1, k2⟩ := hgd (q - 1) (by omega)
          have h7 : ls (S[j]'(by omega)) ≤ ls (S[q - 1]'k1) := by
            by_cases e3 : j = q - 1
            · subst e3; exact Nat.le_refl _
            · exact List.pairwise_iff_getElem.mp hp j (q - 1) (by omega) k1 (by omega)
          rw [k2] at h7
          rw [← e2]; omega
      · exact hp'.2.2 x hx y e
def rowsP (nr : Nat) (P : List (Nat × Nat × Nat)) (f8 f9 f10 f11 f12 f13 : Nat → Int32) : Prop := ∀ i, i < P.length → f8 i = nI (enD P i).1 ∧ f9 i = nI (enD P i).2.1 ∧ f10 i = nI (lnP P i) ∧ f11 i = nI (aWN nr (lnP P i)) ∧ f12 i = nI (mLN nr (lnP P i)) ∧ f13 i = nI (lsN nr (lnP P i))
def sawR (nr : Nat) (P : List (Nat × Nat × Nat)) (S : List Nat) (f8 f9 f10 f11 f12 f13 f14 : Nat → Int32) : Prop := rowsP nr P f8 f9 f10 f11 f12 f13 ∧ srtP nr P S ∧ ∀ i, i < P.length → f14 i = nI (S.getD i 0)
theorem enD_l {P : List (Nat × Nat × Nat)} {z : Nat × Nat × Nat} {i : Nat} (hi : i < P.length) : enD (P ++ [z]) i = enD P i := by simp [enD, List.getD, List.getElem?_append_left hi]
theorem enD_r (P : List (Nat × Nat × Nat)) (z : Nat × Nat × Nat) : enD (P ++ [z]) P.length = z := by simp [enD, List.getD]
theorem rowsP_push {nr n : Nat} {P : List (Nat × Nat × Nat)} {z : Nat × Nat × Nat} {f8 f9 f10 f11 f12 f13 : Nat → Int32} (h : rowsP nr P f8 f9 f10 f11 f12 f13) (hn : n = P.length) : rowsP nr (P ++ [z]) (upd f8 n (nI z.1)) (upd f9 n (nI z.2.1)) (upd f10 n (nI z.2.2)) (upd f11 n (nI (aWN nr z.2.2))) (upd f12 n (nI (mLN nr z.2.2))) (upd f13 n (nI (lsN nr z.2.2))) := by
  subst hn
  intro i hi
  rw [List.length_append] at hi
  by_cases e : i = P.length
  · subst e
    rw [upd_s, upd_s, upd_s, upd_s, upd_s, upd_s, lnP, enD_r]
    exact ⟨rfl, rfl, rfl, rfl, rfl, rfl⟩
  · have hi' : i < P.length := by simp at hi; omega
    rw [upd_n e, upd_n e, upd_n e, upd_n e, upd_n e, upd_n e, lnP, enD_l hi']
    exact h i hi'
theorem srtP_ls {nr : Nat} {P : List (Nat × Nat × Nat)} {z : Nat × Nat × Nat} {S : List Nat} (h : srtP nr P S) : S.Pairwise (fun x y => lsN nr (lnP (P ++ [z]) x) ≤ lsN nr (lnP (P ++ [z]) y)) := by
  have h1 := List.pairwise_map.mp h.2
  refine h1.imp_of_mem ?_
  intro a b ha hb hab
  have h2 := List.mem_range.mp (h.1.mem_iff.mp ha)
  have h3 := List.mem_range.mp (h.1.mem_iff.mp hb)
  rw [lnP, lnP, enD_l h2, enD_l h3]; exact hab
theorem srtP_push {nr q : Nat} {P : List (Nat × Nat × Nat)} {z : Nat × Nat × Nat} {S : List Nat} (h : srtP nr P S) (hp : (S.take q ++ P.length :: S.drop q).Pairwise (fun x y => lsN nr (lnP (P ++ [z]) x) ≤ lsN nr (lnP (P ++ [z]) y))) : srtP nr (P ++ [z]) (S.take q ++ P.length :: S.drop q) := by
  refine ⟨?_, List.pairwise_map.mpr hp⟩
  have h1 : (S.take q ++ P.length :: S.drop q).Perm (P.length :: (S.take q ++ S.drop q)) := List.perm_middle
  rw [List.take_append_drop] at h1
  have h2 : (P.length :: S).Perm (List.range P.length ++ [P.length]) := (List.Perm.cons _ h.1).trans (List.perm_append_comm (l₁ := [P.length]))
  rw [List.length_append, show ([z] : List (Nat × Nat × Nat)).length = 1 from rfl, List.range_succ]
  exact h1.trans h2
/-- the parts of a bolt as they are laid -/
def layL (pl b : Nat) (L : List (Nat × Nat)) : List (Nat × Nat × Nat) := L.map (fun q => (pl, b, q.2 - q.1))
theorem layL_s {pl b i : Nat} {L : List (Nat × Nat)} (hi : i < L.length) : layL pl b (L.take (i + 1)) = layL pl b (L.take i) ++ [(pl, b, (paD L i).2 - (paD L i).1)] := by
  rw [take_s hi]; simp [layL]
