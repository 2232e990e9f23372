theorem arr_one {a : Int32} (h : 0 ≤ a.toInt) : arrP (fun _ => 0) (upd (fun _ => 0) 0 a) 0 [(0, ix a)] := by
  intro i q hq
  have hi := (List.getElem?_eq_some_iff.mp hq).1
  simp at hi
  subst hi
  simp at hq
  subst hq
  exact ⟨rfl, by rw [Nat.zero_add, upd_s]; exact ix_n h⟩
abbrev YPn (cy : Nat → ClassId) (ad : Nat → Nat) (o : Nat × Int32 × YT) (r : Int32) (u : List Nat × (Nat → Nat) × (Nat → va_E)) : Prop := o.1 = 0 ∧ r = o.2.1 ∧ KR u.1 o.2.2 ∧ YR cy u.2.1 u.2.2 o.2.2 ∧ u.2.1 0 = ad 0
theorem ite01 {P : Prop} [Decidable P] {x : Nat} (h : x = if P then 1 else 0) : (P ∧ x = 1) ∨ (¬ P ∧ x = 0) := by
  by_cases q : P
  · rw [if_pos q] at h; exact Or.inl ⟨q, h⟩
  · rw [if_neg q] at h; exact Or.inr ⟨q, h⟩
