theorem wMs_5 (cy : Nat → ClassId) (h : Nat) (ad : Nat → Nat) (I : Nat → Int32) (F : Nat → Nat → Int32) (g : Nat → Int32) : (wM cy h ad I F).set 1 (ad 5, .inl (cy 0, 8, .inl g)) = wM cy h ad I (va_up F 5 g) := rfl
theorem wMs_6 (cy : Nat → ClassId) (h : Nat) (ad : Nat → Nat) (I : Nat → Int32) (F : Nat → Nat → Int32) (g : Nat → Int32) : (wM cy h ad I F).set 2 (ad 6, .inl (cy 0, 8, .inl g)) = wM cy h ad I (va_up F 6 g) := rfl
theorem wMs_7 (cy : Nat → ClassId) (h : Nat) (ad : Nat → Nat) (I : Nat → Int32) (F : Nat → Nat → Int32) (g : Nat → Int32) : (wM cy h ad I F).set 3 (ad 7, .inl (cy 0, 8, .inl g)) = wM cy h ad I (va_up F 7 g) := rfl
theorem wMs_8 (cy : Nat → ClassId) (h : Nat) (ad : Nat → Nat) (I : Nat → Int32) (F : Nat → Nat → Int32) (g : Nat → Int32) : (wM cy h ad I F).set 4 (ad 8, .inl (cy 0, 8, .inl g)) = wM cy h ad I (va_up F 8 g) := rfl
theorem wMs_9 (cy : Nat → ClassId) (h : Nat) (ad : Nat → Nat) (I : Nat → Int32) (F : Nat → Nat → Int32) (g : Nat → Int32) : (wM cy h ad I F).set 5 (ad 9, .inl (cy 0, 40, .inl g)) = wM cy h ad I (va_up F 9 g) := rfl
theorem wMs_10 (cy : Nat → ClassId) (h : Nat) (ad : Nat → Nat) (I : Nat → Int32) (F : Nat → Nat → Int32) (g : Nat → Int32) : (wM cy h ad I F).set 6 (ad 10, .inl (cy 0, 40, .inl g)) = wM cy h ad I (va_up F 10 g) := rfl
theorem wMs_11 (cy : Nat → ClassId) (h : Nat) (ad : Nat → Nat) (I : Nat → Int32) (F : Nat → Nat → Int32) (g : Nat → Int32) : (wM cy h ad I F).set 7 (ad 11, .inl (cy 0, 200, .inl g)) = wM cy h ad I (va_up F 11 g) := rfl
theorem wMs_12 (cy : Nat → ClassId) (h : Nat) (ad : Nat → Nat) (I : Nat → Int32) (F : Nat → Nat → Int32) (g : Nat → Int32) : (wM cy h ad I F).set 8 (ad 12, .inl (cy 0, 200, .inl g)) = wM cy h ad I (va_up F 12 g) := rfl
theorem wMs_13 (cy : Nat → ClassId) (h : Nat) (ad : Nat → Nat) (I : Nat → Int32) (F : Nat → Nat → Int32) (g : Nat → Int32) : (wM cy h ad I F).set 9 (ad 13, .inl (cy 0, 30, .inl g)) = wM cy h ad I (va_up F 13 g) := rfl
theorem wMs_14 (cy : Nat → ClassId) (h : Nat) (ad : Nat → Nat) (I : Nat → Int32) (F : Nat → Nat → Int32) (g : Nat → Int32) : (wM cy h ad I F).set 10 (ad 14, .inl (cy 0, 1200, .inl g)) = wM cy h ad I (va_up F 14 g) := rfl
theorem wMs_15 (cy : Nat → ClassId) (h : Nat) (ad : Nat → Nat) (I : Nat → Int32) (F : Nat → Nat → Int32) (g : Nat → Int32) : (wM cy h ad I F).set 11 (ad 15, .inl (cy 0, 1200, .inl g)) = wM cy h ad I (va_up F 15 g) := rfl
theorem wMs_16 (cy : Nat → ClassId) (h : Nat) (ad : Nat → Nat) (I : Nat → Int32) (F : Nat → Nat → Int32) (g : Nat → Int32) : (wM cy h ad I F).set 12 (ad 16, .inl (cy 0, 30, .inl g)) = wM cy h ad I (va_up F 16 g) := rfl
theorem wMs_17 (cy : Nat → ClassId) (h : Nat) (ad : Nat → Nat) (I : Nat → Int32) (F : Nat → Nat → Int32) (g : Nat → Int32) : (wM cy h ad I F).set 13 (ad 17, .inl (cy 0, 1200, .inl g)) = wM cy h ad I (va_up F 17 g) := rfl
theorem wMs_18 (cy : Nat → ClassId) (h : Nat) (ad : Nat → Nat) (I : Nat → Int32) (F : Nat → Nat → Int32) (g : Nat → Int32) : (wM cy h ad I F).set 14 (ad 18, .inl (cy 0, 1200, .inl g)) = wM cy h ad I (va_up F 18 g) := rfl
theorem wMs_19 (cy : Nat → ClassId) (h : Nat) (ad : Nat → Nat) (I : Nat → Int32) (F : Nat → Nat → Int32) (g : Nat → Int32) : (wM cy h ad I F).set 15 (ad 19, .inl (cy 0, 1200, .inl g)) = wM cy h ad I (va_up F 19 g) := rfl
theorem wMs_20 (cy : Nat → ClassId) (h : Nat) (ad : Nat → Nat) (I : Nat → Int32) (F : Nat → Nat → Int32) (g : Nat → Int32) : (wM cy h ad I F).set 16 (ad 20, .inl (cy 1, 256, .inl g)) = wM cy h ad I (va_up F 20 g) := rfl
theorem wMs_21 (cy : Nat → ClassId) (h : Nat) (ad : Nat → Nat) (I : Nat → Int32) (F : Nat → Nat → Int32) (g : Nat → Int32) : (wM cy h ad I F).set 17 (ad 21, .inl (cy 0, 16, .inl g)) = wM cy h ad I (va_up F 21 g) := rfl
theorem wMs_22 (cy : Nat → ClassId) (h : Nat) (ad : Nat → Nat) (I : Nat → Int32) (F : Nat → Nat → Int32) (g : Nat → Int32) : (wM cy h ad I F).set 18 (ad 22, .inl (cy 0, 32, .inl g)) = wM cy h ad I (va_up F 22 g) := rfl
theorem wMs_23 (cy : Nat → ClassId) (h : Nat) (ad : Nat → Nat) (I : Nat → Int32) (F : Nat → Nat → Int32) (g : Nat → Int32) : (wM cy h ad I F).set 19 (ad 23, .inl (cy 0, 32, .inl g)) = wM cy h ad I (va_up F 23 g) := rfl
theorem wMs_24 (cy : Nat → ClassId) (h : Nat) (ad : Nat → Nat) (I : Nat → Int32) (F : Nat → Nat → Int32) (g : Nat → Int32) : (wM cy h ad I F).set 20 (ad 24, .inl (cy 0, 1353, .inl g)) = wM cy h ad I (va_up F 24 g) := rfl
theorem wMs_30 (cy : Nat → ClassId) (h : Nat) (ad : Nat → Nat) (I : Nat → Int32) (F : Nat → Nat → Int32) (g : Nat → Int32) : (wM cy h ad I F).set 21 (ad 30, .inl (cy 0, 10, .inl g)) = wM cy h ad I (va_up F 30 g) := rfl
theorem wMs_31 (cy : Nat → ClassId) (h : Nat) (ad : Nat → Nat) (I : Nat → Int32) (F : Nat → Nat → Int32) (g : Nat → Int32) : (wM cy h ad I F).set 22 (ad 31, .inl (cy 0, 10, .inl g)) = wM cy h ad I (va_up F 31 g) := rfl
theorem wMs_32 (cy : Nat → ClassId) (h : Nat) (ad : Nat → Nat) (I : Nat → Int32) (F : Nat → Nat → Int32) (g : Nat → Int32) : (wM cy h ad I F).set 23 (ad 32, .inl (cy 0, 8, .inl g)) = wM cy h ad I (va_up F 32 g) := rfl
theorem wMs_33 (cy : Nat → ClassId) (h : Nat) (ad : Nat → Nat) (I : Nat → Int32) (F : Nat → Nat → Int32) (g : Nat → Int32) : (wM cy h ad I F).set 24 (ad 33, .inl (cy 0, 80, .inl g)) = wM cy h ad I (va_up F 33 g) := rfl
theorem fe1 {α : Type} {f g : Nat → α} {k : Nat} {v : α} (h1 : g k = v) (h : ∀ j, j ≠ k → g j = f j) : g = va_up f k v := by
  funext j; by_cases q : j = k
  · subst q; rw [va_up_self]; exact h1
  · rw [va_up_ne _ _ q]; exact h j q
theorem fe2 {α : Type} {f g : Nat → α} {k k2 : Nat} {v v2 : α} (h1 : g k = v) (h2 : g k2 = v2) (h : ∀ j, j ≠ k → j ≠ k2 → g j = f j) (n : k ≠ k2) : g = va_up (va_up f k v) k2 v2 := by
  funext j; by_cases q : j = k2
  · subst q; rw [va_up_self]; exact h2
  · rw [va_up_ne _ _ q]; by_cases q2 : j = k
    · subst q2; rw [va_up_self]; exact h1
    · rw [va_up_ne _ _ q2]; exact h j q2 q
theorem fe3 {α : Type} {f g : Nat → α} {k k2 k3 : Nat} {v v2 v3 : α} (h1 : g k = v) (h2 : g k2 = v2) (h3 : g k3 = v3) (h : ∀ j, j ≠ k → j ≠ k2 → j ≠ k3 → g j = f j) (n : k ≠ k2) (n2 : k ≠ k3) (n3 : k2 ≠ k3) : g = va_up (va_up (va_up f k v) k2 v2) k3 v3 := by
  funext j; by_cases q : j = k3
  · subst q; rw [va_up_self]; exact h3
  · rw [va_up_ne _ _ q]; by_cases q2 : j = k2
    · subst q2; rw [va_up_self]; exact h2
    · rw [va_up_ne _ _ q2]; by_cases q3 : j = k
      · subst q3; rw [va_up_self]; exact h1
      · rw [va_up_ne _ _ q3]; exact h j q3 q2 q
