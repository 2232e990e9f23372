/-! the worlds: one list of array classes for all; a method that only reads (rB); a method that writes (wB at its start, wE at its end) -/
def tyL (cy : Nat → ClassId) : List (ClassId × FieldType) := [(cy 0, .int), (cy 1, .boolean), (cy 2, .long), (cy 3, .object "CaskYard$Form"), (cy 4, .object "CaskYard$Bolt"), (cy 5, .object "CaskYard$Cask")]
def rB (D : va_G) (cy : Nat → ClassId) (ws : va_W) (U : State) : Prop := va_P D vwCl ws U.heap ∧ va_K D vwCl (tyL cy) U
def wB (D : va_G) (cy : Nat → ClassId) (sz : Nat) (ws : va_W) (U : State) : Prop := U.heap.size = sz ∧ va_P D vwCl ws U.heap ∧ va_K D vwCl (tyL cy) U ∧ va_D (fun _ => True) ws
def wE (D : va_G) (cy : Nat → ClassId) (A : Nat → Prop) (ws : va_W) (t : State) : Prop := va_P D vwCl ws t.heap ∧ va_K D vwCl (tyL cy) t ∧ va_D A ws
theorem nB_blind {av : List Value} : FrameBlind (va_Pc av (fun _ => True)) := fun a U g mk q => ⟨q.1, trivial⟩
theorem nB_pre {s : State} {H : Heap} {av : List Value} : ∀ U : State, U.heap = H → s.WarmedH U.vm → va_Pc av (fun _ => True) av.toArray U := fun U hU hW => ⟨rfl, trivial⟩
theorem rB_blind {D : va_G} {cy : Nat → ClassId} {ws : va_W} {av : List Value} : FrameBlind (va_Pc av (rB D cy ws)) := fun a U g mk q => ⟨q.1, q.2.1, va_K.moved (u := U) (U := U.calling g mk a) (Vm.Alike.refl U.vm) q.2.2⟩
theorem rB_pre {D : va_G} {cy : Nat → ClassId} {ws : va_W} {s : State} {H : Heap} {av : List Value} (hP : va_P D vwCl ws H) (hK : va_K D vwCl (tyL cy) s) : ∀ U : State, U.heap = H → s.WarmedH U.vm → va_Pc av (rB D cy ws) av.toArray U := fun U hU hW => ⟨rfl, by rw [hU]; exact hP, va_K.moved hW.alike hK⟩
theorem wB_blind {D : va_G} {cy : Nat → ClassId} {sz : Nat} {ws : va_W} {av : List Value} : FrameBlind (va_Pc av (wB D cy sz ws)) := fun a U g mk q => ⟨q.1, q.2.1, q.2.2.1, va_K.moved (u := U) (U := U.calling g mk a) (Vm.Alike.refl U.vm) q.2.2.2.1, q.2.2.2.2⟩
theorem wB_pre {D : va_G} {cy : Nat → ClassId} {ws : va_W} {s : State} {H : Heap} {A : Nat → Prop} {av : List Value} (hP : va_P D vwCl ws H) (hK : va_K D vwCl (tyL cy) s) (hD : va_D A ws) : ∀ U : State, U.heap = H → s.WarmedH U.vm → va_Pc av (wB D cy H.size ws) av.toArray U := fun U hU hW => ⟨rfl, by rw [hU], by rw [hU]; exact hP, va_K.moved hW.alike hK, hD.weaken (fun _ _ _ _ => trivial)⟩
theorem w_free {A0 : Nat → Prop} {ws : va_W} {H0 H : Heap} {locs : List Loc} (hD : va_D A0 ws) (hS : va_S A0 H0 H locs) (hA : ∀ q, H0.size ≤ q → A0 q) : ∀ q, va_A ws H.size q → A0 q := by
  intro q h
  rcases h with ⟨k, e, h⟩ | h
  · exact hD.2 k (q, e) h
  · exact hA q (Nat.le_trans hS.1 h)
theorem w_A {ws : va_W} {n : Nat} {A : Nat → Prop} (h : va_A ws n = A) : ∀ q : Nat, n ≤ q → A q := fun q hq => by rw [← h]; exact Or.inr hq
theorem n_min {a b : Nat} (ha : a < 2147483648) (hb : b < 2147483648) : (if nI b < nI a then nI b else nI a) = nI (min a b) := by
  by_cases h : b < a
  · rw [if_pos ((nI_ltI hb ha).mpr h), show min a b = b from Nat.min_eq_right (by omega)]
  · rw [if_neg (fun q => h ((nI_ltI hb ha).mp q)), show min a b = a from Nat.min_eq_left (by omega)]
theorem n_max {a b : Nat} (ha : a < 2147483648) (hb : b < 2147483648) : (if nI a < nI b then nI b else nI a) = nI (max a b) := by
  by_cases h : a < b
  · rw [if_pos ((nI_ltI ha hb).mpr h), show max a b = b from Nat.max_eq_right (by omega)]
  · rw [if_neg (fun q => h ((nI_ltI ha hb).mp q)), show max a b = a from Nat.max_eq_left (by omega)]
theorem z_min {x y : Int32} {i j : Int} (hi : x = zI i) (hj : y = zI j) (h1 : -2147483648 ≤ i) (h2 : i < 2147483648) (h3 : -2147483648 ≤ j) (h4 : j < 2147483648) : (if y < x then y else x) = zI (min i j) := by
  subst hi; subst hj
  have e : zI j < zI i ↔ j < i := by rw [i_lt, zI_toInt h1 h2, zI_toInt h3 h4]
  by_cases h : j < i
  · rw [if_pos (e.mpr h), show min i j = j by omega]
  · rw [if_neg (fun q => h (e.mp q)), show min i j = i by omega]
theorem z_max {x y : Int32} {i j : Int} (hi : x = zI i) (hj : y = zI j) (h1 : -2147483648 ≤ i) (h2 : i < 2147483648) (h3 : -2147483648 ≤ j) (h4 : j < 2147483648) : (if x < y then y else x) = zI (max i j) := by
  subst hi; subst hj
  have e : zI i < zI j ↔ i < j := by rw [i_lt, zI_toInt h1 h2, zI_toInt h3 h4]
  by_cases h : i < j
  · rw [if_pos (e.mpr h), show max i j = j by omega]
  · rw [if_neg (fun q => h (e.mp q)), show max i j = i by omega]
/-- the model's cells: its object, its ints I k, its arrays F k at ad k (k: the number of the field) -/
def wM (cy : Nat → ClassId) (h : Nat) (ad : Nat → Nat) (I : Nat → Int32) (F : Nat → Nat → Int32) : va_W := [(h, .inr (5, [.int (I 0), .int (I 1), .int (I 2), .int (I 3), .int (I 4), .ref (ad 5), .ref (ad 6), .ref (ad 7), .ref (ad 8), .ref (ad 9), .ref (ad 10), .ref (ad 11), .ref (ad 12), .ref (ad 13), .ref (ad 14), .ref (ad 15), .ref (ad 16), .ref (ad 17), .ref (ad 18), .ref (ad 19), .ref (ad 20), .ref (ad 21), .ref (ad 22), .ref (ad 23), .ref (ad 24), .int (I 25), .int (I 26), .int (I 27), .int (I 28), .int (I 29), .ref (ad 30), .ref (ad 31), .ref (ad 32), .ref (ad 33)])),
  (ad 5, .inl (cy 0, 8, .inl (F 5))), (ad 6, .inl (cy 0, 8, .inl (F 6))), (ad 7, .inl (cy 0, 8, .inl (F 7))), (ad 8, .inl (cy 0, 8, .inl (F 8))), (ad 9, .inl (cy 0, 40, .inl (F 9))), (ad 10, .inl (cy 0, 40, .inl (F 10))), (ad 11, .inl (cy 0, 200, .inl (F 11))), (ad 12, .inl (cy 0, 200, .inl (F 12))), (ad 13, .inl (cy 0, 30, .inl (F 13))), (ad 14, .inl (cy 0, 1200, .inl (F 14))), (ad 15, .inl (cy 0, 1200, .inl (F 15))), (ad 16, .inl (cy 0, 30, .inl (F 16))), (ad 17, .inl (cy 0, 1200, .inl (F 17))), (ad 18, .inl (cy 0, 1200, .inl (F 18))), (ad 19, .inl (cy 0, 1200, .inl (F 19))), (ad 20, .inl (cy 1, 256, .inl (F 20))), (ad 21, .inl (cy 0, 16, .inl (F 21))), (ad 22, .inl (cy 0, 32, .inl (F 22))), (ad 23, .inl (cy 0, 32, .inl (F 23))), (ad 24, .inl (cy 0, 1353, .inl (F 24))), (ad 30, .inl (cy 0, 10, .inl (F 30))), (ad 31, .inl (cy 0, 10, .inl (F 31))), (ad 32, .inl (cy 0, 8, .inl (F 32))), (ad 33, .inl (cy 0, 80, .inl (F 33)))]
