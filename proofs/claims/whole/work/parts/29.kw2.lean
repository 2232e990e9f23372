/-! the class's worlds: by key, with the links to nest mates -/
def nW (U : State) : Prop := va_Nw (.methodLinkNest RX2 24 yX4_parted RX4) U ∧ va_Nw (.methodLinkNest RX3 70 yX4_parted RX4) U ∧ va_Nw (.methodLinkNest RX4 36 yX3_init RX4) U
theorem nW.same {u U : State} (h : u.vm = U.vm) (q : nW u) : nW U := ⟨va_Nw.same rfl h q.1, va_Nw.same rfl h q.2.1, va_Nw.same rfl h q.2.2⟩
theorem nW.warm {s U : State} (hW : s.WarmedH U.vm) (q : nW s) : nW U := ⟨va_Nw.warmM hW q.1, va_Nw.warmM hW q.2.1, va_Nw.warmM hW q.2.2⟩
def rB2 (D : va_G) (cy : Nat → ClassId) (ws : va_W) (U : State) : Prop := (va_P D vwCl ws U.heap ∧ va_K D vwCl (tyL cy) U) ∧ nW U
def wB2 (D : va_G) (cy : Nat → ClassId) (sz : Nat) (ws : va_W) (U : State) : Prop := (U.heap.size = sz ∧ va_P D vwCl ws U.heap ∧ va_K D vwCl (tyL cy) U ∧ va_D (fun _ => True) ws) ∧ nW U
theorem rB2_blind {D : va_G} {cy : Nat → ClassId} {ws : va_W} {av : List Value} : FrameBlind (va_Pc av (rB2 D cy ws)) := fun a U g mk q => ⟨q.1, ⟨q.2.1.1, va_K.moved (u := U) (U := U.calling g mk a) (Vm.Alike.refl U.vm) q.2.1.2⟩, nW.same (u := U) rfl q.2.2⟩
theorem rB2_pre {D : va_G} {cy : Nat → ClassId} {ws : va_W} {s : State} {H : Heap} {av : List Value} (hP : va_P D vwCl ws H) (hK : va_K D vwCl (tyL cy) s) (hN : nW s) : ∀ U : State, U.heap = H → s.WarmedH U.vm → va_Pc av (rB2 D cy ws) av.toArray U := fun U hU hW => ⟨rfl, ⟨by rw [hU]; exact hP, va_K.moved hW.alike hK⟩, hN.warm hW⟩
theorem wB2_blind {D : va_G} {cy : Nat → ClassId} {sz : Nat} {ws : va_W} {av : List Value} : FrameBlind (va_Pc av (wB2 D cy sz ws)) := fun a U g mk q => ⟨q.1, ⟨q.2.1.1, q.2.1.2.1, va_K.moved (u := U) (U := U.calling g mk a) (Vm.Alike.refl U.vm) q.2.1.2.2.1, q.2.1.2.2.2⟩, nW.same (u := U) rfl q.2.2⟩
theorem wB2_pre {D : va_G} {cy : Nat → ClassId} {ws : va_W} {s : State} {H : Heap} {A : Nat → Prop} {av : List Value} (hP : va_P D vwCl ws H) (hK : va_K D vwCl (tyL cy) s) (hD : va_D A ws) (hN : nW s) : ∀ U : State, U.heap = H → s.WarmedH U.vm → va_Pc av (wB2 D cy H.size ws) av.toArray U := fun U hU hW => ⟨rfl, ⟨by rw [hU], by rw [hU]; exact hP, va_K.moved hW.alike hK, hD.weaken (fun _ _ _ _ => trivial)⟩, hN.warm hW⟩
theorem kW_getA {K : List Nat} {ad : Nat → Nat} {E : Nat → va_E} {p k a : Nat} {e : va_E} (h : K[p]? = some k) (he : E k = e) (ha : ad k = a) : (kW K ad E)[p]? = some (a, e) := by rw [kW_at h, he, ha]
theorem kW_setA {K : List Nat} {ad : Nat → Nat} {E : Nat → va_E} {p k a : Nat} {e : va_E} (hn : ∀ (i j k : Nat), K[i]? = some k → K[j]? = some k → i = j) (h : K[p]? = some k) (ha : ad k = a) : (kW K ad E).set p (a, e) = kW K ad (va_up E k e) := by rw [← ha]; exact kW_set hn h
theorem va_up_id {α : Type} (f : Nat → α) (k : Nat) : va_up f k (f k) = f := by
  funext j
  by_cases h : j = k
  · subst h; exact va_up_self _ _ _
  · exact va_up_ne _ _ h
theorem va_up_id' {α : Type} {f : Nat → α} {k : Nat} {v : α} (h : f k = v) : va_up f k v = f := by rw [← h]; exact va_up_id f k
/-- a form's cell -/
abbrev cellF (h g e n : Nat) : va_E := .inr (2, [.int (nI h), .int (nI g), .int (nI e), .int (nI n)])
/-- the cells of a bolt: split, begins, ends, parts -/
abbrev cellB (b e : Nat) (sp n : Int32) : va_E := .inr (0, [.int sp, .ref b, .ref e, .int n])
abbrev rowI (cy : Nat → ClassId) (n : Nat) (f : Nat → Int32) : va_E := .inl (cy 0, n, .inl f)
theorem parted_0 {a : Int32} : (if (0 : Int32) < 0 then a else 0) = 0 := rfl
theorem g_sq (hh gg ee y : Nat) : zI (((gg - ee : Nat) : Int) * (((2 * y : Nat) : Int) - (hh : Int)) * (((2 * y : Nat) : Int) - (hh : Int))) = nI ((gg - ee) * (dN hh y * dN hh y)) := by
  apply z_n
  rw [Int.mul_assoc, dN_sq, ← Int.natCast_mul]
