/-! rows of references can be made -/
def aoW (U : State) : Prop := va_AO "CaskYard$Form" U ∧ va_AO "CaskYard$Bolt" U ∧ va_AO "CaskYard$Cask" U
theorem aoW.moved {u U : State} (h : u.vm.Alike U.vm) (q : aoW u) : aoW U := ⟨va_AO.moved h q.1, va_AO.moved h q.2.1, va_AO.moved h q.2.2⟩
def wB3 (D : va_G) (cy : Nat → ClassId) (sz : Nat) (ws : va_W) (U : State) : Prop := wB2 D cy sz ws U ∧ aoW U
theorem wB3_blind {D : va_G} {cy : Nat → ClassId} {sz : Nat} {ws : va_W} {av : List Value} : FrameBlind (va_Pc av (wB3 D cy sz ws)) := fun a U g mk q => ⟨q.1, (wB2_blind (av := av) a U g mk ⟨q.1, q.2.1⟩).2, aoW.moved (u := U) (U := U.calling g mk a) (Vm.Alike.refl U.vm) q.2.2⟩
theorem wB3_pre {D : va_G} {cy : Nat → ClassId} {ws : va_W} {s : State} {H : Heap} {A : Nat → Prop} {av : List Value} (hP : va_P D vwCl ws H) (hK : va_K D vwCl (tyL cy) s) (hD : va_D A ws) (hN : nW s) (hAO : aoW s) : ∀ U : State, U.heap = H → s.WarmedH U.vm → va_Pc av (wB3 D cy H.size ws) av.toArray U := fun U hU hW => ⟨rfl, (wB2_pre (av := av) hP hK hD hN U hU hW).2, hAO.moved hW.alike⟩
