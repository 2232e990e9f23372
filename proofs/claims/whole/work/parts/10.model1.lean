set_option maxHeartbeats 4000000 in
set_option maxRecDepth 100000 in
/-- thrown(): the code of the last call -/
theorem c_X5_thrown (l : Launch) (D : va_G) (cy : Nat → ClassId) (h0 : Nat) (ad : Nat → Nat) (I : Nat → Int32) (F : Nat → Nat → Int32)  : Met l yX5_thrown wsX5_thrown ({ frames := 0, cells := 0, slots := 0, locals := 0 } : Room) (va_Pc [.ref h0] (rB D cy (wM cy h0 ad I F))) (vp_Si (fun r : Int32 => r = I 0)) 0 0 (fun _ => False) := by
  refine Met.ofW (cc := cX5_thrown) (maxL := 1) (ret := (some .int)) (by decide) rfl ?_
  intro p e s m args below meth c s₁ B hml hv
  obtain ⟨rfl, hv⟩ := hv
  have hx := B.exec
  have hb := B.bytes
  have hr := B.returns
  have hts := atoms_spec (ws := wsX5_thrown) B.pre
  have hown : s.vm.findClass RX5 = some m.cls := findClass_of_methodNamed B.named
  have hlocks := B.notSynchronized
  obtain ⟨hP, hK⟩ := hv
  have hl := lv_entry ([.ref h0]) (n := 1) (Nat.le_of_ble_eq_true rfl)
  rw [lg_entry_eq]
  generalize (lg_sl ([.ref h0]) ++ List.replicate (1 - (lg_sl ([.ref h0])).length) Slot.unset).toArray = ls at hl ⊢
  have hl : lv_has ls 1 [(0, .ref h0)] := hl
  refine lv_aload_n hx hb dX5_thrown_0 rfl (lv_at hl 0 rfl) ?_
  refine va_get (D := D) (ci := 5) (v := .int (I 0)) (C := RX5) (T := TX5) (N := 34) hx hb hts (by decide +kernel) hown hK hP 0 rfl rfl 0 (by decide) (hts (.fieldLink RX5 83 "CaskYardModel" "code" "I") (by decide +kernel)) (fun _ h9 => h9) rfl dX5_thrown_1 ?_
  exact W.iret (v := (I 0)) hx hb hr (fun t ht hW => ⟨_, rfl, rfl, ht⟩) (fun _ h => nomatch h) dX5_thrown_4
set_option maxHeartbeats 4000000 in
set_option maxRecDepth 100000 in
/-- fail(k): the code is k, the answer 0 -/
theorem c_X5_fail (l : Launch) (D : va_G) (cy : Nat → ClassId) (sz : Nat) (h0 : Nat) (ad : Nat → Nat) (I : Nat → Int32) (F : Nat → Nat → Int32) (k : Int32) : Met l yX5_fail wsX5_fail ({ frames := 0, cells := 0, slots := 0, locals := 0 } : Room) (va_Pc [.ref h0, .int (k)] (wB D cy sz (wM cy h0 ad I F))) (va_Qi (fun (r : Int32) (u : (Nat → Int32) × (Nat → Nat → Int32)) => r = nI 0 ∧ u = (va_up I 0 k, F)) (fun u t => wE D cy (va_A (wM cy h0 ad I F) sz) (wM cy h0 ad u.1 u.2) t) (va_A (wM cy h0 ad I F) sz)) 0 0 (va_A (wM cy h0 ad I F) sz) := by
  refine Met.ofW (cc := cX5_fail) (maxL := 2) (ret := (some .int)) (by decide) rfl ?_
  intro p e s m args below meth c s₁ B hml hv
  obtain ⟨rfl, hsz, hP, hK, hD0⟩ := hv
  have hx := B.exec
  have hb := B.bytes
  have hr := B.returns
  have hts := atoms_spec (ws := wsX5_fail) B.pre
  have hown : s.vm.findClass RX5 = some m.cls := findClass_of_methodNamed B.named
  have hlocks := B.notSynchronized
  subst hsz
  have hD := hD0.self (sz := s.heap.size)
  generalize hAe : va_A (wM cy h0 ad I F) s.heap.size = A at hD ⊢
  have hA : ∀ q : Nat, s.heap.size ≤ q → A q := w_A hAe
  have hS : va_S A s.heap s.heap [] := va_S.rf
  have hl := lv_entry ([.ref h0, .int (k)]) (n := 2) (Nat.le_of_ble_eq_true rfl)
  rw [lg_entry_eq]
  generalize (lg_sl ([.ref h0, .int (k)]) ++ List.replicate (2 - (lg_sl ([.ref h0, .int (k)])).length) Slot.unset).toArray = ls at hl ⊢
  have hl : lv_has ls 2 [(0, .ref h0), (1, .int (k))] := hl
  refine lv_aload_n hx hb dX5_fail_0 rfl (lv_at hl 0 rfl) ?_
  refine lv_iload_n hx hb dX5_fail_1 rfl (lv_at hl 1 rfl) ?_
  refine va_put (D := D) (ci := 5) (v := .int (k)) (ty := .int) (C := RX5) (T := TX5) (N := 34) hx hb hts (by decide +kernel) tyX5 tyX5_ok nmX5 hown hK hP hD hS 0 rfl rfl 0 (by decide) (hts (.fieldLink RX5 83 "CaskYardModel" "code" "I") (by decide +kernel)) (fun _ h9 => h9) rfl (by decide +kernel) rfl rfl (Nat.le_of_ble_eq_true rfl) dX5_fail_2 (fun H locs hP hD hS => ?_)
  have hP : va_P D vwCl (wM cy h0 ad (va_up I 0 (k)) F) H := hP
  have hD : va_D A (wM cy h0 ad (va_up I 0 (k)) F) := hD
  refine lv_iconst (v := (nI (0))) hx hb dX5_fail_5 (by decide) ?_
  exact W.iret (v := (nI (0))) hx hb hr (fun t ht hW => ⟨⟨_, ((va_up I 0 (k)), F), rfl, ⟨rfl, rfl⟩, by rw [ht]; exact hP, va_K.moved hW.alike hK, hD⟩, hS.F ht⟩) hS.2.2 dX5_fail_6
set_option maxHeartbeats 4000000 in
set_option maxRecDepth 100000 in
theorem c_X5_isForm (l : Launch) (D : va_G) (cy : Nat → ClassId) (h0 : Nat) (ad : Nat → Nat) (I : Nat → Int32) (F : Nat → Nat → Int32) (a : Int32) (n : Nat) (h1 : I 1 = nI n) (hn : n < 2147483648) : Met l yX5_isForm wsX5_isForm ({ frames := 0, cells := 0, slots := 0, locals := 0 } : Room) (va_Pc [.ref h0, .int (a)] (rB D cy (wM cy h0 ad I F))) (vp_Si (fun r : Int32 => r = bI (0 ≤ a.toInt ∧ a.toInt < (n : Int)))) 0 0 (fun _ => False) := by
  refine Met.ofW (cc := cX5_isForm) (maxL := 2) (ret := (some .boolean)) (by decide) rfl ?_
  intro p e s m args below meth c s₁ B hml hv
  obtain ⟨rfl, hv⟩ := hv
  have hx := B.exec
  have hb := B.bytes
  have hr := B.returns
  have hts := atoms_spec (ws := wsX5_isForm) B.pre
  have hown : s.vm.findClass RX5 = some m.cls := findClass_of_methodNamed B.named
  have hlocks := B.notSynchronized
  obtain ⟨hP, hK⟩ := hv
  have hl := lv_entry ([.ref h0, .int (a)]) (n := 2) (Nat.le_of_ble_eq_true rfl)
  rw [lg_entry_eq]
  generalize (lg_sl ([.ref h0, .int (a)]) ++ List.replicate (2 - (lg_sl ([.ref h0, .int (a)])).length) Slot.unset).toArray = ls at hl ⊢
  have hl : lv_has ls 2 [(0, .ref h0), (1, .int (a))] := hl
  refine lv_iload_n hx hb dX5_isForm_0 rfl (lv_at hl 1 rfl) ?_
  refine g_if_lt (tgt := 16) hx hb dX5_isForm_1 (by decide) rfl (fun c_1 => ?_) (fun c_1 => ?_)
  · skip
    refine lv_iconst (v := (nI (0))) hx hb dX5_isForm_16 (by decide) ?_
    exact W.zret (v := (nI (0))) hx hb hr (by decide) (fun t ht hW => ⟨_, rfl, (bI_f (fun q => by omega)).symm, ht⟩) (fun _ h => nomatch h) dX5_isForm_17
  · skip
    refine lv_iload_n hx hb dX5_isForm_4 rfl (lv_at hl 1 rfl) ?_
    refine lv_aload_n hx hb dX5_isForm_5 rfl (lv_at hl 0 rfl) ?_
    refine va_get (D := D) (ci := 5) (v := .int (I 1)) (C := RX5) (T := TX5) (N := 34) hx hb hts (by decide +kernel) hown hK hP 0 rfl rfl 1 (by decide) (hts (.fieldLink RX5 87 "CaskYardModel" "forms" "I") (by decide +kernel)) (fun _ h9 => h9) rfl dX5_isForm_6 ?_
    refine g_top (y := (nI (n))) h1 ?_
    refine g_icmp_ge (tgt := 16) hx hb dX5_isForm_9 (by decide) rfl (n_i (by omega)) (fun c_9 => ?_) (fun c_9 => ?_)
    · skip
      refine lv_iconst (v := (nI (0))) hx hb dX5_isForm_16 (by decide) ?_
      exact W.zret (v := (nI (0))) hx hb hr (by decide) (fun t ht hW => ⟨_, rfl, (bI_f (fun q => by omega)).symm, ht⟩) (fun _ h => nomatch h) dX5_isForm_17
    · skip
      refine lv_iconst (v := (nI (1))) hx hb dX5_isForm_12 (by decide) ?_
      refine lv_goto (tgt := 17) hx hb dX5_isForm_13 (by decide) ?_
      exact W.zret (v := (nI (1))) hx hb hr (by decide) (fun t ht hW => ⟨_, rfl, (bI_t ⟨by omega, by omega⟩).symm, ht⟩) (fun _ h => nomatch h) dX5_isForm_17
set_option maxHeartbeats 4000000 in
set_option maxRecDepth 100000 in
theorem c_X5_isBolt (l : Launch) (D : va_G) (cy : Nat → ClassId) (h0 : Nat) (ad : Nat → Nat) (I : Nat → Int32) (F : Nat → Nat → Int32) (a : Int32) (n : Nat) (h1 : I 2 = nI n) (hn : n < 2147483648) : Met l yX5_isBolt wsX5_isBolt ({ frames := 0, cells := 0, slots := 0, locals := 0 } : Room) (va_Pc [.ref h0, .int (a)] (rB D cy (wM cy h0 ad I F))) (vp_Si (fun r : Int32 => r = bI (0 ≤ a.toInt ∧ a.toInt < (n : Int)))) 0 0 (fun _ => False) := by
  refine Met.ofW (cc := cX5_isBolt) (maxL := 2) (ret := (some .boolean)) (by decide) rfl ?_
  intro p e s m args below meth c s₁ B hml hv
  obtain ⟨rfl, hv⟩ := hv
  have hx := B.exec
  have hb := B.bytes
  have hr := B.returns
  have hts := atoms_spec (ws := wsX5_isBolt) B.pre
  have hown : s.vm.findClass RX5 = some m.cls := findClass_of_methodNamed B.named
  have hlocks := B.notSynchronized
  obtain ⟨hP, hK⟩ := hv
  have hl := lv_entry ([.ref h0, .int (a)]) (n := 2) (Nat.le_of_ble_eq_true rfl)
  rw [lg_entry_eq]
  generalize (lg_sl ([.ref h0, .int (a)]) ++ List.replicate (2 - (lg_sl ([.ref h0, .int (a)])).length) Slot.unset).toArray = ls at hl ⊢
  have hl : lv_has ls 2 [(0, .ref h0), (1, .int (a))] := hl
  refine lv_iload_n hx hb dX5_isBolt_0 rfl (lv_at hl 1 rfl) ?_
  refine g_if_lt (tgt := 16) hx hb dX5_isBolt_1 (by decide) rfl (fun c_1 => ?_) (fun c_1 => ?_)
  · skip
    refine lv_iconst (v := (nI (0))) hx hb dX5_isBolt_16 (by decide) ?_
    exact W.zret (v := (nI (0))) hx hb hr (by decide) (fun t ht hW => ⟨_, rfl, (bI_f (fun q => by omega)).symm, ht⟩) (fun _ h => nomatch h) dX5_isBolt_17
  · skip
    refine lv_iload_n hx hb dX5_isBolt_4 rfl (lv_at hl 1 rfl) ?_
    refine lv_aload_n hx hb dX5_isBolt_5 rfl (lv_at hl 0 rfl) ?_
    refine va_get (D := D) (ci := 5) (v := .int (I 2)) (C := RX5) (T := TX5) (N := 34) hx hb hts (by decide +kernel) hown hK hP 0 rfl rfl 2 (by decide) (hts (.fieldLink RX5 122 "CaskYardModel" "bolts" "I") (by decide +kernel)) (fun _ h9 => h9) rfl dX5_isBolt_6 ?_
    refine g_top (y := (nI (n))) h1 ?_
    refine g_icmp_ge (tgt := 16) hx hb dX5_isBolt_9 (by decide) rfl (n_i (by omega)) (fun c_9 => ?_) (fun c_9 => ?_)
    · skip
      refine lv_iconst (v := (nI (0))) hx hb dX5_isBolt_16 (by decide) ?_
      exact W.zret (v := (nI (0))) hx hb hr (by decide) (fun t ht hW => ⟨_, rfl, (bI_f (fun q => by omega)).symm, ht⟩) (fun _ h => nomatch h) dX5_isBolt_17
    · skip
      refine lv_iconst (v := (nI (1))) hx hb dX5_isBolt_12 (by decide) ?_
      refine lv_goto (tgt := 17) hx hb dX5_isBolt_13 (by decide) ?_
      exact W.zret (v := (nI (1))) hx hb hr (by decide) (fun t ht hW => ⟨_, rfl, (bI_t ⟨by omega, by omega⟩).symm, ht⟩) (fun _ h => nomatch h) dX5_isBolt_17
set_option maxHeartbeats 4000000 in
set_option maxRecDepth 100000 in
theorem c_X5_isCask (l : Launch) (D : va_G) (cy : Nat → ClassId) (h0 : Nat) (ad : Nat → Nat) (I : Nat → Int32) (F : Nat → Nat → Int32) (a : Int32) (n : Nat) (h1 : I 3 = nI n) (hn : n < 2147483648) : Met l yX5_isCask wsX5_isCask ({ frames := 0, cells := 0, slots := 0, locals := 0 } : Room) (va_Pc [.ref h0, .int (a)] (rB D cy (wM cy h0 ad I F))) (vp_Si (fun r : Int32 => r = bI (0 ≤ a.toInt ∧ a.toInt < (n : Int)))) 0 0 (fun _ => False) := by
  refine Met.ofW (cc := cX5_isCask) (maxL := 2) (ret := (some .boolean)) (by decide) rfl ?_
  intro p e s m args below meth c s₁ B hml hv
  obtain ⟨rfl, hv⟩ := hv
  have hx := B.exec
  have hb := B.bytes
  have hr := B.returns
  have hts := atoms_spec (ws := wsX5_isCask) B.pre
  have hown : s.vm.findClass RX5 = some m.cls := findClass_of_methodNamed B.named
  have hlocks := B.notSynchronized
  obtain ⟨hP, hK⟩ := hv
  have hl := lv_entry ([.ref h0, .int (a)]) (n := 2) (Nat.le_of_ble_eq_true rfl)
  rw [lg_entry_eq]
  generalize (lg_sl ([.ref h0, .int (a)]) ++ List.replicate (2 - (lg_sl ([.ref h0, .int (a)])).length) Slot.unset).toArray = ls at hl ⊢
  have hl : lv_has ls 2 [(0, .ref h0), (1, .int (a))] := hl
  refine lv_iload_n hx hb dX5_isCask_0 rfl (lv_at hl 1 rfl) ?_
  refine g_if_lt (tgt := 16) hx hb dX5_isCask_1 (by decide) rfl (fun c_1 => ?_) (fun c_1 => ?_)
  · skip
    refine lv_iconst (v := (nI (0))) hx hb dX5_isCask_16 (by decide) ?_
    exact W.zret (v := (nI (0))) hx hb hr (by decide) (fun t ht hW => ⟨_, rfl, (bI_f (fun q => by omega)).symm, ht⟩) (fun _ h => nomatch h) dX5_isCask_17
  · skip
    refine lv_iload_n hx hb dX5_isCask_4 rfl (lv_at hl 1 rfl) ?_
    refine lv_aload_n hx hb dX5_isCask_5 rfl (lv_at hl 0 rfl) ?_
    refine va_get (D := D) (ci := 5) (v := .int (I 3)) (C := RX5) (T := TX5) (N := 34) hx hb hts (by decide +kernel) hown hK hP 0 rfl rfl 3 (by decide) (hts (.fieldLink RX5 184 "CaskYardModel" "casks" "I") (by decide +kernel)) (fun _ h9 => h9) rfl dX5_isCask_6 ?_
    refine g_top (y := (nI (n))) h1 ?_
    refine g_icmp_ge (tgt := 16) hx hb dX5_isCask_9 (by decide) rfl (n_i (by omega)) (fun c_9 => ?_) (fun c_9 => ?_)
    · skip
      refine lv_iconst (v := (nI (0))) hx hb dX5_isCask_16 (by decide) ?_
      exact W.zret (v := (nI (0))) hx hb hr (by decide) (fun t ht hW => ⟨_, rfl, (bI_f (fun q => by omega)).symm, ht⟩) (fun _ h => nomatch h) dX5_isCask_17
    · skip
      refine lv_iconst (v := (nI (1))) hx hb dX5_isCask_12 (by decide) ?_
      refine lv_goto (tgt := 17) hx hb dX5_isCask_13 (by decide) ?_
      exact W.zret (v := (nI (1))) hx hb hr (by decide) (fun t ht hW => ⟨_, rfl, (bI_t ⟨by omega, by omega⟩).symm, ht⟩) (fun _ h => nomatch h) dX5_isCask_17
set_option maxHeartbeats 4000000 in
set_option maxRecDepth 100000 in
theorem c_X5_isKind (l : Launch)   (a : Int32) : Met l yX5_isKind wsX5_isKind ({ frames := 0, cells := 0, slots := 0, locals := 0 } : Room) (va_Pc [.int (a)] (fun _ => True)) (vp_Si (fun r : Int32 => r = bI (0 ≤ a.toInt ∧ a.toInt < 16))) 0 0 (fun _ => False) := by
  refine Met.ofW (cc := cX5_isKind) (maxL := 1) (ret := (some .boolean)) (by decide) rfl ?_
  intro p e s m args below meth c s₁ B hml hv
  obtain ⟨rfl, hv⟩ := hv
  have hx := B.exec
  have hb := B.bytes
  have hr := B.returns
  have hts := atoms_spec (ws := wsX5_isKind) B.pre
  have hown : s.vm.findClass RX5 = some m.cls := findClass_of_methodNamed B.named
  have hlocks := B.notSynchronized
  have hl := lv_entry ([.int (a)]) (n := 1) (Nat.le_of_ble_eq_true rfl)
  rw [lg_entry_eq]
  generalize (lg_sl ([.int (a)]) ++ List.replicate (1 - (lg_sl ([.int (a)])).length) Slot.unset).toArray = ls at hl ⊢
  have hl : lv_has ls 1 [(0, .int (a))] := hl
  refine lv_iload_n hx hb dX5_isKind_0 rfl (lv_at hl 0 rfl) ?_
  refine g_if_lt (tgt := 14) hx hb dX5_isKind_1 (by decide) rfl (fun c_1 => ?_) (fun c_1 => ?_)
  · skip
    refine lv_iconst (v := (nI (0))) hx hb dX5_isKind_14 (by decide) ?_
    exact W.zret (v := (nI (0))) hx hb hr (by decide) (fun t ht hW => ⟨_, rfl, (bI_f (fun q => by omega)).symm, ht⟩) (fun _ h => nomatch h) dX5_isKind_15
  · skip
    refine lv_iload_n hx hb dX5_isKind_4 rfl (lv_at hl 0 rfl) ?_
    refine lv_bipush (v := (nI (16))) hx hb dX5_isKind_5 (by decide) ?_
    refine g_icmp_ge (tgt := 14) hx hb dX5_isKind_7 (by decide) rfl (n_i (by omega)) (fun c_7 => ?_) (fun c_7 => ?_)
    · skip
      refine lv_iconst (v := (nI (0))) hx hb dX5_isKind_14 (by decide) ?_
      exact W.zret (v := (nI (0))) hx hb hr (by decide) (fun t ht hW => ⟨_, rfl, (bI_f (fun q => by omega)).symm, ht⟩) (fun _ h => nomatch h) dX5_isKind_15
    · skip
      refine lv_iconst (v := (nI (1))) hx hb dX5_isKind_10 (by decide) ?_
      refine lv_goto (tgt := 15) hx hb dX5_isKind_11 (by decide) ?_
      exact W.zret (v := (nI (1))) hx hb hr (by decide) (fun t ht hW => ⟨_, rfl, (bI_t ⟨by omega, by omega⟩).symm, ht⟩) (fun _ h => nomatch h) dX5_isKind_15
set_option maxHeartbeats 4000000 in
set_option maxRecDepth 100000 in
theorem c_X5_part (l : Launch)   (b i : Nat) : Met l yX5_part wsX5_part ({ frames := 0, cells := 0, slots := 0, locals := 0 } : Room) (va_Pc [.int (nI (b)), .int (nI (i))] (fun _ => True)) (vp_Si (fun r : Int32 => r = nI (5 * b + i))) 0 0 (fun _ => False) := by
  refine Met.ofW (cc := cX5_part) (maxL := 2) (ret := (some .int)) (by decide) rfl ?_
  intro p e s m args below meth c s₁ B hml hv
  obtain ⟨rfl, hv⟩ := hv
  have hx := B.exec
  have hb := B.bytes
  have hr := B.returns
  have hts := atoms_spec (ws := wsX5_part) B.pre
  have hown : s.vm.findClass RX5 = some m.cls := findClass_of_methodNamed B.named
  have hlocks := B.notSynchronized
  have hl := lv_entry ([.int (nI (b)), .int (nI (i))]) (n := 2) (Nat.le_of_ble_eq_true rfl)
  rw [lg_entry_eq]
  generalize (lg_sl ([.int (nI (b)), .int (nI (i))]) ++ List.replicate (2 - (lg_sl ([.int (nI (b)), .int (nI (i))])).length) Slot.unset).toArray = ls at hl ⊢
  have hl : lv_has ls 2 [(0, .int (nI (b))), (1, .int (nI (i)))] := hl
  refine lv_iconst (v := (nI (5))) hx hb dX5_part_0 (by decide) ?_
  refine lv_iload_n hx hb dX5_part_1 rfl (lv_at hl 0 rfl) ?_
  refine g_imul_n hx hb dX5_part_2 ?_
  refine lv_iload_n hx hb dX5_part_3 rfl (lv_at hl 1 rfl) ?_
  refine g_iadd_n hx hb dX5_part_4 ?_
  exact W.iret (v := (nI ((5 * b) + i))) hx hb hr (fun t ht hW => ⟨_, rfl, rfl, ht⟩) (fun _ h => nomatch h) dX5_part_5
set_option maxHeartbeats 4000000 in
set_option maxRecDepth 100000 in
theorem c_X5_isHeight (l : Launch) (D : va_G) (cy : Nat → ClassId) (h0 : Nat) (ad : Nat → Nat) (I : Nat → Int32) (F : Nat → Nat → Int32) (i : Nat) (hi : i < 8) (y : Int32) (hh : Nat) (h5 : F 5 i = nI hh) (hfb : hh ≤ 200) : Met l yX5_isHeight wsX5_isHeight ({ frames := 0, cells := 0, slots := 0, locals := 0 } : Room) (va_Pc [.ref h0, .int (nI (i)), .int (y)] (rB D cy (wM cy h0 ad I F))) (vp_Si (fun r : Int32 => r = bI (0 ≤ y.toInt ∧ y.toInt ≤ (hh : Int)))) 0 0 (fun _ => False) := by
  refine Met.ofW (cc := cX5_isHeight) (maxL := 3) (ret := (some .boolean)) (by decide) rfl ?_
  intro p e s m args below meth c s₁ B hml hv
  obtain ⟨rfl, hv⟩ := hv
  have hx := B.exec
  have hb := B.bytes
  have hr := B.returns
  have hts := atoms_spec (ws := wsX5_isHeight) B.pre
  have hown : s.vm.findClass RX5 = some m.cls := findClass_of_methodNamed B.named
  have hlocks := B.notSynchronized
  obtain ⟨hP, hK⟩ := hv
  have hl := lv_entry ([.ref h0, .int (nI (i)), .int (y)]) (n := 3) (Nat.le_of_ble_eq_true rfl)
  rw [lg_entry_eq]
  generalize (lg_sl ([.ref h0, .int (nI (i)), .int (y)]) ++ List.replicate (3 - (lg_sl ([.ref h0, .int (nI (i)), .int (y)])).length) Slot.unset).toArray = ls at hl ⊢
  have hl : lv_has ls 3 [(0, .ref h0), (1, .int (nI (i))), (2, .int (y))] := hl
  refine lv_iload_n hx hb dX5_isHeight_0 rfl (lv_at hl 2 rfl) ?_
  refine g_if_lt (tgt := 18) hx hb dX5_isHeight_1 (by decide) rfl (fun c_1 => ?_) (fun c_1 => ?_)
  · skip
    refine lv_iconst (v := (nI (0))) hx hb dX5_isHeight_18 (by decide) ?_
    exact W.zret (v := (nI (0))) hx hb hr (by decide) (fun t ht hW => ⟨_, rfl, (bI_f (fun q => by omega)).symm, ht⟩) (fun _ h => nomatch h) dX5_isHeight_19
  · skip
    refine lv_iload_n hx hb dX5_isHeight_4 rfl (lv_at hl 2 rfl) ?_
    refine lv_aload_n hx hb dX5_isHeight_5 rfl (lv_at hl 0 rfl) ?_
    refine va_get (D := D) (ci := 5) (v := .ref ((ad 5))) (C := RX5) (T := TX5) (N := 34) hx hb hts (by decide +kernel) hown hK hP 0 rfl rfl 5 (by decide) (hts (.fieldLink RX5 9 "CaskYardModel" "tall" "[I") (by decide +kernel)) (fun _ h9 => h9) rfl dX5_isHeight_6 ?_
    refine lv_iload_n hx hb dX5_isHeight_9 rfl (lv_at hl 1 rfl) ?_
    refine g_iald hx hb hK hP 1 0 rfl rfl (i) rfl (by omega) (by decide) dX5_isHeight_10 ?_
    refine g_top (y := (nI (hh))) h5 ?_
    refine g_icmp_gt (tgt := 18) hx hb dX5_isHeight_11 (by decide) rfl (n_i (by omega)) (fun c_11 => ?_) (fun c_11 => ?_)
    · skip
      refine lv_iconst (v := (nI (0))) hx hb dX5_isHeight_18 (by decide) ?_
      exact W.zret (v := (nI (0))) hx hb hr (by decide) (fun t ht hW => ⟨_, rfl, (bI_f (fun q => by omega)).symm, ht⟩) (fun _ h => nomatch h) dX5_isHeight_19
    · skip
      refine lv_iconst (v := (nI (1))) hx hb dX5_isHeight_14 (by decide) ?_
      refine lv_goto (tgt := 19) hx hb dX5_isHeight_15 (by decide) ?_
      exact W.zret (v := (nI (1))) hx hb hr (by decide) (fun t ht hW => ⟨_, rfl, (bI_t ⟨by omega, by omega⟩).symm, ht⟩) (fun _ h => nomatch h) dX5_isHeight_19
set_option maxHeartbeats 4000000 in
set_option maxRecDepth 100000 in
theorem c_X5_girthOf (l : Launch) (D : va_G) (cy : Nat → ClassId) (h0 : Nat) (ad : Nat → Nat) (I : Nat → Int32) (F : Nat → Nat → Int32) (i y : Nat) (hi : i < 8) (hh gg ee : Nat) (h5 : F 5 i = nI hh) (h6 : F 6 i = nI gg) (h7 : F 7 i = nI ee) (hfb : 10 ≤ hh ∧ hh ≤ 200 ∧ ee ≤ gg ∧ gg ≤ 2000) (hy : y ≤ hh) : Met l yX5_girthOf wsX5_girthOf ({ frames := 0, cells := 0, slots := 0, locals := 0 } : Room) (va_Pc [.ref h0, .int (nI (i)), .int (nI (y))] (rB D cy (wM cy h0 ad I F))) (vp_Si (fun r : Int32 => r = nI (girthN hh gg ee y))) 0 0 (fun _ => False) := by
  refine Met.ofW (cc := cX5_girthOf) (maxL := 4) (ret := (some .int)) (by decide) rfl ?_
  intro p e s m args below meth c s₁ B hml hv
  obtain ⟨rfl, hv⟩ := hv
  have hx := B.exec
  have hb := B.bytes
  have hr := B.returns
  have hts := atoms_spec (ws := wsX5_girthOf) B.pre
  have hown : s.vm.findClass RX5 = some m.cls := findClass_of_methodNamed B.named
  have hlocks := B.notSynchronized
  obtain ⟨hP, hK⟩ := hv
  have hl := lv_entry ([.ref h0, .int (nI (i)), .int (nI (y))]) (n := 4) (Nat.le_of_ble_eq_true rfl)
  rw [lg_entry_eq]
  generalize (lg_sl ([.ref h0, .int (nI (i)), .int (nI (y))]) ++ List.replicate (4 - (lg_sl ([.ref h0, .int (nI (i)), .int (nI (y))])).length) Slot.unset).toArray = ls at hl ⊢
  have hl : lv_has ls 4 [(0, .ref h0), (1, .int (nI (i))), (2, .int (nI (y)))] := hl
  refine lv_iconst (v := (nI (2))) hx hb dX5_girthOf_0 (by decide) ?_
  refine lv_iload_n hx hb dX5_girthOf_1 rfl (lv_at hl 2 rfl) ?_
  refine g_imul_n hx hb dX5_girthOf_2 ?_
  refine lv_aload_n hx hb dX5_girthOf_3 rfl (lv_at hl 0 rfl) ?_
  refine va_get (D := D) (ci := 5) (v := .ref ((ad 5))) (C := RX5) (T := TX5) (N := 34) hx hb hts (by decide +kernel) hown hK hP 0 rfl rfl 5 (by decide) (hts (.fieldLink RX5 9 "CaskYardModel" "tall" "[I") (by decide +kernel)) (fun _ h9 => h9) rfl dX5_girthOf_4 ?_
  refine lv_iload_n hx hb dX5_girthOf_7 rfl (lv_at hl 1 rfl) ?_
  refine g_iald hx hb hK hP 1 0 rfl rfl (i) rfl (by omega) (by decide) dX5_girthOf_8 ?_
  refine g_top (y := (nI (hh))) h5 ?_
  refine g_isub_z (i := ((2 * y : Nat) : Int)) (j := ((hh : Nat) : Int)) hx hb dX5_girthOf_9 (zI_nI (2 * y)) (zI_nI (hh)) ?_
  refine lv_istore_n (lv' := [(3, .int (zI ((((2 * y : Nat) : Int)) - (((hh : Nat) : Int))))), (0, .ref h0), (1, .int (nI (i))), (2, .int (nI (y)))]) hx hb dX5_girthOf_10 rfl hl (by decide) rfl (fun ls hl => ?_)
  refine lv_aload_n hx hb dX5_girthOf_11 rfl (lv_at hl 1 rfl) ?_
  refine va_get (D := D) (ci := 5) (v := .ref ((ad 6))) (C := RX5) (T := TX5) (N := 34) hx hb hts (by decide +kernel) hown hK hP 0 rfl rfl 6 (by decide) (hts (.fieldLink RX5 13 "CaskYardModel" "bilge" "[I") (by decide +kernel)) (fun _ h9 => h9) rfl dX5_girthOf_12 ?_
  refine lv_iload_n hx hb dX5_girthOf_15 rfl (lv_at hl 2 rfl) ?_
  refine g_iald hx hb hK hP 2 0 rfl rfl (i) rfl (by omega) (by decide) dX5_girthOf_16 ?_
  refine g_top (y := (nI (gg))) h6 ?_
  refine lv_aload_n hx hb dX5_girthOf_17 rfl (lv_at hl 1 rfl) ?_
  refine va_get (D := D) (ci := 5) (v := .ref ((ad 6))) (C := RX5) (T := TX5) (N := 34) hx hb hts (by decide +kernel) hown hK hP 0 rfl rfl 6 (by decide) (hts (.fieldLink RX5 13 "CaskYardModel" "bilge" "[I") (by decide +kernel)) (fun _ h9 => h9) rfl dX5_girthOf_18 ?_
  refine lv_iload_n hx hb dX5_girthOf_21 rfl (lv_at hl 2 rfl) ?_
  refine g_iald hx hb hK hP 2 0 rfl rfl (i) rfl (by omega) (by decide) dX5_girthOf_22 ?_
  refine g_top (y := (nI (gg))) h6 ?_
  refine lv_aload_n hx hb dX5_girthOf_23 rfl (lv_at hl 1 rfl) ?_
  refine va_get (D := D) (ci := 5) (v := .ref ((ad 7))) (C := RX5) (T := TX5) (N := 34) hx hb hts (by decide +kernel) hown hK hP 0 rfl rfl 7 (by decide) (hts (.fieldLink RX5 16 "CaskYardModel" "headGirth" "[I") (by decide +kernel)) (fun _ h9 => h9) rfl dX5_girthOf_24 ?_
  refine lv_iload_n hx hb dX5_girthOf_27 rfl (lv_at hl 2 rfl) ?_
  refine g_iald hx hb hK hP 3 0 rfl rfl (i) rfl (by omega) (by decide) dX5_girthOf_28 ?_
  refine g_top (y := (nI (ee))) h7 ?_
  refine g_isub_n hx hb dX5_girthOf_29 (by omega) ?_
  refine lv_iload_n hx hb dX5_girthOf_30 rfl (lv_at hl 0 rfl) ?_
  refine lv_iload_n hx hb dX5_girthOf_31 rfl (lv_at hl 0 rfl) ?_
  refine g_imul_z (i := (((2 * y : Nat) : Int)) - (((hh : Nat) : Int))) (j := (((2 * y : Nat) : Int)) - (((hh : Nat) : Int))) hx hb dX5_girthOf_32 rfl rfl ?_
  refine g_top (y := (nI (dN hh y * dN hh y))) (z_n (dN_sq hh y)) ?_
  refine g_imul_n hx hb dX5_girthOf_33 ?_
  refine lv_aload_n hx hb dX5_girthOf_34 rfl (lv_at hl 1 rfl) ?_
  refine va_get (D := D) (ci := 5) (v := .ref ((ad 5))) (C := RX5) (T := TX5) (N := 34) hx hb hts (by decide +kernel) hown hK hP 0 rfl rfl 5 (by decide) (hts (.fieldLink RX5 9 "CaskYardModel" "tall" "[I") (by decide +kernel)) (fun _ h9 => h9) rfl dX5_girthOf_35 ?_
  refine lv_iload_n hx hb dX5_girthOf_38 rfl (lv_at hl 2 rfl) ?_
  refine g_iald hx hb hK hP 1 0 rfl rfl (i) rfl (by omega) (by decide) dX5_girthOf_39 ?_
  refine g_top (y := (nI (hh))) h5 ?_
  refine lv_aload_n hx hb dX5_girthOf_40 rfl (lv_at hl 1 rfl) ?_
  refine va_get (D := D) (ci := 5) (v := .ref ((ad 5))) (C := RX5) (T := TX5) (N := 34) hx hb hts (by decide +kernel) hown hK hP 0 rfl rfl 5 (by decide) (hts (.fieldLink RX5 9 "CaskYardModel" "tall" "[I") (by decide +kernel)) (fun _ h9 => h9) rfl dX5_girthOf_41 ?_
  refine lv_iload_n hx hb dX5_girthOf_44 rfl (lv_at hl 2 rfl) ?_
  refine g_iald hx hb hK hP 1 0 rfl rfl (i) rfl (by omega) (by decide) dX5_girthOf_45 ?_
  refine g_top (y := (nI (hh))) h5 ?_
  refine g_imul_n hx hb dX5_girthOf_46 ?_
  refine g_idiv_n hx hb dX5_girthOf_47 (girth_b1 hfb.2.2.2 hfb.2.1 hy) (girth_b2 hfb.1 hfb.2.1).1 (girth_b2 hfb.1 hfb.2.1).2 ?_
  refine g_isub_n hx hb dX5_girthOf_48 (Nat.le_trans (girth_b3 hy) (Nat.sub_le _ _)) ?_
  exact W.iret (v := (nI (gg - (((gg - ee) * (dN hh y * dN hh y)) / (hh * hh))))) hx hb hr (fun t ht hW => ⟨_, rfl, rfl, ht⟩) (fun _ h => nomatch h) dX5_girthOf_49
set_option maxHeartbeats 4000000 in
set_option maxRecDepth 100000 in
theorem c_X5_widthOf (l : Launch) (D : va_G) (cy : Nat → ClassId) (h0 : Nat) (ad : Nat → Nat) (I : Nat → Int32) (F : Nat → Nat → Int32) (i k y : Nat) (hi : i < 8) (hh gg ee : Nat) (h5 : F 5 i = nI hh) (h6 : F 6 i = nI gg) (h7 : F 7 i = nI ee) (hfb : 10 ≤ hh ∧ hh ≤ 200 ∧ ee ≤ gg ∧ gg ≤ 2000) (hy : y ≤ hh) (n : Nat) (h8 : F 8 i = nI n) (hk : k < n) (hn : n ≤ 40) : Met l yX5_widthOf wsX5_widthOf ({ frames := 1, cells := 0, slots := 0, locals := 23 } : Room) (va_Pc [.ref h0, .int (nI (i)), .int (nI (k)), .int (nI (y))] (rB D cy (wM cy h0 ad I F))) (vp_Si (fun r : Int32 => r = nI (widthN n k (girthN hh gg ee y)))) 0 0 (fun _ => False) := by
  refine Met.ofW (cc := cX5_widthOf) (maxL := 5) (ret := (some .int)) (by decide) rfl ?_
  intro p e s m args below meth c s₁ B hml hv
  obtain ⟨rfl, hv⟩ := hv
  have hx := B.exec
  have hb := B.bytes
  have hr := B.returns
  have hts := atoms_spec (ws := wsX5_widthOf) B.pre
  have hown : s.vm.findClass RX5 = some m.cls := findClass_of_methodNamed B.named
  have hlocks := B.notSynchronized
  obtain ⟨hP, hK⟩ := hv
  have hl := lv_entry ([.ref h0, .int (nI (i)), .int (nI (k)), .int (nI (y))]) (n := 5) (Nat.le_of_ble_eq_true rfl)
  rw [lg_entry_eq]
  generalize (lg_sl ([.ref h0, .int (nI (i)), .int (nI (k)), .int (nI (y))]) ++ List.replicate (5 - (lg_sl ([.ref h0, .int (nI (i)), .int (nI (k)), .int (nI (y))])).length) Slot.unset).toArray = ls at hl ⊢
  have hl : lv_has ls 5 [(0, .ref h0), (1, .int (nI (i))), (2, .int (nI (k))), (3, .int (nI (y)))] := hl
  have hw := width_b (k := k) (n := n) (gi := girthN hh gg ee y) (Nat.le_trans (girthN_le _ _ _ _) hfb.2.2.2) hk hn
  refine lv_aload_n hx hb dX5_widthOf_0 rfl (lv_at hl 0 rfl) ?_
  refine lv_iload_n hx hb dX5_widthOf_1 rfl (lv_at hl 1 rfl) ?_
  refine lv_iload_n hx hb dX5_widthOf_2 rfl (lv_at hl 3 rfl) ?_
  refine vp_callSi (va_Run.run (va_runV (As := [.int (nI (i)), .int (nI (y))]) (rest := []) ⟨hx, hb, hml, hown, hts⟩ (c_X5_girthOf l D cy h0 ad I F (i) (y) (hi) (hh) (gg) (ee) (h5) (h6) (h7) (hfb) (hy)) (cwV 2 hts gX5_widthOf_X5_girthOf rfl rfl rfl (by decide +kernel) ⟨Nat.le_of_ble_eq_true rfl, Nat.le_of_ble_eq_true rfl⟩) ⟨rB_blind, va_recv hK hP (ci := 5) (q0 := 0) rfl rfl, (rB_pre hP hK)⟩ rfl rfl hl.1 rfl (lv_room (Nat.le_of_ble_eq_true rfl)) dX5_widthOf_3 ⟨Nat.le_of_ble_eq_true rfl, Nat.le_of_ble_eq_true rfl⟩)) (fun r_3 hr_3 => ?_)
  subst hr_3
  refine lv_istore (lv' := [(4, .int (nI (girthN (hh) (gg) (ee) (y)))), (0, .ref h0), (1, .int (nI (i))), (2, .int (nI (k))), (3, .int (nI (y)))]) hx hb dX5_widthOf_6 hl (by decide) rfl (fun ls hl => ?_)
  refine lv_iload hx hb dX5_widthOf_8 (lv_at hl 0 rfl) ?_
  refine lv_iload_n hx hb dX5_widthOf_10 rfl (lv_at hl 3 rfl) ?_
  refine lv_iconst (v := (nI (1))) hx hb dX5_widthOf_11 (by decide) ?_
  refine g_iadd_n hx hb dX5_widthOf_12 ?_
  refine g_imul_n hx hb dX5_widthOf_13 ?_
  refine lv_aload_n hx hb dX5_widthOf_14 rfl (lv_at hl 1 rfl) ?_
  refine va_get (D := D) (ci := 5) (v := .ref ((ad 8))) (C := RX5) (T := TX5) (N := 34) hx hb hts (by decide +kernel) hown hK hP 0 rfl rfl 8 (by decide) (hts (.fieldLink RX5 19 "CaskYardModel" "staves" "[I") (by decide +kernel)) (fun _ h9 => h9) rfl dX5_widthOf_15 ?_
  refine lv_iload_n hx hb dX5_widthOf_18 rfl (lv_at hl 2 rfl) ?_
  refine g_iald hx hb hK hP 4 0 rfl rfl (i) rfl (by omega) (by decide) dX5_widthOf_19 ?_
  refine g_top (y := (nI (n))) h8 ?_
  refine g_idiv_n hx hb dX5_widthOf_20 (by omega) (by omega) (by omega) ?_
  refine lv_iload hx hb dX5_widthOf_21 (lv_at hl 0 rfl) ?_
  refine lv_iload_n hx hb dX5_widthOf_23 rfl (lv_at hl 3 rfl) ?_
  refine g_imul_n hx hb dX5_widthOf_24 ?_
  refine lv_aload_n hx hb dX5_widthOf_25 rfl (lv_at hl 1 rfl) ?_
  refine va_get (D := D) (ci := 5) (v := .ref ((ad 8))) (C := RX5) (T := TX5) (N := 34) hx hb hts (by decide +kernel) hown hK hP 0 rfl rfl 8 (by decide) (hts (.fieldLink RX5 19 "CaskYardModel" "staves" "[I") (by decide +kernel)) (fun _ h9 => h9) rfl dX5_widthOf_26 ?_
  refine lv_iload_n hx hb dX5_widthOf_29 rfl (lv_at hl 2 rfl) ?_
  refine g_iald hx hb hK hP 4 0 rfl rfl (i) rfl (by omega) (by decide) dX5_widthOf_30 ?_
  refine g_top (y := (nI (n))) h8 ?_
  refine g_idiv_n hx hb dX5_widthOf_31 (by omega) (by omega) (by omega) ?_
  refine g_isub_n hx hb dX5_widthOf_32 (by omega) ?_
  exact W.iret (v := (nI ((((girthN (hh) (gg) (ee) (y)) * (k + 1)) / n) - (((girthN (hh) (gg) (ee) (y)) * k) / n)))) hx hb hr (fun t ht hW => ⟨_, rfl, rfl, ht⟩) (fun _ h => nomatch h) dX5_widthOf_33
