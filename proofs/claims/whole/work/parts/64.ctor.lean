set_option maxHeartbeats 4000000 in
set_option maxRecDepth 100000 in
theorem c_X2_init (l : Launch) (D : va_G) (cy : Nat → ClassId) (sz : Nat) (K : List Nat) (ad : Nat → Nat) (E : Nat → va_E) (ko : Nat) (hko : ko ∈ K) (hEo : E ko = .inr (2, [.int (nI (0)), .int (nI (0)), .int (nI (0)), .int (nI (0))])) (a b v w : Int32) : Met l yX2_init wsX2_init ({ frames := 1, cells := 0, slots := 0, locals := 12 } : Room) (va_Pc [.ref ((ad (ko))), .int (a), .int (b), .int (v), .int (w)] (wB2 D cy sz (kW K ad E))) (va_Qv (fun (u : Nat → va_E) => u (ko) = .inr (2, [.int a, .int b, .int v, .int w]) ∧ (∀ j_ : Nat, j_ ≠ ko → u j_ = E j_)) (fun u t => wE D cy (va_A (kW K ad E) sz) (kW K ad u) t) (va_A (kW K ad E) sz)) 0 0 (va_A (kW K ad E) sz) := by
  refine Met.ofW (cc := cX2_init) (maxL := 5) (ret := none) (by decide) rfl ?_
  intro p e s m args below meth c s₁ B hml hv
  obtain ⟨rfl, ⟨hsz, hP, hK, hD0⟩, hN⟩ := hv
  have hx := B.exec
  have hb := B.bytes
  have hr := B.returns
  have hts := atoms_spec (ws := wsX2_init) B.pre
  have hown : s.vm.findClass RX2 = some m.cls := findClass_of_methodNamed B.named
  have hlocks := B.notSynchronized
  subst hsz
  have hD := hD0.self (sz := s.heap.size)
  generalize hAe : va_A (kW K ad E) s.heap.size = A at hD ⊢
  have hA : ∀ q : Nat, s.heap.size ≤ q → A q := w_A hAe
  have hS : va_S A s.heap s.heap [] := va_S.rf
  have hnd := kW_nd hD
  have hin : meth.name = "<init>" := (name_of_methodNamed B.named B.method).1
  have hl := lv_entry ([.ref ((ad (ko))), .int (a), .int (b), .int (v), .int (w)]) (n := 5) (Nat.le_of_ble_eq_true rfl)
  rw [lg_entry_eq]
  generalize (lg_sl ([.ref ((ad (ko))), .int (a), .int (b), .int (v), .int (w)]) ++ List.replicate (5 - (lg_sl ([.ref ((ad (ko))), .int (a), .int (b), .int (v), .int (w)])).length) Slot.unset).toArray = ls at hl ⊢
  have hl : lv_has ls 5 [(0, .ref ((ad (ko)))), (1, .int (a)), (2, .int (b)), (3, .int (v)), (4, .int (w))] := hl
  refine lv_aload_n hx hb dX2_init_0 rfl (lv_at hl 0 rfl) ?_
  refine W.objInit hx hb hown (hts (.methodLink RX2 3 objectInit) (by decide +kernel)) (hts (.instanceMethod objectInit) (by decide +kernel)) (hts (.code objectInit ⟨#[0xb1]⟩ 1 none) (by decide +kernel)) rfl (by rw [hml]; exact hl.1) rfl dX2_init_1 (Nat.le_of_ble_eq_true rfl) (Nat.le_of_ble_eq_true rfl) ?_
  refine lv_aload_n hx hb dX2_init_4 rfl (lv_at hl 0 rfl) ?_
  refine lv_iload_n hx hb dX2_init_5 rfl (lv_at hl 1 rfl) ?_
  obtain ⟨p1, hp1⟩ := kW_pos hko
  refine va_putF (D := D) (ci := 2) (v := .int (a)) (ty := .int) (C := RX2) (T := TX2) (N := 4) hx hb hts (by decide +kernel) tyX2 tyX2_ok nmX2 hown hK hP hD hS p1 (kW_get hp1 hEo) rfl 0 (by decide) (hts (.fieldLink RX2 9 "CaskYard$Form" "height" "I") (by decide +kernel)) (fun _ h9 => h9) rfl hin rfl (by decide +kernel) rfl rfl (Nat.le_of_ble_eq_true rfl) dX2_init_6 (fun H locs hP hD hS => ?_)
  rw [show ([.int (nI (0)), .int (nI (0)), .int (nI (0)), .int (nI (0))] : List Value).set 0 (.int (a)) = [.int (a), .int (nI (0)), .int (nI (0)), .int (nI (0))] from rfl] at hP hD
  rw [kW_set hnd hp1] at hP hD
  obtain ⟨Ew2, hEw2⟩ : ∃ G, G = va_up E (ko) (.inr (2, [.int (a), .int (nI (0)), .int (nI (0)), .int (nI (0))])) := ⟨_, rfl⟩
  have eEw2_2 : Ew2 (ko) = .inr (2, [.int (a), .int (nI (0)), .int (nI (0)), .int (nI (0))]) := by rw [hEw2]; exact va_up_self _ _ _
  rw [← hEw2] at hP hD
  refine lv_aload_n hx hb dX2_init_9 rfl (lv_at hl 0 rfl) ?_
  refine lv_iload_n hx hb dX2_init_10 rfl (lv_at hl 2 rfl) ?_
  obtain ⟨p3, hp3⟩ := kW_pos hko
  refine va_putF (D := D) (ci := 2) (v := .int (b)) (ty := .int) (C := RX2) (T := TX2) (N := 4) hx hb hts (by decide +kernel) tyX2 tyX2_ok nmX2 hown hK hP hD hS p3 (kW_get hp3 eEw2_2) rfl 1 (by decide) (hts (.fieldLink RX2 15 "CaskYard$Form" "bilge" "I") (by decide +kernel)) (fun _ h9 => h9) rfl hin rfl (by decide +kernel) rfl rfl (Nat.le_of_ble_eq_true rfl) dX2_init_11 (fun H locs hP hD hS => ?_)
  rw [show ([.int (a), .int (nI (0)), .int (nI (0)), .int (nI (0))] : List Value).set 1 (.int (b)) = [.int (a), .int (b), .int (nI (0)), .int (nI (0))] from rfl] at hP hD
  rw [kW_set hnd hp3] at hP hD
  obtain ⟨Ew4, hEw4⟩ : ∃ G, G = va_up Ew2 (ko) (.inr (2, [.int (a), .int (b), .int (nI (0)), .int (nI (0))])) := ⟨_, rfl⟩
  have eEw4_2 : Ew4 (ko) = .inr (2, [.int (a), .int (b), .int (nI (0)), .int (nI (0))]) := by rw [hEw4]; exact va_up_self _ _ _
  rw [← hEw4] at hP hD
  refine lv_aload_n hx hb dX2_init_14 rfl (lv_at hl 0 rfl) ?_
  refine lv_iload_n hx hb dX2_init_15 rfl (lv_at hl 3 rfl) ?_
  obtain ⟨p5, hp5⟩ := kW_pos hko
  refine va_putF (D := D) (ci := 2) (v := .int (v)) (ty := .int) (C := RX2) (T := TX2) (N := 4) hx hb hts (by decide +kernel) tyX2 tyX2_ok nmX2 hown hK hP hD hS p5 (kW_get hp5 eEw4_2) rfl 2 (by decide) (hts (.fieldLink RX2 18 "CaskYard$Form" "headGirth" "I") (by decide +kernel)) (fun _ h9 => h9) rfl hin rfl (by decide +kernel) rfl rfl (Nat.le_of_ble_eq_true rfl) dX2_init_16 (fun H locs hP hD hS => ?_)
  rw [show ([.int (a), .int (b), .int (nI (0)), .int (nI (0))] : List Value).set 2 (.int (v)) = [.int (a), .int (b), .int (v), .int (nI (0))] from rfl] at hP hD
  rw [kW_set hnd hp5] at hP hD
  obtain ⟨Ew6, hEw6⟩ : ∃ G, G = va_up Ew4 (ko) (.inr (2, [.int (a), .int (b), .int (v), .int (nI (0))])) := ⟨_, rfl⟩
  have eEw6_2 : Ew6 (ko) = .inr (2, [.int (a), .int (b), .int (v), .int (nI (0))]) := by rw [hEw6]; exact va_up_self _ _ _
  rw [← hEw6] at hP hD
  refine lv_aload_n hx hb dX2_init_19 rfl (lv_at hl 0 rfl) ?_
  refine lv_iload hx hb dX2_init_20 (lv_at hl 4 rfl) ?_
  obtain ⟨p7, hp7⟩ := kW_pos hko
  refine va_putF (D := D) (ci := 2) (v := .int (w)) (ty := .int) (C := RX2) (T := TX2) (N := 4) hx hb hts (by decide +kernel) tyX2 tyX2_ok nmX2 hown hK hP hD hS p7 (kW_get hp7 eEw6_2) rfl 3 (by decide) (hts (.fieldLink RX2 21 "CaskYard$Form" "staves" "I") (by decide +kernel)) (fun _ h9 => h9) rfl hin rfl (by decide +kernel) rfl rfl (Nat.le_of_ble_eq_true rfl) dX2_init_22 (fun H locs hP hD hS => ?_)
  rw [show ([.int (a), .int (b), .int (v), .int (nI (0))] : List Value).set 3 (.int (w)) = [.int (a), .int (b), .int (v), .int (w)] from rfl] at hP hD
  rw [kW_set hnd hp7] at hP hD
  obtain ⟨Ew8, hEw8⟩ : ∃ G, G = va_up Ew6 (ko) (.inr (2, [.int (a), .int (b), .int (v), .int (w)])) := ⟨_, rfl⟩
  have eEw8_2 : Ew8 (ko) = .inr (2, [.int (a), .int (b), .int (v), .int (w)]) := by rw [hEw8]; exact va_up_self _ _ _
  rw [← hEw8] at hP hD
  exact W.vret hx hb hr (fun t ht hW => ⟨⟨Ew8, rfl, ⟨eEw8_2, (fun j_ h0_ => by rw [hEw8, va_up_ne _ _ h0_, hEw6, va_up_ne _ _ h0_, hEw4, va_up_ne _ _ h0_, hEw2, va_up_ne _ _ h0_])⟩, by rw [ht]; exact hP, va_K.moved hW.alike hK, hD⟩, hS.F ht⟩) hS.2.2 dX2_init_25
set_option maxHeartbeats 4000000 in
set_option maxRecDepth 100000 in
theorem c_X0_init (l : Launch) (D : va_G) (cy : Nat → ClassId) (sz : Nat) (K : List Nat) (ad : Nat → Nat) (E : Nat → va_E) (ko kb ke : Nat) (hko : ko ∈ K) (hkb : kb ∉ K) (hke : ke ∉ K) (hne : ko ≠ kb ∧ ko ≠ ke ∧ kb ≠ ke) (hEo : E ko = .inr (0, [.int (nI (0)), .null, .null, .int (nI (0))])) (w v : Int32) : Met l yX0_init wsX0_init ({ frames := 1, cells := 2, slots := 8, locals := 12 } : Room) (va_Pc [.ref ((ad (ko))), .int (w), .int (v)] (wB2 D cy sz (kW K ad E))) (va_Qv (fun (u : (Nat → Nat) × (Nat → va_E)) => (∀ j_ : Nat, j_ ≠ kb → j_ ≠ ke → u.1 j_ = ad j_) ∧ u.2 (ko) = .inr (0, [.int v, .ref (u.1 (kb)), .ref (u.1 (ke)), .int (nI 1)]) ∧ u.2 (kb) = .inl (cy 0, 4, .inl (fun _ => 0)) ∧ u.2 (ke) = .inl (cy 0, 4, .inl (upd (fun _ => 0) (0) (w))) ∧ (∀ j_ : Nat, j_ ≠ ko → j_ ≠ kb → j_ ≠ ke → u.2 j_ = E j_)) (fun u t => wE D cy (va_A (kW K ad E) sz) (kW ((K ++ [kb]) ++ [ke]) u.1 u.2) t) (va_A (kW K ad E) sz)) 2 8 (va_A (kW K ad E) sz) := by
  refine Met.ofW (cc := cX0_init) (maxL := 3) (ret := none) (by decide) rfl ?_
  intro p e s m args below meth c s₁ B hml hv
  obtain ⟨rfl, ⟨hsz, hP, hK, hD0⟩, hN⟩ := hv
  have hx := B.exec
  have hb := B.bytes
  have hr := B.returns
  have hts := atoms_spec (ws := wsX0_init) B.pre
  have hown : s.vm.findClass RX0 = some m.cls := findClass_of_methodNamed B.named
  have hlocks := B.notSynchronized
  subst hsz
  have hD := hD0.self (sz := s.heap.size)
  generalize hAe : va_A (kW K ad E) s.heap.size = A at hD ⊢
  have hA : ∀ q : Nat, s.heap.size ≤ q → A q := w_A hAe
  have hS : va_S A s.heap s.heap [] := va_S.rf
  have hnd := kW_nd hD
  have hin : meth.name = "<init>" := (name_of_methodNamed B.named B.method).1
  have hl := lv_entry ([.ref ((ad (ko))), .int (w), .int (v)]) (n := 3) (Nat.le_of_ble_eq_true rfl)
  rw [lg_entry_eq]
  generalize (lg_sl ([.ref ((ad (ko))), .int (w), .int (v)]) ++ List.replicate (3 - (lg_sl ([.ref ((ad (ko))), .int (w), .int (v)])).length) Slot.unset).toArray = ls at hl ⊢
  have hl : lv_has ls 3 [(0, .ref ((ad (ko)))), (1, .int (w)), (2, .int (v))] := hl
  refine lv_aload_n hx hb dX0_init_0 rfl (lv_at hl 0 rfl) ?_
  refine W.objInit hx hb hown (hts (.methodLink RX0 3 objectInit) (by decide +kernel)) (hts (.instanceMethod objectInit) (by decide +kernel)) (hts (.code objectInit ⟨#[0xb1]⟩ 1 none) (by decide +kernel)) rfl (by rw [hml]; exact hl.1) rfl dX0_init_1 (Nat.le_of_ble_eq_true rfl) (Nat.le_of_ble_eq_true rfl) ?_
  refine lv_aload_n hx hb dX0_init_4 rfl (lv_at hl 0 rfl) ?_
  refine lv_iconst (v := (nI (4))) hx hb dX0_init_5 (by decide) ?_
  refine gk_newI (kb) hkb hx hb (hts (.arrayClass .int) (by decide +kernel)) hK hP hD hS hA (by decide) (Nat.le_of_ble_eq_true rfl) (Nat.le_of_ble_eq_true rfl) dX0_init_6 (fun ad1 Ew1 H had1 hEw1 hP hD hS => ?_)
  have eEw1_0 : Ew1 (kb) = .inl (cy 0, 4, .inl (fun _ => 0)) := by rw [hEw1]; exact va_up_self _ _ _
  have hnd := kW_nd hD
  obtain ⟨p2, hp2⟩ := kW_pos (List.mem_append_left _ hko)
  refine va_putF (D := D) (ci := 0) (v := .ref ((ad1 (kb)))) (ty := .array .int) (C := RX0) (T := TX0) (N := 4) hx hb hts (by decide +kernel) tyX0 tyX0_ok nmX0 hown hK hP hD hS p2 (kW_getA hp2 (show Ew1 (ko) = .inr (0, [.int (nI (0)), .null, .null, .int (nI (0))]) by rw [hEw1, va_up_ne _ _ (by omega)]; exact hEo) (had1 (ko) (by omega))) rfl 1 (by decide) (hts (.fieldLink RX0 9 "CaskYard$Bolt" "begin" "[I") (by decide +kernel)) (fun _ h9 => h9) rfl hin rfl (by decide +kernel) rfl rfl (Nat.le_of_ble_eq_true rfl) dX0_init_8 (fun H locs hP hD hS => ?_)
  rw [show ([.int (nI (0)), .null, .null, .int (nI (0))] : List Value).set 1 (.ref ((ad1 (kb)))) = [.int (nI (0)), .ref ((ad1 (kb))), .null, .int (nI (0))] from rfl] at hP hD
  rw [kW_setA hnd hp2 (had1 (ko) (by omega))] at hP hD
  obtain ⟨Ew3, hEw3⟩ : ∃ G, G = va_up Ew1 (ko) (.inr (0, [.int (nI (0)), .ref ((ad1 (kb))), .null, .int (nI (0))])) := ⟨_, rfl⟩
  have eEw3_2 : Ew3 (ko) = .inr (0, [.int (nI (0)), .ref ((ad1 (kb))), .null, .int (nI (0))]) := by rw [hEw3]; exact va_up_self _ _ _
  have eEw3_0 : Ew3 (kb) = .inl (cy 0, 4, .inl (fun _ => 0)) := by rw [hEw3, va_up_ne _ _ (by omega)]; exact eEw1_0
  rw [← hEw3] at hP hD
  refine lv_aload_n hx hb dX0_init_11 rfl (lv_at hl 0 rfl) ?_
  refine lv_iconst (v := (nI (4))) hx hb dX0_init_12 (by decide) ?_
  refine gk_newI (ke) (nin_app hke (by omega)) hx hb (hts (.arrayClass .int) (by decide +kernel)) hK hP hD hS hA (by decide) (Nat.le_of_ble_eq_true rfl) (Nat.le_of_ble_eq_true rfl) dX0_init_13 (fun ad4 Ew4 H had4 hEw4 hP hD hS => ?_)
  have eEw4_1 : Ew4 (ke) = .inl (cy 0, 4, .inl (fun _ => 0)) := by rw [hEw4]; exact va_up_self _ _ _
  have eEw4_0 : Ew4 (kb) = .inl (cy 0, 4, .inl (fun _ => 0)) := by rw [hEw4, va_up_ne _ _ (by omega)]; exact eEw3_0
  have eEw4_2 : Ew4 (ko) = .inr (0, [.int (nI (0)), .ref ((ad1 (kb))), .null, .int (nI (0))]) := by rw [hEw4, va_up_ne _ _ (by omega)]; exact eEw3_2
  have hnd := kW_nd hD
  obtain ⟨p5, hp5⟩ := kW_pos (List.mem_append_left _ (List.mem_append_left _ hko))
  refine va_putF (D := D) (ci := 0) (v := .ref ((ad4 (ke)))) (ty := .array .int) (C := RX0) (T := TX0) (N := 4) hx hb hts (by decide +kernel) tyX0 tyX0_ok nmX0 hown hK hP hD hS p5 (kW_getA hp5 eEw4_2 ((had4 (ko) (by omega)).trans (had1 (ko) (by omega)))) rfl 2 (by decide) (hts (.fieldLink RX0 15 "CaskYard$Bolt" "end" "[I") (by decide +kernel)) (fun _ h9 => h9) rfl hin rfl (by decide +kernel) rfl rfl (Nat.le_of_ble_eq_true rfl) dX0_init_15 (fun H locs hP hD hS => ?_)
  rw [show ([.int (nI (0)), .ref ((ad1 (kb))), .null, .int (nI (0))] : List Value).set 2 (.ref ((ad4 (ke)))) = [.int (nI (0)), .ref ((ad1 (kb))), .ref ((ad4 (ke))), .int (nI (0))] from rfl] at hP hD
  rw [kW_setA hnd hp5 ((had4 (ko) (by omega)).trans (had1 (ko) (by omega)))] at hP hD
  obtain ⟨Ew6, hEw6⟩ : ∃ G, G = va_up Ew4 (ko) (.inr (0, [.int (nI (0)), .ref ((ad1 (kb))), .ref ((ad4 (ke))), .int (nI (0))])) := ⟨_, rfl⟩
  have eEw6_2 : Ew6 (ko) = .inr (0, [.int (nI (0)), .ref ((ad1 (kb))), .ref ((ad4 (ke))), .int (nI (0))]) := by rw [hEw6]; exact va_up_self _ _ _
  have eEw6_0 : Ew6 (kb) = .inl (cy 0, 4, .inl (fun _ => 0)) := by rw [hEw6, va_up_ne _ _ (by omega)]; exact eEw4_0
  have eEw6_1 : Ew6 (ke) = .inl (cy 0, 4, .inl (fun _ => 0)) := by rw [hEw6, va_up_ne _ _ (by omega)]; exact eEw4_1
  rw [← hEw6] at hP hD
  refine lv_aload_n hx hb dX0_init_18 rfl (lv_at hl 0 rfl) ?_
  refine lv_iload_n hx hb dX0_init_19 rfl (lv_at hl 2 rfl) ?_
  obtain ⟨p7, hp7⟩ := kW_pos (List.mem_append_left _ (List.mem_append_left _ hko))
  refine va_putF (D := D) (ci := 0) (v := .int (v)) (ty := .int) (C := RX0) (T := TX0) (N := 4) hx hb hts (by decide +kernel) tyX0 tyX0_ok nmX0 hown hK hP hD hS p7 (kW_getA hp7 eEw6_2 ((had4 (ko) (by omega)).trans (had1 (ko) (by omega)))) rfl 0 (by decide) (hts (.fieldLink RX0 18 "CaskYard$Bolt" "split" "I") (by decide +kernel)) (fun _ h9 => h9) rfl hin rfl (by decide +kernel) rfl rfl (Nat.le_of_ble_eq_true rfl) dX0_init_20 (fun H locs hP hD hS => ?_)
  rw [show ([.int (nI (0)), .ref ((ad1 (kb))), .ref ((ad4 (ke))), .int (nI (0))] : List Value).set 0 (.int (v)) = [.int (v), .ref ((ad1 (kb))), .ref ((ad4 (ke))), .int (nI (0))] from rfl] at hP hD
  rw [kW_setA hnd hp7 ((had4 (ko) (by omega)).trans (had1 (ko) (by omega)))] at hP hD
  obtain ⟨Ew8, hEw8⟩ : ∃ G, G = va_up Ew6 (ko) (.inr (0, [.int (v), .ref ((ad1 (kb))), .ref ((ad4 (ke))), .int (nI (0))])) := ⟨_, rfl⟩
  have eEw8_2 : Ew8 (ko) = .inr (0, [.int (v), .ref ((ad1 (kb))), .ref ((ad4 (ke))), .int (nI (0))]) := by rw [hEw8]; exact va_up_self _ _ _
  have eEw8_0 : Ew8 (kb) = .inl (cy 0, 4, .inl (fun _ => 0)) := by rw [hEw8, va_up_ne _ _ (by omega)]; exact eEw6_0
  have eEw8_1 : Ew8 (ke) = .inl (cy 0, 4, .inl (fun _ => 0)) := by rw [hEw8, va_up_ne _ _ (by omega)]; exact eEw6_1
  rw [← hEw8] at hP hD
  refine lv_aload_n hx hb dX0_init_23 rfl (lv_at hl 0 rfl) ?_
  obtain ⟨p9, hp9⟩ := kW_pos (List.mem_append_left _ (List.mem_append_left _ hko))
  refine va_get (D := D) (ci := 0) (v := .ref ((ad4 (ke)))) (C := RX0) (T := TX0) (N := 4) hx hb hts (by decide +kernel) hown hK hP p9 (kW_getA hp9 eEw8_2 ((had4 (ko) (by omega)).trans (had1 (ko) (by omega)))) rfl 2 (by decide) (hts (.fieldLink RX0 15 "CaskYard$Bolt" "end" "[I") (by decide +kernel)) (fun _ h9 => h9) rfl dX0_init_24 ?_
  refine lv_iconst (v := (nI (0))) hx hb dX0_init_27 (by decide) ?_
  refine lv_iload_n hx hb dX0_init_28 rfl (lv_at hl 1 rfl) ?_
  obtain ⟨p10, hp10⟩ := kW_pos (mem_new _ _)
  refine g_iast hx hb hK hP hD hS p10 0 (kW_get hp10 eEw8_1) rfl (0) rfl (by omega) (by decide) dX0_init_29 (fun H locs hP hD hS => ?_)
  rw [kW_set hnd hp10] at hP hD
  obtain ⟨Ew11, hEw11⟩ : ∃ G, G = va_up Ew8 (ke) (.inl (cy 0, 4, .inl (upd (fun _ => 0) (0) (w)))) := ⟨_, rfl⟩
  have eEw11_1 : Ew11 (ke) = .inl (cy 0, 4, .inl (upd (fun _ => 0) (0) (w))) := by rw [hEw11]; exact va_up_self _ _ _
  have eEw11_0 : Ew11 (kb) = .inl (cy 0, 4, .inl (fun _ => 0)) := by rw [hEw11, va_up_ne _ _ (by omega)]; exact eEw8_0
  have eEw11_2 : Ew11 (ko) = .inr (0, [.int (v), .ref ((ad1 (kb))), .ref ((ad4 (ke))), .int (nI (0))]) := by rw [hEw11, va_up_ne _ _ (by omega)]; exact eEw8_2
  rw [← hEw11] at hP hD
  refine lv_aload_n hx hb dX0_init_30 rfl (lv_at hl 0 rfl) ?_
  refine lv_iconst (v := (nI (1))) hx hb dX0_init_31 (by decide) ?_
  obtain ⟨p12, hp12⟩ := kW_pos (List.mem_append_left _ (List.mem_append_left _ hko))
  refine va_put (D := D) (ci := 0) (v := .int (nI (1))) (ty := .int) (C := RX0) (T := TX0) (N := 4) hx hb hts (by decide +kernel) tyX0 tyX0_ok nmX0 hown hK hP hD hS p12 (kW_getA hp12 eEw11_2 ((had4 (ko) (by omega)).trans (had1 (ko) (by omega)))) rfl 3 (by decide) (hts (.fieldLink RX0 22 "CaskYard$Bolt" "parts" "I") (by decide +kernel)) (fun _ h9 => h9) rfl (by decide +kernel) rfl rfl (Nat.le_of_ble_eq_true rfl) dX0_init_32 (fun H locs hP hD hS => ?_)
  rw [show ([.int (v), .ref ((ad1 (kb))), .ref ((ad4 (ke))), .int (nI (0))] : List Value).set 3 (.int (nI (1))) = [.int (v), .ref ((ad1 (kb))), .ref ((ad4 (ke))), .int (nI (1))] from rfl] at hP hD
  rw [kW_setA hnd hp12 ((had4 (ko) (by omega)).trans (had1 (ko) (by omega)))] at hP hD
  obtain ⟨Ew13, hEw13⟩ : ∃ G, G = va_up Ew11 (ko) (.inr (0, [.int (v), .ref ((ad1 (kb))), .ref ((ad4 (ke))), .int (nI (1))])) := ⟨_, rfl⟩
  have eEw13_2 : Ew13 (ko) = .inr (0, [.int (v), .ref ((ad1 (kb))), .ref ((ad4 (ke))), .int (nI (1))]) := by rw [hEw13]; exact va_up_self _ _ _
  have eEw13_0 : Ew13 (kb) = .inl (cy 0, 4, .inl (fun _ => 0)) := by rw [hEw13, va_up_ne _ _ (by omega)]; exact eEw11_0
  have eEw13_1 : Ew13 (ke) = .inl (cy 0, 4, .inl (upd (fun _ => 0) (0) (w))) := by rw [hEw13, va_up_ne _ _ (by omega)]; exact eEw11_1
  rw [← hEw13] at hP hD
  exact W.vret hx hb hr (fun t ht hW => ⟨⟨(ad4, Ew13), rfl, ⟨(fun j_ h0_ h1_ => by show ad4 j_ = ad j_; rw [had4 j_ h1_, had1 j_ h0_]), (by show Ew13 (ko) = .inr (0, [.int v, .ref (ad4 (kb)), .ref (ad4 (ke)), .int (nI 1)]); rw [had4 (kb) (by omega)]; exact eEw13_2), eEw13_0, eEw13_1, (fun j_ ho_ h0_ h1_ => by show Ew13 j_ = E j_; rw [hEw13, va_up_ne _ _ ho_, hEw11, va_up_ne _ _ h1_, hEw8, va_up_ne _ _ ho_, hEw6, va_up_ne _ _ ho_, hEw4, va_up_ne _ _ h1_, hEw3, va_up_ne _ _ ho_, hEw1, va_up_ne _ _ h0_])⟩, by rw [ht]; exact hP, va_K.moved hW.alike hK, hD⟩, hS.F ht⟩) hS.2.2 dX0_init_35
set_option maxHeartbeats 4000000 in
set_option maxRecDepth 100000 in
theorem c_X1_init (l : Launch) (D : va_G) (cy : Nat → ClassId) (sz : Nat) (K : List Nat) (ad : Nat → Nat) (E : Nat → va_E) (cn : Nat) (hcn : cn < 30) (hko : 5000 + cn ∈ K) (hn0 : 6000 + cn ∉ K) (hn1 : 7000 + cn ∉ K) (hn2 : 8000 + cn ∉ K) (hn3 : 9000 + cn ∉ K) (hn4 : 10000 + cn ∉ K) (hEo : E (5000 + cn) = .inr (1, [.int (nI (0)), .null, .null, .null, .null, .null, .null, .int (nI (0))])) (fn : Int32) (fa : Nat) : Met l yX1_init wsX1_init ({ frames := 1, cells := 5, slots := 200, locals := 12 } : Room) (va_Pc [.ref ((ad (5000 + cn))), .int (fn), .ref fa] (wB2 D cy sz (kW K ad E))) (va_Qv (fun (u : (Nat → Nat) × (Nat → va_E)) => (∀ j_ : Nat, j_ ≠ 6000 + cn → j_ ≠ 7000 + cn → j_ ≠ 8000 + cn → j_ ≠ 9000 + cn → j_ ≠ 10000 + cn → u.1 j_ = ad j_) ∧ u.2 (5000 + cn) = .inr (1, [.int fn, .ref fa, .ref (u.1 (6000 + cn)), .ref (u.1 (7000 + cn)), .ref (u.1 (8000 + cn)), .ref (u.1 (9000 + cn)), .ref (u.1 (10000 + cn)), .int (nI 0)]) ∧ u.2 (6000 + cn) = .inl (cy 0, 40, .inl (fun _ => 0)) ∧ u.2 (7000 + cn) = .inl (cy 0, 40, .inl (fun _ => 0)) ∧ u.2 (8000 + cn) = .inl (cy 0, 40, .inl (fun _ => 0)) ∧ u.2 (9000 + cn) = .inl (cy 0, 40, .inl (fun _ => 0)) ∧ u.2 (10000 + cn) = .inl (cy 0, 40, .inl (fun _ => 0)) ∧ (∀ j_ : Nat, j_ ≠ 5000 + cn → j_ ≠ 6000 + cn → j_ ≠ 7000 + cn → j_ ≠ 8000 + cn → j_ ≠ 9000 + cn → j_ ≠ 10000 + cn → u.2 j_ = E j_)) (fun u t => wE D cy (va_A (kW K ad E) sz) (kW (((((K ++ [6000 + cn]) ++ [7000 + cn]) ++ [8000 + cn]) ++ [9000 + cn]) ++ [10000 + cn]) u.1 u.2) t) (va_A (kW K ad E) sz)) 5 200 (va_A (kW K ad E) sz) := by
  refine Met.ofW (cc := cX1_init) (maxL := 3) (ret := none) (by decide) rfl ?_
  intro p e s m args below meth c s₁ B hml hv
  obtain ⟨rfl, ⟨hsz, hP, hK, hD0⟩, hN⟩ := hv
  have hx := B.exec
  have hb := B.bytes
  have hr := B.returns
  have hts := atoms_spec (ws := wsX1_init) B.pre
  have hown : s.vm.findClass RX1 = some m.cls := findClass_of_methodNamed B.named
  have hlocks := B.notSynchronized
  subst hsz
  have hD := hD0.self (sz := s.heap.size)
  generalize hAe : va_A (kW K ad E) s.heap.size = A at hD ⊢
  have hA : ∀ q : Nat, s.heap.size ≤ q → A q := w_A hAe
  have hS : va_S A s.heap s.heap [] := va_S.rf
  have hnd := kW_nd hD
  have hin : meth.name = "<init>" := (name_of_methodNamed B.named B.method).1
  have hl := lv_entry ([.ref ((ad (5000 + cn))), .int (fn), .ref fa]) (n := 3) (Nat.le_of_ble_eq_true rfl)
  rw [lg_entry_eq]
  generalize (lg_sl ([.ref ((ad (5000 + cn))), .int (fn), .ref fa]) ++ List.replicate (3 - (lg_sl ([.ref ((ad (5000 + cn))), .int (fn), .ref fa])).length) Slot.unset).toArray = ls at hl ⊢
  have hl : lv_has ls 3 [(0, .ref ((ad (5000 + cn)))), (1, .int (fn)), (2, .ref fa)] := hl
  refine lv_aload_n hx hb dX1_init_0 rfl (lv_at hl 0 rfl) ?_
  refine W.objInit hx hb hown (hts (.methodLink RX1 3 objectInit) (by decide +kernel)) (hts (.instanceMethod objectInit) (by decide +kernel)) (hts (.code objectInit ⟨#[0xb1]⟩ 1 none) (by decide +kernel)) rfl (by rw [hml]; exact hl.1) rfl dX1_init_1 (Nat.le_of_ble_eq_true rfl) (Nat.le_of_ble_eq_true rfl) ?_
  refine lv_aload_n hx hb dX1_init_4 rfl (lv_at hl 0 rfl) ?_
  refine lv_bipush (v := (nI (40))) hx hb dX1_init_5 (by decide) ?_
  refine gk_newI (6000 + cn) hn0 hx hb (hts (.arrayClass .int) (by decide +kernel)) hK hP hD hS hA (by decide) (Nat.le_of_ble_eq_true rfl) (Nat.le_of_ble_eq_true rfl) dX1_init_7 (fun ad1 Ew1 H had1 hEw1 hP hD hS => ?_)
  have eEw1_51 : Ew1 (6000 + cn) = .inl (cy 0, 40, .inl (fun _ => 0)) := by rw [hEw1]; exact va_up_self _ _ _
  have hnd := kW_nd hD
  obtain ⟨p2, hp2⟩ := kW_pos (List.mem_append_left _ hko)
  refine va_putF (D := D) (ci := 1) (v := .ref ((ad1 (6000 + cn)))) (ty := .array .int) (C := RX1) (T := TX1) (N := 8) hx hb hts (by decide +kernel) tyX1 tyX1_ok nmX1 hown hK hP hD hS p2 (kW_getA hp2 (show Ew1 (5000 + cn) = .inr (1, [.int (nI (0)), .null, .null, .null, .null, .null, .null, .int (nI (0))]) by rw [hEw1, va_up_ne _ _ (by omega)]; exact hEo) (had1 (5000 + cn) (by omega))) rfl 2 (by decide) (hts (.fieldLink RX1 9 "CaskYard$Cask" "boltOf" "[I") (by decide +kernel)) (fun _ h9 => h9) rfl hin rfl (by decide +kernel) rfl rfl (Nat.le_of_ble_eq_true rfl) dX1_init_9 (fun H locs hP hD hS => ?_)
  rw [show ([.int (nI (0)), .null, .null, .null, .null, .null, .null, .int (nI (0))] : List Value).set 2 (.ref ((ad1 (6000 + cn)))) = [.int (nI (0)), .null, .ref ((ad1 (6000 + cn))), .null, .null, .null, .null, .int (nI (0))] from rfl] at hP hD
  rw [kW_setA hnd hp2 (had1 (5000 + cn) (by omega))] at hP hD
  obtain ⟨Ew3, hEw3⟩ : ∃ G, G = va_up Ew1 (5000 + cn) (.inr (1, [.int (nI (0)), .null, .ref ((ad1 (6000 + cn))), .null, .null, .null, .null, .int (nI (0))])) := ⟨_, rfl⟩
  have eEw3_52 : Ew3 (5000 + cn) = .inr (1, [.int (nI (0)), .null, .ref ((ad1 (6000 + cn))), .null, .null, .null, .null, .int (nI (0))]) := by rw [hEw3]; exact va_up_self _ _ _
  have eEw3_51 : Ew3 (6000 + cn) = .inl (cy 0, 40, .inl (fun _ => 0)) := by rw [hEw3, va_up_ne _ _ (by omega)]; exact eEw1_51
  rw [← hEw3] at hP hD
  refine lv_aload_n hx hb dX1_init_12 rfl (lv_at hl 0 rfl) ?_
  refine lv_bipush (v := (nI (40))) hx hb dX1_init_13 (by decide) ?_
  refine gk_newI (7000 + cn) (nin_app hn1 (by omega)) hx hb (hts (.arrayClass .int) (by decide +kernel)) hK hP hD hS hA (by decide) (Nat.le_of_ble_eq_true rfl) (Nat.le_of_ble_eq_true rfl) dX1_init_15 (fun ad4 Ew4 H had4 hEw4 hP hD hS => ?_)
  have eEw4_53 : Ew4 (7000 + cn) = .inl (cy 0, 40, .inl (fun _ => 0)) := by rw [hEw4]; exact va_up_self _ _ _
  have eEw4_51 : Ew4 (6000 + cn) = .inl (cy 0, 40, .inl (fun _ => 0)) := by rw [hEw4, va_up_ne _ _ (by omega)]; exact eEw3_51
  have eEw4_52 : Ew4 (5000 + cn) = .inr (1, [.int (nI (0)), .null, .ref ((ad1 (6000 + cn))), .null, .null, .null, .null, .int (nI (0))]) := by rw [hEw4, va_up_ne _ _ (by omega)]; exact eEw3_52
  have hnd := kW_nd hD
  obtain ⟨p5, hp5⟩ := kW_pos (List.mem_append_left _ (List.mem_append_left _ hko))
  refine va_putF (D := D) (ci := 1) (v := .ref ((ad4 (7000 + cn)))) (ty := .array .int) (C := RX1) (T := TX1) (N := 8) hx hb hts (by decide +kernel) tyX1 tyX1_ok nmX1 hown hK hP hD hS p5 (kW_getA hp5 eEw4_52 ((had4 (5000 + cn) (by omega)).trans (had1 (5000 + cn) (by omega)))) rfl 3 (by decide) (hts (.fieldLink RX1 15 "CaskYard$Cask" "past" "[I") (by decide +kernel)) (fun _ h9 => h9) rfl hin rfl (by decide +kernel) rfl rfl (Nat.le_of_ble_eq_true rfl) dX1_init_17 (fun H locs hP hD hS => ?_)
  rw [show ([.int (nI (0)), .null, .ref ((ad1 (6000 + cn))), .null, .null, .null, .null, .int (nI (0))] : List Value).set 3 (.ref ((ad4 (7000 + cn)))) = [.int (nI (0)), .null, .ref ((ad1 (6000 + cn))), .ref ((ad4 (7000 + cn))), .null, .null, .null, .int (nI (0))] from rfl] at hP hD
  rw [kW_setA hnd hp5 ((had4 (5000 + cn) (by omega)).trans (had1 (5000 + cn) (by omega)))] at hP hD
  obtain ⟨Ew6, hEw6⟩ : ∃ G, G = va_up Ew4 (5000 + cn) (.inr (1, [.int (nI (0)), .null, .ref ((ad1 (6000 + cn))), .ref ((ad4 (7000 + cn))), .null, .null, .null, .int (nI (0))])) := ⟨_, rfl⟩
  have eEw6_52 : Ew6 (5000 + cn) = .inr (1, [.int (nI (0)), .null, .ref ((ad1 (6000 + cn))), .ref ((ad4 (7000 + cn))), .null, .null, .null, .int (nI (0))]) := by rw [hEw6]; exact va_up_self _ _ _
  have eEw6_51 : Ew6 (6000 + cn) = .inl (cy 0, 40, .inl (fun _ => 0)) := by rw [hEw6, va_up_ne _ _ (by omega)]; exact eEw4_51
  have eEw6_53 : Ew6 (7000 + cn) = .inl (cy 0, 40, .inl (fun _ => 0)) := by rw [hEw6, va_up_ne _ _ (by omega)]; exact eEw4_53
  rw [← hEw6] at hP hD
  refine lv_aload_n hx hb dX1_init_20 rfl (lv_at hl 0 rfl) ?_
  refine lv_bipush (v := (nI (40))) hx hb dX1_init_21 (by decide) ?_
  refine gk_newI (8000 + cn) (nin_app (nin_app hn2 (by omega)) (by omega)) hx hb (hts (.arrayClass .int) (by decide +kernel)) hK hP hD hS hA (by decide) (Nat.le_of_ble_eq_true rfl) (Nat.le_of_ble_eq_true rfl) dX1_init_23 (fun ad7 Ew7 H had7 hEw7 hP hD hS => ?_)
  have eEw7_54 : Ew7 (8000 + cn) = .inl (cy 0, 40, .inl (fun _ => 0)) := by rw [hEw7]; exact va_up_self _ _ _
  have eEw7_51 : Ew7 (6000 + cn) = .inl (cy 0, 40, .inl (fun _ => 0)) := by rw [hEw7, va_up_ne _ _ (by omega)]; exact eEw6_51
  have eEw7_52 : Ew7 (5000 + cn) = .inr (1, [.int (nI (0)), .null, .ref ((ad1 (6000 + cn))), .ref ((ad4 (7000 + cn))), .null, .null, .null, .int (nI (0))]) := by rw [hEw7, va_up_ne _ _ (by omega)]; exact eEw6_52
  have eEw7_53 : Ew7 (7000 + cn) = .inl (cy 0, 40, .inl (fun _ => 0)) := by rw [hEw7, va_up_ne _ _ (by omega)]; exact eEw6_53
  have hnd := kW_nd hD
  obtain ⟨p8, hp8⟩ := kW_pos (List.mem_append_left _ (List.mem_append_left _ (List.mem_append_left _ hko)))
  refine va_putF (D := D) (ci := 1) (v := .ref ((ad7 (8000 + cn)))) (ty := .array .int) (C := RX1) (T := TX1) (N := 8) hx hb hts (by decide +kernel) tyX1 tyX1_ok nmX1 hown hK hP hD hS p8 (kW_getA hp8 eEw7_52 ((had7 (5000 + cn) (by omega)).trans ((had4 (5000 + cn) (by omega)).trans (had1 (5000 + cn) (by omega))))) rfl 4 (by decide) (hts (.fieldLink RX1 18 "CaskYard$Cask" "entryDay" "[I") (by decide +kernel)) (fun _ h9 => h9) rfl hin rfl (by decide +kernel) rfl rfl (Nat.le_of_ble_eq_true rfl) dX1_init_25 (fun H locs hP hD hS => ?_)
  rw [show ([.int (nI (0)), .null, .ref ((ad1 (6000 + cn))), .ref ((ad4 (7000 + cn))), .null, .null, .null, .int (nI (0))] : List Value).set 4 (.ref ((ad7 (8000 + cn)))) = [.int (nI (0)), .null, .ref ((ad1 (6000 + cn))), .ref ((ad4 (7000 + cn))), .ref ((ad7 (8000 + cn))), .null, .null, .int (nI (0))] from rfl] at hP hD
  rw [kW_setA hnd hp8 ((had7 (5000 + cn) (by omega)).trans ((had4 (5000 + cn) (by omega)).trans (had1 (5000 + cn) (by omega))))] at hP hD
  obtain ⟨Ew9, hEw9⟩ : ∃ G, G = va_up Ew7 (5000 + cn) (.inr (1, [.int (nI (0)), .null, .ref ((ad1 (6000 + cn))), .ref ((ad4 (7000 + cn))), .ref ((ad7 (8000 + cn))), .null, .null, .int (nI (0))])) := ⟨_, rfl⟩
  have eEw9_52 : Ew9 (5000 + cn) = .inr (1, [.int (nI (0)), .null, .ref ((ad1 (6000 + cn))), .ref ((ad4 (7000 + cn))), .ref ((ad7 (8000 + cn))), .null, .null, .int (nI (0))]) := by rw [hEw9]; exact va_up_self _ _ _
  have eEw9_51 : Ew9 (6000 + cn) = .inl (cy 0, 40, .inl (fun _ => 0)) := by rw [hEw9, va_up_ne _ _ (by omega)]; exact eEw7_51
  have eEw9_53 : Ew9 (7000 + cn) = .inl (cy 0, 40, .inl (fun _ => 0)) := by rw [hEw9, va_up_ne _ _ (by omega)]; exact eEw7_53
  have eEw9_54 : Ew9 (8000 + cn) = .inl (cy 0, 40, .inl (fun _ => 0)) := by rw [hEw9, va_up_ne _ _ (by omega)]; exact eEw7_54
  rw [← hEw9] at hP hD
  refine lv_aload_n hx hb dX1_init_28 rfl (lv_at hl 0 rfl) ?_
  refine lv_bipush (v := (nI (40))) hx hb dX1_init_29 (by decide) ?_
  refine gk_newI (9000 + cn) (nin_app (nin_app (nin_app hn3 (by omega)) (by omega)) (by omega)) hx hb (hts (.arrayClass .int) (by decide +kernel)) hK hP hD hS hA (by decide) (Nat.le_of_ble_eq_true rfl) (Nat.le_of_ble_eq_true rfl) dX1_init_31 (fun ad10 Ew10 H had10 hEw10 hP hD hS => ?_)
  have eEw10_55 : Ew10 (9000 + cn) = .inl (cy 0, 40, .inl (fun _ => 0)) := by rw [hEw10]; exact va_up_self _ _ _
  have eEw10_51 : Ew10 (6000 + cn) = .inl (cy 0, 40, .inl (fun _ => 0)) := by rw [hEw10, va_up_ne _ _ (by omega)]; exact eEw9_51
  have eEw10_52 : Ew10 (5000 + cn) = .inr (1, [.int (nI (0)), .null, .ref ((ad1 (6000 + cn))), .ref ((ad4 (7000 + cn))), .ref ((ad7 (8000 + cn))), .null, .null, .int (nI (0))]) := by rw [hEw10, va_up_ne _ _ (by omega)]; exact eEw9_52
  have eEw10_53 : Ew10 (7000 + cn) = .inl (cy 0, 40, .inl (fun _ => 0)) := by rw [hEw10, va_up_ne _ _ (by omega)]; exact eEw9_53
  have eEw10_54 : Ew10 (8000 + cn) = .inl (cy 0, 40, .inl (fun _ => 0)) := by rw [hEw10, va_up_ne _ _ (by omega)]; exact eEw9_54
  have hnd := kW_nd hD
  obtain ⟨p11, hp11⟩ := kW_pos (List.mem_append_left _ (List.mem_append_left _ (List.mem_append_left _ (List.mem_append_left _ hko))))
  refine va_putF (D := D) (ci := 1) (v := .ref ((ad10 (9000 + cn)))) (ty := .array .int) (C := RX1) (T := TX1) (N := 8) hx hb hts (by decide +kernel) tyX1 tyX1_ok nmX1 hown hK hP hD hS p11 (kW_getA hp11 eEw10_52 ((had10 (5000 + cn) (by omega)).trans ((had7 (5000 + cn) (by omega)).trans ((had4 (5000 + cn) (by omega)).trans (had1 (5000 + cn) (by omega)))))) rfl 5 (by decide) (hts (.fieldLink RX1 21 "CaskYard$Cask" "entryTold" "[I") (by decide +kernel)) (fun _ h9 => h9) rfl hin rfl (by decide +kernel) rfl rfl (Nat.le_of_ble_eq_true rfl) dX1_init_33 (fun H locs hP hD hS => ?_)
  rw [show ([.int (nI (0)), .null, .ref ((ad1 (6000 + cn))), .ref ((ad4 (7000 + cn))), .ref ((ad7 (8000 + cn))), .null, .null, .int (nI (0))] : List Value).set 5 (.ref ((ad10 (9000 + cn)))) = [.int (nI (0)), .null, .ref ((ad1 (6000 + cn))), .ref ((ad4 (7000 + cn))), .ref ((ad7 (8000 + cn))), .ref ((ad10 (9000 + cn))), .null, .int (nI (0))] from rfl] at hP hD
  rw [kW_setA hnd hp11 ((had10 (5000 + cn) (by omega)).trans ((had7 (5000 + cn) (by omega)).trans ((had4 (5000 + cn) (by omega)).trans (had1 (5000 + cn) (by omega)))))] at hP hD
  obtain ⟨Ew12, hEw12⟩ : ∃ G, G = va_up Ew10 (5000 + cn) (.inr (1, [.int (nI (0)), .null, .ref ((ad1 (6000 + cn))), .ref ((ad4 (7000 + cn))), .ref ((ad7 (8000 + cn))), .ref ((ad10 (9000 + cn))), .null, .int (nI (0))])) := ⟨_, rfl⟩
  have eEw12_52 : Ew12 (5000 + cn) = .inr (1, [.int (nI (0)), .null, .ref ((ad1 (6000 + cn))), .ref ((ad4 (7000 + cn))), .ref ((ad7 (8000 + cn))), .ref ((ad10 (9000 + cn))), .null, .int (nI (0))]) := by rw [hEw12]; exact va_up_self _ _ _
  have eEw12_51 : Ew12 (6000 + cn) = .inl (cy 0, 40, .inl (fun _ => 0)) := by rw [hEw12, va_up_ne _ _ (by omega)]; exact eEw10_51
  have eEw12_53 : Ew12 (7000 + cn) = .inl (cy 0, 40, .inl (fun _ => 0)) := by rw [hEw12, va_up_ne _ _ (by omega)]; exact eEw10_53
  have eEw12_54 : Ew12 (8000 + cn) = .inl (cy 0, 40, .inl (fun _ => 0)) := by rw [hEw12, va_up_ne _ _ (by omega)]; exact eEw10_54
  have eEw12_55 : Ew12 (9000 + cn) = .inl (cy 0, 40, .inl (fun _ => 0)) := by rw [hEw12, va_up_ne _ _ (by omega)]; exact eEw10_55
  rw [← hEw12] at hP hD
  refine lv_aload_n hx hb dX1_init_36 rfl (lv_at hl 0 rfl) ?_
  refine lv_bipush (v := (nI (40))) hx hb dX1_init_37 (by decide) ?_
  refine gk_newI (10000 + cn) (nin_app (nin_app (nin_app (nin_app hn4 (by omega)) (by omega)) (by omega)) (by omega)) hx hb (hts (.arrayClass .int) (by decide +kernel)) hK hP hD hS hA (by decide) (Nat.le_of_ble_eq_true rfl) (Nat.le_of_ble_eq_true rfl) dX1_init_39 (fun ad13 Ew13 H had13 hEw13 hP hD hS => ?_)
  have eEw13_56 : Ew13 (10000 + cn) = .inl (cy 0, 40, .inl (fun _ => 0)) := by rw [hEw13]; exact va_up_self _ _ _
  have eEw13_51 : Ew13 (6000 + cn) = .inl (cy 0, 40, .inl (fun _ => 0)) := by rw [hEw13, va_up_ne _ _ (by omega)]; exact eEw12_51
  have eEw13_52 : Ew13 (5000 + cn) = .inr (1, [.int (nI (0)), .null, .ref ((ad1 (6000 + cn))), .ref ((ad4 (7000 + cn))), .ref ((ad7 (8000 + cn))), .ref ((ad10 (9000 + cn))), .null, .int (nI (0))]) := by rw [hEw13, va_up_ne _ _ (by omega)]; exact eEw12_52
  have eEw13_53 : Ew13 (7000 + cn) = .inl (cy 0, 40, .inl (fun _ => 0)) := by rw [hEw13, va_up_ne _ _ (by omega)]; exact eEw12_53
  have eEw13_54 : Ew13 (8000 + cn) = .inl (cy 0, 40, .inl (fun _ => 0)) := by rw [hEw13, va_up_ne _ _ (by omega)]; exact eEw12_54
  have eEw13_55 : Ew13 (9000 + cn) = .inl (cy 0, 40, .inl (fun _ => 0)) := by rw [hEw13, va_up_ne _ _ (by omega)]; exact eEw12_55
  have hnd := kW_nd hD
  obtain ⟨p14, hp14⟩ := kW_pos (List.mem_append_left _ (List.mem_append_left _ (List.mem_append_left _ (List.mem_append_left _ (List.mem_append_left _ hko)))))
  refine va_putF (D := D) (ci := 1) (v := .ref ((ad13 (10000 + cn)))) (ty := .array .int) (C := RX1) (T := TX1) (N := 8) hx hb hts (by decide +kernel) tyX1 tyX1_ok nmX1 hown hK hP hD hS p14 (kW_getA hp14 eEw13_52 ((had13 (5000 + cn) (by omega)).trans ((had10 (5000 + cn) (by omega)).trans ((had7 (5000 + cn) (by omega)).trans ((had4 (5000 + cn) (by omega)).trans (had1 (5000 + cn) (by omega))))))) rfl 6 (by decide) (hts (.fieldLink RX1 24 "CaskYard$Cask" "entryKind" "[I") (by decide +kernel)) (fun _ h9 => h9) rfl hin rfl (by decide +kernel) rfl rfl (Nat.le_of_ble_eq_true rfl) dX1_init_41 (fun H locs hP hD hS => ?_)
  rw [show ([.int (nI (0)), .null, .ref ((ad1 (6000 + cn))), .ref ((ad4 (7000 + cn))), .ref ((ad7 (8000 + cn))), .ref ((ad10 (9000 + cn))), .null, .int (nI (0))] : List Value).set 6 (.ref ((ad13 (10000 + cn)))) = [.int (nI (0)), .null, .ref ((ad1 (6000 + cn))), .ref ((ad4 (7000 + cn))), .ref ((ad7 (8000 + cn))), .ref ((ad10 (9000 + cn))), .ref ((ad13 (10000 + cn))), .int (nI (0))] from rfl] at hP hD
  rw [kW_setA hnd hp14 ((had13 (5000 + cn) (by omega)).trans ((had10 (5000 + cn) (by omega)).trans ((had7 (5000 + cn) (by omega)).trans ((had4 (5000 + cn) (by omega)).trans (had1 (5000 + cn) (by omega))))))] at hP hD
  obtain ⟨Ew15, hEw15⟩ : ∃ G, G = va_up Ew13 (5000 + cn) (.inr (1, [.int (nI (0)), .null, .ref ((ad1 (6000 + cn))), .ref ((ad4 (7000 + cn))), .ref ((ad7 (8000 + cn))), .ref ((ad10 (9000 + cn))), .ref ((ad13 (10000 + cn))), .int (nI (0))])) := ⟨_, rfl⟩
  have eEw15_52 : Ew15 (5000 + cn) = .inr (1, [.int (nI (0)), .null, .ref ((ad1 (6000 + cn))), .ref ((ad4 (7000 + cn))), .ref ((ad7 (8000 + cn))), .ref ((ad10 (9000 + cn))), .ref ((ad13 (10000 + cn))), .int (nI (0))]) := by rw [hEw15]; exact va_up_self _ _ _
  have eEw15_51 : Ew15 (6000 + cn) = .inl (cy 0, 40, .inl (fun _ => 0)) := by rw [hEw15, va_up_ne _ _ (by omega)]; exact eEw13_51
  have eEw15_53 : Ew15 (7000 + cn) = .inl (cy 0, 40, .inl (fun _ => 0)) := by rw [hEw15, va_up_ne _ _ (by omega)]; exact eEw13_53
  have eEw15_54 : Ew15 (8000 + cn) = .inl (cy 0, 40, .inl (fun _ => 0)) := by rw [hEw15, va_up_ne _ _ (by omega)]; exact eEw13_54
  have eEw15_55 : Ew15 (9000 + cn) = .inl (cy 0, 40, .inl (fun _ => 0)) := by rw [hEw15, va_up_ne _ _ (by omega)]; exact eEw13_55
  have eEw15_56 : Ew15 (10000 + cn) = .inl (cy 0, 40, .inl (fun _ => 0)) := by rw [hEw15, va_up_ne _ _ (by omega)]; exact eEw13_56
  rw [← hEw15] at hP hD
  refine lv_aload_n hx hb dX1_init_44 rfl (lv_at hl 0 rfl) ?_
  refine lv_iload_n hx hb dX1_init_45 rfl (lv_at hl 1 rfl) ?_
  obtain ⟨p16, hp16⟩ := kW_pos (List.mem_append_left _ (List.mem_append_left _ (List.mem_append_left _ (List.mem_append_left _ (List.mem_append_left _ hko)))))
  refine va_putF (D := D) (ci := 1) (v := .int (fn)) (ty := .int) (C := RX1) (T := TX1) (N := 8) hx hb hts (by decide +kernel) tyX1 tyX1_ok nmX1 hown hK hP hD hS p16 (kW_getA hp16 eEw15_52 ((had13 (5000 + cn) (by omega)).trans ((had10 (5000 + cn) (by omega)).trans ((had7 (5000 + cn) (by omega)).trans ((had4 (5000 + cn) (by omega)).trans (had1 (5000 + cn) (by omega))))))) rfl 0 (by decide) (hts (.fieldLink RX1 27 "CaskYard$Cask" "formNumber" "I") (by decide +kernel)) (fun _ h9 => h9) rfl hin rfl (by decide +kernel) rfl rfl (Nat.le_of_ble_eq_true rfl) dX1_init_46 (fun H locs hP hD hS => ?_)
  rw [show ([.int (nI (0)), .null, .ref ((ad1 (6000 + cn))), .ref ((ad4 (7000 + cn))), .ref ((ad7 (8000 + cn))), .ref ((ad10 (9000 + cn))), .ref ((ad13 (10000 + cn))), .int (nI (0))] : List Value).set 0 (.int (fn)) = [.int (fn), .null, .ref ((ad1 (6000 + cn))), .ref ((ad4 (7000 + cn))), .ref ((ad7 (8000 + cn))), .ref ((ad10 (9000 + cn))), .ref ((ad13 (10000 + cn))), .int (nI (0))] from rfl] at hP hD
  rw [kW_setA hnd hp16 ((had13 (5000 + cn) (by omega)).trans ((had10 (5000 + cn) (by omega)).trans ((had7 (5000 + cn) (by omega)).trans ((had4 (5000 + cn) (by omega)).trans (had1 (5000 + cn) (by omega))))))] at hP hD
  obtain ⟨Ew17, hEw17⟩ : ∃ G, G = va_up Ew15 (5000 + cn) (.inr (1, [.int (fn), .null, .ref ((ad1 (6000 + cn))), .ref ((ad4 (7000 + cn))), .ref ((ad7 (8000 + cn))), .ref ((ad10 (9000 + cn))), .ref ((ad13 (10000 + cn))), .int (nI (0))])) := ⟨_, rfl⟩
  have eEw17_52 : Ew17 (5000 + cn) = .inr (1, [.int (fn), .null, .ref ((ad1 (6000 + cn))), .ref ((ad4 (7000 + cn))), .ref ((ad7 (8000 + cn))), .ref ((ad10 (9000 + cn))), .ref ((ad13 (10000 + cn))), .int (nI (0))]) := by rw [hEw17]; exact va_up_self _ _ _
  have eEw17_51 : Ew17 (6000 + cn) = .inl (cy 0, 40, .inl (fun _ => 0)) := by rw [hEw17, va_up_ne _ _ (by omega)]; exact eEw15_51
  have eEw17_53 : Ew17 (7000 + cn) = .inl (cy 0, 40, .inl (fun _ => 0)) := by rw [hEw17, va_up_ne _ _ (by omega)]; exact eEw15_53
  have eEw17_54 : Ew17 (8000 + cn) = .inl (cy 0, 40, .inl (fun _ => 0)) := by rw [hEw17, va_up_ne _ _ (by omega)]; exact eEw15_54
  have eEw17_55 : Ew17 (9000 + cn) = .inl (cy 0, 40, .inl (fun _ => 0)) := by rw [hEw17, va_up_ne _ _ (by omega)]; exact eEw15_55
  have eEw17_56 : Ew17 (10000 + cn) = .inl (cy 0, 40, .inl (fun _ => 0)) := by rw [hEw17, va_up_ne _ _ (by omega)]; exact eEw15_56
  rw [← hEw17] at hP hD
  refine lv_aload_n hx hb dX1_init_49 rfl (lv_at hl 0 rfl) ?_
  refine lv_aload_n hx hb dX1_init_50 rfl (lv_at hl 2 rfl) ?_
  obtain ⟨p18, hp18⟩ := kW_pos (List.mem_append_left _ (List.mem_append_left _ (List.mem_append_left _ (List.mem_append_left _ (List.mem_append_left _ hko)))))
  refine va_putF (D := D) (ci := 1) (v := .ref fa) (ty := .object "CaskYard$Form") (C := RX1) (T := TX1) (N := 8) hx hb hts (by decide +kernel) tyX1 tyX1_ok nmX1 hown hK hP hD hS p18 (kW_getA hp18 eEw17_52 ((had13 (5000 + cn) (by omega)).trans ((had10 (5000 + cn) (by omega)).trans ((had7 (5000 + cn) (by omega)).trans ((had4 (5000 + cn) (by omega)).trans (had1 (5000 + cn) (by omega))))))) rfl 1 (by decide) (hts (.fieldLink RX1 31 "CaskYard$Cask" "shape" "LCaskYard$Form;") (by decide +kernel)) (fun _ h9 => h9) rfl hin rfl (by decide +kernel) rfl rfl (Nat.le_of_ble_eq_true rfl) dX1_init_51 (fun H locs hP hD hS => ?_)
  rw [show ([.int (fn), .null, .ref ((ad1 (6000 + cn))), .ref ((ad4 (7000 + cn))), .ref ((ad7 (8000 + cn))), .ref ((ad10 (9000 + cn))), .ref ((ad13 (10000 + cn))), .int (nI (0))] : List Value).set 1 (.ref fa) = [.int (fn), .ref fa, .ref ((ad1 (6000 + cn))), .ref ((ad4 (7000 + cn))), .ref ((ad7 (8000 + cn))), .ref ((ad10 (9000 + cn))), .ref ((ad13 (10000 + cn))), .int (nI (0))] from rfl] at hP hD
  rw [kW_setA hnd hp18 ((had13 (5000 + cn) (by omega)).trans ((had10 (5000 + cn) (by omega)).trans ((had7 (5000 + cn) (by omega)).trans ((had4 (5000 + cn) (by omega)).trans (had1 (5000 + cn) (by omega))))))] at hP hD
  obtain ⟨Ew19, hEw19⟩ : ∃ G, G = va_up Ew17 (5000 + cn) (.inr (1, [.int (fn), .ref fa, .ref ((ad1 (6000 + cn))), .ref ((ad4 (7000 + cn))), .ref ((ad7 (8000 + cn))), .ref ((ad10 (9000 + cn))), .ref ((ad13 (10000 + cn))), .int (nI (0))])) := ⟨_, rfl⟩
  have eEw19_52 : Ew19 (5000 + cn) = .inr (1, [.int (fn), .ref fa, .ref ((ad1 (6000 + cn))), .ref ((ad4 (7000 + cn))), .ref ((ad7 (8000 + cn))), .ref ((ad10 (9000 + cn))), .ref ((ad13 (10000 + cn))), .int (nI (0))]) := by rw [hEw19]; exact va_up_self _ _ _
  have eEw19_51 : Ew19 (6000 + cn) = .inl (cy 0, 40, .inl (fun _ => 0)) := by rw [hEw19, va_up_ne _ _ (by omega)]; exact eEw17_51
  have eEw19_53 : Ew19 (7000 + cn) = .inl (cy 0, 40, .inl (fun _ => 0)) := by rw [hEw19, va_up_ne _ _ (by omega)]; exact eEw17_53
  have eEw19_54 : Ew19 (8000 + cn) = .inl (cy 0, 40, .inl (fun _ => 0)) := by rw [hEw19, va_up_ne _ _ (by omega)]; exact eEw17_54
  have eEw19_55 : Ew19 (9000 + cn) = .inl (cy 0, 40, .inl (fun _ => 0)) := by rw [hEw19, va_up_ne _ _ (by omega)]; exact eEw17_55
  have eEw19_56 : Ew19 (10000 + cn) = .inl (cy 0, 40, .inl (fun _ => 0)) := by rw [hEw19, va_up_ne _ _ (by omega)]; exact eEw17_56
  rw [← hEw19] at hP hD
  exact W.vret hx hb hr (fun t ht hW => ⟨⟨(ad13, Ew19), rfl, ⟨(fun j_ h0_ h1_ h2_ h3_ h4_ => by show ad13 j_ = ad j_; rw [had13 j_ h4_, had10 j_ h3_, had7 j_ h2_, had4 j_ h1_, had1 j_ h0_]), (by show Ew19 (5000 + cn) = .inr (1, [.int fn, .ref fa, .ref (ad13 (6000 + cn)), .ref (ad13 (7000 + cn)), .ref (ad13 (8000 + cn)), .ref (ad13 (9000 + cn)), .ref (ad13 (10000 + cn)), .int (nI 0)]); rw [had13 (6000 + cn) (by omega), had10 (6000 + cn) (by omega), had7 (6000 + cn) (by omega), had4 (6000 + cn) (by omega), had13 (7000 + cn) (by omega), had10 (7000 + cn) (by omega), had7 (7000 + cn) (by omega), had13 (8000 + cn) (by omega), had10 (8000 + cn) (by omega), had13 (9000 + cn) (by omega)]; exact eEw19_52), eEw19_51, eEw19_53, eEw19_54, eEw19_55, eEw19_56, (fun j_ ho_ h0_ h1_ h2_ h3_ h4_ => by show Ew19 j_ = E j_; rw [hEw19, va_up_ne _ _ ho_, hEw17, va_up_ne _ _ ho_, hEw15, va_up_ne _ _ ho_, hEw13, va_up_ne _ _ h4_, hEw12, va_up_ne _ _ ho_, hEw10, va_up_ne _ _ h3_, hEw9, va_up_ne _ _ ho_, hEw7, va_up_ne _ _ h2_, hEw6, va_up_ne _ _ ho_, hEw4, va_up_ne _ _ h1_, hEw3, va_up_ne _ _ ho_, hEw1, va_up_ne _ _ h0_])⟩, by rw [ht]; exact hP, va_K.moved hW.alike hK, hD⟩, hS.F ht⟩) hS.2.2 dX1_init_54
