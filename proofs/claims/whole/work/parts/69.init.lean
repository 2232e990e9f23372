set_option maxHeartbeats 4000000 in
set_option maxRecDepth 100000 in
theorem c_X3_init (l : Launch) (D : va_G) (cy : Nat → ClassId) (sz : Nat) (K : List Nat) (ad : Nat → Nat) (E : Nat → va_E) (hko : 6 ∈ K) (hn7 : 7 ∉ K) (hn8 : 8 ∉ K) (hn9 : 9 ∉ K) (hn10 : 10 ∉ K) (hn11 : 11 ∉ K) (hn12 : 12 ∉ K) (hn13 : 13 ∉ K) (hn14 : 14 ∉ K) (hn15 : 15 ∉ K) (hn16 : 16 ∉ K) (hn17 : 17 ∉ K) (hEo : E 6 = .inr (3, [.null, .null, .null, .null, .null, .null, .null, .null, .null, .null, .null, .int (nI (0)), .int (nI (0)), .int (nI (0))])) : Met l yX3_init wsX3_init ({ frames := 1, cells := 11, slots := 328, locals := 12 } : Room) (va_Pc [.ref ((ad (6)))] (wB3 D cy sz (kW K ad E))) (va_Qv (fun (u : (Nat → Nat) × (Nat → va_E)) => (∀ j_ : Nat, j_ ≠ 7 → j_ ≠ 8 → j_ ≠ 9 → j_ ≠ 10 → j_ ≠ 11 → j_ ≠ 12 → j_ ≠ 13 → j_ ≠ 14 → j_ ≠ 15 → j_ ≠ 16 → j_ ≠ 17 → u.1 j_ = ad j_) ∧ u.2 (6) = .inr (3, [.ref (u.1 (7)), .ref (u.1 (8)), .ref (u.1 (9)), .ref (u.1 (10)), .ref (u.1 (11)), .ref (u.1 (12)), .ref (u.1 (13)), .ref (u.1 (14)), .ref (u.1 (15)), .ref (u.1 (16)), .ref (u.1 (17)), .int (nI 0), .int (nI 0), .int (nI 0)]) ∧ u.2 (7) = .inl (cy 4, 8, .inr (.inr (.inr (.inr (fun _ => none))))) ∧ u.2 (8) = .inl (cy 0, 32, .inl (fun _ => 0)) ∧ u.2 (9) = .inl (cy 0, 32, .inl (fun _ => 0)) ∧ u.2 (10) = .inl (cy 0, 32, .inl (fun _ => 0)) ∧ u.2 (11) = .inl (cy 0, 32, .inl (fun _ => 0)) ∧ u.2 (12) = .inl (cy 0, 32, .inl (fun _ => 0)) ∧ u.2 (13) = .inl (cy 0, 32, .inl (fun _ => 0)) ∧ u.2 (14) = .inl (cy 0, 32, .inl (fun _ => 0)) ∧ u.2 (15) = .inl (cy 1, 32, .inl (fun _ => 0)) ∧ u.2 (16) = .inl (cy 0, 32, .inl (fun _ => 0)) ∧ u.2 (17) = .inl (cy 0, 32, .inl (fun _ => 0)) ∧ (∀ j_ : Nat, j_ ≠ 6 → j_ ≠ 7 → j_ ≠ 8 → j_ ≠ 9 → j_ ≠ 10 → j_ ≠ 11 → j_ ≠ 12 → j_ ≠ 13 → j_ ≠ 14 → j_ ≠ 15 → j_ ≠ 16 → j_ ≠ 17 → u.2 j_ = E j_)) (fun u t => wE D cy (va_A (kW K ad E) sz) (kW (((((((((((K ++ [7]) ++ [8]) ++ [9]) ++ [10]) ++ [11]) ++ [12]) ++ [13]) ++ [14]) ++ [15]) ++ [16]) ++ [17]) u.1 u.2) t) (va_A (kW K ad E) sz)) 11 328 (va_A (kW K ad E) sz) := by
  refine Met.ofW (cc := cX3_init) (maxL := 1) (ret := none) (by decide) rfl ?_
  intro p e s m args below meth c s₁ B hml hv
  obtain ⟨rfl, ⟨⟨hsz, hP, hK, hD0⟩, hN⟩, hAO⟩ := hv
  have hx := B.exec
  have hb := B.bytes
  have hr := B.returns
  have hts := atoms_spec (ws := wsX3_init) B.pre
  have hown : s.vm.findClass RX3 = some m.cls := findClass_of_methodNamed B.named
  have hlocks := B.notSynchronized
  subst hsz
  have hD := hD0.self (sz := s.heap.size)
  generalize hAe : va_A (kW K ad E) s.heap.size = A at hD ⊢
  have hA : ∀ q : Nat, s.heap.size ≤ q → A q := w_A hAe
  have hS : va_S A s.heap s.heap [] := va_S.rf
  have hnd := kW_nd hD
  have hin : meth.name = "<init>" := (name_of_methodNamed B.named B.method).1
  have hl := lv_entry ([.ref ((ad (6)))]) (n := 1) (Nat.le_of_ble_eq_true rfl)
  rw [lg_entry_eq]
  generalize (lg_sl ([.ref ((ad (6)))]) ++ List.replicate (1 - (lg_sl ([.ref ((ad (6)))])).length) Slot.unset).toArray = ls at hl ⊢
  have hl : lv_has ls 1 [(0, .ref ((ad (6))))] := hl
  refine lv_aload_n hx hb dX3_init_0 rfl (lv_at hl 0 rfl) ?_
  refine W.objInit hx hb hown (hts (.methodLink RX3 3 objectInit) (by decide +kernel)) (hts (.instanceMethod objectInit) (by decide +kernel)) (hts (.code objectInit ⟨#[0xb1]⟩ 1 none) (by decide +kernel)) rfl (by rw [hml]; exact hl.1) rfl dX3_init_1 (Nat.le_of_ble_eq_true rfl) (Nat.le_of_ble_eq_true rfl) ?_
  refine lv_aload_n hx hb dX3_init_4 rfl (lv_at hl 0 rfl) ?_
  refine lv_bipush (v := (nI (8))) hx hb dX3_init_5 (by decide) ?_
  refine gk_newQ (C := "CaskYard$Bolt") (t0 := 4) (7) hn7 hx hb hown (hts (.classLink RX3 9 "CaskYard$Bolt") (by decide +kernel)) hAO.2.1 rfl hK hP hD hS hA (by decide) (Nat.le_of_ble_eq_true rfl) (Nat.le_of_ble_eq_true rfl) dX3_init_7 (fun ad1 Ew1 H had1 hEw1 hP hD hS => ?_)
  have eEw1_22 : Ew1 (7) = .inl (cy 4, 8, .inr (.inr (.inr (.inr (fun _ => none))))) := by rw [hEw1]; exact va_up_self _ _ _
  have hnd := kW_nd hD
  obtain ⟨p2, hp2⟩ := kW_pos (List.mem_append_left _ hko)
  refine va_putF (D := D) (ci := 3) (v := .ref ((ad1 (7)))) (ty := .array (.object "CaskYard$Bolt")) (C := RX3) (T := TX3) (N := 14) hx hb hts (by decide +kernel) tyX3 tyX3_ok nmX3 hown hK hP hD hS p2 (kW_getA hp2 (show Ew1 (6) = .inr (3, [.null, .null, .null, .null, .null, .null, .null, .null, .null, .null, .null, .int (nI (0)), .int (nI (0)), .int (nI (0))]) by rw [hEw1, va_up_ne _ _ (by decide)]; exact hEo) (had1 (6) (by decide))) rfl 0 (by decide) (hts (.fieldLink RX3 11 "CaskYard$Saw" "laid" "[LCaskYard$Bolt;") (by decide +kernel)) (fun _ h9 => h9) rfl hin rfl (by decide +kernel) rfl rfl (Nat.le_of_ble_eq_true rfl) dX3_init_10 (fun H locs hP hD hS => ?_)
  rw [show ([.null, .null, .null, .null, .null, .null, .null, .null, .null, .null, .null, .int (nI (0)), .int (nI (0)), .int (nI (0))] : List Value).set 0 (.ref ((ad1 (7)))) = [.ref ((ad1 (7))), .null, .null, .null, .null, .null, .null, .null, .null, .null, .null, .int (nI (0)), .int (nI (0)), .int (nI (0))] from rfl] at hP hD
  rw [kW_setA hnd hp2 (had1 (6) (by decide))] at hP hD
  obtain ⟨Ew3, hEw3⟩ : ∃ G, G = va_up Ew1 (6) (.inr (3, [.ref ((ad1 (7))), .null, .null, .null, .null, .null, .null, .null, .null, .null, .null, .int (nI (0)), .int (nI (0)), .int (nI (0))])) := ⟨_, rfl⟩
  have eEw3_13 : Ew3 (6) = .inr (3, [.ref ((ad1 (7))), .null, .null, .null, .null, .null, .null, .null, .null, .null, .null, .int (nI (0)), .int (nI (0)), .int (nI (0))]) := by rw [hEw3]; exact va_up_self _ _ _
  have eEw3_22 : Ew3 (7) = .inl (cy 4, 8, .inr (.inr (.inr (.inr (fun _ => none))))) := by rw [hEw3, va_up_ne _ _ (by decide)]; exact eEw1_22
  rw [← hEw3] at hP hD
  refine lv_aload_n hx hb dX3_init_13 rfl (lv_at hl 0 rfl) ?_
  refine lv_bipush (v := (nI (32))) hx hb dX3_init_14 (by decide) ?_
  refine gk_newI (8) (nin_app hn8 (by decide)) hx hb (hts (.arrayClass .int) (by decide +kernel)) hK hP hD hS hA (by decide) (Nat.le_of_ble_eq_true rfl) (Nat.le_of_ble_eq_true rfl) dX3_init_16 (fun ad4 Ew4 H had4 hEw4 hP hD hS => ?_)
  have eEw4_14 : Ew4 (8) = .inl (cy 0, 32, .inl (fun _ => 0)) := by rw [hEw4]; exact va_up_self _ _ _
  have eEw4_22 : Ew4 (7) = .inl (cy 4, 8, .inr (.inr (.inr (.inr (fun _ => none))))) := by rw [hEw4, va_up_ne _ _ (by decide)]; exact eEw3_22
  have eEw4_13 : Ew4 (6) = .inr (3, [.ref ((ad1 (7))), .null, .null, .null, .null, .null, .null, .null, .null, .null, .null, .int (nI (0)), .int (nI (0)), .int (nI (0))]) := by rw [hEw4, va_up_ne _ _ (by decide)]; exact eEw3_13
  have hnd := kW_nd hD
  obtain ⟨p5, hp5⟩ := kW_pos (List.mem_append_left _ (List.mem_append_left _ hko))
  refine va_putF (D := D) (ci := 3) (v := .ref ((ad4 (8)))) (ty := .array .int) (C := RX3) (T := TX3) (N := 14) hx hb hts (by decide +kernel) tyX3 tyX3_ok nmX3 hown hK hP hD hS p5 (kW_getA hp5 eEw4_13 ((had4 (6) (by decide)).trans (had1 (6) (by decide)))) rfl 1 (by decide) (hts (.fieldLink RX3 17 "CaskYard$Saw" "place" "[I") (by decide +kernel)) (fun _ h9 => h9) rfl hin rfl (by decide +kernel) rfl rfl (Nat.le_of_ble_eq_true rfl) dX3_init_18 (fun H locs hP hD hS => ?_)
  rw [show ([.ref ((ad1 (7))), .null, .null, .null, .null, .null, .null, .null, .null, .null, .null, .int (nI (0)), .int (nI (0)), .int (nI (0))] : List Value).set 1 (.ref ((ad4 (8)))) = [.ref ((ad1 (7))), .ref ((ad4 (8))), .null, .null, .null, .null, .null, .null, .null, .null, .null, .int (nI (0)), .int (nI (0)), .int (nI (0))] from rfl] at hP hD
  rw [kW_setA hnd hp5 ((had4 (6) (by decide)).trans (had1 (6) (by decide)))] at hP hD
  obtain ⟨Ew6, hEw6⟩ : ∃ G, G = va_up Ew4 (6) (.inr (3, [.ref ((ad1 (7))), .ref ((ad4 (8))), .null, .null, .null, .null, .null, .null, .null, .null, .null, .int (nI (0)), .int (nI (0)), .int (nI (0))])) := ⟨_, rfl⟩
  have eEw6_13 : Ew6 (6) = .inr (3, [.ref ((ad1 (7))), .ref ((ad4 (8))), .null, .null, .null, .null, .null, .null, .null, .null, .null, .int (nI (0)), .int (nI (0)), .int (nI (0))]) := by rw [hEw6]; exact va_up_self _ _ _
  have eEw6_22 : Ew6 (7) = .inl (cy 4, 8, .inr (.inr (.inr (.inr (fun _ => none))))) := by rw [hEw6, va_up_ne _ _ (by decide)]; exact eEw4_22
  have eEw6_14 : Ew6 (8) = .inl (cy 0, 32, .inl (fun _ => 0)) := by rw [hEw6, va_up_ne _ _ (by decide)]; exact eEw4_14
  rw [← hEw6] at hP hD
  refine lv_aload_n hx hb dX3_init_21 rfl (lv_at hl 0 rfl) ?_
  refine lv_bipush (v := (nI (32))) hx hb dX3_init_22 (by decide) ?_
  refine gk_newI (9) (nin_app (nin_app hn9 (by decide)) (by decide)) hx hb (hts (.arrayClass .int) (by decide +kernel)) hK hP hD hS hA (by decide) (Nat.le_of_ble_eq_true rfl) (Nat.le_of_ble_eq_true rfl) dX3_init_24 (fun ad7 Ew7 H had7 hEw7 hP hD hS => ?_)
  have eEw7_18 : Ew7 (9) = .inl (cy 0, 32, .inl (fun _ => 0)) := by rw [hEw7]; exact va_up_self _ _ _
  have eEw7_22 : Ew7 (7) = .inl (cy 4, 8, .inr (.inr (.inr (.inr (fun _ => none))))) := by rw [hEw7, va_up_ne _ _ (by decide)]; exact eEw6_22
  have eEw7_13 : Ew7 (6) = .inr (3, [.ref ((ad1 (7))), .ref ((ad4 (8))), .null, .null, .null, .null, .null, .null, .null, .null, .null, .int (nI (0)), .int (nI (0)), .int (nI (0))]) := by rw [hEw7, va_up_ne _ _ (by decide)]; exact eEw6_13
  have eEw7_14 : Ew7 (8) = .inl (cy 0, 32, .inl (fun _ => 0)) := by rw [hEw7, va_up_ne _ _ (by decide)]; exact eEw6_14
  have hnd := kW_nd hD
  obtain ⟨p8, hp8⟩ := kW_pos (List.mem_append_left _ (List.mem_append_left _ (List.mem_append_left _ hko)))
  refine va_putF (D := D) (ci := 3) (v := .ref ((ad7 (9)))) (ty := .array .int) (C := RX3) (T := TX3) (N := 14) hx hb hts (by decide +kernel) tyX3 tyX3_ok nmX3 hown hK hP hD hS p8 (kW_getA hp8 eEw7_13 ((had7 (6) (by decide)).trans ((had4 (6) (by decide)).trans (had1 (6) (by decide))))) rfl 2 (by decide) (hts (.fieldLink RX3 21 "CaskYard$Saw" "number" "[I") (by decide +kernel)) (fun _ h9 => h9) rfl hin rfl (by decide +kernel) rfl rfl (Nat.le_of_ble_eq_true rfl) dX3_init_26 (fun H locs hP hD hS => ?_)
  rw [show ([.ref ((ad1 (7))), .ref ((ad4 (8))), .null, .null, .null, .null, .null, .null, .null, .null, .null, .int (nI (0)), .int (nI (0)), .int (nI (0))] : List Value).set 2 (.ref ((ad7 (9)))) = [.ref ((ad1 (7))), .ref ((ad4 (8))), .ref ((ad7 (9))), .null, .null, .null, .null, .null, .null, .null, .null, .int (nI (0)), .int (nI (0)), .int (nI (0))] from rfl] at hP hD
  rw [kW_setA hnd hp8 ((had7 (6) (by decide)).trans ((had4 (6) (by decide)).trans (had1 (6) (by decide))))] at hP hD
  obtain ⟨Ew9, hEw9⟩ : ∃ G, G = va_up Ew7 (6) (.inr (3, [.ref ((ad1 (7))), .ref ((ad4 (8))), .ref ((ad7 (9))), .null, .null, .null, .null, .null, .null, .null, .null, .int (nI (0)), .int (nI (0)), .int (nI (0))])) := ⟨_, rfl⟩
  have eEw9_13 : Ew9 (6) = .inr (3, [.ref ((ad1 (7))), .ref ((ad4 (8))), .ref ((ad7 (9))), .null, .null, .null, .null, .null, .null, .null, .null, .int (nI (0)), .int (nI (0)), .int (nI (0))]) := by rw [hEw9]; exact va_up_self _ _ _
  have eEw9_22 : Ew9 (7) = .inl (cy 4, 8, .inr (.inr (.inr (.inr (fun _ => none))))) := by rw [hEw9, va_up_ne _ _ (by decide)]; exact eEw7_22
  have eEw9_14 : Ew9 (8) = .inl (cy 0, 32, .inl (fun _ => 0)) := by rw [hEw9, va_up_ne _ _ (by decide)]; exact eEw7_14
  have eEw9_18 : Ew9 (9) = .inl (cy 0, 32, .inl (fun _ => 0)) := by rw [hEw9, va_up_ne _ _ (by decide)]; exact eEw7_18
  rw [← hEw9] at hP hD
  refine lv_aload_n hx hb dX3_init_29 rfl (lv_at hl 0 rfl) ?_
  refine lv_bipush (v := (nI (32))) hx hb dX3_init_30 (by decide) ?_
  refine gk_newI (10) (nin_app (nin_app (nin_app hn10 (by decide)) (by decide)) (by decide)) hx hb (hts (.arrayClass .int) (by decide +kernel)) hK hP hD hS hA (by decide) (Nat.le_of_ble_eq_true rfl) (Nat.le_of_ble_eq_true rfl) dX3_init_32 (fun ad10 Ew10 H had10 hEw10 hP hD hS => ?_)
  have eEw10_19 : Ew10 (10) = .inl (cy 0, 32, .inl (fun _ => 0)) := by rw [hEw10]; exact va_up_self _ _ _
  have eEw10_22 : Ew10 (7) = .inl (cy 4, 8, .inr (.inr (.inr (.inr (fun _ => none))))) := by rw [hEw10, va_up_ne _ _ (by decide)]; exact eEw9_22
  have eEw10_13 : Ew10 (6) = .inr (3, [.ref ((ad1 (7))), .ref ((ad4 (8))), .ref ((ad7 (9))), .null, .null, .null, .null, .null, .null, .null, .null, .int (nI (0)), .int (nI (0)), .int (nI (0))]) := by rw [hEw10, va_up_ne _ _ (by decide)]; exact eEw9_13
  have eEw10_14 : Ew10 (8) = .inl (cy 0, 32, .inl (fun _ => 0)) := by rw [hEw10, va_up_ne _ _ (by decide)]; exact eEw9_14
  have eEw10_18 : Ew10 (9) = .inl (cy 0, 32, .inl (fun _ => 0)) := by rw [hEw10, va_up_ne _ _ (by decide)]; exact eEw9_18
  have hnd := kW_nd hD
  obtain ⟨p11, hp11⟩ := kW_pos (List.mem_append_left _ (List.mem_append_left _ (List.mem_append_left _ (List.mem_append_left _ hko))))
  refine va_putF (D := D) (ci := 3) (v := .ref ((ad10 (10)))) (ty := .array .int) (C := RX3) (T := TX3) (N := 14) hx hb hts (by decide +kernel) tyX3 tyX3_ok nmX3 hown hK hP hD hS p11 (kW_getA hp11 eEw10_13 ((had10 (6) (by decide)).trans ((had7 (6) (by decide)).trans ((had4 (6) (by decide)).trans (had1 (6) (by decide)))))) rfl 3 (by decide) (hts (.fieldLink RX3 24 "CaskYard$Saw" "length" "[I") (by decide +kernel)) (fun _ h9 => h9) rfl hin rfl (by decide +kernel) rfl rfl (Nat.le_of_ble_eq_true rfl) dX3_init_34 (fun H locs hP hD hS => ?_)
  rw [show ([.ref ((ad1 (7))), .ref ((ad4 (8))), .ref ((ad7 (9))), .null, .null, .null, .null, .null, .null, .null, .null, .int (nI (0)), .int (nI (0)), .int (nI (0))] : List Value).set 3 (.ref ((ad10 (10)))) = [.ref ((ad1 (7))), .ref ((ad4 (8))), .ref ((ad7 (9))), .ref ((ad10 (10))), .null, .null, .null, .null, .null, .null, .null, .int (nI (0)), .int (nI (0)), .int (nI (0))] from rfl] at hP hD
  rw [kW_setA hnd hp11 ((had10 (6) (by decide)).trans ((had7 (6) (by decide)).trans ((had4 (6) (by decide)).trans (had1 (6) (by decide)))))] at hP hD
  obtain ⟨Ew12, hEw12⟩ : ∃ G, G = va_up Ew10 (6) (.inr (3, [.ref ((ad1 (7))), .ref ((ad4 (8))), .ref ((ad7 (9))), .ref ((ad10 (10))), .null, .null, .null, .null, .null, .null, .null, .int (nI (0)), .int (nI (0)), .int (nI (0))])) := ⟨_, rfl⟩
  have eEw12_13 : Ew12 (6) = .inr (3, [.ref ((ad1 (7))), .ref ((ad4 (8))), .ref ((ad7 (9))), .ref ((ad10 (10))), .null, .null, .null, .null, .null, .null, .null, .int (nI (0)), .int (nI (0)), .int (nI (0))]) := by rw [hEw12]; exact va_up_self _ _ _
  have eEw12_22 : Ew12 (7) = .inl (cy 4, 8, .inr (.inr (.inr (.inr (fun _ => none))))) := by rw [hEw12, va_up_ne _ _ (by decide)]; exact eEw10_22
  have eEw12_14 : Ew12 (8) = .inl (cy 0, 32, .inl (fun _ => 0)) := by rw [hEw12, va_up_ne _ _ (by decide)]; exact eEw10_14
  have eEw12_18 : Ew12 (9) = .inl (cy 0, 32, .inl (fun _ => 0)) := by rw [hEw12, va_up_ne _ _ (by decide)]; exact eEw10_18
  have eEw12_19 : Ew12 (10) = .inl (cy 0, 32, .inl (fun _ => 0)) := by rw [hEw12, va_up_ne _ _ (by decide)]; exact eEw10_19
  rw [← hEw12] at hP hD
  refine lv_aload_n hx hb dX3_init_37 rfl (lv_at hl 0 rfl) ?_
  refine lv_bipush (v := (nI (32))) hx hb dX3_init_38 (by decide) ?_
  refine gk_newI (11) (nin_app (nin_app (nin_app (nin_app hn11 (by decide)) (by decide)) (by decide)) (by decide)) hx hb (hts (.arrayClass .int) (by decide +kernel)) hK hP hD hS hA (by decide) (Nat.le_of_ble_eq_true rfl) (Nat.le_of_ble_eq_true rfl) dX3_init_40 (fun ad13 Ew13 H had13 hEw13 hP hD hS => ?_)
  have eEw13_20 : Ew13 (11) = .inl (cy 0, 32, .inl (fun _ => 0)) := by rw [hEw13]; exact va_up_self _ _ _
  have eEw13_22 : Ew13 (7) = .inl (cy 4, 8, .inr (.inr (.inr (.inr (fun _ => none))))) := by rw [hEw13, va_up_ne _ _ (by decide)]; exact eEw12_22
  have eEw13_13 : Ew13 (6) = .inr (3, [.ref ((ad1 (7))), .ref ((ad4 (8))), .ref ((ad7 (9))), .ref ((ad10 (10))), .null, .null, .null, .null, .null, .null, .null, .int (nI (0)), .int (nI (0)), .int (nI (0))]) := by rw [hEw13, va_up_ne _ _ (by decide)]; exact eEw12_13
  have eEw13_14 : Ew13 (8) = .inl (cy 0, 32, .inl (fun _ => 0)) := by rw [hEw13, va_up_ne _ _ (by decide)]; exact eEw12_14
  have eEw13_18 : Ew13 (9) = .inl (cy 0, 32, .inl (fun _ => 0)) := by rw [hEw13, va_up_ne _ _ (by decide)]; exact eEw12_18
  have eEw13_19 : Ew13 (10) = .inl (cy 0, 32, .inl (fun _ => 0)) := by rw [hEw13, va_up_ne _ _ (by decide)]; exact eEw12_19
  have hnd := kW_nd hD
  obtain ⟨p14, hp14⟩ := kW_pos (List.mem_append_left _ (List.mem_append_left _ (List.mem_append_left _ (List.mem_append_left _ (List.mem_append_left _ hko)))))
  refine va_putF (D := D) (ci := 3) (v := .ref ((ad13 (11)))) (ty := .array .int) (C := RX3) (T := TX3) (N := 14) hx hb hts (by decide +kernel) tyX3 tyX3_ok nmX3 hown hK hP hD hS p14 (kW_getA hp14 eEw13_13 ((had13 (6) (by decide)).trans ((had10 (6) (by decide)).trans ((had7 (6) (by decide)).trans ((had4 (6) (by decide)).trans (had1 (6) (by decide))))))) rfl 4 (by decide) (hts (.fieldLink RX3 27 "CaskYard$Saw" "asWide" "[I") (by decide +kernel)) (fun _ h9 => h9) rfl hin rfl (by decide +kernel) rfl rfl (Nat.le_of_ble_eq_true rfl) dX3_init_42 (fun H locs hP hD hS => ?_)
  rw [show ([.ref ((ad1 (7))), .ref ((ad4 (8))), .ref ((ad7 (9))), .ref ((ad10 (10))), .null, .null, .null, .null, .null, .null, .null, .int (nI (0)), .int (nI (0)), .int (nI (0))] : List Value).set 4 (.ref ((ad13 (11)))) = [.ref ((ad1 (7))), .ref ((ad4 (8))), .ref ((ad7 (9))), .ref ((ad10 (10))), .ref ((ad13 (11))), .null, .null, .null, .null, .null, .null, .int (nI (0)), .int (nI (0)), .int (nI (0))] from rfl] at hP hD
  rw [kW_setA hnd hp14 ((had13 (6) (by decide)).trans ((had10 (6) (by decide)).trans ((had7 (6) (by decide)).trans ((had4 (6) (by decide)).trans (had1 (6) (by decide))))))] at hP hD
  obtain ⟨Ew15, hEw15⟩ : ∃ G, G = va_up Ew13 (6) (.inr (3, [.ref ((ad1 (7))), .ref ((ad4 (8))), .ref ((ad7 (9))), .ref ((ad10 (10))), .ref ((ad13 (11))), .null, .null, .null, .null, .null, .null, .int (nI (0)), .int (nI (0)), .int (nI (0))])) := ⟨_, rfl⟩
  have eEw15_13 : Ew15 (6) = .inr (3, [.ref ((ad1 (7))), .ref ((ad4 (8))), .ref ((ad7 (9))), .ref ((ad10 (10))), .ref ((ad13 (11))), .null, .null, .null, .null, .null, .null, .int (nI (0)), .int (nI (0)), .int (nI (0))]) := by rw [hEw15]; exact va_up_self _ _ _
  have eEw15_22 : Ew15 (7) = .inl (cy 4, 8, .inr (.inr (.inr (.inr (fun _ => none))))) := by rw [hEw15, va_up_ne _ _ (by decide)]; exact eEw13_22
  have eEw15_14 : Ew15 (8) = .inl (cy 0, 32, .inl (fun _ => 0)) := by rw [hEw15, va_up_ne _ _ (by decide)]; exact eEw13_14
  have eEw15_18 : Ew15 (9) = .inl (cy 0, 32, .inl (fun _ => 0)) := by rw [hEw15, va_up_ne _ _ (by decide)]; exact eEw13_18
  have eEw15_19 : Ew15 (10) = .inl (cy 0, 32, .inl (fun _ => 0)) := by rw [hEw15, va_up_ne _ _ (by decide)]; exact eEw13_19
  have eEw15_20 : Ew15 (11) = .inl (cy 0, 32, .inl (fun _ => 0)) := by rw [hEw15, va_up_ne _ _ (by decide)]; exact eEw13_20
  rw [← hEw15] at hP hD
  refine lv_aload_n hx hb dX3_init_45 rfl (lv_at hl 0 rfl) ?_
  refine lv_bipush (v := (nI (32))) hx hb dX3_init_46 (by decide) ?_
  refine gk_newI (12) (nin_app (nin_app (nin_app (nin_app (nin_app hn12 (by decide)) (by decide)) (by decide)) (by decide)) (by decide)) hx hb (hts (.arrayClass .int) (by decide +kernel)) hK hP hD hS hA (by decide) (Nat.le_of_ble_eq_true rfl) (Nat.le_of_ble_eq_true rfl) dX3_init_48 (fun ad16 Ew16 H had16 hEw16 hP hD hS => ?_)
  have eEw16_21 : Ew16 (12) = .inl (cy 0, 32, .inl (fun _ => 0)) := by rw [hEw16]; exact va_up_self _ _ _
  have eEw16_22 : Ew16 (7) = .inl (cy 4, 8, .inr (.inr (.inr (.inr (fun _ => none))))) := by rw [hEw16, va_up_ne _ _ (by decide)]; exact eEw15_22
  have eEw16_13 : Ew16 (6) = .inr (3, [.ref ((ad1 (7))), .ref ((ad4 (8))), .ref ((ad7 (9))), .ref ((ad10 (10))), .ref ((ad13 (11))), .null, .null, .null, .null, .null, .null, .int (nI (0)), .int (nI (0)), .int (nI (0))]) := by rw [hEw16, va_up_ne _ _ (by decide)]; exact eEw15_13
  have eEw16_14 : Ew16 (8) = .inl (cy 0, 32, .inl (fun _ => 0)) := by rw [hEw16, va_up_ne _ _ (by decide)]; exact eEw15_14
  have eEw16_18 : Ew16 (9) = .inl (cy 0, 32, .inl (fun _ => 0)) := by rw [hEw16, va_up_ne _ _ (by decide)]; exact eEw15_18
  have eEw16_19 : Ew16 (10) = .inl (cy 0, 32, .inl (fun _ => 0)) := by rw [hEw16, va_up_ne _ _ (by decide)]; exact eEw15_19
  have eEw16_20 : Ew16 (11) = .inl (cy 0, 32, .inl (fun _ => 0)) := by rw [hEw16, va_up_ne _ _ (by decide)]; exact eEw15_20
  have hnd := kW_nd hD
  obtain ⟨p17, hp17⟩ := kW_pos (List.mem_append_left _ (List.mem_append_left _ (List.mem_append_left _ (List.mem_append_left _ (List.mem_append_left _ (List.mem_append_left _ hko))))))
  refine va_putF (D := D) (ci := 3) (v := .ref ((ad16 (12)))) (ty := .array .int) (C := RX3) (T := TX3) (N := 14) hx hb hts (by decide +kernel) tyX3 tyX3_ok nmX3 hown hK hP hD hS p17 (kW_getA hp17 eEw16_13 ((had16 (6) (by decide)).trans ((had13 (6) (by decide)).trans ((had10 (6) (by decide)).trans ((had7 (6) (by decide)).trans ((had4 (6) (by decide)).trans (had1 (6) (by decide)))))))) rfl 5 (by decide) (hts (.fieldLink RX3 30 "CaskYard$Saw" "more" "[I") (by decide +kernel)) (fun _ h9 => h9) rfl hin rfl (by decide +kernel) rfl rfl (Nat.le_of_ble_eq_true rfl) dX3_init_50 (fun H locs hP hD hS => ?_)
  rw [show ([.ref ((ad1 (7))), .ref ((ad4 (8))), .ref ((ad7 (9))), .ref ((ad10 (10))), .ref ((ad13 (11))), .null, .null, .null, .null, .null, .null, .int (nI (0)), .int (nI (0)), .int (nI (0))] : List Value).set 5 (.ref ((ad16 (12)))) = [.ref ((ad1 (7))), .ref ((ad4 (8))), .ref ((ad7 (9))), .ref ((ad10 (10))), .ref ((ad13 (11))), .ref ((ad16 (12))), .null, .null, .null, .null, .null, .int (nI (0)), .int (nI (0)), .int (nI (0))] from rfl] at hP hD
  rw [kW_setA hnd hp17 ((had16 (6) (by decide)).trans ((had13 (6) (by decide)).trans ((had10 (6) (by decide)).trans ((had7 (6) (by decide)).trans ((had4 (6) (by decide)).trans (had1 (6) (by decide)))))))] at hP hD
  obtain ⟨Ew18, hEw18⟩ : ∃ G, G = va_up Ew16 (6) (.inr (3, [.ref ((ad1 (7))), .ref ((ad4 (8))), .ref ((ad7 (9))), .ref ((ad10 (10))), .ref ((ad13 (11))), .ref ((ad16 (12))), .null, .null, .null, .null, .null, .int (nI (0)), .int (nI (0)), .int (nI (0))])) := ⟨_, rfl⟩
  have eEw18_13 : Ew18 (6) = .inr (3, [.ref ((ad1 (7))), .ref ((ad4 (8))), .ref ((ad7 (9))), .ref ((ad10 (10))), .ref ((ad13 (11))), .ref ((ad16 (12))), .null, .null, .null, .null, .null, .int (nI (0)), .int (nI (0)), .int (nI (0))]) := by rw [hEw18]; exact va_up_self _ _ _
  have eEw18_22 : Ew18 (7) = .inl (cy 4, 8, .inr (.inr (.inr (.inr (fun _ => none))))) := by rw [hEw18, va_up_ne _ _ (by decide)]; exact eEw16_22
  have eEw18_14 : Ew18 (8) = .inl (cy 0, 32, .inl (fun _ => 0)) := by rw [hEw18, va_up_ne _ _ (by decide)]; exact eEw16_14
  have eEw18_18 : Ew18 (9) = .inl (cy 0, 32, .inl (fun _ => 0)) := by rw [hEw18, va_up_ne _ _ (by decide)]; exact eEw16_18
  have eEw18_19 : Ew18 (10) = .inl (cy 0, 32, .inl (fun _ => 0)) := by rw [hEw18, va_up_ne _ _ (by decide)]; exact eEw16_19
  have eEw18_20 : Ew18 (11) = .inl (cy 0, 32, .inl (fun _ => 0)) := by rw [hEw18, va_up_ne _ _ (by decide)]; exact eEw16_20
  have eEw18_21 : Ew18 (12) = .inl (cy 0, 32, .inl (fun _ => 0)) := by rw [hEw18, va_up_ne _ _ (by decide)]; exact eEw16_21
  rw [← hEw18] at hP hD
  refine lv_aload_n hx hb dX3_init_53 rfl (lv_at hl 0 rfl) ?_
  refine lv_bipush (v := (nI (32))) hx hb dX3_init_54 (by decide) ?_
  refine gk_newI (13) (nin_app (nin_app (nin_app (nin_app (nin_app (nin_app hn13 (by decide)) (by decide)) (by decide)) (by decide)) (by decide)) (by decide)) hx hb (hts (.arrayClass .int) (by decide +kernel)) hK hP hD hS hA (by decide) (Nat.le_of_ble_eq_true rfl) (Nat.le_of_ble_eq_true rfl) dX3_init_56 (fun ad19 Ew19 H had19 hEw19 hP hD hS => ?_)
  have eEw19_16 : Ew19 (13) = .inl (cy 0, 32, .inl (fun _ => 0)) := by rw [hEw19]; exact va_up_self _ _ _
  have eEw19_22 : Ew19 (7) = .inl (cy 4, 8, .inr (.inr (.inr (.inr (fun _ => none))))) := by rw [hEw19, va_up_ne _ _ (by decide)]; exact eEw18_22
  have eEw19_13 : Ew19 (6) = .inr (3, [.ref ((ad1 (7))), .ref ((ad4 (8))), .ref ((ad7 (9))), .ref ((ad10 (10))), .ref ((ad13 (11))), .ref ((ad16 (12))), .null, .null, .null, .null, .null, .int (nI (0)), .int (nI (0)), .int (nI (0))]) := by rw [hEw19, va_up_ne _ _ (by decide)]; exact eEw18_13
  have eEw19_14 : Ew19 (8) = .inl (cy 0, 32, .inl (fun _ => 0)) := by rw [hEw19, va_up_ne _ _ (by decide)]; exact eEw18_14
  have eEw19_18 : Ew19 (9) = .inl (cy 0, 32, .inl (fun _ => 0)) := by rw [hEw19, va_up_ne _ _ (by decide)]; exact eEw18_18
  have eEw19_19 : Ew19 (10) = .inl (cy 0, 32, .inl (fun _ => 0)) := by rw [hEw19, va_up_ne _ _ (by decide)]; exact eEw18_19
  have eEw19_20 : Ew19 (11) = .inl (cy 0, 32, .inl (fun _ => 0)) := by rw [hEw19, va_up_ne _ _ (by decide)]; exact eEw18_20
  have eEw19_21 : Ew19 (12) = .inl (cy 0, 32, .inl (fun _ => 0)) := by rw [hEw19, va_up_ne _ _ (by decide)]; exact eEw18_21
  have hnd := kW_nd hD
  obtain ⟨p20, hp20⟩ := kW_pos (List.mem_append_left _ (List.mem_append_left _ (List.mem_append_left _ (List.mem_append_left _ (List.mem_append_left _ (List.mem_append_left _ (List.mem_append_left _ hko)))))))
  refine va_putF (D := D) (ci := 3) (v := .ref ((ad19 (13)))) (ty := .array .int) (C := RX3) (T := TX3) (N := 14) hx hb hts (by decide +kernel) tyX3 tyX3_ok nmX3 hown hK hP hD hS p20 (kW_getA hp20 eEw19_13 ((had19 (6) (by decide)).trans ((had16 (6) (by decide)).trans ((had13 (6) (by decide)).trans ((had10 (6) (by decide)).trans ((had7 (6) (by decide)).trans ((had4 (6) (by decide)).trans (had1 (6) (by decide))))))))) rfl 6 (by decide) (hts (.fieldLink RX3 33 "CaskYard$Saw" "loss" "[I") (by decide +kernel)) (fun _ h9 => h9) rfl hin rfl (by decide +kernel) rfl rfl (Nat.le_of_ble_eq_true rfl) dX3_init_58 (fun H locs hP hD hS => ?_)
  rw [show ([.ref ((ad1 (7))), .ref ((ad4 (8))), .ref ((ad7 (9))), .ref ((ad10 (10))), .ref ((ad13 (11))), .ref ((ad16 (12))), .null, .null, .null, .null, .null, .int (nI (0)), .int (nI (0)), .int (nI (0))] : List Value).set 6 (.ref ((ad19 (13)))) = [.ref ((ad1 (7))), .ref ((ad4 (8))), .ref ((ad7 (9))), .ref ((ad10 (10))), .ref ((ad13 (11))), .ref ((ad16 (12))), .ref ((ad19 (13))), .null, .null, .null, .null, .int (nI (0)), .int (nI (0)), .int (nI (0))] from rfl] at hP hD
  rw [kW_setA hnd hp20 ((had19 (6) (by decide)).trans ((had16 (6) (by decide)).trans ((had13 (6) (by decide)).trans ((had10 (6) (by decide)).trans ((had7 (6) (by decide)).trans ((had4 (6) (by decide)).trans (had1 (6) (by decide))))))))] at hP hD
  obtain ⟨Ew21, hEw21⟩ : ∃ G, G = va_up Ew19 (6) (.inr (3, [.ref ((ad1 (7))), .ref ((ad4 (8))), .ref ((ad7 (9))), .ref ((ad10 (10))), .ref ((ad13 (11))), .ref ((ad16 (12))), .ref ((ad19 (13))), .null, .null, .null, .null, .int (nI (0)), .int (nI (0)), .int (nI (0))])) := ⟨_, rfl⟩
  have eEw21_13 : Ew21 (6) = .inr (3, [.ref ((ad1 (7))), .ref ((ad4 (8))), .ref ((ad7 (9))), .ref ((ad10 (10))), .ref ((ad13 (11))), .ref ((ad16 (12))), .ref ((ad19 (13))), .null, .null, .null, .null, .int (nI (0)), .int (nI (0)), .int (nI (0))]) := by rw [hEw21]; exact va_up_self _ _ _
  have eEw21_22 : Ew21 (7) = .inl (cy 4, 8, .inr (.inr (.inr (.inr (fun _ => none))))) := by rw [hEw21, va_up_ne _ _ (by decide)]; exact eEw19_22
  have eEw21_14 : Ew21 (8) = .inl (cy 0, 32, .inl (fun _ => 0)) := by rw [hEw21, va_up_ne _ _ (by decide)]; exact eEw19_14
  have eEw21_18 : Ew21 (9) = .inl (cy 0, 32, .inl (fun _ => 0)) := by rw [hEw21, va_up_ne _ _ (by decide)]; exact eEw19_18
  have eEw21_19 : Ew21 (10) = .inl (cy 0, 32, .inl (fun _ => 0)) := by rw [hEw21, va_up_ne _ _ (by decide)]; exact eEw19_19
  have eEw21_20 : Ew21 (11) = .inl (cy 0, 32, .inl (fun _ => 0)) := by rw [hEw21, va_up_ne _ _ (by decide)]; exact eEw19_20
  have eEw21_21 : Ew21 (12) = .inl (cy 0, 32, .inl (fun _ => 0)) := by rw [hEw21, va_up_ne _ _ (by decide)]; exact eEw19_21
  have eEw21_16 : Ew21 (13) = .inl (cy 0, 32, .inl (fun _ => 0)) := by rw [hEw21, va_up_ne _ _ (by decide)]; exact eEw19_16
  rw [← hEw21] at hP hD
  refine lv_aload_n hx hb dX3_init_61 rfl (lv_at hl 0 rfl) ?_
  refine lv_bipush (v := (nI (32))) hx hb dX3_init_62 (by decide) ?_
  refine gk_newI (14) (nin_app (nin_app (nin_app (nin_app (nin_app (nin_app (nin_app hn14 (by decide)) (by decide)) (by decide)) (by decide)) (by decide)) (by decide)) (by decide)) hx hb (hts (.arrayClass .int) (by decide +kernel)) hK hP hD hS hA (by decide) (Nat.le_of_ble_eq_true rfl) (Nat.le_of_ble_eq_true rfl) dX3_init_64 (fun ad22 Ew22 H had22 hEw22 hP hD hS => ?_)
  have eEw22_17 : Ew22 (14) = .inl (cy 0, 32, .inl (fun _ => 0)) := by rw [hEw22]; exact va_up_self _ _ _
  have eEw22_22 : Ew22 (7) = .inl (cy 4, 8, .inr (.inr (.inr (.inr (fun _ => none))))) := by rw [hEw22, va_up_ne _ _ (by decide)]; exact eEw21_22
  have eEw22_13 : Ew22 (6) = .inr (3, [.ref ((ad1 (7))), .ref ((ad4 (8))), .ref ((ad7 (9))), .ref ((ad10 (10))), .ref ((ad13 (11))), .ref ((ad16 (12))), .ref ((ad19 (13))), .null, .null, .null, .null, .int (nI (0)), .int (nI (0)), .int (nI (0))]) := by rw [hEw22, va_up_ne _ _ (by decide)]; exact eEw21_13
  have eEw22_14 : Ew22 (8) = .inl (cy 0, 32, .inl (fun _ => 0)) := by rw [hEw22, va_up_ne _ _ (by decide)]; exact eEw21_14
  have eEw22_18 : Ew22 (9) = .inl (cy 0, 32, .inl (fun _ => 0)) := by rw [hEw22, va_up_ne _ _ (by decide)]; exact eEw21_18
  have eEw22_19 : Ew22 (10) = .inl (cy 0, 32, .inl (fun _ => 0)) := by rw [hEw22, va_up_ne _ _ (by decide)]; exact eEw21_19
  have eEw22_20 : Ew22 (11) = .inl (cy 0, 32, .inl (fun _ => 0)) := by rw [hEw22, va_up_ne _ _ (by decide)]; exact eEw21_20
  have eEw22_21 : Ew22 (12) = .inl (cy 0, 32, .inl (fun _ => 0)) := by rw [hEw22, va_up_ne _ _ (by decide)]; exact eEw21_21
  have eEw22_16 : Ew22 (13) = .inl (cy 0, 32, .inl (fun _ => 0)) := by rw [hEw22, va_up_ne _ _ (by decide)]; exact eEw21_16
  have hnd := kW_nd hD
  obtain ⟨p23, hp23⟩ := kW_pos (List.mem_append_left _ (List.mem_append_left _ (List.mem_append_left _ (List.mem_append_left _ (List.mem_append_left _ (List.mem_append_left _ (List.mem_append_left _ (List.mem_append_left _ hko))))))))
  refine va_putF (D := D) (ci := 3) (v := .ref ((ad22 (14)))) (ty := .array .int) (C := RX3) (T := TX3) (N := 14) hx hb hts (by decide +kernel) tyX3 tyX3_ok nmX3 hown hK hP hD hS p23 (kW_getA hp23 eEw22_13 ((had22 (6) (by decide)).trans ((had19 (6) (by decide)).trans ((had16 (6) (by decide)).trans ((had13 (6) (by decide)).trans ((had10 (6) (by decide)).trans ((had7 (6) (by decide)).trans ((had4 (6) (by decide)).trans (had1 (6) (by decide)))))))))) rfl 7 (by decide) (hts (.fieldLink RX3 36 "CaskYard$Saw" "byLoss" "[I") (by decide +kernel)) (fun _ h9 => h9) rfl hin rfl (by decide +kernel) rfl rfl (Nat.le_of_ble_eq_true rfl) dX3_init_66 (fun H locs hP hD hS => ?_)
  rw [show ([.ref ((ad1 (7))), .ref ((ad4 (8))), .ref ((ad7 (9))), .ref ((ad10 (10))), .ref ((ad13 (11))), .ref ((ad16 (12))), .ref ((ad19 (13))), .null, .null, .null, .null, .int (nI (0)), .int (nI (0)), .int (nI (0))] : List Value).set 7 (.ref ((ad22 (14)))) = [.ref ((ad1 (7))), .ref ((ad4 (8))), .ref ((ad7 (9))), .ref ((ad10 (10))), .ref ((ad13 (11))), .ref ((ad16 (12))), .ref ((ad19 (13))), .ref ((ad22 (14))), .null, .null, .null, .int (nI (0)), .int (nI (0)), .int (nI (0))] from rfl] at hP hD
  rw [kW_setA hnd hp23 ((had22 (6) (by decide)).trans ((had19 (6) (by decide)).trans ((had16 (6) (by decide)).trans ((had13 (6) (by decide)).trans ((had10 (6) (by decide)).trans ((had7 (6) (by decide)).trans ((had4 (6) (by decide)).trans (had1 (6) (by decide)))))))))] at hP hD
  obtain ⟨Ew24, hEw24⟩ : ∃ G, G = va_up Ew22 (6) (.inr (3, [.ref ((ad1 (7))), .ref ((ad4 (8))), .ref ((ad7 (9))), .ref ((ad10 (10))), .ref ((ad13 (11))), .ref ((ad16 (12))), .ref ((ad19 (13))), .ref ((ad22 (14))), .null, .null, .null, .int (nI (0)), .int (nI (0)), .int (nI (0))])) := ⟨_, rfl⟩
  have eEw24_13 : Ew24 (6) = .inr (3, [.ref ((ad1 (7))), .ref ((ad4 (8))), .ref ((ad7 (9))), .ref ((ad10 (10))), .ref ((ad13 (11))), .ref ((ad16 (12))), .ref ((ad19 (13))), .ref ((ad22 (14))), .null, .null, .null, .int (nI (0)), .int (nI (0)), .int (nI (0))]) := by rw [hEw24]; exact va_up_self _ _ _
  have eEw24_22 : Ew24 (7) = .inl (cy 4, 8, .inr (.inr (.inr (.inr (fun _ => none))))) := by rw [hEw24, va_up_ne _ _ (by decide)]; exact eEw22_22
  have eEw24_14 : Ew24 (8) = .inl (cy 0, 32, .inl (fun _ => 0)) := by rw [hEw24, va_up_ne _ _ (by decide)]; exact eEw22_14
  have eEw24_18 : Ew24 (9) = .inl (cy 0, 32, .inl (fun _ => 0)) := by rw [hEw24, va_up_ne _ _ (by decide)]; exact eEw22_18
  have eEw24_19 : Ew24 (10) = .inl (cy 0, 32, .inl (fun _ => 0)) := by rw [hEw24, va_up_ne _ _ (by decide)]; exact eEw22_19
  have eEw24_20 : Ew24 (11) = .inl (cy 0, 32, .inl (fun _ => 0)) := by rw [hEw24, va_up_ne _ _ (by decide)]; exact eEw22_20
  have eEw24_21 : Ew24 (12) = .inl (cy 0, 32, .inl (fun _ => 0)) := by rw [hEw24, va_up_ne _ _ (by decide)]; exact eEw22_21
  have eEw24_16 : Ew24 (13) = .inl (cy 0, 32, .inl (fun _ => 0)) := by rw [hEw24, va_up_ne _ _ (by decide)]; exact eEw22_16
  have eEw24_17 : Ew24 (14) = .inl (cy 0, 32, .inl (fun _ => 0)) := by rw [hEw24, va_up_ne _ _ (by decide)]; exact eEw22_17
  rw [← hEw24] at hP hD
  refine lv_aload_n hx hb dX3_init_69 rfl (lv_at hl 0 rfl) ?_
  refine lv_bipush (v := (nI (32))) hx hb dX3_init_70 (by decide) ?_
  refine gk_newZ (15) (nin_app (nin_app (nin_app (nin_app (nin_app (nin_app (nin_app (nin_app hn15 (by decide)) (by decide)) (by decide)) (by decide)) (by decide)) (by decide)) (by decide)) (by decide)) hx hb (hts (.arrayClass .boolean) (by decide +kernel)) hK hP hD hS hA (by decide) (Nat.le_of_ble_eq_true rfl) (Nat.le_of_ble_eq_true rfl) dX3_init_72 (fun ad25 Ew25 H had25 hEw25 hP hD hS => ?_)
  have eEw25_15 : Ew25 (15) = .inl (cy 1, 32, .inl (fun _ => 0)) := by rw [hEw25]; exact va_up_self _ _ _
  have eEw25_22 : Ew25 (7) = .inl (cy 4, 8, .inr (.inr (.inr (.inr (fun _ => none))))) := by rw [hEw25, va_up_ne _ _ (by decide)]; exact eEw24_22
  have eEw25_13 : Ew25 (6) = .inr (3, [.ref ((ad1 (7))), .ref ((ad4 (8))), .ref ((ad7 (9))), .ref ((ad10 (10))), .ref ((ad13 (11))), .ref ((ad16 (12))), .ref ((ad19 (13))), .ref ((ad22 (14))), .null, .null, .null, .int (nI (0)), .int (nI (0)), .int (nI (0))]) := by rw [hEw25, va_up_ne _ _ (by decide)]; exact eEw24_13
  have eEw25_14 : Ew25 (8) = .inl (cy 0, 32, .inl (fun _ => 0)) := by rw [hEw25, va_up_ne _ _ (by decide)]; exact eEw24_14
  have eEw25_18 : Ew25 (9) = .inl (cy 0, 32, .inl (fun _ => 0)) := by rw [hEw25, va_up_ne _ _ (by decide)]; exact eEw24_18
  have eEw25_19 : Ew25 (10) = .inl (cy 0, 32, .inl (fun _ => 0)) := by rw [hEw25, va_up_ne _ _ (by decide)]; exact eEw24_19
  have eEw25_20 : Ew25 (11) = .inl (cy 0, 32, .inl (fun _ => 0)) := by rw [hEw25, va_up_ne _ _ (by decide)]; exact eEw24_20
  have eEw25_21 : Ew25 (12) = .inl (cy 0, 32, .inl (fun _ => 0)) := by rw [hEw25, va_up_ne _ _ (by decide)]; exact eEw24_21
  have eEw25_16 : Ew25 (13) = .inl (cy 0, 32, .inl (fun _ => 0)) := by rw [hEw25, va_up_ne _ _ (by decide)]; exact eEw24_16
  have eEw25_17 : Ew25 (14) = .inl (cy 0, 32, .inl (fun _ => 0)) := by rw [hEw25, va_up_ne _ _ (by decide)]; exact eEw24_17
  have hnd := kW_nd hD
  obtain ⟨p26, hp26⟩ := kW_pos (List.mem_append_left _ (List.mem_append_left _ (List.mem_append_left _ (List.mem_append_left _ (List.mem_append_left _ (List.mem_append_left _ (List.mem_append_left _ (List.mem_append_left _ (List.mem_append_left _ hko)))))))))
  refine va_putF (D := D) (ci := 3) (v := .ref ((ad25 (15)))) (ty := .array .boolean) (C := RX3) (T := TX3) (N := 14) hx hb hts (by decide +kernel) tyX3 tyX3_ok nmX3 hown hK hP hD hS p26 (kW_getA hp26 eEw25_13 ((had25 (6) (by decide)).trans ((had22 (6) (by decide)).trans ((had19 (6) (by decide)).trans ((had16 (6) (by decide)).trans ((had13 (6) (by decide)).trans ((had10 (6) (by decide)).trans ((had7 (6) (by decide)).trans ((had4 (6) (by decide)).trans (had1 (6) (by decide))))))))))) rfl 8 (by decide) (hts (.fieldLink RX3 39 "CaskYard$Saw" "open" "[Z") (by decide +kernel)) (fun _ h9 => h9) rfl hin rfl (by decide +kernel) rfl rfl (Nat.le_of_ble_eq_true rfl) dX3_init_74 (fun H locs hP hD hS => ?_)
  rw [show ([.ref ((ad1 (7))), .ref ((ad4 (8))), .ref ((ad7 (9))), .ref ((ad10 (10))), .ref ((ad13 (11))), .ref ((ad16 (12))), .ref ((ad19 (13))), .ref ((ad22 (14))), .null, .null, .null, .int (nI (0)), .int (nI (0)), .int (nI (0))] : List Value).set 8 (.ref ((ad25 (15)))) = [.ref ((ad1 (7))), .ref ((ad4 (8))), .ref ((ad7 (9))), .ref ((ad10 (10))), .ref ((ad13 (11))), .ref ((ad16 (12))), .ref ((ad19 (13))), .ref ((ad22 (14))), .ref ((ad25 (15))), .null, .null, .int (nI (0)), .int (nI (0)), .int (nI (0))] from rfl] at hP hD
  rw [kW_setA hnd hp26 ((had25 (6) (by decide)).trans ((had22 (6) (by decide)).trans ((had19 (6) (by decide)).trans ((had16 (6) (by decide)).trans ((had13 (6) (by decide)).trans ((had10 (6) (by decide)).trans ((had7 (6) (by decide)).trans ((had4 (6) (by decide)).trans (had1 (6) (by decide))))))))))] at hP hD
  obtain ⟨Ew27, hEw27⟩ : ∃ G, G = va_up Ew25 (6) (.inr (3, [.ref ((ad1 (7))), .ref ((ad4 (8))), .ref ((ad7 (9))), .ref ((ad10 (10))), .ref ((ad13 (11))), .ref ((ad16 (12))), .ref ((ad19 (13))), .ref ((ad22 (14))), .ref ((ad25 (15))), .null, .null, .int (nI (0)), .int (nI (0)), .int (nI (0))])) := ⟨_, rfl⟩
  have eEw27_13 : Ew27 (6) = .inr (3, [.ref ((ad1 (7))), .ref ((ad4 (8))), .ref ((ad7 (9))), .ref ((ad10 (10))), .ref ((ad13 (11))), .ref ((ad16 (12))), .ref ((ad19 (13))), .ref ((ad22 (14))), .ref ((ad25 (15))), .null, .null, .int (nI (0)), .int (nI (0)), .int (nI (0))]) := by rw [hEw27]; exact va_up_self _ _ _
  have eEw27_22 : Ew27 (7) = .inl (cy 4, 8, .inr (.inr (.inr (.inr (fun _ => none))))) := by rw [hEw27, va_up_ne _ _ (by decide)]; exact eEw25_22
  have eEw27_14 : Ew27 (8) = .inl (cy 0, 32, .inl (fun _ => 0)) := by rw [hEw27, va_up_ne _ _ (by decide)]; exact eEw25_14
  have eEw27_18 : Ew27 (9) = .inl (cy 0, 32, .inl (fun _ => 0)) := by rw [hEw27, va_up_ne _ _ (by decide)]; exact eEw25_18
  have eEw27_19 : Ew27 (10) = .inl (cy 0, 32, .inl (fun _ => 0)) := by rw [hEw27, va_up_ne _ _ (by decide)]; exact eEw25_19
  have eEw27_20 : Ew27 (11) = .inl (cy 0, 32, .inl (fun _ => 0)) := by rw [hEw27, va_up_ne _ _ (by decide)]; exact eEw25_20
  have eEw27_21 : Ew27 (12) = .inl (cy 0, 32, .inl (fun _ => 0)) := by rw [hEw27, va_up_ne _ _ (by decide)]; exact eEw25_21
  have eEw27_16 : Ew27 (13) = .inl (cy 0, 32, .inl (fun _ => 0)) := by rw [hEw27, va_up_ne _ _ (by decide)]; exact eEw25_16
  have eEw27_17 : Ew27 (14) = .inl (cy 0, 32, .inl (fun _ => 0)) := by rw [hEw27, va_up_ne _ _ (by decide)]; exact eEw25_17
  have eEw27_15 : Ew27 (15) = .inl (cy 1, 32, .inl (fun _ => 0)) := by rw [hEw27, va_up_ne _ _ (by decide)]; exact eEw25_15
  rw [← hEw27] at hP hD
  refine lv_aload_n hx hb dX3_init_77 rfl (lv_at hl 0 rfl) ?_
  refine lv_bipush (v := (nI (32))) hx hb dX3_init_78 (by decide) ?_
  refine gk_newI (16) (nin_app (nin_app (nin_app (nin_app (nin_app (nin_app (nin_app (nin_app (nin_app hn16 (by decide)) (by decide)) (by decide)) (by decide)) (by decide)) (by decide)) (by decide)) (by decide)) (by decide)) hx hb (hts (.arrayClass .int) (by decide +kernel)) hK hP hD hS hA (by decide) (Nat.le_of_ble_eq_true rfl) (Nat.le_of_ble_eq_true rfl) dX3_init_80 (fun ad28 Ew28 H had28 hEw28 hP hD hS => ?_)
  have eEw28_23 : Ew28 (16) = .inl (cy 0, 32, .inl (fun _ => 0)) := by rw [hEw28]; exact va_up_self _ _ _
  have eEw28_22 : Ew28 (7) = .inl (cy 4, 8, .inr (.inr (.inr (.inr (fun _ => none))))) := by rw [hEw28, va_up_ne _ _ (by decide)]; exact eEw27_22
  have eEw28_13 : Ew28 (6) = .inr (3, [.ref ((ad1 (7))), .ref ((ad4 (8))), .ref ((ad7 (9))), .ref ((ad10 (10))), .ref ((ad13 (11))), .ref ((ad16 (12))), .ref ((ad19 (13))), .ref ((ad22 (14))), .ref ((ad25 (15))), .null, .null, .int (nI (0)), .int (nI (0)), .int (nI (0))]) := by rw [hEw28, va_up_ne _ _ (by decide)]; exact eEw27_13
  have eEw28_14 : Ew28 (8) = .inl (cy 0, 32, .inl (fun _ => 0)) := by rw [hEw28, va_up_ne _ _ (by decide)]; exact eEw27_14
  have eEw28_18 : Ew28 (9) = .inl (cy 0, 32, .inl (fun _ => 0)) := by rw [hEw28, va_up_ne _ _ (by decide)]; exact eEw27_18
  have eEw28_19 : Ew28 (10) = .inl (cy 0, 32, .inl (fun _ => 0)) := by rw [hEw28, va_up_ne _ _ (by decide)]; exact eEw27_19
  have eEw28_20 : Ew28 (11) = .inl (cy 0, 32, .inl (fun _ => 0)) := by rw [hEw28, va_up_ne _ _ (by decide)]; exact eEw27_20
  have eEw28_21 : Ew28 (12) = .inl (cy 0, 32, .inl (fun _ => 0)) := by rw [hEw28, va_up_ne _ _ (by decide)]; exact eEw27_21
  have eEw28_16 : Ew28 (13) = .inl (cy 0, 32, .inl (fun _ => 0)) := by rw [hEw28, va_up_ne _ _ (by decide)]; exact eEw27_16
  have eEw28_17 : Ew28 (14) = .inl (cy 0, 32, .inl (fun _ => 0)) := by rw [hEw28, va_up_ne _ _ (by decide)]; exact eEw27_17
  have eEw28_15 : Ew28 (15) = .inl (cy 1, 32, .inl (fun _ => 0)) := by rw [hEw28, va_up_ne _ _ (by decide)]; exact eEw27_15
  have hnd := kW_nd hD
  obtain ⟨p29, hp29⟩ := kW_pos (List.mem_append_left _ (List.mem_append_left _ (List.mem_append_left _ (List.mem_append_left _ (List.mem_append_left _ (List.mem_append_left _ (List.mem_append_left _ (List.mem_append_left _ (List.mem_append_left _ (List.mem_append_left _ hko))))))))))
  refine va_putF (D := D) (ci := 3) (v := .ref ((ad28 (16)))) (ty := .array .int) (C := RX3) (T := TX3) (N := 14) hx hb hts (by decide +kernel) tyX3 tyX3_ok nmX3 hown hK hP hD hS p29 (kW_getA hp29 eEw28_13 ((had28 (6) (by decide)).trans ((had25 (6) (by decide)).trans ((had22 (6) (by decide)).trans ((had19 (6) (by decide)).trans ((had16 (6) (by decide)).trans ((had13 (6) (by decide)).trans ((had10 (6) (by decide)).trans ((had7 (6) (by decide)).trans ((had4 (6) (by decide)).trans (had1 (6) (by decide)))))))))))) rfl 9 (by decide) (hts (.fieldLink RX3 43 "CaskYard$Saw" "wideCut" "[I") (by decide +kernel)) (fun _ h9 => h9) rfl hin rfl (by decide +kernel) rfl rfl (Nat.le_of_ble_eq_true rfl) dX3_init_82 (fun H locs hP hD hS => ?_)
  rw [show ([.ref ((ad1 (7))), .ref ((ad4 (8))), .ref ((ad7 (9))), .ref ((ad10 (10))), .ref ((ad13 (11))), .ref ((ad16 (12))), .ref ((ad19 (13))), .ref ((ad22 (14))), .ref ((ad25 (15))), .null, .null, .int (nI (0)), .int (nI (0)), .int (nI (0))] : List Value).set 9 (.ref ((ad28 (16)))) = [.ref ((ad1 (7))), .ref ((ad4 (8))), .ref ((ad7 (9))), .ref ((ad10 (10))), .ref ((ad13 (11))), .ref ((ad16 (12))), .ref ((ad19 (13))), .ref ((ad22 (14))), .ref ((ad25 (15))), .ref ((ad28 (16))), .null, .int (nI (0)), .int (nI (0)), .int (nI (0))] from rfl] at hP hD
  rw [kW_setA hnd hp29 ((had28 (6) (by decide)).trans ((had25 (6) (by decide)).trans ((had22 (6) (by decide)).trans ((had19 (6) (by decide)).trans ((had16 (6) (by decide)).trans ((had13 (6) (by decide)).trans ((had10 (6) (by decide)).trans ((had7 (6) (by decide)).trans ((had4 (6) (by decide)).trans (had1 (6) (by decide)))))))))))] at hP hD
  obtain ⟨Ew30, hEw30⟩ : ∃ G, G = va_up Ew28 (6) (.inr (3, [.ref ((ad1 (7))), .ref ((ad4 (8))), .ref ((ad7 (9))), .ref ((ad10 (10))), .ref ((ad13 (11))), .ref ((ad16 (12))), .ref ((ad19 (13))), .ref ((ad22 (14))), .ref ((ad25 (15))), .ref ((ad28 (16))), .null, .int (nI (0)), .int (nI (0)), .int (nI (0))])) := ⟨_, rfl⟩
  have eEw30_13 : Ew30 (6) = .inr (3, [.ref ((ad1 (7))), .ref ((ad4 (8))), .ref ((ad7 (9))), .ref ((ad10 (10))), .ref ((ad13 (11))), .ref ((ad16 (12))), .ref ((ad19 (13))), .ref ((ad22 (14))), .ref ((ad25 (15))), .ref ((ad28 (16))), .null, .int (nI (0)), .int (nI (0)), .int (nI (0))]) := by rw [hEw30]; exact va_up_self _ _ _
  have eEw30_22 : Ew30 (7) = .inl (cy 4, 8, .inr (.inr (.inr (.inr (fun _ => none))))) := by rw [hEw30, va_up_ne _ _ (by decide)]; exact eEw28_22
  have eEw30_14 : Ew30 (8) = .inl (cy 0, 32, .inl (fun _ => 0)) := by rw [hEw30, va_up_ne _ _ (by decide)]; exact eEw28_14
  have eEw30_18 : Ew30 (9) = .inl (cy 0, 32, .inl (fun _ => 0)) := by rw [hEw30, va_up_ne _ _ (by decide)]; exact eEw28_18
  have eEw30_19 : Ew30 (10) = .inl (cy 0, 32, .inl (fun _ => 0)) := by rw [hEw30, va_up_ne _ _ (by decide)]; exact eEw28_19
  have eEw30_20 : Ew30 (11) = .inl (cy 0, 32, .inl (fun _ => 0)) := by rw [hEw30, va_up_ne _ _ (by decide)]; exact eEw28_20
  have eEw30_21 : Ew30 (12) = .inl (cy 0, 32, .inl (fun _ => 0)) := by rw [hEw30, va_up_ne _ _ (by decide)]; exact eEw28_21
  have eEw30_16 : Ew30 (13) = .inl (cy 0, 32, .inl (fun _ => 0)) := by rw [hEw30, va_up_ne _ _ (by decide)]; exact eEw28_16
  have eEw30_17 : Ew30 (14) = .inl (cy 0, 32, .inl (fun _ => 0)) := by rw [hEw30, va_up_ne _ _ (by decide)]; exact eEw28_17
  have eEw30_15 : Ew30 (15) = .inl (cy 1, 32, .inl (fun _ => 0)) := by rw [hEw30, va_up_ne _ _ (by decide)]; exact eEw28_15
  have eEw30_23 : Ew30 (16) = .inl (cy 0, 32, .inl (fun _ => 0)) := by rw [hEw30, va_up_ne _ _ (by decide)]; exact eEw28_23
  rw [← hEw30] at hP hD
  refine lv_aload_n hx hb dX3_init_85 rfl (lv_at hl 0 rfl) ?_
  refine lv_bipush (v := (nI (32))) hx hb dX3_init_86 (by decide) ?_
  refine gk_newI (17) (nin_app (nin_app (nin_app (nin_app (nin_app (nin_app (nin_app (nin_app (nin_app (nin_app hn17 (by decide)) (by decide)) (by decide)) (by decide)) (by decide)) (by decide)) (by decide)) (by decide)) (by decide)) (by decide)) hx hb (hts (.arrayClass .int) (by decide +kernel)) hK hP hD hS hA (by decide) (Nat.le_of_ble_eq_true rfl) (Nat.le_of_ble_eq_true rfl) dX3_init_88 (fun ad31 Ew31 H had31 hEw31 hP hD hS => ?_)
  have eEw31_24 : Ew31 (17) = .inl (cy 0, 32, .inl (fun _ => 0)) := by rw [hEw31]; exact va_up_self _ _ _
  have eEw31_22 : Ew31 (7) = .inl (cy 4, 8, .inr (.inr (.inr (.inr (fun _ => none))))) := by rw [hEw31, va_up_ne _ _ (by decide)]; exact eEw30_22
  have eEw31_13 : Ew31 (6) = .inr (3, [.ref ((ad1 (7))), .ref ((ad4 (8))), .ref ((ad7 (9))), .ref ((ad10 (10))), .ref ((ad13 (11))), .ref ((ad16 (12))), .ref ((ad19 (13))), .ref ((ad22 (14))), .ref ((ad25 (15))), .ref ((ad28 (16))), .null, .int (nI (0)), .int (nI (0)), .int (nI (0))]) := by rw [hEw31, va_up_ne _ _ (by decide)]; exact eEw30_13
  have eEw31_14 : Ew31 (8) = .inl (cy 0, 32, .inl (fun _ => 0)) := by rw [hEw31, va_up_ne _ _ (by decide)]; exact eEw30_14
  have eEw31_18 : Ew31 (9) = .inl (cy 0, 32, .inl (fun _ => 0)) := by rw [hEw31, va_up_ne _ _ (by decide)]; exact eEw30_18
  have eEw31_19 : Ew31 (10) = .inl (cy 0, 32, .inl (fun _ => 0)) := by rw [hEw31, va_up_ne _ _ (by decide)]; exact eEw30_19
  have eEw31_20 : Ew31 (11) = .inl (cy 0, 32, .inl (fun _ => 0)) := by rw [hEw31, va_up_ne _ _ (by decide)]; exact eEw30_20
  have eEw31_21 : Ew31 (12) = .inl (cy 0, 32, .inl (fun _ => 0)) := by rw [hEw31, va_up_ne _ _ (by decide)]; exact eEw30_21
  have eEw31_16 : Ew31 (13) = .inl (cy 0, 32, .inl (fun _ => 0)) := by rw [hEw31, va_up_ne _ _ (by decide)]; exact eEw30_16
  have eEw31_17 : Ew31 (14) = .inl (cy 0, 32, .inl (fun _ => 0)) := by rw [hEw31, va_up_ne _ _ (by decide)]; exact eEw30_17
  have eEw31_15 : Ew31 (15) = .inl (cy 1, 32, .inl (fun _ => 0)) := by rw [hEw31, va_up_ne _ _ (by decide)]; exact eEw30_15
  have eEw31_23 : Ew31 (16) = .inl (cy 0, 32, .inl (fun _ => 0)) := by rw [hEw31, va_up_ne _ _ (by decide)]; exact eEw30_23
  have hnd := kW_nd hD
  obtain ⟨p32, hp32⟩ := kW_pos (List.mem_append_left _ (List.mem_append_left _ (List.mem_append_left _ (List.mem_append_left _ (List.mem_append_left _ (List.mem_append_left _ (List.mem_append_left _ (List.mem_append_left _ (List.mem_append_left _ (List.mem_append_left _ (List.mem_append_left _ hko)))))))))))
  refine va_putF (D := D) (ci := 3) (v := .ref ((ad31 (17)))) (ty := .array .int) (C := RX3) (T := TX3) (N := 14) hx hb hts (by decide +kernel) tyX3 tyX3_ok nmX3 hown hK hP hD hS p32 (kW_getA hp32 eEw31_13 ((had31 (6) (by decide)).trans ((had28 (6) (by decide)).trans ((had25 (6) (by decide)).trans ((had22 (6) (by decide)).trans ((had19 (6) (by decide)).trans ((had16 (6) (by decide)).trans ((had13 (6) (by decide)).trans ((had10 (6) (by decide)).trans ((had7 (6) (by decide)).trans ((had4 (6) (by decide)).trans (had1 (6) (by decide))))))))))))) rfl 10 (by decide) (hts (.fieldLink RX3 46 "CaskYard$Saw" "narrowCut" "[I") (by decide +kernel)) (fun _ h9 => h9) rfl hin rfl (by decide +kernel) rfl rfl (Nat.le_of_ble_eq_true rfl) dX3_init_90 (fun H locs hP hD hS => ?_)
  rw [show ([.ref ((ad1 (7))), .ref ((ad4 (8))), .ref ((ad7 (9))), .ref ((ad10 (10))), .ref ((ad13 (11))), .ref ((ad16 (12))), .ref ((ad19 (13))), .ref ((ad22 (14))), .ref ((ad25 (15))), .ref ((ad28 (16))), .null, .int (nI (0)), .int (nI (0)), .int (nI (0))] : List Value).set 10 (.ref ((ad31 (17)))) = [.ref ((ad1 (7))), .ref ((ad4 (8))), .ref ((ad7 (9))), .ref ((ad10 (10))), .ref ((ad13 (11))), .ref ((ad16 (12))), .ref ((ad19 (13))), .ref ((ad22 (14))), .ref ((ad25 (15))), .ref ((ad28 (16))), .ref ((ad31 (17))), .int (nI (0)), .int (nI (0)), .int (nI (0))] from rfl] at hP hD
  rw [kW_setA hnd hp32 ((had31 (6) (by decide)).trans ((had28 (6) (by decide)).trans ((had25 (6) (by decide)).trans ((had22 (6) (by decide)).trans ((had19 (6) (by decide)).trans ((had16 (6) (by decide)).trans ((had13 (6) (by decide)).trans ((had10 (6) (by decide)).trans ((had7 (6) (by decide)).trans ((had4 (6) (by decide)).trans (had1 (6) (by decide))))))))))))] at hP hD
  obtain ⟨Ew33, hEw33⟩ : ∃ G, G = va_up Ew31 (6) (.inr (3, [.ref ((ad1 (7))), .ref ((ad4 (8))), .ref ((ad7 (9))), .ref ((ad10 (10))), .ref ((ad13 (11))), .ref ((ad16 (12))), .ref ((ad19 (13))), .ref ((ad22 (14))), .ref ((ad25 (15))), .ref ((ad28 (16))), .ref ((ad31 (17))), .int (nI (0)), .int (nI (0)), .int (nI (0))])) := ⟨_, rfl⟩
  have eEw33_13 : Ew33 (6) = .inr (3, [.ref ((ad1 (7))), .ref ((ad4 (8))), .ref ((ad7 (9))), .ref ((ad10 (10))), .ref ((ad13 (11))), .ref ((ad16 (12))), .ref ((ad19 (13))), .ref ((ad22 (14))), .ref ((ad25 (15))), .ref ((ad28 (16))), .ref ((ad31 (17))), .int (nI (0)), .int (nI (0)), .int (nI (0))]) := by rw [hEw33]; exact va_up_self _ _ _
  have eEw33_22 : Ew33 (7) = .inl (cy 4, 8, .inr (.inr (.inr (.inr (fun _ => none))))) := by rw [hEw33, va_up_ne _ _ (by decide)]; exact eEw31_22
  have eEw33_14 : Ew33 (8) = .inl (cy 0, 32, .inl (fun _ => 0)) := by rw [hEw33, va_up_ne _ _ (by decide)]; exact eEw31_14
  have eEw33_18 : Ew33 (9) = .inl (cy 0, 32, .inl (fun _ => 0)) := by rw [hEw33, va_up_ne _ _ (by decide)]; exact eEw31_18
  have eEw33_19 : Ew33 (10) = .inl (cy 0, 32, .inl (fun _ => 0)) := by rw [hEw33, va_up_ne _ _ (by decide)]; exact eEw31_19
  have eEw33_20 : Ew33 (11) = .inl (cy 0, 32, .inl (fun _ => 0)) := by rw [hEw33, va_up_ne _ _ (by decide)]; exact eEw31_20
  have eEw33_21 : Ew33 (12) = .inl (cy 0, 32, .inl (fun _ => 0)) := by rw [hEw33, va_up_ne _ _ (by decide)]; exact eEw31_21
  have eEw33_16 : Ew33 (13) = .inl (cy 0, 32, .inl (fun _ => 0)) := by rw [hEw33, va_up_ne _ _ (by decide)]; exact eEw31_16
  have eEw33_17 : Ew33 (14) = .inl (cy 0, 32, .inl (fun _ => 0)) := by rw [hEw33, va_up_ne _ _ (by decide)]; exact eEw31_17
  have eEw33_15 : Ew33 (15) = .inl (cy 1, 32, .inl (fun _ => 0)) := by rw [hEw33, va_up_ne _ _ (by decide)]; exact eEw31_15
  have eEw33_23 : Ew33 (16) = .inl (cy 0, 32, .inl (fun _ => 0)) := by rw [hEw33, va_up_ne _ _ (by decide)]; exact eEw31_23
  have eEw33_24 : Ew33 (17) = .inl (cy 0, 32, .inl (fun _ => 0)) := by rw [hEw33, va_up_ne _ _ (by decide)]; exact eEw31_24
  rw [← hEw33] at hP hD
  exact W.vret hx hb hr (fun t ht hW => ⟨⟨(ad31, Ew33), rfl, ⟨(fun j_ h0_ h1_ h2_ h3_ h4_ h5_ h6_ h7_ h8_ h9_ h10_ => by show ad31 j_ = ad j_; rw [had31 j_ h10_, had28 j_ h9_, had25 j_ h8_, had22 j_ h7_, had19 j_ h6_, had16 j_ h5_, had13 j_ h4_, had10 j_ h3_, had7 j_ h2_, had4 j_ h1_, had1 j_ h0_]), (by show Ew33 (6) = .inr (3, [.ref (ad31 (7)), .ref (ad31 (8)), .ref (ad31 (9)), .ref (ad31 (10)), .ref (ad31 (11)), .ref (ad31 (12)), .ref (ad31 (13)), .ref (ad31 (14)), .ref (ad31 (15)), .ref (ad31 (16)), .ref (ad31 (17)), .int (nI 0), .int (nI 0), .int (nI 0)]); rw [had31 (7) (by decide), had28 (7) (by decide), had25 (7) (by decide), had22 (7) (by decide), had19 (7) (by decide), had16 (7) (by decide), had13 (7) (by decide), had10 (7) (by decide), had7 (7) (by decide), had4 (7) (by decide), had31 (8) (by decide), had28 (8) (by decide), had25 (8) (by decide), had22 (8) (by decide), had19 (8) (by decide), had16 (8) (by decide), had13 (8) (by decide), had10 (8) (by decide), had7 (8) (by decide), had31 (9) (by decide), had28 (9) (by decide), had25 (9) (by decide), had22 (9) (by decide), had19 (9) (by decide), had16 (9) (by decide), had13 (9) (by decide), had10 (9) (by decide), had31 (10) (by decide), had28 (10) (by decide), had25 (10) (by decide), had22 (10) (by decide), had19 (10) (by decide), had16 (10) (by decide), had13 (10) (by decide), had31 (11) (by decide), had28 (11) (by decide), had25 (11) (by decide), had22 (11) (by decide), had19 (11) (by decide), had16 (11) (by decide), had31 (12) (by decide), had28 (12) (by decide), had25 (12) (by decide), had22 (12) (by decide), had19 (12) (by decide), had31 (13) (by decide), had28 (13) (by decide), had25 (13) (by decide), had22 (13) (by decide), had31 (14) (by decide), had28 (14) (by decide), had25 (14) (by decide), had31 (15) (by decide), had28 (15) (by decide), had31 (16) (by decide)]; exact eEw33_13), eEw33_22, eEw33_14, eEw33_18, eEw33_19, eEw33_20, eEw33_21, eEw33_16, eEw33_17, eEw33_15, eEw33_23, eEw33_24, (fun j_ ho_ h0_ h1_ h2_ h3_ h4_ h5_ h6_ h7_ h8_ h9_ h10_ => by show Ew33 j_ = E j_; rw [hEw33, va_up_ne _ _ ho_, hEw31, va_up_ne _ _ h10_, hEw30, va_up_ne _ _ ho_, hEw28, va_up_ne _ _ h9_, hEw27, va_up_ne _ _ ho_, hEw25, va_up_ne _ _ h8_, hEw24, va_up_ne _ _ ho_, hEw22, va_up_ne _ _ h7_, hEw21, va_up_ne _ _ ho_, hEw19, va_up_ne _ _ h6_, hEw18, va_up_ne _ _ ho_, hEw16, va_up_ne _ _ h5_, hEw15, va_up_ne _ _ ho_, hEw13, va_up_ne _ _ h4_, hEw12, va_up_ne _ _ ho_, hEw10, va_up_ne _ _ h3_, hEw9, va_up_ne _ _ ho_, hEw7, va_up_ne _ _ h2_, hEw6, va_up_ne _ _ ho_, hEw4, va_up_ne _ _ h1_, hEw3, va_up_ne _ _ ho_, hEw1, va_up_ne _ _ h0_])⟩, by rw [ht]; exact hP, va_K.moved hW.alike hK, hD⟩, hS.F ht⟩) hS.2.2 dX3_init_93
