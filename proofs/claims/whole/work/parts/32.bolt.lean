set_option maxHeartbeats 4000000 in
set_option maxRecDepth 100000 in
theorem c_X0_addPart (l : Launch) (D : va_G) (cy : Nat → ClassId) (sz : Nat) (K : List Nat) (ad : Nat → Nat) (E : Nat → va_E) (ko kb ke : Nat) (hko : ko ∈ K) (hkb : kb ∈ K) (hke : ke ∈ K) (hne : ko ≠ kb ∧ ko ≠ ke ∧ kb ≠ ke) (sp : Int32) (n : Nat) (f g : Nat → Int32) (hEko : E ko = cellB (ad kb) (ad ke) sp (nI (n))) (hEkb : E kb = rowI cy 4 f) (hEke : E ke = rowI cy 4 g) (hn4 : n ≤ 4) (a b : Nat) (ha6 : a ≤ 600) (hb6 : b ≤ 600) : Met l yX0_addPart wsX0_addPart ({ frames := 0, cells := 0, slots := 0, locals := 0 } : Room) (va_Pc [.ref ((ad (ko))), .int (nI (a)), .int (nI (b))] (wB2 D cy sz (kW K ad E))) (va_Qi (fun (r : Int32) (u : Nat → va_E) => ∃ (f' g' : Nat → Int32) (n' : Nat), u (ko) = .inr (0, [.int (sp), .ref ((ad (kb))), .ref ((ad (ke))), .int (nI (n'))]) ∧ u (kb) = .inl (cy 0, 4, .inl (f')) ∧ u (ke) = .inl (cy 0, 4, .inl (g')) ∧ (∀ j_ : Nat, j_ ≠ ko → j_ ≠ kb → j_ ≠ ke → u j_ = E j_) ∧ (a < b ∧ n < 4 → f' = upd f n (nI a) ∧ g' = upd g n (nI b) ∧ n' = n + 1) ∧ (¬ (a < b ∧ n < 4) → f' = f ∧ g' = g ∧ n' = n) ∧ r = bI (¬ (a < b ∧ 4 ≤ n))) (fun u t => wE D cy (va_A (kW K ad E) sz) (kW K ad u) t) (va_A (kW K ad E) sz)) 0 0 (va_A (kW K ad E) sz) := by
  refine Met.ofW (cc := cX0_addPart) (maxL := 3) (ret := (some .boolean)) (by decide) rfl ?_
  intro p e s m args below meth c s₁ B hml hv
  obtain ⟨rfl, ⟨hsz, hP, hK, hD0⟩, hN⟩ := hv
  have hx := B.exec
  have hb := B.bytes
  have hr := B.returns
  have hts := atoms_spec (ws := wsX0_addPart) B.pre
  have hown : s.vm.findClass RX0 = some m.cls := findClass_of_methodNamed B.named
  have hlocks := B.notSynchronized
  subst hsz
  have hD := hD0.self (sz := s.heap.size)
  generalize hAe : va_A (kW K ad E) s.heap.size = A at hD ⊢
  have hA : ∀ q : Nat, s.heap.size ≤ q → A q := w_A hAe
  have hS : va_S A s.heap s.heap [] := va_S.rf
  have hnd := kW_nd hD
  have hl := lv_entry ([.ref ((ad (ko))), .int (nI (a)), .int (nI (b))]) (n := 3) (Nat.le_of_ble_eq_true rfl)
  rw [lg_entry_eq]
  generalize (lg_sl ([.ref ((ad (ko))), .int (nI (a)), .int (nI (b))]) ++ List.replicate (3 - (lg_sl ([.ref ((ad (ko))), .int (nI (a)), .int (nI (b))])).length) Slot.unset).toArray = ls at hl ⊢
  have hl : lv_has ls 3 [(0, .ref ((ad (ko)))), (1, .int (nI (a))), (2, .int (nI (b)))] := hl
  refine lv_iload_n hx hb dX0_addPart_0 rfl (lv_at hl 1 rfl) ?_
  refine lv_iload_n hx hb dX0_addPart_1 rfl (lv_at hl 2 rfl) ?_
  refine g_icmp_lt (tgt := 7) hx hb dX0_addPart_2 (by decide) (n_i (by omega)) (n_i (by omega)) (fun c_2 => ?_) (fun c_2 => ?_)
  · skip
    refine lv_aload_n hx hb dX0_addPart_7 rfl (lv_at hl 0 rfl) ?_
    obtain ⟨p1, hp1⟩ := kW_pos hko
    refine va_get (D := D) (ci := 0) (v := .int (nI (n))) (C := RX0) (T := TX0) (N := 4) hx hb hts (by decide +kernel) hown hK hP p1 (kW_get hp1 hEko) rfl 3 (by decide) (hts (.fieldLink RX0 22 "CaskYard$Bolt" "parts" "I") (by decide +kernel)) (fun _ h9 => h9) rfl dX0_addPart_8 ?_
    refine lv_iconst (v := (nI (4))) hx hb dX0_addPart_11 (by decide) ?_
    refine g_icmp_lt (tgt := 17) hx hb dX0_addPart_12 (by decide) (n_i (by omega)) (n_i (by omega)) (fun c_12 => ?_) (fun c_12 => ?_)
    · skip
      refine lv_aload_n hx hb dX0_addPart_17 rfl (lv_at hl 0 rfl) ?_
      obtain ⟨p2, hp2⟩ := kW_pos hko
      refine va_get (D := D) (ci := 0) (v := .ref ((ad (kb)))) (C := RX0) (T := TX0) (N := 4) hx hb hts (by decide +kernel) hown hK hP p2 (kW_get hp2 hEko) rfl 1 (by decide) (hts (.fieldLink RX0 9 "CaskYard$Bolt" "begin" "[I") (by decide +kernel)) (fun _ h9 => h9) rfl dX0_addPart_18 ?_
      refine lv_aload_n hx hb dX0_addPart_21 rfl (lv_at hl 0 rfl) ?_
      obtain ⟨p3, hp3⟩ := kW_pos hko
      refine va_get (D := D) (ci := 0) (v := .int (nI (n))) (C := RX0) (T := TX0) (N := 4) hx hb hts (by decide +kernel) hown hK hP p3 (kW_get hp3 hEko) rfl 3 (by decide) (hts (.fieldLink RX0 22 "CaskYard$Bolt" "parts" "I") (by decide +kernel)) (fun _ h9 => h9) rfl dX0_addPart_22 ?_
      refine lv_iload_n hx hb dX0_addPart_25 rfl (lv_at hl 1 rfl) ?_
      obtain ⟨p4, hp4⟩ := kW_pos hkb
      refine g_iast hx hb hK hP hD hS p4 0 (kW_get hp4 hEkb) rfl (n) rfl (by omega) (by decide) dX0_addPart_26 (fun H locs hP hD hS => ?_)
      rw [kW_set hnd hp4] at hP hD
      obtain ⟨Ew5, hEw5⟩ : ∃ G, G = va_up E (kb) (.inl (cy 0, 4, .inl (upd (f) (n) (nI (a))))) := ⟨_, rfl⟩
      have eEw5_0 : Ew5 (kb) = .inl (cy 0, 4, .inl (upd (f) (n) (nI (a)))) := by rw [hEw5]; exact va_up_self _ _ _
      rw [← hEw5] at hP hD
      refine lv_aload_n hx hb dX0_addPart_27 rfl (lv_at hl 0 rfl) ?_
      obtain ⟨p6, hp6⟩ := kW_pos hko
      refine va_get (D := D) (ci := 0) (v := .ref ((ad (ke)))) (C := RX0) (T := TX0) (N := 4) hx hb hts (by decide +kernel) hown hK hP p6 (kW_get hp6 (show Ew5 (ko) = .inr (0, [.int (sp), .ref ((ad (kb))), .ref ((ad (ke))), .int (nI (n))]) by rw [hEw5, va_up_ne _ _ (by omega)]; exact hEko)) rfl 2 (by decide) (hts (.fieldLink RX0 15 "CaskYard$Bolt" "end" "[I") (by decide +kernel)) (fun _ h9 => h9) rfl dX0_addPart_28 ?_
      refine lv_aload_n hx hb dX0_addPart_31 rfl (lv_at hl 0 rfl) ?_
      obtain ⟨p7, hp7⟩ := kW_pos hko
      refine va_get (D := D) (ci := 0) (v := .int (nI (n))) (C := RX0) (T := TX0) (N := 4) hx hb hts (by decide +kernel) hown hK hP p7 (kW_get hp7 (show Ew5 (ko) = .inr (0, [.int (sp), .ref ((ad (kb))), .ref ((ad (ke))), .int (nI (n))]) by rw [hEw5, va_up_ne _ _ (by omega)]; exact hEko)) rfl 3 (by decide) (hts (.fieldLink RX0 22 "CaskYard$Bolt" "parts" "I") (by decide +kernel)) (fun _ h9 => h9) rfl dX0_addPart_32 ?_
      refine lv_iload_n hx hb dX0_addPart_35 rfl (lv_at hl 2 rfl) ?_
      obtain ⟨p8, hp8⟩ := kW_pos hke
      refine g_iast hx hb hK hP hD hS p8 0 (kW_get hp8 (show Ew5 (ke) = .inl (cy 0, 4, .inl (g)) by rw [hEw5, va_up_ne _ _ (by omega)]; exact hEke)) rfl (n) rfl (by omega) (by decide) dX0_addPart_36 (fun H locs hP hD hS => ?_)
      rw [kW_set hnd hp8] at hP hD
      obtain ⟨Ew9, hEw9⟩ : ∃ G, G = va_up Ew5 (ke) (.inl (cy 0, 4, .inl (upd (g) (n) (nI (b))))) := ⟨_, rfl⟩
      have eEw9_1 : Ew9 (ke) = .inl (cy 0, 4, .inl (upd (g) (n) (nI (b)))) := by rw [hEw9]; exact va_up_self _ _ _
      have eEw9_0 : Ew9 (kb) = .inl (cy 0, 4, .inl (upd (f) (n) (nI (a)))) := by rw [hEw9, va_up_ne _ _ (by omega)]; exact eEw5_0
      rw [← hEw9] at hP hD
      refine lv_aload_n hx hb dX0_addPart_37 rfl (lv_at hl 0 rfl) ?_
      refine lv_dup hx hb dX0_addPart_38 rfl ?_
      obtain ⟨p10, hp10⟩ := kW_pos hko
      refine va_get (D := D) (ci := 0) (v := .int (nI (n))) (C := RX0) (T := TX0) (N := 4) hx hb hts (by decide +kernel) hown hK hP p10 (kW_get hp10 (show Ew9 (ko) = .inr (0, [.int (sp), .ref ((ad (kb))), .ref ((ad (ke))), .int (nI (n))]) by rw [hEw9, va_up_ne _ _ (by omega), hEw5, va_up_ne _ _ (by omega)]; exact hEko)) rfl 3 (by decide) (hts (.fieldLink RX0 22 "CaskYard$Bolt" "parts" "I") (by decide +kernel)) (fun _ h9 => h9) rfl dX0_addPart_39 ?_
      refine lv_iconst (v := (nI (1))) hx hb dX0_addPart_42 (by decide) ?_
      refine g_iadd_n hx hb dX0_addPart_43 ?_
      obtain ⟨p11, hp11⟩ := kW_pos hko
      refine va_put (D := D) (ci := 0) (v := .int (nI (n + 1))) (ty := .int) (C := RX0) (T := TX0) (N := 4) hx hb hts (by decide +kernel) tyX0 tyX0_ok nmX0 hown hK hP hD hS p11 (kW_get hp11 (show Ew9 (ko) = .inr (0, [.int (sp), .ref ((ad (kb))), .ref ((ad (ke))), .int (nI (n))]) by rw [hEw9, va_up_ne _ _ (by omega), hEw5, va_up_ne _ _ (by omega)]; exact hEko)) rfl 3 (by decide) (hts (.fieldLink RX0 22 "CaskYard$Bolt" "parts" "I") (by decide +kernel)) (fun _ h9 => h9) rfl (by decide +kernel) rfl rfl (Nat.le_of_ble_eq_true rfl) dX0_addPart_44 (fun H locs hP hD hS => ?_)
      rw [show ([.int (sp), .ref ((ad (kb))), .ref ((ad (ke))), .int (nI (n))] : List Value).set 3 (.int (nI (n + 1))) = [.int (sp), .ref ((ad (kb))), .ref ((ad (ke))), .int (nI (n + 1))] from rfl] at hP hD
      rw [kW_set hnd hp11] at hP hD
      obtain ⟨Ew12, hEw12⟩ : ∃ G, G = va_up Ew9 (ko) (.inr (0, [.int (sp), .ref ((ad (kb))), .ref ((ad (ke))), .int (nI (n + 1))])) := ⟨_, rfl⟩
      have eEw12_2 : Ew12 (ko) = .inr (0, [.int (sp), .ref ((ad (kb))), .ref ((ad (ke))), .int (nI (n + 1))]) := by rw [hEw12]; exact va_up_self _ _ _
      have eEw12_0 : Ew12 (kb) = .inl (cy 0, 4, .inl (upd (f) (n) (nI (a)))) := by rw [hEw12, va_up_ne _ _ (by omega)]; exact eEw9_0
      have eEw12_1 : Ew12 (ke) = .inl (cy 0, 4, .inl (upd (g) (n) (nI (b)))) := by rw [hEw12, va_up_ne _ _ (by omega)]; exact eEw9_1
      rw [← hEw12] at hP hD
      refine lv_iconst (v := (nI (1))) hx hb dX0_addPart_47 (by decide) ?_
      exact W.zret (v := (nI (1))) hx hb hr (by decide) (fun t ht hW => ⟨⟨_, Ew12, rfl, ⟨upd f n (nI a), upd g n (nI b), n + 1, eEw12_2, eEw12_0, eEw12_1, (fun j_ h0_ h1_ h2_ => by rw [hEw12, va_up_ne _ _ h0_, hEw9, va_up_ne _ _ h2_, hEw5, va_up_ne _ _ h1_]), fun _ => ⟨rfl, rfl, rfl⟩, fun q9 => absurd ⟨by omega, by omega⟩ q9, (bI_t (by omega)).symm⟩, by rw [ht]; exact hP, va_K.moved hW.alike hK, hD⟩, hS.F ht⟩) hS.2.2 dX0_addPart_48
    · skip
      refine lv_iconst (v := (nI (0))) hx hb dX0_addPart_15 (by decide) ?_
      exact W.zret (v := (nI (0))) hx hb hr (by decide) (fun t ht hW => ⟨⟨_, E, rfl, ⟨f, g, n, hEko, hEkb, hEke, (fun j_ h0_ h1_ h2_ => rfl), fun q9 => by omega, fun _ => ⟨rfl, rfl, rfl⟩, (bI_f (by omega)).symm⟩, by rw [ht]; exact hP, va_K.moved hW.alike hK, hD⟩, hS.F ht⟩) hS.2.2 dX0_addPart_16
  · skip
    refine lv_iconst (v := (nI (1))) hx hb dX0_addPart_5 (by decide) ?_
    exact W.zret (v := (nI (1))) hx hb hr (by decide) (fun t ht hW => ⟨⟨_, E, rfl, ⟨f, g, n, hEko, hEkb, hEke, (fun j_ h0_ h1_ h2_ => rfl), fun q9 => by omega, fun _ => ⟨rfl, rfl, rfl⟩, (bI_t (by omega)).symm⟩, by rw [ht]; exact hP, va_K.moved hW.alike hK, hD⟩, hS.F ht⟩) hS.2.2 dX0_addPart_6
set_option maxHeartbeats 4000000 in
set_option maxRecDepth 100000 in
theorem c_X0_dropEmptyParts (l : Launch) (D : va_G) (cy : Nat → ClassId) (sz : Nat) (K : List Nat) (ad : Nat → Nat) (E : Nat → va_E) (ko kb ke : Nat) (hko : ko ∈ K) (hkb : kb ∈ K) (hke : ke ∈ K) (hne : ko ≠ kb ∧ ko ≠ ke ∧ kb ≠ ke) (sp : Int32) (L : List (Nat × Nat)) (f g : Nat → Int32) (hEko : E ko = cellB (ad kb) (ad ke) sp (nI (L.length))) (hEkb : E kb = rowI cy 4 f) (hEke : E ke = rowI cy 4 g) (hL : L.length ≤ 4) (hAr : arrP f g 0 L) (hq : ∀ q ∈ L, q.1 ≤ 600 ∧ q.2 ≤ 600) : Met l yX0_dropEmptyParts wsX0_dropEmptyParts ({ frames := 1, cells := 0, slots := 0, locals := 22 } : Room) (va_Pc [.ref ((ad (ko)))] (wB2 D cy sz (kW K ad E))) (va_Qv (fun (u : Nat → va_E) => ∃ f' g', u (ko) = .inr (0, [.int (sp), .ref ((ad (kb))), .ref ((ad (ke))), .int (nI ((dropP L).length))]) ∧ u (kb) = .inl (cy 0, 4, .inl (f')) ∧ u (ke) = .inl (cy 0, 4, .inl (g')) ∧ (∀ j_ : Nat, j_ ≠ ko → j_ ≠ kb → j_ ≠ ke → u j_ = E j_) ∧ arrP f' g' 0 (dropP L)) (fun u t => wE D cy (va_A (kW K ad E) sz) (kW K ad u) t) (va_A (kW K ad E) sz)) 0 0 (va_A (kW K ad E) sz) := by
  refine Met.ofW (cc := cX0_dropEmptyParts) (maxL := 3) (ret := none) (by decide) rfl ?_
  intro p e s m args below meth c s₁ B hml hv
  obtain ⟨rfl, ⟨hsz, hP, hK, hD0⟩, hN⟩ := hv
  have hx := B.exec
  have hb := B.bytes
  have hr := B.returns
  have hts := atoms_spec (ws := wsX0_dropEmptyParts) B.pre
  have hown : s.vm.findClass RX0 = some m.cls := findClass_of_methodNamed B.named
  have hlocks := B.notSynchronized
  subst hsz
  have hD := hD0.self (sz := s.heap.size)
  generalize hAe : va_A (kW K ad E) s.heap.size = A at hD ⊢
  have hA : ∀ q : Nat, s.heap.size ≤ q → A q := w_A hAe
  have hS : va_S A s.heap s.heap [] := va_S.rf
  have hnd := kW_nd hD
  have hl := lv_entry ([.ref ((ad (ko)))]) (n := 3) (Nat.le_of_ble_eq_true rfl)
  rw [lg_entry_eq]
  generalize (lg_sl ([.ref ((ad (ko)))]) ++ List.replicate (3 - (lg_sl ([.ref ((ad (ko)))])).length) Slot.unset).toArray = ls at hl ⊢
  have hl : lv_has ls 3 [(0, .ref ((ad (ko))))] := hl
  refine lv_aload_n hx hb dX0_dropEmptyParts_0 rfl (lv_at hl 0 rfl) ?_
  obtain ⟨p1, hp1⟩ := kW_pos hko
  refine va_get (D := D) (ci := 0) (v := .int (nI (L.length))) (C := RX0) (T := TX0) (N := 4) hx hb hts (by decide +kernel) hown hK hP p1 (kW_get hp1 hEko) rfl 3 (by decide) (hts (.fieldLink RX0 22 "CaskYard$Bolt" "parts" "I") (by decide +kernel)) (fun _ h9 => h9) rfl dX0_dropEmptyParts_1 ?_
  refine lv_istore_n (lv' := [(1, .int (nI (L.length))), (0, .ref ((ad (ko))))]) hx hb dX0_dropEmptyParts_4 rfl hl (by decide) rfl (fun ls hl => ?_)
  refine lv_aload_n hx hb dX0_dropEmptyParts_5 rfl (lv_at hl 1 rfl) ?_
  refine lv_iconst (v := (nI (0))) hx hb dX0_dropEmptyParts_6 (by decide) ?_
  obtain ⟨p2, hp2⟩ := kW_pos hko
  refine va_put (D := D) (ci := 0) (v := .int (nI (0))) (ty := .int) (C := RX0) (T := TX0) (N := 4) hx hb hts (by decide +kernel) tyX0 tyX0_ok nmX0 hown hK hP hD hS p2 (kW_get hp2 hEko) rfl 3 (by decide) (hts (.fieldLink RX0 22 "CaskYard$Bolt" "parts" "I") (by decide +kernel)) (fun _ h9 => h9) rfl (by decide +kernel) rfl rfl (Nat.le_of_ble_eq_true rfl) dX0_dropEmptyParts_7 (fun H locs hP hD hS => ?_)
  rw [show ([.int (sp), .ref ((ad (kb))), .ref ((ad (ke))), .int (nI (L.length))] : List Value).set 3 (.int (nI (0))) = [.int (sp), .ref ((ad (kb))), .ref ((ad (ke))), .int (nI (0))] from rfl] at hP hD
  rw [kW_set hnd hp2] at hP hD
  obtain ⟨Ew3, hEw3⟩ : ∃ G, G = va_up E (ko) (.inr (0, [.int (sp), .ref ((ad (kb))), .ref ((ad (ke))), .int (nI (0))])) := ⟨_, rfl⟩
  have eEw3_2 : Ew3 (ko) = .inr (0, [.int (sp), .ref ((ad (kb))), .ref ((ad (ke))), .int (nI (0))]) := by rw [hEw3]; exact va_up_self _ _ _
  rw [← hEw3] at hP hD
  refine lv_iconst (v := (nI (0))) hx hb dX0_dropEmptyParts_10 (by decide) ?_
  refine lv_istore_n (lv' := [(2, .int (nI (0))), (1, .int (nI (L.length))), (0, .ref ((ad (ko))))]) hx hb dX0_dropEmptyParts_11 rfl hl (by decide) rfl (fun ls hl => ?_)
  have loop_12 : ∀ (n_ : Nat) (i : Nat) (k9 : Nat) (f9 : Nat → Int32) (g9 : Nat → Int32) (Ec : Nat → va_E) (H : Heap) (locs : List Loc), va_P D vwCl (kW K ad Ec) H → va_D A (kW K ad Ec) → va_S A s.heap H locs → (i ≤ L.length) → (k9 = (dropP (L.take i)).length) → (arrP f9 g9 0 (dropP (L.take i))) → (∀ j, k9 ≤ j → f9 j = f j ∧ g9 j = g j) → (Ec (ko) = .inr (0, [.int (sp), .ref ((ad (kb))), .ref ((ad (ke))), .int (nI (k9))])) → (Ec (kb) = .inl (cy 0, 4, .inl (f9))) → (Ec (ke) = .inl (cy 0, 4, .inl (g9))) → (∀ j_ : Nat, j_ ≠ ko → j_ ≠ kb → j_ ≠ ke → Ec j_ = Ew3 j_) → L.length - i < n_ → ∀ (ls : Array Slot), lv_has ls 3 [(0, .ref ((ad (ko)))), (1, .int (nI (L.length))), (2, .int (nI (i)))] → W p l e (headSpec wsX0_dropEmptyParts ({ frames := 1, cells := 0, slots := 0, locals := 22 } : Room)).room s m ([.ref ((ad (ko)))] : List Value).toArray below meth c H locs 0 0 (MQ below (va_Qv (fun (u : Nat → va_E) => ∃ f' g', u (ko) = .inr (0, [.int (sp), .ref ((ad (kb))), .ref ((ad (ke))), .int (nI ((dropP L).length))]) ∧ u (kb) = .inl (cy 0, 4, .inl (f')) ∧ u (ke) = .inl (cy 0, 4, .inl (g')) ∧ (∀ j_ : Nat, j_ ≠ ko → j_ ≠ kb → j_ ≠ ke → u j_ = E j_) ∧ arrP f' g' 0 (dropP L)) (fun u t => wE D cy A (kW K ad u) t) A) ([.ref ((ad (ko)))] : List Value).toArray s 0 0 A) (F0 m 12 ls []) := by
    intro n_
    induction n_ with
    | zero => intro i k9 f9 g9 Ec H locs hP hD hS hi hk hA2 hO9 hk_12_0 hk_12_1 hk_12_2 hO_12 hm_; exact absurd hm_ (Nat.not_lt_zero _)
    | succ n_ ih_12 =>
      intro i k9 f9 g9 Ec H locs hP hD hS hi hk hA2 hO9 hk_12_0 hk_12_1 hk_12_2 hO_12 hm_ ls hl
      refine lv_iload_n hx hb dX0_dropEmptyParts_12 rfl (lv_at hl 2 rfl) ?_
      refine lv_iload_n hx hb dX0_dropEmptyParts_13 rfl (lv_at hl 1 rfl) ?_
      refine g_icmp_ge (tgt := 40) hx hb dX0_dropEmptyParts_14 (by decide) (n_i (by omega)) (n_i (by omega)) (fun c_14 => ?_) (fun c_14 => ?_)
      · skip
        have hii : i = L.length := by omega
        rw [hii, List.take_length] at hk hA2
        subst hk
        exact W.vret hx hb hr (fun t ht hW => ⟨⟨Ec, rfl, ⟨f9, g9, hk_12_0, hk_12_1, hk_12_2, (fun j_ h0_ h1_ h2_ => by rw [hO_12 j_ h0_ h1_ h2_, hEw3, va_up_ne _ _ h0_]), hA2⟩, by rw [ht]; exact hP, va_K.moved hW.alike hK, hD⟩, hS.F ht⟩) hS.2.2 dX0_dropEmptyParts_40
      · skip
        have hki : k9 ≤ i := by rw [hk]; exact Nat.le_trans (dropP_len _) (by simp; omega)
        have hq9 := hq _ (paD_mem (L := L) (i := i) (by omega))
        refine lv_aload_n hx hb dX0_dropEmptyParts_17 rfl (lv_at hl 0 rfl) ?_
        refine lv_aload_n hx hb dX0_dropEmptyParts_18 rfl (lv_at hl 0 rfl) ?_
        obtain ⟨p4, hp4⟩ := kW_pos hko
        refine va_get (D := D) (ci := 0) (v := .ref ((ad (kb)))) (C := RX0) (T := TX0) (N := 4) hx hb hts (by decide +kernel) hown hK hP p4 (kW_get hp4 hk_12_0) rfl 1 (by decide) (hts (.fieldLink RX0 9 "CaskYard$Bolt" "begin" "[I") (by decide +kernel)) (fun _ h9 => h9) rfl dX0_dropEmptyParts_19 ?_
        refine lv_iload_n hx hb dX0_dropEmptyParts_22 rfl (lv_at hl 2 rfl) ?_
        obtain ⟨p5, hp5⟩ := kW_pos hkb
        refine g_iald hx hb hK hP p5 0 (kW_get hp5 hk_12_1) rfl (i) rfl (by omega) (by decide) dX0_dropEmptyParts_23 ?_
        refine g_top (y := (nI ((paD L i).1))) ((hO9 i (by omega)).1.trans (arrP_0 hAr (by omega)).1) ?_
        refine lv_aload_n hx hb dX0_dropEmptyParts_24 rfl (lv_at hl 0 rfl) ?_
        obtain ⟨p6, hp6⟩ := kW_pos hko
        refine va_get (D := D) (ci := 0) (v := .ref ((ad (ke)))) (C := RX0) (T := TX0) (N := 4) hx hb hts (by decide +kernel) hown hK hP p6 (kW_get hp6 hk_12_0) rfl 2 (by decide) (hts (.fieldLink RX0 15 "CaskYard$Bolt" "end" "[I") (by decide +kernel)) (fun _ h9 => h9) rfl dX0_dropEmptyParts_25 ?_
        refine lv_iload_n hx hb dX0_dropEmptyParts_28 rfl (lv_at hl 2 rfl) ?_
        obtain ⟨p7, hp7⟩ := kW_pos hke
        refine g_iald hx hb hK hP p7 0 (kW_get hp7 hk_12_2) rfl (i) rfl (by omega) (by decide) dX0_dropEmptyParts_29 ?_
        refine g_top (y := (nI ((paD L i).2))) ((hO9 i (by omega)).2.trans (arrP_0 hAr (by omega)).2) ?_
        have hFc := w_free hD hS hA
        obtain ⟨p8, hp8⟩ := kW_pos hko
        refine va_calli (va_runV (As := [.int (nI ((paD L i).1)), .int (nI ((paD L i).2))]) (rest := []) ⟨hx, hb, hml, hown, hts⟩ (c_X0_addPart l D cy H.size K ad Ec (ko) (kb) (ke) (hko) (hkb) (hke) (⟨by omega, by omega, by omega⟩) (sp) (k9) (f9) (g9) (hk_12_0) (hk_12_1) (hk_12_2) (by omega) ((paD L i).1) ((paD L i).2) (by omega) (by omega)) (cwV 2 hts gX0_dropEmptyParts_X0_addPart rfl rfl rfl (by decide +kernel) ⟨Nat.le_of_ble_eq_true rfl, Nat.le_of_ble_eq_true rfl⟩) ⟨wB2_blind, va_recv hK hP (ci := 0) (q0 := p8) rfl (kW_get hp8 hk_12_0), wB2_pre hP hK hD hN⟩ rfl rfl hl.1 rfl (lv_room (Nat.le_of_ble_eq_true rfl)) dX0_dropEmptyParts_30 ⟨Nat.le_of_ble_eq_true rfl, Nat.le_of_ble_eq_true rfl⟩) hS (fun q _ h => hFc q h) hFc (fun r_30 E_30 t_ H locs ht hvm hw_30 hB _ _ hS => ?_)
        obtain ⟨hP1, hK1, hD1⟩ := hB
        rw [ht] at hP1
        have hP := hP1
        have hD := hD1.weaken (fun _ _ _ h => hFc _ h)
        obtain ⟨f30, g30, n30, k30_0, k30_1, k30_2, hO30, ha30, hb30, hres_30⟩ := hw_30
        have hst := drop_step (by omega) hL hk hA2 hO9 ha30 hb30
        refine g_top (y := (bI (¬ ((paD L i).1 < (paD L i).2 ∧ 4 ≤ k9)))) (hres_30) ?_
        refine lv_pop hx hb dX0_dropEmptyParts_33 rfl ?_
        refine lv_iinc (v := (nI (i + 1))) (lv' := [(2, .int (nI (i + 1))), (0, .ref ((ad (ko)))), (1, .int (nI (L.length)))]) hx hb dX0_dropEmptyParts_34 hl (k := 2) rfl (nI_add _ _) (by decide) rfl (fun ls hl => ?_)
        refine lv_goto (tgt := 12) hx hb dX0_dropEmptyParts_37 (by decide) ?_
        exact ih_12 (i + 1) (n30) (f30) (g30) (E_30) H locs hP hD hS (by omega) hst.1 hst.2.1 hst.2.2 k30_0 k30_1 k30_2 (fun j_ h0_ h1_ h2_ => by rw [hO30 j_ h0_ h1_ h2_, hO_12 j_ h0_ h1_ h2_]) (by omega) ls (lv_sub hl [1, 2, 0] rfl)
  exact loop_12 _ (0) (0) (f) (g) (Ew3) H locs hP hD hS (by omega) rfl (arrP_nil _ _ _) (fun j _ => ⟨rfl, rfl⟩) eEw3_2 (show Ew3 (kb) = .inl (cy 0, 4, .inl (f)) by rw [hEw3, va_up_ne _ _ (by omega)]; exact hEkb) (show Ew3 (ke) = .inl (cy 0, 4, .inl (g)) by rw [hEw3, va_up_ne _ _ (by omega)]; exact hEke) (fun j_ h0_ h1_ h2_ => rfl) (Nat.lt_succ_self _) ls (lv_sub hl [2, 1, 0] rfl)
set_option maxHeartbeats 4000000 in
set_option maxRecDepth 100000 in
theorem c_X0_takePartsOf (l : Launch) (D : va_G) (cy : Nat → ClassId) (sz : Nat) (K : List Nat) (ad : Nat → Nat) (E : Nat → va_E) (ko kb ke : Nat) (hko : ko ∈ K) (hkb : kb ∈ K) (hke : ke ∈ K) (sp : Int32) (n : Nat) (f g : Nat → Int32) (hEko : E ko = cellB (ad kb) (ad ke) sp (nI (n))) (hEkb : E kb = rowI cy 4 f) (hEke : E ke = rowI cy 4 g) (qo qb qe : Nat) (hqo : qo ∈ K) (hqb : qb ∈ K) (hqe : qe ∈ K) (so : Int32) (L : List (Nat × Nat)) (fo go : Nat → Int32) (hEqo : E qo = cellB (ad qb) (ad qe) so (nI (L.length))) (hEqb : E qb = rowI cy 4 fo) (hEqe : E qe = rowI cy 4 go) (hne : ko ≠ kb ∧ ko ≠ ke ∧ kb ≠ ke) (hne2 : ko ≠ qo ∧ ko ≠ qb ∧ ko ≠ qe ∧ kb ≠ qo ∧ kb ≠ qb ∧ kb ≠ qe ∧ ke ≠ qo ∧ ke ≠ qb ∧ ke ≠ qe) (hL : L.length ≤ 4) (hAr : arrP fo go 0 L) : Met l yX0_takePartsOf wsX0_takePartsOf ({ frames := 0, cells := 0, slots := 0, locals := 0 } : Room) (va_Pc [.ref ((ad (ko))), .ref ((ad (qo)))] (wB2 D cy sz (kW K ad E))) (va_Qv (fun (u : Nat → va_E) => ∃ f' g', u (ko) = .inr (0, [.int (sp), .ref ((ad (kb))), .ref ((ad (ke))), .int (nI (L.length))]) ∧ u (kb) = .inl (cy 0, 4, .inl (f')) ∧ u (ke) = .inl (cy 0, 4, .inl (g')) ∧ (∀ j_ : Nat, j_ ≠ ko → j_ ≠ kb → j_ ≠ ke → u j_ = E j_) ∧ arrP f' g' 0 L) (fun u t => wE D cy (va_A (kW K ad E) sz) (kW K ad u) t) (va_A (kW K ad E) sz)) 0 0 (va_A (kW K ad E) sz) := by
  refine Met.ofW (cc := cX0_takePartsOf) (maxL := 3) (ret := none) (by decide) rfl ?_
  intro p e s m args below meth c s₁ B hml hv
  obtain ⟨rfl, ⟨hsz, hP, hK, hD0⟩, hN⟩ := hv
  have hx := B.exec
  have hb := B.bytes
  have hr := B.returns
  have hts := atoms_spec (ws := wsX0_takePartsOf) B.pre
  have hown : s.vm.findClass RX0 = some m.cls := findClass_of_methodNamed B.named
  have hlocks := B.notSynchronized
  subst hsz
  have hD := hD0.self (sz := s.heap.size)
  generalize hAe : va_A (kW K ad E) s.heap.size = A at hD ⊢
  have hA : ∀ q : Nat, s.heap.size ≤ q → A q := w_A hAe
  have hS : va_S A s.heap s.heap [] := va_S.rf
  have hnd := kW_nd hD
  have hl := lv_entry ([.ref ((ad (ko))), .ref ((ad (qo)))]) (n := 3) (Nat.le_of_ble_eq_true rfl)
  rw [lg_entry_eq]
  generalize (lg_sl ([.ref ((ad (ko))), .ref ((ad (qo)))]) ++ List.replicate (3 - (lg_sl ([.ref ((ad (ko))), .ref ((ad (qo)))])).length) Slot.unset).toArray = ls at hl ⊢
  have hl : lv_has ls 3 [(0, .ref ((ad (ko)))), (1, .ref ((ad (qo))))] := hl
  refine lv_aload_n hx hb dX0_takePartsOf_0 rfl (lv_at hl 0 rfl) ?_
  refine lv_aload_n hx hb dX0_takePartsOf_1 rfl (lv_at hl 1 rfl) ?_
  obtain ⟨p1, hp1⟩ := kW_pos hqo
  refine va_get (D := D) (ci := 0) (v := .int (nI (L.length))) (C := RX0) (T := TX0) (N := 4) hx hb hts (by decide +kernel) hown hK hP p1 (kW_get hp1 hEqo) rfl 3 (by decide) (hts (.fieldLink RX0 22 "CaskYard$Bolt" "parts" "I") (by decide +kernel)) (fun _ h9 => h9) rfl dX0_takePartsOf_2 ?_
  obtain ⟨p2, hp2⟩ := kW_pos hko
  refine va_put (D := D) (ci := 0) (v := .int (nI (L.length))) (ty := .int) (C := RX0) (T := TX0) (N := 4) hx hb hts (by decide +kernel) tyX0 tyX0_ok nmX0 hown hK hP hD hS p2 (kW_get hp2 hEko) rfl 3 (by decide) (hts (.fieldLink RX0 22 "CaskYard$Bolt" "parts" "I") (by decide +kernel)) (fun _ h9 => h9) rfl (by decide +kernel) rfl rfl (Nat.le_of_ble_eq_true rfl) dX0_takePartsOf_5 (fun H locs hP hD hS => ?_)
  rw [show ([.int (sp), .ref ((ad (kb))), .ref ((ad (ke))), .int (nI (n))] : List Value).set 3 (.int (nI (L.length))) = [.int (sp), .ref ((ad (kb))), .ref ((ad (ke))), .int (nI (L.length))] from rfl] at hP hD
  rw [kW_set hnd hp2] at hP hD
  obtain ⟨Ew3, hEw3⟩ : ∃ G, G = va_up E (ko) (.inr (0, [.int (sp), .ref ((ad (kb))), .ref ((ad (ke))), .int (nI (L.length))])) := ⟨_, rfl⟩
  have eEw3_2 : Ew3 (ko) = .inr (0, [.int (sp), .ref ((ad (kb))), .ref ((ad (ke))), .int (nI (L.length))]) := by rw [hEw3]; exact va_up_self _ _ _
  rw [← hEw3] at hP hD
  refine lv_iconst (v := (nI (0))) hx hb dX0_takePartsOf_8 (by decide) ?_
  refine lv_istore_n (lv' := [(2, .int (nI (0))), (0, .ref ((ad (ko)))), (1, .ref ((ad (qo))))]) hx hb dX0_takePartsOf_9 rfl hl (by decide) rfl (fun ls hl => ?_)
  have loop_10 : ∀ (n_ : Nat) (i : Nat) (f9 : Nat → Int32) (g9 : Nat → Int32) (Ec : Nat → va_E) (H : Heap) (locs : List Loc), va_P D vwCl (kW K ad Ec) H → va_D A (kW K ad Ec) → va_S A s.heap H locs → (i ≤ L.length) → (arrP f9 g9 0 (L.take i)) → (Ec (kb) = .inl (cy 0, 4, .inl (f9))) → (Ec (ke) = .inl (cy 0, 4, .inl (g9))) → (∀ j_ : Nat, j_ ≠ kb → j_ ≠ ke → Ec j_ = Ew3 j_) → L.length - i < n_ → ∀ (ls : Array Slot), lv_has ls 3 [(0, .ref ((ad (ko)))), (1, .ref ((ad (qo)))), (2, .int (nI (i)))] → W p l e (headSpec wsX0_takePartsOf ({ frames := 0, cells := 0, slots := 0, locals := 0 } : Room)).room s m ([.ref ((ad (ko))), .ref ((ad (qo)))] : List Value).toArray below meth c H locs 0 0 (MQ below (va_Qv (fun (u : Nat → va_E) => ∃ f' g', u (ko) = .inr (0, [.int (sp), .ref ((ad (kb))), .ref ((ad (ke))), .int (nI (L.length))]) ∧ u (kb) = .inl (cy 0, 4, .inl (f')) ∧ u (ke) = .inl (cy 0, 4, .inl (g')) ∧ (∀ j_ : Nat, j_ ≠ ko → j_ ≠ kb → j_ ≠ ke → u j_ = E j_) ∧ arrP f' g' 0 L) (fun u t => wE D cy A (kW K ad u) t) A) ([.ref ((ad (ko))), .ref ((ad (qo)))] : List Value).toArray s 0 0 A) (F0 m 10 ls []) := by
    intro n_
    induction n_ with
    | zero => intro i f9 g9 Ec H locs hP hD hS hi hA2 hk_10_0 hk_10_1 hO_10 hm_; exact absurd hm_ (Nat.not_lt_zero _)
    | succ n_ ih_10 =>
      intro i f9 g9 Ec H locs hP hD hS hi hA2 hk_10_0 hk_10_1 hO_10 hm_ ls hl
      have fL10_2 : Ec (ko) = .inr (0, [.int (sp), .ref ((ad (kb))), .ref ((ad (ke))), .int (nI (L.length))]) := (hO_10 (ko) (by omega) (by omega)).trans eEw3_2
      have fL10_3 : Ec (qo) = .inr (0, [.int (so), .ref ((ad (qb))), .ref ((ad (qe))), .int (nI (L.length))]) := (hO_10 (qo) (by omega) (by omega)).trans (show Ew3 (qo) = .inr (0, [.int (so), .ref ((ad (qb))), .ref ((ad (qe))), .int (nI (L.length))]) by rw [hEw3, va_up_ne _ _ (by omega)]; exact hEqo)
      have fL10_4 : Ec (qb) = .inl (cy 0, 4, .inl (fo)) := (hO_10 (qb) (by omega) (by omega)).trans (show Ew3 (qb) = .inl (cy 0, 4, .inl (fo)) by rw [hEw3, va_up_ne _ _ (by omega)]; exact hEqb)
      have fL10_5 : Ec (qe) = .inl (cy 0, 4, .inl (go)) := (hO_10 (qe) (by omega) (by omega)).trans (show Ew3 (qe) = .inl (cy 0, 4, .inl (go)) by rw [hEw3, va_up_ne _ _ (by omega)]; exact hEqe)
      refine lv_iload_n hx hb dX0_takePartsOf_10 rfl (lv_at hl 2 rfl) ?_
      refine lv_aload_n hx hb dX0_takePartsOf_11 rfl (lv_at hl 0 rfl) ?_
      obtain ⟨p4, hp4⟩ := kW_pos hko
      refine va_get (D := D) (ci := 0) (v := .int (nI (L.length))) (C := RX0) (T := TX0) (N := 4) hx hb hts (by decide +kernel) hown hK hP p4 (kW_get hp4 fL10_2) rfl 3 (by decide) (hts (.fieldLink RX0 22 "CaskYard$Bolt" "parts" "I") (by decide +kernel)) (fun _ h9 => h9) rfl dX0_takePartsOf_12 ?_
      refine g_icmp_ge (tgt := 48) hx hb dX0_takePartsOf_15 (by decide) (n_i (by omega)) (n_i (by omega)) (fun c_15 => ?_) (fun c_15 => ?_)
      · skip
        have hii : i = L.length := by omega
        rw [hii, List.take_length] at hA2
        exact W.vret hx hb hr (fun t ht hW => ⟨⟨Ec, rfl, ⟨f9, g9, fL10_2, hk_10_0, hk_10_1, (fun j_ h0_ h1_ h2_ => by rw [hO_10 j_ h1_ h2_, hEw3, va_up_ne _ _ h0_]), hA2⟩, by rw [ht]; exact hP, va_K.moved hW.alike hK, hD⟩, hS.F ht⟩) hS.2.2 dX0_takePartsOf_48
      · skip
        refine lv_aload_n hx hb dX0_takePartsOf_18 rfl (lv_at hl 0 rfl) ?_
        obtain ⟨p5, hp5⟩ := kW_pos hko
        refine va_get (D := D) (ci := 0) (v := .ref ((ad (kb)))) (C := RX0) (T := TX0) (N := 4) hx hb hts (by decide +kernel) hown hK hP p5 (kW_get hp5 fL10_2) rfl 1 (by decide) (hts (.fieldLink RX0 9 "CaskYard$Bolt" "begin" "[I") (by decide +kernel)) (fun _ h9 => h9) rfl dX0_takePartsOf_19 ?_
        refine lv_iload_n hx hb dX0_takePartsOf_22 rfl (lv_at hl 2 rfl) ?_
        refine lv_aload_n hx hb dX0_takePartsOf_23 rfl (lv_at hl 1 rfl) ?_
        obtain ⟨p6, hp6⟩ := kW_pos hqo
        refine va_get (D := D) (ci := 0) (v := .ref ((ad (qb)))) (C := RX0) (T := TX0) (N := 4) hx hb hts (by decide +kernel) hown hK hP p6 (kW_get hp6 fL10_3) rfl 1 (by decide) (hts (.fieldLink RX0 9 "CaskYard$Bolt" "begin" "[I") (by decide +kernel)) (fun _ h9 => h9) rfl dX0_takePartsOf_24 ?_
        refine lv_iload_n hx hb dX0_takePartsOf_27 rfl (lv_at hl 2 rfl) ?_
        obtain ⟨p7, hp7⟩ := kW_pos hqb
        refine g_iald hx hb hK hP p7 0 (kW_get hp7 fL10_4) rfl (i) rfl (by omega) (by decide) dX0_takePartsOf_28 ?_
        refine g_top (y := (nI ((paD L i).1))) ((arrP_0 hAr (by omega)).1) ?_
        obtain ⟨p8, hp8⟩ := kW_pos hkb
        refine g_iast hx hb hK hP hD hS p8 0 (kW_get hp8 hk_10_0) rfl (i) rfl (by omega) (by decide) dX0_takePartsOf_29 (fun H locs hP hD hS => ?_)
        rw [kW_set hnd hp8] at hP hD
        obtain ⟨Ew9, hEw9⟩ : ∃ G, G = va_up Ec (kb) (.inl (cy 0, 4, .inl (upd (f9) (i) (nI ((paD L i).1))))) := ⟨_, rfl⟩
        have eEw9_0 : Ew9 (kb) = .inl (cy 0, 4, .inl (upd (f9) (i) (nI ((paD L i).1)))) := by rw [hEw9]; exact va_up_self _ _ _
        rw [← hEw9] at hP hD
        refine lv_aload_n hx hb dX0_takePartsOf_30 rfl (lv_at hl 0 rfl) ?_
        obtain ⟨p10, hp10⟩ := kW_pos hko
        refine va_get (D := D) (ci := 0) (v := .ref ((ad (ke)))) (C := RX0) (T := TX0) (N := 4) hx hb hts (by decide +kernel) hown hK hP p10 (kW_get hp10 (show Ew9 (ko) = .inr (0, [.int (sp), .ref ((ad (kb))), .ref ((ad (ke))), .int (nI (L.length))]) by rw [hEw9, va_up_ne _ _ (by omega)]; exact fL10_2)) rfl 2 (by decide) (hts (.fieldLink RX0 15 "CaskYard$Bolt" "end" "[I") (by decide +kernel)) (fun _ h9 => h9) rfl dX0_takePartsOf_31 ?_
        refine lv_iload_n hx hb dX0_takePartsOf_34 rfl (lv_at hl 2 rfl) ?_
        refine lv_aload_n hx hb dX0_takePartsOf_35 rfl (lv_at hl 1 rfl) ?_
        obtain ⟨p11, hp11⟩ := kW_pos hqo
        refine va_get (D := D) (ci := 0) (v := .ref ((ad (qe)))) (C := RX0) (T := TX0) (N := 4) hx hb hts (by decide +kernel) hown hK hP p11 (kW_get hp11 (show Ew9 (qo) = .inr (0, [.int (so), .ref ((ad (qb))), .ref ((ad (qe))), .int (nI (L.length))]) by rw [hEw9, va_up_ne _ _ (by omega)]; exact fL10_3)) rfl 2 (by decide) (hts (.fieldLink RX0 15 "CaskYard$Bolt" "end" "[I") (by decide +kernel)) (fun _ h9 => h9) rfl dX0_takePartsOf_36 ?_
        refine lv_iload_n hx hb dX0_takePartsOf_39 rfl (lv_at hl 2 rfl) ?_
        obtain ⟨p12, hp12⟩ := kW_pos hqe
        refine g_iald hx hb hK hP p12 0 (kW_get hp12 (show Ew9 (qe) = .inl (cy 0, 4, .inl (go)) by rw [hEw9, va_up_ne _ _ (by omega)]; exact fL10_5)) rfl (i) rfl (by omega) (by decide) dX0_takePartsOf_40 ?_
        refine g_top (y := (nI ((paD L i).2))) ((arrP_0 hAr (by omega)).2) ?_
        obtain ⟨p13, hp13⟩ := kW_pos hke
        refine g_iast hx hb hK hP hD hS p13 0 (kW_get hp13 (show Ew9 (ke) = .inl (cy 0, 4, .inl (g9)) by rw [hEw9, va_up_ne _ _ (by omega)]; exact hk_10_1)) rfl (i) rfl (by omega) (by decide) dX0_takePartsOf_41 (fun H locs hP hD hS => ?_)
        rw [kW_set hnd hp13] at hP hD
        obtain ⟨Ew14, hEw14⟩ : ∃ G, G = va_up Ew9 (ke) (.inl (cy 0, 4, .inl (upd (g9) (i) (nI ((paD L i).2))))) := ⟨_, rfl⟩
        have eEw14_1 : Ew14 (ke) = .inl (cy 0, 4, .inl (upd (g9) (i) (nI ((paD L i).2)))) := by rw [hEw14]; exact va_up_self _ _ _
        have eEw14_0 : Ew14 (kb) = .inl (cy 0, 4, .inl (upd (f9) (i) (nI ((paD L i).1)))) := by rw [hEw14, va_up_ne _ _ (by omega)]; exact eEw9_0
        rw [← hEw14] at hP hD
        refine lv_iinc (v := (nI (i + 1))) (lv' := [(2, .int (nI (i + 1))), (0, .ref ((ad (ko)))), (1, .ref ((ad (qo))))]) hx hb dX0_takePartsOf_42 hl (k := 2) rfl (nI_add _ _) (by decide) rfl (fun ls hl => ?_)
        refine lv_goto (tgt := 10) hx hb dX0_takePartsOf_45 (by decide) ?_
        exact ih_10 (i + 1) (upd (f9) (i) (nI ((paD L i).1))) (upd (g9) (i) (nI ((paD L i).2))) (Ew14) H locs hP hD hS (by omega) (arrP_tk hA2 (by omega)) eEw14_0 eEw14_1 (fun j_ h0_ h1_ => by rw [hEw14, va_up_ne _ _ h1_, hEw9, va_up_ne _ _ h0_, hO_10 j_ h0_ h1_]) (by omega) ls (lv_sub hl [1, 2, 0] rfl)
  exact loop_10 _ (0) (f) (g) (Ew3) H locs hP hD hS (by omega) (arrP_nil _ _ _) (show Ew3 (kb) = .inl (cy 0, 4, .inl (f)) by rw [hEw3, va_up_ne _ _ (by omega)]; exact hEkb) (show Ew3 (ke) = .inl (cy 0, 4, .inl (g)) by rw [hEw3, va_up_ne _ _ (by omega)]; exact hEke) (fun j_ h0_ h1_ => rfl) (Nat.lt_succ_self _) ls (lv_sub hl [1, 2, 0] rfl)
set_option maxHeartbeats 4000000 in
set_option maxRecDepth 100000 in
theorem c_X0_cutFirst (l : Launch) (D : va_G) (cy : Nat → ClassId) (sz : Nat) (K : List Nat) (ad : Nat → Nat) (E : Nat → va_E) (ko kb ke : Nat) (hko : ko ∈ K) (hkb : kb ∈ K) (hke : ke ∈ K) (hne : ko ≠ kb ∧ ko ≠ ke ∧ kb ≠ ke) (sp : Int32) (L : List (Nat × Nat)) (f g : Nat → Int32) (hEko : E ko = cellB (ad kb) (ad ke) sp (nI (L.length))) (hEkb : E kb = rowI cy 4 f) (hEke : E ke = rowI cy 4 g) (hL : L.length ≤ 4) (hAr : arrP f g 0 L) (hq : ∀ q ∈ L, q.1 < q.2 ∧ q.2 ≤ 600) (w : Nat) (hw : w ≤ 100000) : Met l yX0_cutFirst wsX0_cutFirst ({ frames := 2, cells := 0, slots := 0, locals := 44 } : Room) (va_Pc [.ref ((ad (ko))), .int (nI (w))] (wB2 D cy sz (kW K ad E))) (va_Qi (fun (r : Int32) (u : Nat → va_E) => ∃ (f' g' : Nat → Int32) (n' : Nat), u (ko) = .inr (0, [.int (sp), .ref ((ad (kb))), .ref ((ad (ke))), .int (nI (n'))]) ∧ u (kb) = .inl (cy 0, 4, .inl (f')) ∧ u (ke) = .inl (cy 0, 4, .inl (g')) ∧ (∀ j_ : Nat, j_ ≠ ko → j_ ≠ kb → j_ ≠ ke → u j_ = E j_) ∧ (fitN w L 0 L.length = none → r = nI 0 ∧ n' = L.length ∧ f' = f ∧ g' = g) ∧ (∀ i, fitN w L 0 L.length = some i → r = nI 1 ∧ arrP f' g' 0 (dropP (shortL L i w)) ∧ n' = (dropP (shortL L i w)).length)) (fun u t => wE D cy (va_A (kW K ad E) sz) (kW K ad u) t) (va_A (kW K ad E) sz)) 0 0 (va_A (kW K ad E) sz) := by
  refine Met.ofW (cc := cX0_cutFirst) (maxL := 3) (ret := (some .boolean)) (by decide) rfl ?_
  intro p e s m args below meth c s₁ B hml hv
  obtain ⟨rfl, ⟨hsz, hP, hK, hD0⟩, hN⟩ := hv
  have hx := B.exec
  have hb := B.bytes
  have hr := B.returns
  have hts := atoms_spec (ws := wsX0_cutFirst) B.pre
  have hown : s.vm.findClass RX0 = some m.cls := findClass_of_methodNamed B.named
  have hlocks := B.notSynchronized
  subst hsz
  have hD := hD0.self (sz := s.heap.size)
  generalize hAe : va_A (kW K ad E) s.heap.size = A at hD ⊢
  have hA : ∀ q : Nat, s.heap.size ≤ q → A q := w_A hAe
  have hS : va_S A s.heap s.heap [] := va_S.rf
  have hnd := kW_nd hD
  have hl := lv_entry ([.ref ((ad (ko))), .int (nI (w))]) (n := 3) (Nat.le_of_ble_eq_true rfl)
  rw [lg_entry_eq]
  generalize (lg_sl ([.ref ((ad (ko))), .int (nI (w))]) ++ List.replicate (3 - (lg_sl ([.ref ((ad (ko))), .int (nI (w))])).length) Slot.unset).toArray = ls at hl ⊢
  have hl : lv_has ls 3 [(0, .ref ((ad (ko)))), (1, .int (nI (w)))] := hl
  refine lv_iconst (v := (nI (0))) hx hb dX0_cutFirst_0 (by decide) ?_
  refine lv_istore_n (lv' := [(2, .int (nI (0))), (0, .ref ((ad (ko)))), (1, .int (nI (w)))]) hx hb dX0_cutFirst_1 rfl hl (by decide) rfl (fun ls hl => ?_)
  have loop_2 : ∀ (n_ : Nat) (i : Nat), (i ≤ L.length) → (fitN w L 0 L.length = fitN w L i (L.length - i)) → L.length - i < n_ → ∀ (ls : Array Slot), lv_has ls 3 [(0, .ref ((ad (ko)))), (1, .int (nI (w))), (2, .int (nI (i)))] → W p l e (headSpec wsX0_cutFirst ({ frames := 2, cells := 0, slots := 0, locals := 44 } : Room)).room s m ([.ref ((ad (ko))), .int (nI (w))] : List Value).toArray below meth c s.heap [] 0 0 (MQ below (va_Qi (fun (r : Int32) (u : Nat → va_E) => ∃ (f' g' : Nat → Int32) (n' : Nat), u (ko) = .inr (0, [.int (sp), .ref ((ad (kb))), .ref ((ad (ke))), .int (nI (n'))]) ∧ u (kb) = .inl (cy 0, 4, .inl (f')) ∧ u (ke) = .inl (cy 0, 4, .inl (g')) ∧ (∀ j_ : Nat, j_ ≠ ko → j_ ≠ kb → j_ ≠ ke → u j_ = E j_) ∧ (fitN w L 0 L.length = none → r = nI 0 ∧ n' = L.length ∧ f' = f ∧ g' = g) ∧ (∀ i, fitN w L 0 L.length = some i → r = nI 1 ∧ arrP f' g' 0 (dropP (shortL L i w)) ∧ n' = (dropP (shortL L i w)).length)) (fun u t => wE D cy A (kW K ad u) t) A) ([.ref ((ad (ko))), .int (nI (w))] : List Value).toArray s 0 0 A) (F0 m 2 ls []) := by
    intro n_
    induction n_ with
    | zero => intro i hi hfi hm_; exact absurd hm_ (Nat.not_lt_zero _)
    | succ n_ ih_2 =>
      intro i hi hfi hm_ ls hl
      refine lv_iload_n hx hb dX0_cutFirst_2 rfl (lv_at hl 2 rfl) ?_
      refine lv_aload_n hx hb dX0_cutFirst_3 rfl (lv_at hl 0 rfl) ?_
      obtain ⟨p1, hp1⟩ := kW_pos hko
      refine va_get (D := D) (ci := 0) (v := .int (nI (L.length))) (C := RX0) (T := TX0) (N := 4) hx hb hts (by decide +kernel) hown hK hP p1 (kW_get hp1 hEko) rfl 3 (by decide) (hts (.fieldLink RX0 22 "CaskYard$Bolt" "parts" "I") (by decide +kernel)) (fun _ h9 => h9) rfl dX0_cutFirst_4 ?_
      refine g_icmp_ge (tgt := 49) hx hb dX0_cutFirst_7 (by decide) (n_i (by omega)) (n_i (by omega)) (fun c_7 => ?_) (fun c_7 => ?_)
      · skip
        have hfn := hfi.trans (fitN_end (by omega))
        refine lv_iconst (v := (nI (0))) hx hb dX0_cutFirst_49 (by decide) ?_
        exact W.zret (v := (nI (0))) hx hb hr (by decide) (fun t ht hW => ⟨⟨_, E, rfl, ⟨f, g, L.length, hEko, hEkb, hEke, (fun j_ h0_ h1_ h2_ => rfl), fun _ => ⟨rfl, rfl, rfl, rfl⟩, fun i9 h9 => absurd (h9.symm.trans hfn) (by simp)⟩, by rw [ht]; exact hP, va_K.moved hW.alike hK, hD⟩, hS.F ht⟩) hS.2.2 dX0_cutFirst_50
      · skip
        have hq9 := hq _ (paD_mem (L := L) (i := i) (by omega))
        refine lv_aload_n hx hb dX0_cutFirst_10 rfl (lv_at hl 0 rfl) ?_
        obtain ⟨p2, hp2⟩ := kW_pos hko
        refine va_get (D := D) (ci := 0) (v := .ref ((ad (ke)))) (C := RX0) (T := TX0) (N := 4) hx hb hts (by decide +kernel) hown hK hP p2 (kW_get hp2 hEko) rfl 2 (by decide) (hts (.fieldLink RX0 15 "CaskYard$Bolt" "end" "[I") (by decide +kernel)) (fun _ h9 => h9) rfl dX0_cutFirst_11 ?_
        refine lv_iload_n hx hb dX0_cutFirst_14 rfl (lv_at hl 2 rfl) ?_
        obtain ⟨p3, hp3⟩ := kW_pos hke
        refine g_iald hx hb hK hP p3 0 (kW_get hp3 hEke) rfl (i) rfl (by omega) (by decide) dX0_cutFirst_15 ?_
        refine g_top (y := (nI ((paD L i).2))) ((arrP_0 hAr (by omega)).2) ?_
        refine lv_aload_n hx hb dX0_cutFirst_16 rfl (lv_at hl 0 rfl) ?_
        obtain ⟨p4, hp4⟩ := kW_pos hko
        refine va_get (D := D) (ci := 0) (v := .ref ((ad (kb)))) (C := RX0) (T := TX0) (N := 4) hx hb hts (by decide +kernel) hown hK hP p4 (kW_get hp4 hEko) rfl 1 (by decide) (hts (.fieldLink RX0 9 "CaskYard$Bolt" "begin" "[I") (by decide +kernel)) (fun _ h9 => h9) rfl dX0_cutFirst_17 ?_
        refine lv_iload_n hx hb dX0_cutFirst_20 rfl (lv_at hl 2 rfl) ?_
        obtain ⟨p5, hp5⟩ := kW_pos hkb
        refine g_iald hx hb hK hP p5 0 (kW_get hp5 hEkb) rfl (i) rfl (by omega) (by decide) dX0_cutFirst_21 ?_
        refine g_top (y := (nI ((paD L i).1))) ((arrP_0 hAr (by omega)).1) ?_
        refine g_isub_n hx hb dX0_cutFirst_22 (by omega) ?_
        refine lv_iload_n hx hb dX0_cutFirst_23 rfl (lv_at hl 1 rfl) ?_
        refine g_icmp_lt (tgt := 43) hx hb dX0_cutFirst_24 (by decide) (n_i (by omega)) (n_i (by omega)) (fun c_24 => ?_) (fun c_24 => ?_)
        · skip
          refine lv_iinc (v := (nI (i + 1))) (lv' := [(2, .int (nI (i + 1))), (0, .ref ((ad (ko)))), (1, .int (nI (w)))]) hx hb dX0_cutFirst_43 hl (k := 2) rfl (nI_add _ _) (by decide) rfl (fun ls hl => ?_)
          refine lv_goto (tgt := 2) hx hb dX0_cutFirst_46 (by decide) ?_
          exact ih_2 (i + 1)  (by omega) (hfi.trans (fitN_step (by omega) (by omega))) (by omega) ls (lv_sub hl [1, 2, 0] rfl)
        · skip
          have hfn := hfi.trans (fitN_hit (by omega) (by omega))
          have hsl := shortL_len L i w
          refine lv_aload_n hx hb dX0_cutFirst_27 rfl (lv_at hl 0 rfl) ?_
          obtain ⟨p6, hp6⟩ := kW_pos hko
          refine va_get (D := D) (ci := 0) (v := .ref ((ad (kb)))) (C := RX0) (T := TX0) (N := 4) hx hb hts (by decide +kernel) hown hK hP p6 (kW_get hp6 hEko) rfl 1 (by decide) (hts (.fieldLink RX0 9 "CaskYard$Bolt" "begin" "[I") (by decide +kernel)) (fun _ h9 => h9) rfl dX0_cutFirst_28 ?_
          refine lv_iload_n hx hb dX0_cutFirst_31 rfl (lv_at hl 2 rfl) ?_
          refine lv_dup2_11 hx hb dX0_cutFirst_32 rfl rfl ?_
          obtain ⟨p7, hp7⟩ := kW_pos hkb
          refine g_iald hx hb hK hP p7 0 (kW_get hp7 hEkb) rfl (i) rfl (by omega) (by decide) dX0_cutFirst_33 ?_
          refine g_top (y := (nI ((paD L i).1))) ((arrP_0 hAr (by omega)).1) ?_
          refine lv_iload_n hx hb dX0_cutFirst_34 rfl (lv_at hl 1 rfl) ?_
          refine g_iadd_n hx hb dX0_cutFirst_35 ?_
          obtain ⟨p8, hp8⟩ := kW_pos hkb
          refine g_iast hx hb hK hP hD hS p8 0 (kW_get hp8 hEkb) rfl (i) rfl (by omega) (by decide) dX0_cutFirst_36 (fun H locs hP hD hS => ?_)
          rw [kW_set hnd hp8] at hP hD
          obtain ⟨Ew9, hEw9⟩ : ∃ G, G = va_up E (kb) (.inl (cy 0, 4, .inl (upd (f) (i) (nI (((paD L i).1) + w))))) := ⟨_, rfl⟩
          have eEw9_0 : Ew9 (kb) = .inl (cy 0, 4, .inl (upd (f) (i) (nI (((paD L i).1) + w)))) := by rw [hEw9]; exact va_up_self _ _ _
          rw [← hEw9] at hP hD
          refine lv_aload_n hx hb dX0_cutFirst_37 rfl (lv_at hl 0 rfl) ?_
          have hFc := w_free hD hS hA
          obtain ⟨p10, hp10⟩ := kW_pos hko
          refine va_callv (va_runV (As := []) (rest := []) ⟨hx, hb, hml, hown, hts⟩ (c_X0_dropEmptyParts l D cy H.size K ad Ew9 (ko) (kb) (ke) (hko) (hkb) (hke) (⟨by omega, by omega, by omega⟩) (sp) (shortL L i w) (upd (f) (i) (nI (((paD L i).1) + w))) (g) (by rw [hsl]; exact (show Ew9 (ko) = .inr (0, [.int (sp), .ref ((ad (kb))), .ref ((ad (ke))), .int (nI (L.length))]) by rw [hEw9, va_up_ne _ _ (by omega)]; exact hEko)) (eEw9_0) (show Ew9 (ke) = .inl (cy 0, 4, .inl (g)) by rw [hEw9, va_up_ne _ _ (by omega)]; exact hEke) (by rw [hsl]; exact hL) (arrP_short0 hAr (by omega)) (shortL_bd2 (by omega) hq (by omega))) (cwV 0 hts gX0_cutFirst_X0_dropEmptyParts rfl rfl rfl (by decide +kernel) ⟨Nat.le_of_ble_eq_true rfl, Nat.le_of_ble_eq_true rfl⟩) ⟨wB2_blind, va_recv hK hP (ci := 0) (q0 := p10) rfl (kW_get hp10 (show Ew9 (ko) = .inr (0, [.int (sp), .ref ((ad (kb))), .ref ((ad (ke))), .int (nI (L.length))]) by rw [hEw9, va_up_ne _ _ (by omega)]; exact hEko)), wB2_pre hP hK hD hN⟩ rfl rfl hl.1 rfl (lv_room (Nat.le_of_ble_eq_true rfl)) dX0_cutFirst_38 ⟨Nat.le_of_ble_eq_true rfl, Nat.le_of_ble_eq_true rfl⟩) hS (fun q _ h => hFc q h) hFc (fun E_38 t_ H locs ht hvm hw_38 hB _ _ hS => ?_)
          obtain ⟨hP1, hK1, hD1⟩ := hB
          rw [ht] at hP1
          have hP := hP1
          have hD := hD1.weaken (fun _ _ _ h => hFc _ h)
          obtain ⟨f38, g38, k38_0, k38_1, k38_2, hO38, ha38⟩ := hw_38
          refine lv_iconst (v := (nI (1))) hx hb dX0_cutFirst_41 (by decide) ?_
          exact W.zret (v := (nI (1))) hx hb hr (by decide) (fun t ht hW => ⟨⟨_, E_38, rfl, ⟨f38, g38, (dropP (shortL L i w)).length, k38_0, k38_1, k38_2, (fun j_ h0_ h1_ h2_ => by rw [hO38 j_ h0_ h1_ h2_, hEw9, va_up_ne _ _ h1_]), fun h9 => absurd (h9.symm.trans hfn) (by simp), fun i9 h9 => by obtain rfl : i = i9 := Option.some.inj (hfn.symm.trans h9); exact ⟨rfl, ha38, rfl⟩⟩, by rw [ht]; exact hP, va_K.moved hW.alike hK, hD⟩, hS.F ht⟩) hS.2.2 dX0_cutFirst_42
  exact loop_2 _ (0)  (by omega) rfl (Nat.lt_succ_self _) ls (lv_sub hl [1, 2, 0] rfl)
