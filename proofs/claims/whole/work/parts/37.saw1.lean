set_option maxHeartbeats 4000000 in
set_option maxRecDepth 100000 in
theorem c_X3_prepare (l : Launch) (D : va_G) (cy : Nat → ClassId) (sz : Nat) (K : List Nat) (ad : Nat → Nat) (E : Nat → va_E) (h6 : 6 ∈ K) (nr bl : Nat) (PP : List (Nat × Nat × Nat)) (hE6 : E 6 = .inr (3, [.ref ((ad (7))), .ref ((ad (8))), .ref ((ad (9))), .ref ((ad (10))), .ref ((ad (11))), .ref ((ad (12))), .ref ((ad (13))), .ref ((ad (14))), .ref ((ad (15))), .ref ((ad (16))), .ref ((ad (17))), .int (nI (bl)), .int (nI (PP.length)), .int (nI (nr))])) (np : Nat) : Met l yX3_prepare wsX3_prepare ({ frames := 0, cells := 0, slots := 0, locals := 0 } : Room) (va_Pc [.ref ((ad (6))), .int (nI (np))] (wB2 D cy sz (kW K ad E))) (va_Qv (fun (u : Nat → va_E) => u (6) = .inr (3, [.ref ((ad (7))), .ref ((ad (8))), .ref ((ad (9))), .ref ((ad (10))), .ref ((ad (11))), .ref ((ad (12))), .ref ((ad (13))), .ref ((ad (14))), .ref ((ad (15))), .ref ((ad (16))), .ref ((ad (17))), .int (nI (0)), .int (nI (0)), .int (nI (np))]) ∧ (∀ j_ : Nat, j_ ≠ 6 → u j_ = E j_)) (fun u t => wE D cy (va_A (kW K ad E) sz) (kW K ad u) t) (va_A (kW K ad E) sz)) 0 0 (va_A (kW K ad E) sz) := by
  refine Met.ofW (cc := cX3_prepare) (maxL := 2) (ret := none) (by decide) rfl ?_
  intro p e s m args below meth c s₁ B hml hv
  obtain ⟨rfl, ⟨hsz, hP, hK, hD0⟩, hN⟩ := hv
  have hx := B.exec
  have hb := B.bytes
  have hr := B.returns
  have hts := atoms_spec (ws := wsX3_prepare) B.pre
  have hown : s.vm.findClass RX3 = some m.cls := findClass_of_methodNamed B.named
  have hlocks := B.notSynchronized
  subst hsz
  have hD := hD0.self (sz := s.heap.size)
  generalize hAe : va_A (kW K ad E) s.heap.size = A at hD ⊢
  have hA : ∀ q : Nat, s.heap.size ≤ q → A q := w_A hAe
  have hS : va_S A s.heap s.heap [] := va_S.rf
  have hnd := kW_nd hD
  have hl := lv_entry ([.ref ((ad (6))), .int (nI (np))]) (n := 2) (Nat.le_of_ble_eq_true rfl)
  rw [lg_entry_eq]
  generalize (lg_sl ([.ref ((ad (6))), .int (nI (np))]) ++ List.replicate (2 - (lg_sl ([.ref ((ad (6))), .int (nI (np))])).length) Slot.unset).toArray = ls at hl ⊢
  have hl : lv_has ls 2 [(0, .ref ((ad (6)))), (1, .int (nI (np)))] := hl
  refine lv_aload_n hx hb dX3_prepare_0 rfl (lv_at hl 0 rfl) ?_
  refine lv_iconst (v := (nI (0))) hx hb dX3_prepare_1 (by decide) ?_
  obtain ⟨p1, hp1⟩ := kW_pos h6
  refine va_put (D := D) (ci := 3) (v := .int (nI (0))) (ty := .int) (C := RX3) (T := TX3) (N := 14) hx hb hts (by decide +kernel) tyX3 tyX3_ok nmX3 hown hK hP hD hS p1 (kW_get hp1 hE6) rfl 11 (by decide) (hts (.fieldLink RX3 49 "CaskYard$Saw" "boltsLaid" "I") (by decide +kernel)) (fun _ h9 => h9) rfl (by decide +kernel) rfl rfl (Nat.le_of_ble_eq_true rfl) dX3_prepare_2 (fun H locs hP hD hS => ?_)
  rw [show ([.ref ((ad (7))), .ref ((ad (8))), .ref ((ad (9))), .ref ((ad (10))), .ref ((ad (11))), .ref ((ad (12))), .ref ((ad (13))), .ref ((ad (14))), .ref ((ad (15))), .ref ((ad (16))), .ref ((ad (17))), .int (nI (bl)), .int (nI (PP.length)), .int (nI (nr))] : List Value).set 11 (.int (nI (0))) = [.ref ((ad (7))), .ref ((ad (8))), .ref ((ad (9))), .ref ((ad (10))), .ref ((ad (11))), .ref ((ad (12))), .ref ((ad (13))), .ref ((ad (14))), .ref ((ad (15))), .ref ((ad (16))), .ref ((ad (17))), .int (nI (0)), .int (nI (PP.length)), .int (nI (nr))] from rfl] at hP hD
  rw [kW_set hnd hp1] at hP hD
  obtain ⟨Ew2, hEw2⟩ : ∃ G, G = va_up E (6) (.inr (3, [.ref ((ad (7))), .ref ((ad (8))), .ref ((ad (9))), .ref ((ad (10))), .ref ((ad (11))), .ref ((ad (12))), .ref ((ad (13))), .ref ((ad (14))), .ref ((ad (15))), .ref ((ad (16))), .ref ((ad (17))), .int (nI (0)), .int (nI (PP.length)), .int (nI (nr))])) := ⟨_, rfl⟩
  have eEw2_13 : Ew2 (6) = .inr (3, [.ref ((ad (7))), .ref ((ad (8))), .ref ((ad (9))), .ref ((ad (10))), .ref ((ad (11))), .ref ((ad (12))), .ref ((ad (13))), .ref ((ad (14))), .ref ((ad (15))), .ref ((ad (16))), .ref ((ad (17))), .int (nI (0)), .int (nI (PP.length)), .int (nI (nr))]) := by rw [hEw2]; exact va_up_self _ _ _
  rw [← hEw2] at hP hD
  refine lv_aload_n hx hb dX3_prepare_5 rfl (lv_at hl 0 rfl) ?_
  refine lv_iconst (v := (nI (0))) hx hb dX3_prepare_6 (by decide) ?_
  obtain ⟨p3, hp3⟩ := kW_pos h6
  refine va_put (D := D) (ci := 3) (v := .int (nI (0))) (ty := .int) (C := RX3) (T := TX3) (N := 14) hx hb hts (by decide +kernel) tyX3 tyX3_ok nmX3 hown hK hP hD hS p3 (kW_get hp3 eEw2_13) rfl 12 (by decide) (hts (.fieldLink RX3 53 "CaskYard$Saw" "parts" "I") (by decide +kernel)) (fun _ h9 => h9) rfl (by decide +kernel) rfl rfl (Nat.le_of_ble_eq_true rfl) dX3_prepare_7 (fun H locs hP hD hS => ?_)
  rw [show ([.ref ((ad (7))), .ref ((ad (8))), .ref ((ad (9))), .ref ((ad (10))), .ref ((ad (11))), .ref ((ad (12))), .ref ((ad (13))), .ref ((ad (14))), .ref ((ad (15))), .ref ((ad (16))), .ref ((ad (17))), .int (nI (0)), .int (nI (PP.length)), .int (nI (nr))] : List Value).set 12 (.int (nI (0))) = [.ref ((ad (7))), .ref ((ad (8))), .ref ((ad (9))), .ref ((ad (10))), .ref ((ad (11))), .ref ((ad (12))), .ref ((ad (13))), .ref ((ad (14))), .ref ((ad (15))), .ref ((ad (16))), .ref ((ad (17))), .int (nI (0)), .int (nI (0)), .int (nI (nr))] from rfl] at hP hD
  rw [kW_set hnd hp3] at hP hD
  obtain ⟨Ew4, hEw4⟩ : ∃ G, G = va_up Ew2 (6) (.inr (3, [.ref ((ad (7))), .ref ((ad (8))), .ref ((ad (9))), .ref ((ad (10))), .ref ((ad (11))), .ref ((ad (12))), .ref ((ad (13))), .ref ((ad (14))), .ref ((ad (15))), .ref ((ad (16))), .ref ((ad (17))), .int (nI (0)), .int (nI (0)), .int (nI (nr))])) := ⟨_, rfl⟩
  have eEw4_13 : Ew4 (6) = .inr (3, [.ref ((ad (7))), .ref ((ad (8))), .ref ((ad (9))), .ref ((ad (10))), .ref ((ad (11))), .ref ((ad (12))), .ref ((ad (13))), .ref ((ad (14))), .ref ((ad (15))), .ref ((ad (16))), .ref ((ad (17))), .int (nI (0)), .int (nI (0)), .int (nI (nr))]) := by rw [hEw4]; exact va_up_self _ _ _
  rw [← hEw4] at hP hD
  refine lv_aload_n hx hb dX3_prepare_10 rfl (lv_at hl 0 rfl) ?_
  refine lv_iload_n hx hb dX3_prepare_11 rfl (lv_at hl 1 rfl) ?_
  obtain ⟨p5, hp5⟩ := kW_pos h6
  refine va_put (D := D) (ci := 3) (v := .int (nI (np))) (ty := .int) (C := RX3) (T := TX3) (N := 14) hx hb hts (by decide +kernel) tyX3 tyX3_ok nmX3 hown hK hP hD hS p5 (kW_get hp5 eEw4_13) rfl 13 (by decide) (hts (.fieldLink RX3 56 "CaskYard$Saw" "narrow" "I") (by decide +kernel)) (fun _ h9 => h9) rfl (by decide +kernel) rfl rfl (Nat.le_of_ble_eq_true rfl) dX3_prepare_12 (fun H locs hP hD hS => ?_)
  rw [show ([.ref ((ad (7))), .ref ((ad (8))), .ref ((ad (9))), .ref ((ad (10))), .ref ((ad (11))), .ref ((ad (12))), .ref ((ad (13))), .ref ((ad (14))), .ref ((ad (15))), .ref ((ad (16))), .ref ((ad (17))), .int (nI (0)), .int (nI (0)), .int (nI (nr))] : List Value).set 13 (.int (nI (np))) = [.ref ((ad (7))), .ref ((ad (8))), .ref ((ad (9))), .ref ((ad (10))), .ref ((ad (11))), .ref ((ad (12))), .ref ((ad (13))), .ref ((ad (14))), .ref ((ad (15))), .ref ((ad (16))), .ref ((ad (17))), .int (nI (0)), .int (nI (0)), .int (nI (np))] from rfl] at hP hD
  rw [kW_set hnd hp5] at hP hD
  obtain ⟨Ew6, hEw6⟩ : ∃ G, G = va_up Ew4 (6) (.inr (3, [.ref ((ad (7))), .ref ((ad (8))), .ref ((ad (9))), .ref ((ad (10))), .ref ((ad (11))), .ref ((ad (12))), .ref ((ad (13))), .ref ((ad (14))), .ref ((ad (15))), .ref ((ad (16))), .ref ((ad (17))), .int (nI (0)), .int (nI (0)), .int (nI (np))])) := ⟨_, rfl⟩
  have eEw6_13 : Ew6 (6) = .inr (3, [.ref ((ad (7))), .ref ((ad (8))), .ref ((ad (9))), .ref ((ad (10))), .ref ((ad (11))), .ref ((ad (12))), .ref ((ad (13))), .ref ((ad (14))), .ref ((ad (15))), .ref ((ad (16))), .ref ((ad (17))), .int (nI (0)), .int (nI (0)), .int (nI (np))]) := by rw [hEw6]; exact va_up_self _ _ _
  rw [← hEw6] at hP hD
  exact W.vret hx hb hr (fun t ht hW => ⟨⟨Ew6, rfl, ⟨eEw6_13, (fun j_ h0_ => by rw [hEw6, va_up_ne _ _ h0_, hEw4, va_up_ne _ _ h0_, hEw2, va_up_ne _ _ h0_])⟩, by rw [ht]; exact hP, va_K.moved hW.alike hK, hD⟩, hS.F ht⟩) hS.2.2 dX3_prepare_15
set_option maxHeartbeats 4000000 in
set_option maxRecDepth 100000 in
theorem c_X3_openSet (l : Launch) (D : va_G) (cy : Nat → ClassId) (sz : Nat) (K : List Nat) (ad : Nat → Nat) (E : Nat → va_E) (h6 : 6 ∈ K) (nr bl : Nat) (PP : List (Nat × Nat × Nat)) (hE6 : E 6 = .inr (3, [.ref ((ad (7))), .ref ((ad (8))), .ref ((ad (9))), .ref ((ad (10))), .ref ((ad (11))), .ref ((ad (12))), .ref ((ad (13))), .ref ((ad (14))), .ref ((ad (15))), .ref ((ad (16))), .ref ((ad (17))), .int (nI (bl)), .int (nI (PP.length)), .int (nI (nr))])) (h8 : 8 ∈ K) (f8 : Nat → Int32) (hE8 : E 8 = .inl (cy 0, 32, .inl (f8))) (h15 : 15 ∈ K) (f15 : Nat → Int32) (hE15 : E 15 = .inl (cy 1, 32, .inl (f15))) (hP32 : PP.length ≤ 32) (hl6 : ∀ i, i < PP.length → lnP PP i ≤ 600) (hnr : 1 ≤ nr ∧ nr ≤ 3000) (x : Nat) (hx8 : x < 256) (hR8 : ∀ i, i < PP.length → f8 i = nI (enD PP i).1 ∧ (enD PP i).1 ≤ 7) : Met l yX3_openSet wsX3_openSet ({ frames := 0, cells := 0, slots := 0, locals := 0 } : Room) (va_Pc [.ref ((ad (6))), .int (nI (x))] (wB2 D cy sz (kW K ad E))) (va_Qv (fun (u : Nat → va_E) => ∃ (f' : Nat → Int32), u (15) = .inl (cy 1, 32, .inl (f')) ∧ (∀ j_ : Nat, j_ ≠ 15 → u j_ = E j_) ∧ ∀ j, j < PP.length → f' j = bI (bitP x (enD PP j).1)) (fun u t => wE D cy (va_A (kW K ad E) sz) (kW K ad u) t) (va_A (kW K ad E) sz)) 0 0 (va_A (kW K ad E) sz) := by
  refine Met.ofW (cc := cX3_openSet) (maxL := 3) (ret := none) (by decide) rfl ?_
  intro p e s m args below meth c s₁ B hml hv
  obtain ⟨rfl, ⟨hsz, hP, hK, hD0⟩, hN⟩ := hv
  have hx := B.exec
  have hb := B.bytes
  have hr := B.returns
  have hts := atoms_spec (ws := wsX3_openSet) B.pre
  have hown : s.vm.findClass RX3 = some m.cls := findClass_of_methodNamed B.named
  have hlocks := B.notSynchronized
  subst hsz
  have hD := hD0.self (sz := s.heap.size)
  generalize hAe : va_A (kW K ad E) s.heap.size = A at hD ⊢
  have hA : ∀ q : Nat, s.heap.size ≤ q → A q := w_A hAe
  have hS : va_S A s.heap s.heap [] := va_S.rf
  have hnd := kW_nd hD
  have hl := lv_entry ([.ref ((ad (6))), .int (nI (x))]) (n := 3) (Nat.le_of_ble_eq_true rfl)
  rw [lg_entry_eq]
  generalize (lg_sl ([.ref ((ad (6))), .int (nI (x))]) ++ List.replicate (3 - (lg_sl ([.ref ((ad (6))), .int (nI (x))])).length) Slot.unset).toArray = ls at hl ⊢
  have hl : lv_has ls 3 [(0, .ref ((ad (6)))), (1, .int (nI (x)))] := hl
  refine lv_iconst (v := (nI (0))) hx hb dX3_openSet_0 (by decide) ?_
  refine lv_istore_n (lv' := [(2, .int (nI (0))), (0, .ref ((ad (6)))), (1, .int (nI (x)))]) hx hb dX3_openSet_1 rfl hl (by decide) rfl (fun ls hl => ?_)
  have loop_2 : ∀ (n_ : Nat) (i : Nat) (g9 : Nat → Int32) (Ec : Nat → va_E) (H : Heap) (locs : List Loc), va_P D vwCl (kW K ad Ec) H → va_D A (kW K ad Ec) → va_S A s.heap H locs → (i ≤ PP.length) → (∀ j, j < i → g9 j = bI (bitP x (enD PP j).1)) → (Ec (15) = .inl (cy 1, 32, .inl (g9))) → (∀ j_ : Nat, j_ ≠ 15 → Ec j_ = E j_) → PP.length - i < n_ → ∀ (ls : Array Slot), lv_has ls 3 [(0, .ref ((ad (6)))), (1, .int (nI (x))), (2, .int (nI (i)))] → W p l e (headSpec wsX3_openSet ({ frames := 0, cells := 0, slots := 0, locals := 0 } : Room)).room s m ([.ref ((ad (6))), .int (nI (x))] : List Value).toArray below meth c H locs 0 0 (MQ below (va_Qv (fun (u : Nat → va_E) => ∃ (f' : Nat → Int32), u (15) = .inl (cy 1, 32, .inl (f')) ∧ (∀ j_ : Nat, j_ ≠ 15 → u j_ = E j_) ∧ ∀ j, j < PP.length → f' j = bI (bitP x (enD PP j).1)) (fun u t => wE D cy A (kW K ad u) t) A) ([.ref ((ad (6))), .int (nI (x))] : List Value).toArray s 0 0 A) (F0 m 2 ls []) := by
    intro n_
    induction n_ with
    | zero => intro i g9 Ec H locs hP hD hS hi hg9 hk_2_0 hO_2 hm_; exact absurd hm_ (Nat.not_lt_zero _)
    | succ n_ ih_2 =>
      intro i g9 Ec H locs hP hD hS hi hg9 hk_2_0 hO_2 hm_ ls hl
      have fL2_13 : Ec (6) = .inr (3, [.ref ((ad (7))), .ref ((ad (8))), .ref ((ad (9))), .ref ((ad (10))), .ref ((ad (11))), .ref ((ad (12))), .ref ((ad (13))), .ref ((ad (14))), .ref ((ad (15))), .ref ((ad (16))), .ref ((ad (17))), .int (nI (bl)), .int (nI (PP.length)), .int (nI (nr))]) := (hO_2 (6) (by omega)).trans hE6
      have fL2_14 : Ec (8) = .inl (cy 0, 32, .inl (f8)) := (hO_2 (8) (by omega)).trans hE8
      refine lv_iload_n hx hb dX3_openSet_2 rfl (lv_at hl 2 rfl) ?_
      refine lv_aload_n hx hb dX3_openSet_3 rfl (lv_at hl 0 rfl) ?_
      obtain ⟨p1, hp1⟩ := kW_pos h6
      refine va_get (D := D) (ci := 3) (v := .int (nI (PP.length))) (C := RX3) (T := TX3) (N := 14) hx hb hts (by decide +kernel) hown hK hP p1 (kW_get hp1 fL2_13) rfl 12 (by decide) (hts (.fieldLink RX3 53 "CaskYard$Saw" "parts" "I") (by decide +kernel)) (fun _ h9 => h9) rfl dX3_openSet_4 ?_
      refine g_icmp_ge (tgt := 43) hx hb dX3_openSet_7 (by decide) (n_i (by omega)) (n_i (by omega)) (fun c_7 => ?_) (fun c_7 => ?_)
      · skip
        have hii : i = PP.length := by omega
        rw [hii] at hg9
        exact W.vret hx hb hr (fun t ht hW => ⟨⟨Ec, rfl, ⟨g9, hk_2_0, (fun j_ h0_ => by rw [hO_2 j_ h0_]), hg9⟩, by rw [ht]; exact hP, va_K.moved hW.alike hK, hD⟩, hS.F ht⟩) hS.2.2 dX3_openSet_43
      · skip
        have hp7 := (hR8 i (by omega)).2
        refine lv_aload_n hx hb dX3_openSet_10 rfl (lv_at hl 0 rfl) ?_
        obtain ⟨p2, hp2⟩ := kW_pos h6
        refine va_get (D := D) (ci := 3) (v := .ref ((ad (15)))) (C := RX3) (T := TX3) (N := 14) hx hb hts (by decide +kernel) hown hK hP p2 (kW_get hp2 fL2_13) rfl 8 (by decide) (hts (.fieldLink RX3 39 "CaskYard$Saw" "open" "[Z") (by decide +kernel)) (fun _ h9 => h9) rfl dX3_openSet_11 ?_
        refine lv_iload_n hx hb dX3_openSet_14 rfl (lv_at hl 2 rfl) ?_
        refine lv_iload_n hx hb dX3_openSet_15 rfl (lv_at hl 1 rfl) ?_
        refine lv_bipush (v := (nI (7))) hx hb dX3_openSet_16 (by decide) ?_
        refine lv_aload_n hx hb dX3_openSet_18 rfl (lv_at hl 0 rfl) ?_
        obtain ⟨p3, hp3⟩ := kW_pos h6
        refine va_get (D := D) (ci := 3) (v := .ref ((ad (8)))) (C := RX3) (T := TX3) (N := 14) hx hb hts (by decide +kernel) hown hK hP p3 (kW_get hp3 fL2_13) rfl 1 (by decide) (hts (.fieldLink RX3 17 "CaskYard$Saw" "place" "[I") (by decide +kernel)) (fun _ h9 => h9) rfl dX3_openSet_19 ?_
        refine lv_iload_n hx hb dX3_openSet_22 rfl (lv_at hl 2 rfl) ?_
        obtain ⟨p4, hp4⟩ := kW_pos h8
        refine g_iald hx hb hK hP p4 0 (kW_get hp4 fL2_14) rfl (i) rfl (by omega) (by decide) dX3_openSet_23 ?_
        refine g_top (y := (nI ((enD PP i).1))) ((hR8 i (by omega)).1) ?_
        refine g_isub_n hx hb dX3_openSet_24 (by omega) ?_
        refine lv_ishr hx hb dX3_openSet_25 ?_
        refine g_top (y := (nI (x / 2 ^ (7 - (enD PP i).1)))) (n_shr (by omega) (by omega)) ?_
        refine lv_iconst (v := (nI (1))) hx hb dX3_openSet_26 (by decide) ?_
        have hdl := Nat.div_le_self x (2 ^ (7 - (enD PP i).1))
        refine lv_iand hx hb dX3_openSet_27 ?_
        refine g_top (y := (nI (x / 2 ^ (7 - (enD PP i).1) % 2))) (n_and1 (by omega)) ?_
        refine g_if_eq (tgt := 35) hx hb dX3_openSet_28 (by decide) (n_i (by omega)) (fun c_28 => ?_) (fun c_28 => ?_)
        · skip
          refine lv_iconst (v := (nI (0))) hx hb dX3_openSet_35 (by decide) ?_
          refine g_top (y := bI (bitP x (enD PP i).1)) (bI_f (show ¬ bitP x (enD PP i).1 by omega)).symm ?_
          obtain ⟨p5, hp5⟩ := kW_pos h15
          refine g_zast hx hb hK hP hD hS p5 1 (kW_get hp5 hk_2_0) rfl (i) rfl (by omega) (by decide) dX3_openSet_36 (fun H locs hP hD hS => ?_)
          rw [kW_set hnd hp5] at hP hD
          obtain ⟨Ew6, hEw6⟩ : ∃ G, G = va_up Ec (15) (.inl (cy 1, 32, .inl (upd (g9) (i) (bI (bitP x (enD PP i).1))))) := ⟨_, rfl⟩
          have eEw6_15 : Ew6 (15) = .inl (cy 1, 32, .inl (upd (g9) (i) (bI (bitP x (enD PP i).1)))) := by rw [hEw6]; exact va_up_self _ _ _
          rw [← hEw6] at hP hD
          refine lv_iinc (v := (nI (i + 1))) (lv' := [(2, .int (nI (i + 1))), (0, .ref ((ad (6)))), (1, .int (nI (x)))]) hx hb dX3_openSet_37 hl (k := 2) rfl (nI_add _ _) (by decide) rfl (fun ls hl => ?_)
          refine lv_goto (tgt := 2) hx hb dX3_openSet_40 (by decide) ?_
          exact ih_2 (i + 1) (upd (g9) (i) (bI (bitP x (enD PP i).1))) (Ew6) H locs hP hD hS (by omega) (opn_s (f := f15) hg9) eEw6_15 (fun j_ h0_ => by rw [hEw6, va_up_ne _ _ h0_, hO_2 j_ h0_]) (by omega) ls (lv_sub hl [1, 2, 0] rfl)
        · skip
          refine lv_iconst (v := (nI (1))) hx hb dX3_openSet_31 (by decide) ?_
          refine lv_goto (tgt := 36) hx hb dX3_openSet_32 (by decide) ?_
          refine g_top (y := bI (bitP x (enD PP i).1)) (bI_t (show bitP x (enD PP i).1 by omega)).symm ?_
          obtain ⟨p7, hp7⟩ := kW_pos h15
          refine g_zast hx hb hK hP hD hS p7 1 (kW_get hp7 hk_2_0) rfl (i) rfl (by omega) (by decide) dX3_openSet_36 (fun H locs hP hD hS => ?_)
          rw [kW_set hnd hp7] at hP hD
          obtain ⟨Ew8, hEw8⟩ : ∃ G, G = va_up Ec (15) (.inl (cy 1, 32, .inl (upd (g9) (i) (bI (bitP x (enD PP i).1))))) := ⟨_, rfl⟩
          have eEw8_15 : Ew8 (15) = .inl (cy 1, 32, .inl (upd (g9) (i) (bI (bitP x (enD PP i).1)))) := by rw [hEw8]; exact va_up_self _ _ _
          rw [← hEw8] at hP hD
          refine lv_iinc (v := (nI (i + 1))) (lv' := [(2, .int (nI (i + 1))), (0, .ref ((ad (6)))), (1, .int (nI (x)))]) hx hb dX3_openSet_37 hl (k := 2) rfl (nI_add _ _) (by decide) rfl (fun ls hl => ?_)
          refine lv_goto (tgt := 2) hx hb dX3_openSet_40 (by decide) ?_
          exact ih_2 (i + 1) (upd (g9) (i) (bI (bitP x (enD PP i).1))) (Ew8) H locs hP hD hS (by omega) (opn_s (f := f15) hg9) eEw8_15 (fun j_ h0_ => by rw [hEw8, va_up_ne _ _ h0_, hO_2 j_ h0_]) (by omega) ls (lv_sub hl [1, 2, 0] rfl)
  exact loop_2 _ (0) (f15) (E) s.heap [] hP hD hS (by omega) (fun j hj => absurd hj (Nat.not_lt_zero _)) hE15 (fun j_ h0_ => rfl) (Nat.lt_succ_self _) ls (lv_sub hl [1, 2, 0] rfl)
set_option maxHeartbeats 4000000 in
set_option maxRecDepth 100000 in
theorem c_X3_canGive (l : Launch) (D : va_G) (cy : Nat → ClassId) (K : List Nat) (ad : Nat → Nat) (E : Nat → va_E) (h6 : 6 ∈ K) (nr bl : Nat) (PP : List (Nat × Nat × Nat)) (hE6 : E 6 = .inr (3, [.ref ((ad (7))), .ref ((ad (8))), .ref ((ad (9))), .ref ((ad (10))), .ref ((ad (11))), .ref ((ad (12))), .ref ((ad (13))), .ref ((ad (14))), .ref ((ad (15))), .ref ((ad (16))), .ref ((ad (17))), .int (nI (bl)), .int (nI (PP.length)), .int (nI (nr))])) (h11 : 11 ∈ K) (f11 : Nat → Int32) (hE11 : E 11 = .inl (cy 0, 32, .inl (f11))) (h12 : 12 ∈ K) (f12 : Nat → Int32) (hE12 : E 12 = .inl (cy 0, 32, .inl (f12))) (h13 : 13 ∈ K) (f13 : Nat → Int32) (hE13 : E 13 = .inl (cy 0, 32, .inl (f13))) (h14 : 14 ∈ K) (f14 : Nat → Int32) (hE14 : E 14 = .inl (cy 0, 32, .inl (f14))) (h15 : 15 ∈ K) (f15 : Nat → Int32) (hE15 : E 15 = .inl (cy 1, 32, .inl (f15))) (hP32 : PP.length ≤ 32) (hl6 : ∀ i, i < PP.length → lnP PP i ≤ 600) (hnr : 1 ≤ nr ∧ nr ≤ 3000) (o : Nat → Nat) (SS : List Nat) (hs : srtP nr PP SS) (hR11 : ∀ i, i < PP.length → f11 i = nI (aWN nr (lnP PP i))) (hR12 : ∀ i, i < PP.length → f12 i = nI (mLN nr (lnP PP i))) (hR13 : ∀ i, i < PP.length → f13 i = nI (lsN nr (lnP PP i))) (hR14 : ∀ i, i < PP.length → f14 i = nI (SS.getD i 0)) (hR15 : ∀ i, i < PP.length → f15 i = nI (o i) ∧ o i ≤ 1) (wi na : Nat) (hWN : wi + na ≤ 100) : Met l yX3_canGive wsX3_canGive ({ frames := 1, cells := 0, slots := 0, locals := 40 } : Room) (va_Pc [.ref ((ad (6))), .int (nI (wi)), .int (nI (na))] (rB2 D cy (kW K ad E))) (vp_Si (fun r : Int32 => r = bI ((na : Int) ≤ dpN (nr + 1) nr (opnL PP o (List.range PP.length)) wi))) 0 0 (fun _ => False) := by
  refine Met.ofW (cc := cX3_canGive) (maxL := 8) (ret := (some .boolean)) (by decide) rfl ?_
  intro p e s m args below meth c s₁ B hml hv
  obtain ⟨rfl, hv⟩ := hv
  have hx := B.exec
  have hb := B.bytes
  have hr := B.returns
  have hts := atoms_spec (ws := wsX3_canGive) B.pre
  have hown : s.vm.findClass RX3 = some m.cls := findClass_of_methodNamed B.named
  have hlocks := B.notSynchronized
  obtain ⟨⟨hP, hK⟩, hN⟩ := hv
  have hl := lv_entry ([.ref ((ad (6))), .int (nI (wi)), .int (nI (na))]) (n := 8) (Nat.le_of_ble_eq_true rfl)
  rw [lg_entry_eq]
  generalize (lg_sl ([.ref ((ad (6))), .int (nI (wi)), .int (nI (na))]) ++ List.replicate (8 - (lg_sl ([.ref ((ad (6))), .int (nI (wi)), .int (nI (na))])).length) Slot.unset).toArray = ls at hl ⊢
  have hl : lv_has ls 8 [(0, .ref ((ad (6)))), (1, .int (nI (wi))), (2, .int (nI (na)))] := hl
  have hsl := srt_len hs
  refine lv_iconst (v := (nI (0))) hx hb dX3_canGive_0 (by decide) ?_
  refine lv_istore_n (lv' := [(3, .int (nI (0))), (0, .ref ((ad (6)))), (1, .int (nI (wi))), (2, .int (nI (na)))]) hx hb dX3_canGive_1 rfl hl (by decide) rfl (fun ls hl => ?_)
  refine lv_iconst (v := (nI (0))) hx hb dX3_canGive_2 (by decide) ?_
  refine lv_istore (lv' := [(4, .int (nI (0))), (3, .int (nI (0))), (0, .ref ((ad (6)))), (1, .int (nI (wi))), (2, .int (nI (na)))]) hx hb dX3_canGive_3 hl (by decide) rfl (fun ls hl => ?_)
  have loop_5 : ∀ (n_ : Nat) (i : Nat) (ms : Nat), (i ≤ PP.length) → (ms = sumN (aWN nr) (opnL PP o (List.range i))) → (ms ≤ 600 * i) → PP.length - i < n_ → ∀ (ls : Array Slot), lv_has ls 8 [(0, .ref ((ad (6)))), (1, .int (nI (wi))), (2, .int (nI (na))), (3, .int (nI (ms))), (4, .int (nI (i)))] → W p l e (headSpec wsX3_canGive ({ frames := 1, cells := 0, slots := 0, locals := 40 } : Room)).room s m ([.ref ((ad (6))), .int (nI (wi)), .int (nI (na))] : List Value).toArray below meth c s.heap [] 0 0 (MQ below (vp_Si (fun r : Int32 => r = bI ((na : Int) ≤ dpN (nr + 1) nr (opnL PP o (List.range PP.length)) wi))) ([.ref ((ad (6))), .int (nI (wi)), .int (nI (na))] : List Value).toArray s 0 0 (fun _ => False)) (F0 m 5 ls []) := by
    intro n_
    induction n_ with
    | zero => intro i ms hi hms hmb hm_; exact absurd hm_ (Nat.not_lt_zero _)
    | succ n_ ih_5 =>
      intro i ms hi hms hmb hm_ ls hl
      refine lv_iload hx hb dX3_canGive_5 (lv_at hl 4 rfl) ?_
      refine lv_aload_n hx hb dX3_canGive_7 rfl (lv_at hl 0 rfl) ?_
      obtain ⟨p1, hp1⟩ := kW_pos h6
      refine va_get (D := D) (ci := 3) (v := .int (nI (PP.length))) (C := RX3) (T := TX3) (N := 14) hx hb hts (by decide +kernel) hown hK hP p1 (kW_get hp1 hE6) rfl 12 (by decide) (hts (.fieldLink RX3 53 "CaskYard$Saw" "parts" "I") (by decide +kernel)) (fun _ h9 => h9) rfl dX3_canGive_8 ?_
      refine g_icmp_ge (tgt := 44) hx hb dX3_canGive_11 (by decide) (n_i (by omega)) (n_i (by omega)) (fun c_11 => ?_) (fun c_11 => ?_)
      · skip
        have hii : i = PP.length := by omega
        rw [hii] at hms
        refine lv_iload_n hx hb dX3_canGive_44 rfl (lv_at hl 1 rfl) ?_
        refine lv_iload_n hx hb dX3_canGive_45 rfl (lv_at hl 2 rfl) ?_
        refine g_iadd_n hx hb dX3_canGive_46 ?_
        refine lv_iload_n hx hb dX3_canGive_47 rfl (lv_at hl 3 rfl) ?_
        refine g_isub_z (i := ((wi + na : Nat) : Int)) (j := ((ms : Nat) : Int)) hx hb dX3_canGive_48 (zI_nI (wi + na)) (zI_nI (ms)) ?_
        refine lv_istore (lv' := [(4, .int (zI ((((wi + na : Nat) : Int)) - (((ms : Nat) : Int))))), (0, .ref ((ad (6)))), (1, .int (nI (wi))), (2, .int (nI (na))), (3, .int (nI (ms)))]) hx hb dX3_canGive_49 hl (by decide) rfl (fun ls hl => ?_)
        refine lv_iconst (v := (nI (0))) hx hb dX3_canGive_51 (by decide) ?_
        refine lv_istore (lv' := [(5, .int (nI (0))), (4, .int (zI ((((wi + na : Nat) : Int)) - (((ms : Nat) : Int))))), (0, .ref ((ad (6)))), (1, .int (nI (wi))), (2, .int (nI (na))), (3, .int (nI (ms)))]) hx hb dX3_canGive_52 hl (by decide) rfl (fun ls hl => ?_)
        refine lv_iconst (v := (nI (0))) hx hb dX3_canGive_54 (by decide) ?_
        refine lv_istore (lv' := [(6, .int (nI (0))), (5, .int (nI (0))), (4, .int (zI ((((wi + na : Nat) : Int)) - (((ms : Nat) : Int))))), (0, .ref ((ad (6)))), (1, .int (nI (wi))), (2, .int (nI (na))), (3, .int (nI (ms)))]) hx hb dX3_canGive_55 hl (by decide) rfl (fun ls hl => ?_)
        have loop_57 : ∀ (n_ : Nat) (mo : Int) (wa : Int) (fu : Nat) (i : Nat), (i ≤ PP.length) → (mo = (ms : Int) - (sumN (elo nr) (opnL PP o (SS.take (i))) : Nat)) → (wa = ((wi + na : Nat) : Int) - (ms : Int) - (sumN (el1 nr) (opnL PP o (SS.take (i))) : Nat)) → (fu = sumN (emo nr) (opnL PP o (SS.take (i)))) → ((((wi + na : Nat) : Int) ≤ (ms : Int) ∧ i = 0) ∨ ((ms : Int) < ((wi + na : Nat) : Int) ∧ 0 ≤ wa)) → (fu ≤ 600 * i) → (-(3000 * (i : Int)) ≤ mo ∧ mo ≤ 600 * 32 ∧ wa ≤ 100 ∧ -(600 * 32) - 100 ≤ wa) → PP.length - i < n_ → ∀ (ls : Array Slot), lv_has ls 8 [(0, .ref ((ad (6)))), (1, .int (nI (wi))), (2, .int (nI (na))), (3, .int (zI (mo))), (4, .int (zI (wa))), (5, .int (nI (fu))), (6, .int (nI (i)))] → W p l e (headSpec wsX3_canGive ({ frames := 1, cells := 0, slots := 0, locals := 40 } : Room)).room s m ([.ref ((ad (6))), .int (nI (wi)), .int (nI (na))] : List Value).toArray below meth c s.heap [] 0 0 (MQ below (vp_Si (fun r : Int32 => r = bI ((na : Int) ≤ dpN (nr + 1) nr (opnL PP o (List.range PP.length)) wi))) ([.ref ((ad (6))), .int (nI (wi)), .int (nI (na))] : List Value).toArray s 0 0 (fun _ => False)) (F0 m 57 ls []) := by
          intro n_
          induction n_ with
          | zero => intro mo wa fu i hi2 hmo hwa hfu hst hfb hmb2 hm_; exact absurd hm_ (Nat.not_lt_zero _)
          | succ n_ ih_57 =>
            intro mo wa fu i hi2 hmo hwa hfu hst hfb hmb2 hm_ ls hl
            refine lv_iload hx hb dX3_canGive_57 (lv_at hl 6 rfl) ?_
            refine lv_aload_n hx hb dX3_canGive_59 rfl (lv_at hl 0 rfl) ?_
            obtain ⟨p2, hp2⟩ := kW_pos h6
            refine va_get (D := D) (ci := 3) (v := .int (nI (PP.length))) (C := RX3) (T := TX3) (N := 14) hx hb hts (by decide +kernel) hown hK hP p2 (kW_get hp2 hE6) rfl 12 (by decide) (hts (.fieldLink RX3 53 "CaskYard$Saw" "parts" "I") (by decide +kernel)) (fun _ h9 => h9) rfl dX3_canGive_60 ?_
            refine g_icmp_ge (tgt := 133) hx hb dX3_canGive_63 (by decide) (n_i (by omega)) (n_i (by omega)) (fun c_63 => ?_) (fun c_63 => ?_)
            · skip
              have hcg := cg_end (by omega) hs hms hi2 hmo hwa hfu hst (Or.inl (by omega))
              refine lv_iconst (v := (nI (0))) hx hb dX3_canGive_133 (by decide) ?_
              refine lv_iload hx hb dX3_canGive_134 (lv_at hl 4 rfl) ?_
              refine va_mmax hx hb (hml.trans hl.1.symm) hown (hts (.methodLink RX3 91 Lib.Math.max.name) (by decide +kernel)) (hts (.static Lib.Math.max.name) (by decide +kernel)) (hts (.initialized "java/lang/Math") (by decide +kernel)) (hts (.code Lib.Math.max.name Lib.Math.max.code 2 (some .int)) (by decide +kernel)) (Nat.le_of_ble_eq_true rfl) (Nat.le_of_ble_eq_true rfl) (Nat.le_of_ble_eq_true rfl) (Nat.le_of_ble_eq_true rfl) dX3_canGive_136 ?_
              refine g_top (y := (zI (max (((0 : Nat) : Int)) (wa)))) (z_max (zI_nI (0)) rfl (by omega) (by omega) (by omega) (by omega)) ?_
              refine g_top (y := (zI (max 0 wa))) rfl ?_
              refine lv_istore (lv' := [(6, .int (zI (max 0 wa))), (0, .ref ((ad (6)))), (1, .int (nI (wi))), (2, .int (nI (na))), (3, .int (zI (mo))), (4, .int (zI (wa))), (5, .int (nI (fu)))]) hx hb dX3_canGive_139 hl (by decide) rfl (fun ls hl => ?_)
              have hrb := rest_bd (w := wa) (nr := nr) (by omega) (by omega)
              refine lv_iload hx hb dX3_canGive_141 (lv_at hl 0 rfl) ?_
              refine lv_iload hx hb dX3_canGive_143 (lv_at hl 6 rfl) ?_
              refine g_icmp_gt (tgt := 165) hx hb dX3_canGive_145 (by decide) (zI_toInt (by omega) (by omega)) (n_i (by omega)) (fun c_145 => ?_) (fun c_145 => ?_)
              · skip
                refine lv_iconst (v := (nI (0))) hx hb dX3_canGive_165 (by decide) ?_
                exact W.zret (v := (nI (0))) hx hb hr (by decide) (fun t ht hW => ⟨_, rfl, (bI_f (fun q9 => by have h9 := hcg.mpr q9; omega)).symm, ht⟩) (fun _ h => nomatch h) dX3_canGive_166
              · skip
                refine lv_iload_n hx hb dX3_canGive_148 rfl (lv_at hl 4 rfl) ?_
                refine lv_iload hx hb dX3_canGive_149 (lv_at hl 0 rfl) ?_
                refine lv_aload_n hx hb dX3_canGive_151 rfl (lv_at hl 1 rfl) ?_
                obtain ⟨p3, hp3⟩ := kW_pos h6
                refine va_get (D := D) (ci := 3) (v := .int (nI (nr))) (C := RX3) (T := TX3) (N := 14) hx hb hts (by decide +kernel) hown hK hP p3 (kW_get hp3 hE6) rfl 13 (by decide) (hts (.fieldLink RX3 56 "CaskYard$Saw" "narrow" "I") (by decide +kernel)) (fun _ h9 => h9) rfl dX3_canGive_152 ?_
                refine g_imul_z (i := max 0 wa) (j := ((nr : Nat) : Int)) hx hb dX3_canGive_155 rfl (zI_nI (nr)) ?_
                refine g_isub_z (i := mo) (j := (max 0 wa) * (((nr : Nat) : Int))) hx hb dX3_canGive_156 rfl rfl ?_
                refine g_top (y := (zI (mo - max 0 wa * (nr : Int)))) rfl ?_
                refine lv_iload_n hx hb dX3_canGive_157 rfl (lv_at hl 2 rfl) ?_
                refine g_icmp_lt (tgt := 165) hx hb dX3_canGive_158 (by decide) (zI_toInt (by omega) (by omega)) (n_i (by omega)) (fun c_158 => ?_) (fun c_158 => ?_)
                · skip
                  refine lv_iconst (v := (nI (0))) hx hb dX3_canGive_165 (by decide) ?_
                  exact W.zret (v := (nI (0))) hx hb hr (by decide) (fun t ht hW => ⟨_, rfl, (bI_f (fun q9 => by have h9 := hcg.mpr q9; omega)).symm, ht⟩) (fun _ h => nomatch h) dX3_canGive_166
                · skip
                  refine lv_iconst (v := (nI (1))) hx hb dX3_canGive_161 (by decide) ?_
                  refine lv_goto (tgt := 166) hx hb dX3_canGive_162 (by decide) ?_
                  exact W.zret (v := (nI (1))) hx hb hr (by decide) (fun t ht hW => ⟨_, rfl, (bI_t (hcg.mp ⟨by omega, by omega⟩)).symm, ht⟩) (fun _ h => nomatch h) dX3_canGive_166
            · skip
              refine lv_iload hx hb dX3_canGive_66 (lv_at hl 4 rfl) ?_
              refine g_if_le (tgt := 133) hx hb dX3_canGive_68 (by decide) (zI_toInt (by omega) (by omega)) (fun c_68 => ?_) (fun c_68 => ?_)
              · skip
                have hcg := cg_end (by omega) hs hms hi2 hmo hwa hfu hst (Or.inr (by omega))
                refine lv_iconst (v := (nI (0))) hx hb dX3_canGive_133 (by decide) ?_
                refine lv_iload hx hb dX3_canGive_134 (lv_at hl 4 rfl) ?_
                refine va_mmax hx hb (hml.trans hl.1.symm) hown (hts (.methodLink RX3 91 Lib.Math.max.name) (by decide +kernel)) (hts (.static Lib.Math.max.name) (by decide +kernel)) (hts (.initialized "java/lang/Math") (by decide +kernel)) (hts (.code Lib.Math.max.name Lib.Math.max.code 2 (some .int)) (by decide +kernel)) (Nat.le_of_ble_eq_true rfl) (Nat.le_of_ble_eq_true rfl) (Nat.le_of_ble_eq_true rfl) (Nat.le_of_ble_eq_true rfl) dX3_canGive_136 ?_
                refine g_top (y := (zI (max (((0 : Nat) : Int)) (wa)))) (z_max (zI_nI (0)) rfl (by omega) (by omega) (by omega) (by omega)) ?_
                refine g_top (y := (zI (max 0 wa))) rfl ?_
                refine lv_istore (lv' := [(6, .int (zI (max 0 wa))), (0, .ref ((ad (6)))), (1, .int (nI (wi))), (2, .int (nI (na))), (3, .int (zI (mo))), (4, .int (zI (wa))), (5, .int (nI (fu)))]) hx hb dX3_canGive_139 hl (by decide) rfl (fun ls hl => ?_)
                have hrb := rest_bd (w := wa) (nr := nr) (by omega) (by omega)
                refine lv_iload hx hb dX3_canGive_141 (lv_at hl 0 rfl) ?_
                refine lv_iload hx hb dX3_canGive_143 (lv_at hl 6 rfl) ?_
                refine g_icmp_gt (tgt := 165) hx hb dX3_canGive_145 (by decide) (zI_toInt (by omega) (by omega)) (n_i (by omega)) (fun c_145 => ?_) (fun c_145 => ?_)
                · skip
                  refine lv_iconst (v := (nI (0))) hx hb dX3_canGive_165 (by decide) ?_
                  exact W.zret (v := (nI (0))) hx hb hr (by decide) (fun t ht hW => ⟨_, rfl, (bI_f (fun q9 => by have h9 := hcg.mpr q9; omega)).symm, ht⟩) (fun _ h => nomatch h) dX3_canGive_166
                · skip
                  refine lv_iload_n hx hb dX3_canGive_148 rfl (lv_at hl 4 rfl) ?_
                  refine lv_iload hx hb dX3_canGive_149 (lv_at hl 0 rfl) ?_
                  refine lv_aload_n hx hb dX3_canGive_151 rfl (lv_at hl 1 rfl) ?_
                  obtain ⟨p4, hp4⟩ := kW_pos h6
                  refine va_get (D := D) (ci := 3) (v := .int (nI (nr))) (C := RX3) (T := TX3) (N := 14) hx hb hts (by decide +kernel) hown hK hP p4 (kW_get hp4 hE6) rfl 13 (by decide) (hts (.fieldLink RX3 56 "CaskYard$Saw" "narrow" "I") (by decide +kernel)) (fun _ h9 => h9) rfl dX3_canGive_152 ?_
                  refine g_imul_z (i := max 0 wa) (j := ((nr : Nat) : Int)) hx hb dX3_canGive_155 rfl (zI_nI (nr)) ?_
                  refine g_isub_z (i := mo) (j := (max 0 wa) * (((nr : Nat) : Int))) hx hb dX3_canGive_156 rfl rfl ?_
                  refine g_top (y := (zI (mo - max 0 wa * (nr : Int)))) rfl ?_
                  refine lv_iload_n hx hb dX3_canGive_157 rfl (lv_at hl 2 rfl) ?_
                  refine g_icmp_lt (tgt := 165) hx hb dX3_canGive_158 (by decide) (zI_toInt (by omega) (by omega)) (n_i (by omega)) (fun c_158 => ?_) (fun c_158 => ?_)
                  · skip
                    refine lv_iconst (v := (nI (0))) hx hb dX3_canGive_165 (by decide) ?_
                    exact W.zret (v := (nI (0))) hx hb hr (by decide) (fun t ht hW => ⟨_, rfl, (bI_f (fun q9 => by have h9 := hcg.mpr q9; omega)).symm, ht⟩) (fun _ h => nomatch h) dX3_canGive_166
                  · skip
                    refine lv_iconst (v := (nI (1))) hx hb dX3_canGive_161 (by decide) ?_
                    refine lv_goto (tgt := 166) hx hb dX3_canGive_162 (by decide) ?_
                    exact W.zret (v := (nI (1))) hx hb hr (by decide) (fun t ht hW => ⟨_, rfl, (bI_t (hcg.mp ⟨by omega, by omega⟩)).symm, ht⟩) (fun _ h => nomatch h) dX3_canGive_166
              · skip
                have hsi := srt_lt hs (i := i) (by omega)
                have ho2 := (hR15 _ hsi).2
                have hl9 := hl6 _ hsi
                have hm9 := mLN_le nr (lnP PP (SS.getD i 0))
                have hs9 := ls_le nr (lnP PP (SS.getD i 0))
                refine lv_aload_n hx hb dX3_canGive_71 rfl (lv_at hl 0 rfl) ?_
                obtain ⟨p5, hp5⟩ := kW_pos h6
                refine va_get (D := D) (ci := 3) (v := .ref ((ad (14)))) (C := RX3) (T := TX3) (N := 14) hx hb hts (by decide +kernel) hown hK hP p5 (kW_get hp5 hE6) rfl 7 (by decide) (hts (.fieldLink RX3 36 "CaskYard$Saw" "byLoss" "[I") (by decide +kernel)) (fun _ h9 => h9) rfl dX3_canGive_72 ?_
                refine lv_iload hx hb dX3_canGive_75 (lv_at hl 6 rfl) ?_
                obtain ⟨p6, hp6⟩ := kW_pos h14
                refine g_iald hx hb hK hP p6 0 (kW_get hp6 hE14) rfl (i) rfl (by omega) (by decide) dX3_canGive_77 ?_
                refine g_top (y := (nI (SS.getD (i) 0))) (hR14 (i) (by omega)) ?_
                refine lv_istore (lv' := [(7, .int (nI (SS.getD (i) 0))), (0, .ref ((ad (6)))), (1, .int (nI (wi))), (2, .int (nI (na))), (3, .int (zI (mo))), (4, .int (zI (wa))), (5, .int (nI (fu))), (6, .int (nI (i)))]) hx hb dX3_canGive_78 hl (by decide) rfl (fun ls hl => ?_)
                refine lv_aload_n hx hb dX3_canGive_80 rfl (lv_at hl 1 rfl) ?_
                obtain ⟨p7, hp7⟩ := kW_pos h6
                refine va_get (D := D) (ci := 3) (v := .ref ((ad (15)))) (C := RX3) (T := TX3) (N := 14) hx hb hts (by decide +kernel) hown hK hP p7 (kW_get hp7 hE6) rfl 8 (by decide) (hts (.fieldLink RX3 39 "CaskYard$Saw" "open" "[Z") (by decide +kernel)) (fun _ h9 => h9) rfl dX3_canGive_81 ?_
                refine lv_iload hx hb dX3_canGive_84 (lv_at hl 0 rfl) ?_
                obtain ⟨p8, hp8⟩ := kW_pos h15
                refine g_zald hx hb hK hP p8 1 (kW_get hp8 hE15) rfl (SS.getD (i) 0) rfl (by omega) (by decide) dX3_canGive_86 ?_
                refine g_top (y := (nI (o (SS.getD (i) 0)))) ((hR15 (SS.getD (i) 0) (by omega)).1) ?_
                refine g_if_eq (tgt := 127) hx hb dX3_canGive_87 (by decide) (n_i (by omega)) (fun c_87 => ?_) (fun c_87 => ?_)
                · skip
                  have hq0 := fun f => q_f (P := PP) (o := o) (S := SS) (i := i) f (by omega) (by omega)
                  have hq1 := hq0 (elo nr)
                  have hq2 := hq0 (el1 nr)
                  have hq3 := hq0 (emo nr)
                  refine lv_iinc (v := (nI (i + 1))) (lv' := [(6, .int (nI (i + 1))), (7, .int (nI (SS.getD (i) 0))), (0, .ref ((ad (6)))), (1, .int (nI (wi))), (2, .int (nI (na))), (3, .int (zI (mo))), (4, .int (zI (wa))), (5, .int (nI (fu)))]) hx hb dX3_canGive_127 hl (k := 7) rfl (nI_add _ _) (by decide) rfl (fun ls hl => ?_)
                  refine lv_goto (tgt := 57) hx hb dX3_canGive_130 (by decide) ?_
                  exact ih_57 (mo) (wa) (fu) (i + 1)  (by omega) (by omega) (by omega) (by omega) (by omega) (by omega) (by omega) (by omega) ls (lv_sub hl [2, 3, 4, 5, 6, 7, 0] rfl)
                · skip
                  have hq0 := fun f => q_t (P := PP) (o := o) (S := SS) (i := i) f (by omega) (by omega)
                  have hq1 := hq0 (elo nr)
                  have hq2 := hq0 (el1 nr)
                  have hq3 := hq0 (emo nr)
                  refine lv_aload_n hx hb dX3_canGive_90 rfl (lv_at hl 1 rfl) ?_
                  obtain ⟨p9, hp9⟩ := kW_pos h6
                  refine va_get (D := D) (ci := 3) (v := .ref ((ad (12)))) (C := RX3) (T := TX3) (N := 14) hx hb hts (by decide +kernel) hown hK hP p9 (kW_get hp9 hE6) rfl 5 (by decide) (hts (.fieldLink RX3 30 "CaskYard$Saw" "more" "[I") (by decide +kernel)) (fun _ h9 => h9) rfl dX3_canGive_91 ?_
                  refine lv_iload hx hb dX3_canGive_94 (lv_at hl 0 rfl) ?_
                  obtain ⟨p10, hp10⟩ := kW_pos h12
                  refine g_iald hx hb hK hP p10 0 (kW_get hp10 hE12) rfl (SS.getD (i) 0) rfl (by omega) (by decide) dX3_canGive_96 ?_
                  refine g_top (y := (nI (mLN nr (lnP PP (SS.getD (i) 0))))) (hR12 (SS.getD (i) 0) (by omega)) ?_
                  refine g_if_le (tgt := 127) hx hb dX3_canGive_97 (by decide) (n_i (by omega)) (fun c_97 => ?_) (fun c_97 => ?_)
                  · skip
                    have hz1 : elo nr (lnP PP (SS.getD i 0)) = 0 := if_neg (by omega)
                    have hz2 : el1 nr (lnP PP (SS.getD i 0)) = 0 := if_neg (by omega)
                    have hz3 : emo nr (lnP PP (SS.getD i 0)) = 0 := by show mLN nr (lnP PP (SS.getD i 0)) - 1 = 0; omega
                    refine lv_iinc (v := (nI (i + 1))) (lv' := [(6, .int (nI (i + 1))), (7, .int (nI (SS.getD (i) 0))), (0, .ref ((ad (6)))), (1, .int (nI (wi))), (2, .int (nI (na))), (3, .int (zI (mo))), (4, .int (zI (wa))), (5, .int (nI (fu)))]) hx hb dX3_canGive_127 hl (k := 7) rfl (nI_add _ _) (by decide) rfl (fun ls hl => ?_)
                    refine lv_goto (tgt := 57) hx hb dX3_canGive_130 (by decide) ?_
                    exact ih_57 (mo) (wa) (fu) (i + 1)  (by omega) (by omega) (by omega) (by omega) (by omega) (by omega) (by omega) (by omega) ls (lv_sub hl [2, 3, 4, 5, 6, 7, 0] rfl)
                  · skip
                    have hz1 : elo nr (lnP PP (SS.getD i 0)) = lsN nr (lnP PP (SS.getD i 0)) := if_pos (by omega)
                    have hz2 : el1 nr (lnP PP (SS.getD i 0)) = 1 := if_pos (by omega)
                    have hz3 : emo nr (lnP PP (SS.getD i 0)) = mLN nr (lnP PP (SS.getD i 0)) - 1 := rfl
                    refine lv_iload_n hx hb dX3_canGive_100 rfl (lv_at hl 4 rfl) ?_
                    refine lv_aload_n hx hb dX3_canGive_101 rfl (lv_at hl 1 rfl) ?_
                    obtain ⟨p11, hp11⟩ := kW_pos h6
                    refine va_get (D := D) (ci := 3) (v := .ref ((ad (13)))) (C := RX3) (T := TX3) (N := 14) hx hb hts (by decide +kernel) hown hK hP p11 (kW_get hp11 hE6) rfl 6 (by decide) (hts (.fieldLink RX3 33 "CaskYard$Saw" "loss" "[I") (by decide +kernel)) (fun _ h9 => h9) rfl dX3_canGive_102 ?_
                    refine lv_iload hx hb dX3_canGive_105 (lv_at hl 0 rfl) ?_
                    obtain ⟨p12, hp12⟩ := kW_pos h13
                    refine g_iald hx hb hK hP p12 0 (kW_get hp12 hE13) rfl (SS.getD (i) 0) rfl (by omega) (by decide) dX3_canGive_107 ?_
                    refine g_top (y := (nI (lsN nr (lnP PP (SS.getD (i) 0))))) (hR13 (SS.getD (i) 0) (by omega)) ?_
                    refine g_isub_z (i := mo) (j := ((lsN nr (lnP PP (SS.getD (i) 0)) : Nat) : Int)) hx hb dX3_canGive_108 rfl (zI_nI (lsN nr (lnP PP (SS.getD (i) 0)))) ?_
                    refine lv_istore_n (lv' := [(3, .int (zI ((mo) - (((lsN nr (lnP PP (SS.getD (i) 0)) : Nat) : Int))))), (7, .int (nI (SS.getD (i) 0))), (0, .ref ((ad (6)))), (1, .int (nI (wi))), (2, .int (nI (na))), (4, .int (zI (wa))), (5, .int (nI (fu))), (6, .int (nI (i)))]) hx hb dX3_canGive_109 rfl hl (by decide) rfl (fun ls hl => ?_)
                    refine lv_iload hx hb dX3_canGive_110 (lv_at hl 6 rfl) ?_
                    refine lv_aload_n hx hb dX3_canGive_112 rfl (lv_at hl 2 rfl) ?_
                    obtain ⟨p13, hp13⟩ := kW_pos h6
                    refine va_get (D := D) (ci := 3) (v := .ref ((ad (12)))) (C := RX3) (T := TX3) (N := 14) hx hb hts (by decide +kernel) hown hK hP p13 (kW_get hp13 hE6) rfl 5 (by decide) (hts (.fieldLink RX3 30 "CaskYard$Saw" "more" "[I") (by decide +kernel)) (fun _ h9 => h9) rfl dX3_canGive_113 ?_
                    refine lv_iload hx hb dX3_canGive_116 (lv_at hl 1 rfl) ?_
                    obtain ⟨p14, hp14⟩ := kW_pos h12
                    refine g_iald hx hb hK hP p14 0 (kW_get hp14 hE12) rfl (SS.getD (i) 0) rfl (by omega) (by decide) dX3_canGive_118 ?_
                    refine g_top (y := (nI (mLN nr (lnP PP (SS.getD (i) 0))))) (hR12 (SS.getD (i) 0) (by omega)) ?_
                    refine lv_iconst (v := (nI (1))) hx hb dX3_canGive_119 (by decide) ?_
                    refine g_isub_n hx hb dX3_canGive_120 (by omega) ?_
                    refine g_iadd_n hx hb dX3_canGive_121 ?_
                    refine lv_istore (lv' := [(5, .int (nI (fu + ((mLN nr (lnP PP (SS.getD (i) 0))) - 1)))), (3, .int (zI ((mo) - (((lsN nr (lnP PP (SS.getD (i) 0)) : Nat) : Int))))), (7, .int (nI (SS.getD (i) 0))), (0, .ref ((ad (6)))), (1, .int (nI (wi))), (2, .int (nI (na))), (4, .int (zI (wa))), (6, .int (nI (i)))]) hx hb dX3_canGive_122 hl (by decide) rfl (fun ls hl => ?_)
                    refine lv_iinc (v := (zI (wa + (-1)))) (lv' := [(4, .int (zI (wa + (-1)))), (5, .int (nI (fu + ((mLN nr (lnP PP (SS.getD (i) 0))) - 1)))), (3, .int (zI ((mo) - (((lsN nr (lnP PP (SS.getD (i) 0)) : Nat) : Int))))), (7, .int (nI (SS.getD (i) 0))), (0, .ref ((ad (6)))), (1, .int (nI (wi))), (2, .int (nI (na))), (6, .int (nI (i)))]) hx hb dX3_canGive_124 hl (k := 6) rfl (by rw [show (zI (wa)) = zI (wa) from rfl]; exact zI_add _ _) (by decide) rfl (fun ls hl => ?_)
                    refine lv_iinc (v := (nI (i + 1))) (lv' := [(6, .int (nI (i + 1))), (4, .int (zI (wa + (-1)))), (5, .int (nI (fu + ((mLN nr (lnP PP (SS.getD (i) 0))) - 1)))), (3, .int (zI ((mo) - (((lsN nr (lnP PP (SS.getD (i) 0)) : Nat) : Int))))), (7, .int (nI (SS.getD (i) 0))), (0, .ref ((ad (6)))), (1, .int (nI (wi))), (2, .int (nI (na)))]) hx hb dX3_canGive_127 hl (k := 7) rfl (nI_add _ _) (by decide) rfl (fun ls hl => ?_)
                    refine lv_goto (tgt := 57) hx hb dX3_canGive_130 (by decide) ?_
                    exact ih_57 ((mo) - (((lsN nr (lnP PP (SS.getD (i) 0)) : Nat) : Int))) (wa + (-1)) (fu + ((mLN nr (lnP PP (SS.getD (i) 0))) - 1)) (i + 1)  (by omega) (by omega) (by omega) (by omega) (by omega) (by omega) (by omega) (by omega) ls (lv_sub hl [5, 6, 7, 3, 1, 2, 0] rfl)
        exact loop_57 _ (((ms : Nat) : Int)) ((((wi + na : Nat) : Int)) - (((ms : Nat) : Int))) (0) (0)  (by omega) (by simp [opnL, sumN]) (by simp [opnL, sumN]) (by simp [opnL, sumN]) (by omega) (by omega) (by omega) (Nat.lt_succ_self _) ls (lv_sub hl [3, 4, 5, 6, 2, 1, 0] rfl)
      · skip
        have ho1 := (hR15 i (by omega)).2
        have hli := hl6 i (by omega)
        have haw := aWN_le nr (lnP PP i)
        refine lv_iload_n hx hb dX3_canGive_14 rfl (lv_at hl 3 rfl) ?_
        refine lv_aload_n hx hb dX3_canGive_15 rfl (lv_at hl 0 rfl) ?_
        obtain ⟨p15, hp15⟩ := kW_pos h6
        refine va_get (D := D) (ci := 3) (v := .ref ((ad (15)))) (C := RX3) (T := TX3) (N := 14) hx hb hts (by decide +kernel) hown hK hP p15 (kW_get hp15 hE6) rfl 8 (by decide) (hts (.fieldLink RX3 39 "CaskYard$Saw" "open" "[Z") (by decide +kernel)) (fun _ h9 => h9) rfl dX3_canGive_16 ?_
        refine lv_iload hx hb dX3_canGive_19 (lv_at hl 4 rfl) ?_
        obtain ⟨p16, hp16⟩ := kW_pos h15
        refine g_zald hx hb hK hP p16 1 (kW_get hp16 hE15) rfl (i) rfl (by omega) (by decide) dX3_canGive_21 ?_
        refine g_top (y := (nI (o (i)))) ((hR15 (i) (by omega)).1) ?_
        refine g_if_eq (tgt := 35) hx hb dX3_canGive_22 (by decide) (n_i (by omega)) (fun c_22 => ?_) (fun c_22 => ?_)
        · skip
          have hrf := r_f (P := PP) (o := o) (i := i) (aWN nr) (by omega)
          refine lv_iconst (v := (nI (0))) hx hb dX3_canGive_35 (by decide) ?_
          refine g_iadd_n hx hb dX3_canGive_36 ?_
          refine lv_istore_n (lv' := [(3, .int (nI (ms + 0))), (0, .ref ((ad (6)))), (1, .int (nI (wi))), (2, .int (nI (na))), (4, .int (nI (i)))]) hx hb dX3_canGive_37 rfl hl (by decide) rfl (fun ls hl => ?_)
          refine lv_iinc (v := (nI (i + 1))) (lv' := [(4, .int (nI (i + 1))), (3, .int (nI (ms + 0))), (0, .ref ((ad (6)))), (1, .int (nI (wi))), (2, .int (nI (na)))]) hx hb dX3_canGive_38 hl (k := 4) rfl (nI_add _ _) (by decide) rfl (fun ls hl => ?_)
          refine lv_goto (tgt := 5) hx hb dX3_canGive_41 (by decide) ?_
          exact ih_5 (i + 1) (ms + 0)  (by omega) (by omega) (by omega) (by omega) ls (lv_sub hl [2, 3, 4, 1, 0] rfl)
        · skip
          have hrt := r_t (P := PP) (o := o) (i := i) (aWN nr) (by omega)
          refine lv_aload_n hx hb dX3_canGive_25 rfl (lv_at hl 0 rfl) ?_
          obtain ⟨p17, hp17⟩ := kW_pos h6
          refine va_get (D := D) (ci := 3) (v := .ref ((ad (11)))) (C := RX3) (T := TX3) (N := 14) hx hb hts (by decide +kernel) hown hK hP p17 (kW_get hp17 hE6) rfl 4 (by decide) (hts (.fieldLink RX3 27 "CaskYard$Saw" "asWide" "[I") (by decide +kernel)) (fun _ h9 => h9) rfl dX3_canGive_26 ?_
          refine lv_iload hx hb dX3_canGive_29 (lv_at hl 4 rfl) ?_
          obtain ⟨p18, hp18⟩ := kW_pos h11
          refine g_iald hx hb hK hP p18 0 (kW_get hp18 hE11) rfl (i) rfl (by omega) (by decide) dX3_canGive_31 ?_
          refine g_top (y := (nI (aWN nr (lnP PP (i))))) (hR11 (i) (by omega)) ?_
          refine lv_goto (tgt := 36) hx hb dX3_canGive_32 (by decide) ?_
          refine g_iadd_n hx hb dX3_canGive_36 ?_
          refine lv_istore_n (lv' := [(3, .int (nI (ms + (aWN nr (lnP PP (i)))))), (0, .ref ((ad (6)))), (1, .int (nI (wi))), (2, .int (nI (na))), (4, .int (nI (i)))]) hx hb dX3_canGive_37 rfl hl (by decide) rfl (fun ls hl => ?_)
          refine lv_iinc (v := (nI (i + 1))) (lv' := [(4, .int (nI (i + 1))), (3, .int (nI (ms + (aWN nr (lnP PP (i)))))), (0, .ref ((ad (6)))), (1, .int (nI (wi))), (2, .int (nI (na)))]) hx hb dX3_canGive_38 hl (k := 4) rfl (nI_add _ _) (by decide) rfl (fun ls hl => ?_)
          refine lv_goto (tgt := 5) hx hb dX3_canGive_41 (by decide) ?_
          exact ih_5 (i + 1) (ms + (aWN nr (lnP PP (i))))  (by omega) (by omega) (by omega) (by omega) ls (lv_sub hl [2, 3, 4, 1, 0] rfl)
  exact loop_5 _ (0) (0)  (by omega) rfl (by omega) (Nat.lt_succ_self _) ls (lv_sub hl [2, 3, 4, 1, 0] rfl)
