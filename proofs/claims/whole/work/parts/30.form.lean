set_option maxHeartbeats 4000000 in
set_option maxRecDepth 100000 in
theorem c_X4_parted (l : Launch)  (a b : Nat) (ha9 : a < 2147483648) (hb0 : 0 < b) (hb9 : b < 2147483648) : Met l yX4_parted wsX4_parted ({ frames := 0, cells := 0, slots := 0, locals := 0 } : Room) (va_Pc [.int (nI (a)), .int (nI (b))] (fun _ => True)) (vp_Si (fun r : Int32 => r = nI (a / b))) 0 0 (fun _ => False) := by
  refine Met.ofW (cc := cX4_parted) (maxL := 2) (ret := (some .int)) (by decide) rfl ?_
  intro p e s m args below meth c s₁ B hml hv
  obtain ⟨rfl, hv⟩ := hv
  have hx := B.exec
  have hb := B.bytes
  have hr := B.returns
  have hts := atoms_spec (ws := wsX4_parted) B.pre
  have hown : s.vm.findClass RX4 = some m.cls := findClass_of_methodNamed B.named
  have hlocks := B.notSynchronized
  have hl := lv_entry ([.int (nI (a)), .int (nI (b))]) (n := 2) (Nat.le_of_ble_eq_true rfl)
  rw [lg_entry_eq]
  generalize (lg_sl ([.int (nI (a)), .int (nI (b))]) ++ List.replicate (2 - (lg_sl ([.int (nI (a)), .int (nI (b))])).length) Slot.unset).toArray = ls at hl ⊢
  have hl : lv_has ls 2 [(0, .int (nI (a))), (1, .int (nI (b)))] := hl
  refine lv_iload_n hx hb dX4_parted_0 rfl (lv_at hl 1 rfl) ?_
  refine g_if_gt (tgt := 8) hx hb dX4_parted_1 (by decide) (n_i (by omega)) (fun c_1 => ?_) (fun c_1 => ?_)
  · skip
    refine lv_iload_n hx hb dX4_parted_8 rfl (lv_at hl 0 rfl) ?_
    refine lv_iload_n hx hb dX4_parted_9 rfl (lv_at hl 1 rfl) ?_
    refine g_idiv_n hx hb dX4_parted_10 ha9 hb0 hb9 ?_
    exact W.iret (v := (nI (a / b))) hx hb hr (fun t ht hW => ⟨_, rfl, rfl, ht⟩) (fun _ h => nomatch h) dX4_parted_11
  · skip
    exfalso; omega
set_option maxHeartbeats 4000000 in
set_option maxRecDepth 100000 in
theorem c_X2_girthAt (l : Launch) (D : va_G) (cy : Nat → ClassId) (K : List Nat) (ad : Nat → Nat) (E : Nat → va_E) (kf : Nat) (hkf : kf ∈ K) (hh gg ee nn : Nat) (hEf : E kf = cellF hh gg ee nn) (hfo : formOk hh gg ee nn) (y : Nat) (hy : y ≤ hh) : Met l yX2_girthAt wsX2_girthAt ({ frames := 1, cells := 0, slots := 0, locals := 21 } : Room) (va_Pc [.ref ((ad (kf))), .int (nI (y))] (rB2 D cy (kW K ad E))) (vp_Si (fun r : Int32 => r = nI (girthN hh gg ee y))) 0 0 (fun _ => False) := by
  refine Met.ofW (cc := cX2_girthAt) (maxL := 3) (ret := (some .int)) (by decide) rfl ?_
  intro p e s m args below meth c s₁ B hml hv
  obtain ⟨rfl, hv⟩ := hv
  have hx := B.exec
  have hb := B.bytes
  have hr := B.returns
  have hts := atoms_spec (ws := wsX2_girthAt) B.pre
  have hown : s.vm.findClass RX2 = some m.cls := findClass_of_methodNamed B.named
  have hlocks := B.notSynchronized
  obtain ⟨⟨hP, hK⟩, hN⟩ := hv
  have hl := lv_entry ([.ref ((ad (kf))), .int (nI (y))]) (n := 3) (Nat.le_of_ble_eq_true rfl)
  rw [lg_entry_eq]
  generalize (lg_sl ([.ref ((ad (kf))), .int (nI (y))]) ++ List.replicate (3 - (lg_sl ([.ref ((ad (kf))), .int (nI (y))])).length) Slot.unset).toArray = ls at hl ⊢
  have hl : lv_has ls 3 [(0, .ref ((ad (kf)))), (1, .int (nI (y)))] := hl
  have hfb := form_b hfo
  have hg2 := girth_b2 hfb.1 hfb.2.1
  refine lv_iconst (v := (nI (2))) hx hb dX2_girthAt_0 (by decide) ?_
  refine lv_iload_n hx hb dX2_girthAt_1 rfl (lv_at hl 1 rfl) ?_
  refine g_imul_n hx hb dX2_girthAt_2 ?_
  refine lv_aload_n hx hb dX2_girthAt_3 rfl (lv_at hl 0 rfl) ?_
  obtain ⟨p1, hp1⟩ := kW_pos hkf
  refine va_get (D := D) (ci := 2) (v := .int (nI (hh))) (C := RX2) (T := TX2) (N := 4) hx hb hts (by decide +kernel) hown hK hP p1 (kW_get hp1 hEf) rfl 0 (by decide) (hts (.fieldLink RX2 9 "CaskYard$Form" "height" "I") (by decide +kernel)) (fun _ h9 => h9) rfl dX2_girthAt_4 ?_
  refine g_isub_z (i := ((2 * y : Nat) : Int)) (j := ((hh : Nat) : Int)) hx hb dX2_girthAt_7 (zI_nI (2 * y)) (zI_nI (hh)) ?_
  refine lv_istore_n (lv' := [(2, .int (zI ((((2 * y : Nat) : Int)) - (((hh : Nat) : Int))))), (0, .ref ((ad (kf)))), (1, .int (nI (y)))]) hx hb dX2_girthAt_8 rfl hl (by decide) rfl (fun ls hl => ?_)
  refine lv_aload_n hx hb dX2_girthAt_9 rfl (lv_at hl 1 rfl) ?_
  obtain ⟨p2, hp2⟩ := kW_pos hkf
  refine va_get (D := D) (ci := 2) (v := .int (nI (gg))) (C := RX2) (T := TX2) (N := 4) hx hb hts (by decide +kernel) hown hK hP p2 (kW_get hp2 hEf) rfl 1 (by decide) (hts (.fieldLink RX2 15 "CaskYard$Form" "bilge" "I") (by decide +kernel)) (fun _ h9 => h9) rfl dX2_girthAt_10 ?_
  refine lv_aload_n hx hb dX2_girthAt_13 rfl (lv_at hl 1 rfl) ?_
  obtain ⟨p3, hp3⟩ := kW_pos hkf
  refine va_get (D := D) (ci := 2) (v := .int (nI (gg))) (C := RX2) (T := TX2) (N := 4) hx hb hts (by decide +kernel) hown hK hP p3 (kW_get hp3 hEf) rfl 1 (by decide) (hts (.fieldLink RX2 15 "CaskYard$Form" "bilge" "I") (by decide +kernel)) (fun _ h9 => h9) rfl dX2_girthAt_14 ?_
  refine lv_aload_n hx hb dX2_girthAt_17 rfl (lv_at hl 1 rfl) ?_
  obtain ⟨p4, hp4⟩ := kW_pos hkf
  refine va_get (D := D) (ci := 2) (v := .int (nI (ee))) (C := RX2) (T := TX2) (N := 4) hx hb hts (by decide +kernel) hown hK hP p4 (kW_get hp4 hEf) rfl 2 (by decide) (hts (.fieldLink RX2 18 "CaskYard$Form" "headGirth" "I") (by decide +kernel)) (fun _ h9 => h9) rfl dX2_girthAt_18 ?_
  refine g_isub_n hx hb dX2_girthAt_21 (by omega) ?_
  refine lv_iload_n hx hb dX2_girthAt_22 rfl (lv_at hl 0 rfl) ?_
  refine g_imul_z (i := ((gg - ee : Nat) : Int)) (j := (((2 * y : Nat) : Int)) - (((hh : Nat) : Int))) hx hb dX2_girthAt_23 (zI_nI (gg - ee)) rfl ?_
  refine lv_iload_n hx hb dX2_girthAt_24 rfl (lv_at hl 0 rfl) ?_
  refine g_imul_z (i := (((gg - ee : Nat) : Int)) * ((((2 * y : Nat) : Int)) - (((hh : Nat) : Int)))) (j := (((2 * y : Nat) : Int)) - (((hh : Nat) : Int))) hx hb dX2_girthAt_25 rfl rfl ?_
  refine g_top (y := (nI ((gg - ee) * (dN hh y * dN hh y)))) (g_sq hh gg ee y) ?_
  refine lv_aload_n hx hb dX2_girthAt_26 rfl (lv_at hl 1 rfl) ?_
  obtain ⟨p5, hp5⟩ := kW_pos hkf
  refine va_get (D := D) (ci := 2) (v := .int (nI (hh))) (C := RX2) (T := TX2) (N := 4) hx hb hts (by decide +kernel) hown hK hP p5 (kW_get hp5 hEf) rfl 0 (by decide) (hts (.fieldLink RX2 9 "CaskYard$Form" "height" "I") (by decide +kernel)) (fun _ h9 => h9) rfl dX2_girthAt_27 ?_
  refine lv_aload_n hx hb dX2_girthAt_30 rfl (lv_at hl 1 rfl) ?_
  obtain ⟨p6, hp6⟩ := kW_pos hkf
  refine va_get (D := D) (ci := 2) (v := .int (nI (hh))) (C := RX2) (T := TX2) (N := 4) hx hb hts (by decide +kernel) hown hK hP p6 (kW_get hp6 hEf) rfl 0 (by decide) (hts (.fieldLink RX2 9 "CaskYard$Form" "height" "I") (by decide +kernel)) (fun _ h9 => h9) rfl dX2_girthAt_31 ?_
  refine g_imul_n hx hb dX2_girthAt_34 ?_
  refine vp_callSi (va_Run.run (va_runSN (As := [.int (nI ((gg - ee) * (dN hh y * dN hh y))), .int (nI (hh * hh))]) (rest := [.int (nI (gg))]) ⟨hx, hb, hml, hown, hts⟩ (c_X4_parted l  ((gg - ee) * (dN hh y * dN hh y)) (hh * hh) (girth_b1 hfb.2.2.2 hfb.2.1 hy) (hg2.1) (hg2.2)) ⟨va_cnB 2 hts gX2_girthAt_X4_parted_n24 rfl rfl rfl hN.1 (hts (.initialized RX4) (by decide +kernel)) (by decide +kernel) ⟨Nat.le_of_ble_eq_true rfl, Nat.le_of_ble_eq_true rfl⟩, hts (.static yX4_parted) (by decide +kernel), trivial⟩ ⟨nB_blind, nB_pre⟩ rfl rfl hl.1 rfl (lv_room (Nat.le_of_ble_eq_true rfl)) dX2_girthAt_35 ⟨Nat.le_of_ble_eq_true rfl, Nat.le_of_ble_eq_true rfl⟩)) (fun r_35 hr_35 => ?_)
  subst hr_35
  refine g_isub_n hx hb dX2_girthAt_38 (Nat.le_trans (girth_b3 hy) (Nat.sub_le _ _)) ?_
  exact W.iret (v := (nI (gg - (((gg - ee) * (dN hh y * dN hh y)) / (hh * hh))))) hx hb hr (fun t ht hW => ⟨_, rfl, rfl, ht⟩) (fun _ h => nomatch h) dX2_girthAt_39
set_option maxHeartbeats 4000000 in
set_option maxRecDepth 100000 in
theorem c_X2_widthAt (l : Launch) (D : va_G) (cy : Nat → ClassId) (K : List Nat) (ad : Nat → Nat) (E : Nat → va_E) (kf : Nat) (hkf : kf ∈ K) (hh gg ee nn : Nat) (hEf : E kf = cellF hh gg ee nn) (hfo : formOk hh gg ee nn) (k y : Nat) (hy : y ≤ hh) (hk : k < nn) : Met l yX2_widthAt wsX2_widthAt ({ frames := 2, cells := 0, slots := 0, locals := 43 } : Room) (va_Pc [.ref ((ad (kf))), .int (nI (k)), .int (nI (y))] (rB2 D cy (kW K ad E))) (vp_Si (fun r : Int32 => r = nI (widthN nn k (girthN hh gg ee y)))) 0 0 (fun _ => False) := by
  refine Met.ofW (cc := cX2_widthAt) (maxL := 4) (ret := (some .int)) (by decide) rfl ?_
  intro p e s m args below meth c s₁ B hml hv
  obtain ⟨rfl, hv⟩ := hv
  have hx := B.exec
  have hb := B.bytes
  have hr := B.returns
  have hts := atoms_spec (ws := wsX2_widthAt) B.pre
  have hown : s.vm.findClass RX2 = some m.cls := findClass_of_methodNamed B.named
  have hlocks := B.notSynchronized
  obtain ⟨⟨hP, hK⟩, hN⟩ := hv
  have hl := lv_entry ([.ref ((ad (kf))), .int (nI (k)), .int (nI (y))]) (n := 4) (Nat.le_of_ble_eq_true rfl)
  rw [lg_entry_eq]
  generalize (lg_sl ([.ref ((ad (kf))), .int (nI (k)), .int (nI (y))]) ++ List.replicate (4 - (lg_sl ([.ref ((ad (kf))), .int (nI (k)), .int (nI (y))])).length) Slot.unset).toArray = ls at hl ⊢
  have hl : lv_has ls 4 [(0, .ref ((ad (kf)))), (1, .int (nI (k))), (2, .int (nI (y)))] := hl
  have hfb := form_b hfo
  have hg2 := girth_b2 hfb.1 hfb.2.1
  have hw := width_b (k := k) (n := nn) (gi := girthN hh gg ee y) (Nat.le_trans (girthN_le _ _ _ _) hfb.2.2.2) hk (by omega)
  refine lv_aload_n hx hb dX2_widthAt_0 rfl (lv_at hl 0 rfl) ?_
  refine lv_iload_n hx hb dX2_widthAt_1 rfl (lv_at hl 2 rfl) ?_
  obtain ⟨p1, hp1⟩ := kW_pos hkf
  refine vp_callSi (va_Run.run (va_runV (As := [.int (nI (y))]) (rest := []) ⟨hx, hb, hml, hown, hts⟩ (c_X2_girthAt l D cy K ad E (kf) (hkf) (hh) (gg) (ee) (nn) (hEf) (hfo) (y) (hy)) (cwV 1 hts gX2_widthAt_X2_girthAt rfl rfl rfl (by decide +kernel) ⟨Nat.le_of_ble_eq_true rfl, Nat.le_of_ble_eq_true rfl⟩) ⟨rB2_blind, va_recv hK hP (ci := 2) (q0 := p1) rfl (kW_get hp1 hEf), (rB2_pre hP hK hN)⟩ rfl rfl hl.1 rfl (lv_room (Nat.le_of_ble_eq_true rfl)) dX2_widthAt_2 ⟨Nat.le_of_ble_eq_true rfl, Nat.le_of_ble_eq_true rfl⟩)) (fun r_2 hr_2 => ?_)
  subst hr_2
  refine lv_istore_n (lv' := [(3, .int (nI (girthN (hh) (gg) (ee) (y)))), (0, .ref ((ad (kf)))), (1, .int (nI (k))), (2, .int (nI (y)))]) hx hb dX2_widthAt_5 rfl hl (by decide) rfl (fun ls hl => ?_)
  refine lv_iload_n hx hb dX2_widthAt_6 rfl (lv_at hl 0 rfl) ?_
  refine lv_iload_n hx hb dX2_widthAt_7 rfl (lv_at hl 2 rfl) ?_
  refine lv_iconst (v := (nI (1))) hx hb dX2_widthAt_8 (by decide) ?_
  refine g_iadd_n hx hb dX2_widthAt_9 ?_
  refine g_imul_n hx hb dX2_widthAt_10 ?_
  refine lv_aload_n hx hb dX2_widthAt_11 rfl (lv_at hl 1 rfl) ?_
  obtain ⟨p2, hp2⟩ := kW_pos hkf
  refine va_get (D := D) (ci := 2) (v := .int (nI (nn))) (C := RX2) (T := TX2) (N := 4) hx hb hts (by decide +kernel) hown hK hP p2 (kW_get hp2 hEf) rfl 3 (by decide) (hts (.fieldLink RX2 21 "CaskYard$Form" "staves" "I") (by decide +kernel)) (fun _ h9 => h9) rfl dX2_widthAt_12 ?_
  refine vp_callSi (va_Run.run (va_runSN (As := [.int (nI ((girthN (hh) (gg) (ee) (y)) * (k + 1))), .int (nI (nn))]) (rest := []) ⟨hx, hb, hml, hown, hts⟩ (c_X4_parted l  ((girthN (hh) (gg) (ee) (y)) * (k + 1)) (nn) (hw.1) (by omega) (by omega)) ⟨va_cnB 2 hts gX2_widthAt_X4_parted_n24 rfl rfl rfl hN.1 (hts (.initialized RX4) (by decide +kernel)) (by decide +kernel) ⟨Nat.le_of_ble_eq_true rfl, Nat.le_of_ble_eq_true rfl⟩, hts (.static yX4_parted) (by decide +kernel), trivial⟩ ⟨nB_blind, nB_pre⟩ rfl rfl hl.1 rfl (lv_room (Nat.le_of_ble_eq_true rfl)) dX2_widthAt_15 ⟨Nat.le_of_ble_eq_true rfl, Nat.le_of_ble_eq_true rfl⟩)) (fun r_15 hr_15 => ?_)
  subst hr_15
  refine lv_iload_n hx hb dX2_widthAt_18 rfl (lv_at hl 0 rfl) ?_
  refine lv_iload_n hx hb dX2_widthAt_19 rfl (lv_at hl 2 rfl) ?_
  refine g_imul_n hx hb dX2_widthAt_20 ?_
  refine lv_aload_n hx hb dX2_widthAt_21 rfl (lv_at hl 1 rfl) ?_
  obtain ⟨p3, hp3⟩ := kW_pos hkf
  refine va_get (D := D) (ci := 2) (v := .int (nI (nn))) (C := RX2) (T := TX2) (N := 4) hx hb hts (by decide +kernel) hown hK hP p3 (kW_get hp3 hEf) rfl 3 (by decide) (hts (.fieldLink RX2 21 "CaskYard$Form" "staves" "I") (by decide +kernel)) (fun _ h9 => h9) rfl dX2_widthAt_22 ?_
  refine vp_callSi (va_Run.run (va_runSN (As := [.int (nI ((girthN (hh) (gg) (ee) (y)) * k)), .int (nI (nn))]) (rest := [.int (nI (((girthN (hh) (gg) (ee) (y)) * (k + 1)) / (nn)))]) ⟨hx, hb, hml, hown, hts⟩ (c_X4_parted l  ((girthN (hh) (gg) (ee) (y)) * k) (nn) (hw.2.1) (by omega) (by omega)) ⟨va_cnB 2 hts gX2_widthAt_X4_parted_n24 rfl rfl rfl hN.1 (hts (.initialized RX4) (by decide +kernel)) (by decide +kernel) ⟨Nat.le_of_ble_eq_true rfl, Nat.le_of_ble_eq_true rfl⟩, hts (.static yX4_parted) (by decide +kernel), trivial⟩ ⟨nB_blind, nB_pre⟩ rfl rfl hl.1 rfl (lv_room (Nat.le_of_ble_eq_true rfl)) dX2_widthAt_25 ⟨Nat.le_of_ble_eq_true rfl, Nat.le_of_ble_eq_true rfl⟩)) (fun r_25 hr_25 => ?_)
  subst hr_25
  refine g_isub_n hx hb dX2_widthAt_28 hw.2.2 ?_
  exact W.iret (v := (nI ((((girthN (hh) (gg) (ee) (y)) * (k + 1)) / (nn)) - (((girthN (hh) (gg) (ee) (y)) * k) / (nn))))) hx hb hr (fun t ht hW => ⟨_, rfl, rfl, ht⟩) (fun _ h => nomatch h) dX2_widthAt_29
set_option maxHeartbeats 4000000 in
set_option maxRecDepth 100000 in
theorem c_X2_bilgeWidth (l : Launch) (D : va_G) (cy : Nat → ClassId) (K : List Nat) (ad : Nat → Nat) (E : Nat → va_E) (kf : Nat) (hkf : kf ∈ K) (hh gg ee nn : Nat) (hEf : E kf = cellF hh gg ee nn) (hfo : formOk hh gg ee nn) (k : Nat) (hk : k < nn) : Met l yX2_bilgeWidth wsX2_bilgeWidth ({ frames := 3, cells := 0, slots := 0, locals := 66 } : Room) (va_Pc [.ref ((ad (kf))), .int (nI (k))] (rB2 D cy (kW K ad E))) (vp_Si (fun r : Int32 => r = nI (widthN nn k gg))) 0 0 (fun _ => False) := by
  refine Met.ofW (cc := cX2_bilgeWidth) (maxL := 2) (ret := (some .int)) (by decide) rfl ?_
  intro p e s m args below meth c s₁ B hml hv
  obtain ⟨rfl, hv⟩ := hv
  have hx := B.exec
  have hb := B.bytes
  have hr := B.returns
  have hts := atoms_spec (ws := wsX2_bilgeWidth) B.pre
  have hown : s.vm.findClass RX2 = some m.cls := findClass_of_methodNamed B.named
  have hlocks := B.notSynchronized
  obtain ⟨⟨hP, hK⟩, hN⟩ := hv
  have hl := lv_entry ([.ref ((ad (kf))), .int (nI (k))]) (n := 2) (Nat.le_of_ble_eq_true rfl)
  rw [lg_entry_eq]
  generalize (lg_sl ([.ref ((ad (kf))), .int (nI (k))]) ++ List.replicate (2 - (lg_sl ([.ref ((ad (kf))), .int (nI (k))])).length) Slot.unset).toArray = ls at hl ⊢
  have hl : lv_has ls 2 [(0, .ref ((ad (kf)))), (1, .int (nI (k)))] := hl
  refine lv_aload_n hx hb dX2_bilgeWidth_0 rfl (lv_at hl 0 rfl) ?_
  refine lv_iload_n hx hb dX2_bilgeWidth_1 rfl (lv_at hl 1 rfl) ?_
  refine lv_aload_n hx hb dX2_bilgeWidth_2 rfl (lv_at hl 0 rfl) ?_
  obtain ⟨p1, hp1⟩ := kW_pos hkf
  refine va_get (D := D) (ci := 2) (v := .int (nI (hh))) (C := RX2) (T := TX2) (N := 4) hx hb hts (by decide +kernel) hown hK hP p1 (kW_get hp1 hEf) rfl 0 (by decide) (hts (.fieldLink RX2 9 "CaskYard$Form" "height" "I") (by decide +kernel)) (fun _ h9 => h9) rfl dX2_bilgeWidth_3 ?_
  refine lv_iconst (v := (nI (2))) hx hb dX2_bilgeWidth_6 (by decide) ?_
  refine g_idiv_n hx hb dX2_bilgeWidth_7 (by omega) (by omega) (by omega) ?_
  obtain ⟨p2, hp2⟩ := kW_pos hkf
  refine vp_callSi (va_Run.run (va_runV (As := [.int (nI (k)), .int (nI (hh / 2))]) (rest := []) ⟨hx, hb, hml, hown, hts⟩ (c_X2_widthAt l D cy K ad E (kf) (hkf) (hh) (gg) (ee) (nn) (hEf) (hfo) (k) (hh / 2) (by omega) (hk)) (cwV 2 hts gX2_bilgeWidth_X2_widthAt rfl rfl rfl (by decide +kernel) ⟨Nat.le_of_ble_eq_true rfl, Nat.le_of_ble_eq_true rfl⟩) ⟨rB2_blind, va_recv hK hP (ci := 2) (q0 := p2) rfl (kW_get hp2 hEf), (rB2_pre hP hK hN)⟩ rfl rfl hl.1 rfl (lv_room (Nat.le_of_ble_eq_true rfl)) dX2_bilgeWidth_8 ⟨Nat.le_of_ble_eq_true rfl, Nat.le_of_ble_eq_true rfl⟩)) (fun r_8 hr_8 => ?_)
  refine g_top (y := (nI (widthN nn k gg))) (by rw [hr_8, girth_mid hfo.2.2.1]) ?_
  exact W.iret (v := (nI (widthN nn k gg))) hx hb hr (fun t ht hW => ⟨_, rfl, rfl, ht⟩) (fun _ h => nomatch h) dX2_bilgeWidth_11
set_option maxHeartbeats 4000000 in
set_option maxRecDepth 100000 in
theorem c_X2_squareAt (l : Launch) (D : va_G) (cy : Nat → ClassId) (K : List Nat) (ad : Nat → Nat) (E : Nat → va_E) (kf : Nat) (hkf : kf ∈ K) (hh gg ee nn : Nat) (hEf : E kf = cellF hh gg ee nn) (hfo : formOk hh gg ee nn) (y : Nat) (hy : y ≤ hh) : Met l yX2_squareAt wsX2_squareAt ({ frames := 2, cells := 0, slots := 0, locals := 43 } : Room) (va_Pc [.ref ((ad (kf))), .int (nI (y))] (rB2 D cy (kW K ad E))) (vp_Sl (fun r : Int64 => r = lN (girthN hh gg ee y * girthN hh gg ee y))) 0 0 (fun _ => False) := by
  refine Met.ofW (cc := cX2_squareAt) (maxL := 4) (ret := (some .long)) (by decide) rfl ?_
  intro p e s m args below meth c s₁ B hml hv
  obtain ⟨rfl, hv⟩ := hv
  have hx := B.exec
  have hb := B.bytes
  have hr := B.returns
  have hts := atoms_spec (ws := wsX2_squareAt) B.pre
  have hown : s.vm.findClass RX2 = some m.cls := findClass_of_methodNamed B.named
  have hlocks := B.notSynchronized
  obtain ⟨⟨hP, hK⟩, hN⟩ := hv
  have hl := lv_entry ([.ref ((ad (kf))), .int (nI (y))]) (n := 4) (Nat.le_of_ble_eq_true rfl)
  rw [lg_entry_eq]
  generalize (lg_sl ([.ref ((ad (kf))), .int (nI (y))]) ++ List.replicate (4 - (lg_sl ([.ref ((ad (kf))), .int (nI (y))])).length) Slot.unset).toArray = ls at hl ⊢
  have hl : lv_has ls 4 [(0, .ref ((ad (kf)))), (1, .int (nI (y)))] := hl
  have hgl := girthN_le hh gg ee y
  refine lv_aload_n hx hb dX2_squareAt_0 rfl (lv_at hl 0 rfl) ?_
  refine lv_iload_n hx hb dX2_squareAt_1 rfl (lv_at hl 1 rfl) ?_
  obtain ⟨p1, hp1⟩ := kW_pos hkf
  refine vp_callSi (va_Run.run (va_runV (As := [.int (nI (y))]) (rest := []) ⟨hx, hb, hml, hown, hts⟩ (c_X2_girthAt l D cy K ad E (kf) (hkf) (hh) (gg) (ee) (nn) (hEf) (hfo) (y) (hy)) (cwV 1 hts gX2_squareAt_X2_girthAt rfl rfl rfl (by decide +kernel) ⟨Nat.le_of_ble_eq_true rfl, Nat.le_of_ble_eq_true rfl⟩) ⟨rB2_blind, va_recv hK hP (ci := 2) (q0 := p1) rfl (kW_get hp1 hEf), (rB2_pre hP hK hN)⟩ rfl rfl hl.1 rfl (lv_room (Nat.le_of_ble_eq_true rfl)) dX2_squareAt_2 ⟨Nat.le_of_ble_eq_true rfl, Nat.le_of_ble_eq_true rfl⟩)) (fun r_2 hr_2 => ?_)
  subst hr_2
  refine lv_i2l (v := lN (girthN (hh) (gg) (ee) (y))) hx hb dX2_squareAt_5 (nI_l (by omega)) ?_
  refine lv_lstore_n (lv' := [(2, .long (lN (girthN (hh) (gg) (ee) (y)))), (0, .ref ((ad (kf)))), (1, .int (nI (y)))]) hx hb dX2_squareAt_6 rfl hl (by decide) rfl (fun ls hl => ?_)
  refine lv_lload_n hx hb dX2_squareAt_7 rfl (lv_at hl 0 rfl) ?_
  refine lv_lload_n hx hb dX2_squareAt_8 rfl (lv_at hl 0 rfl) ?_
  refine lv_lmul hx hb dX2_squareAt_9 ?_
  refine g_topl (y := lN ((girthN (hh) (gg) (ee) (y)) * (girthN (hh) (gg) (ee) (y)))) (lN_mul _ _) ?_
  exact W.lret (v := (lN ((girthN (hh) (gg) (ee) (y)) * (girthN (hh) (gg) (ee) (y))))) hx hb hr (fun t ht hW => ⟨_, rfl, rfl, ht⟩) (fun _ h => nomatch h) dX2_squareAt_10
set_option maxHeartbeats 4000000 in
set_option maxRecDepth 100000 in
theorem c_X2_content (l : Launch)  (z : Nat) (hz : z ≤ 800000000) : Met l yX2_content wsX2_content ({ frames := 0, cells := 0, slots := 0, locals := 0 } : Room) (va_Pc [.long (lN (z))] (fun _ => True)) (vp_Si (fun r : Int32 => r = nI (z * 113 / 1420))) 0 0 (fun _ => False) := by
  refine Met.ofW (cc := cX2_content) (maxL := 2) (ret := (some .int)) (by decide) rfl ?_
  intro p e s m args below meth c s₁ B hml hv
  obtain ⟨rfl, hv⟩ := hv
  have hx := B.exec
  have hb := B.bytes
  have hr := B.returns
  have hts := atoms_spec (ws := wsX2_content) B.pre
  have hown : s.vm.findClass RX2 = some m.cls := findClass_of_methodNamed B.named
  have hlocks := B.notSynchronized
  have hl := lv_entry ([.long (lN (z))]) (n := 2) (Nat.le_of_ble_eq_true rfl)
  rw [lg_entry_eq]
  generalize (lg_sl ([.long (lN (z))]) ++ List.replicate (2 - (lg_sl ([.long (lN (z))])).length) Slot.unset).toArray = ls at hl ⊢
  have hl : lv_has ls 2 [(0, .long (lN (z)))] := hl
  refine lv_lload_n hx hb dX2_content_0 rfl (lv_at hl 0 rfl) ?_
  refine lv_ldc2 hx hb hown (hts (.constantLong RX2 43 (113)) (by decide +kernel)) dX2_content_1 ?_
  refine g_topl (y := lN 113) (by decide) ?_
  refine lv_lmul hx hb dX2_content_4 ?_
  refine g_topl (y := lN (z * 113)) (lN_mul _ _) ?_
  refine lv_ldc2 hx hb hown (hts (.constantLong RX2 45 (1420)) (by decide +kernel)) dX2_content_5 ?_
  refine g_topl (y := lN 1420) (by decide) ?_
  refine lv_ldiv hx hb dX2_content_8 (by decide) ?_
  refine g_topl (y := lN ((z * 113) / 1420)) (pk_lDiv (by omega) (by omega) (by omega)) ?_
  refine lv_l2i (v := nI ((z * 113) / 1420)) hx hb dX2_content_9 (lN_i _) ?_
  exact W.iret (v := (nI ((z * 113) / 1420))) hx hb hr (fun t ht hW => ⟨_, rfl, rfl, ht⟩) (fun _ h => nomatch h) dX2_content_10
set_option maxHeartbeats 4000000 in
set_option maxRecDepth 100000 in
theorem c_X2_contentTo (l : Launch) (D : va_G) (cy : Nat → ClassId) (K : List Nat) (ad : Nat → Nat) (E : Nat → va_E) (kf : Nat) (hkf : kf ∈ K) (hh gg ee nn : Nat) (hEf : E kf = cellF hh gg ee nn) (hfo : formOk hh gg ee nn) (lv : Nat) (hlv : lv ≤ hh) : Met l yX2_contentTo wsX2_contentTo ({ frames := 3, cells := 0, slots := 0, locals := 66 } : Room) (va_Pc [.ref ((ad (kf))), .int (nI (lv))] (rB2 D cy (kW K ad E))) (vp_Si (fun r : Int32 => r = nI (holdsN hh gg ee lv))) 0 0 (fun _ => False) := by
  refine Met.ofW (cc := cX2_contentTo) (maxL := 5) (ret := (some .int)) (by decide) rfl ?_
  intro p e s m args below meth c s₁ B hml hv
  obtain ⟨rfl, hv⟩ := hv
  have hx := B.exec
  have hb := B.bytes
  have hr := B.returns
  have hts := atoms_spec (ws := wsX2_contentTo) B.pre
  have hown : s.vm.findClass RX2 = some m.cls := findClass_of_methodNamed B.named
  have hlocks := B.notSynchronized
  obtain ⟨⟨hP, hK⟩, hN⟩ := hv
  have hl := lv_entry ([.ref ((ad (kf))), .int (nI (lv))]) (n := 5) (Nat.le_of_ble_eq_true rfl)
  rw [lg_entry_eq]
  generalize (lg_sl ([.ref ((ad (kf))), .int (nI (lv))]) ++ List.replicate (5 - (lg_sl ([.ref ((ad (kf))), .int (nI (lv))])).length) Slot.unset).toArray = ls at hl ⊢
  have hl : lv_has ls 5 [(0, .ref ((ad (kf)))), (1, .int (nI (lv)))] := hl
  refine lv_lconst (v := lN 0) hx hb dX2_contentTo_0 (by decide) ?_
  refine lv_lstore_n (lv' := [(2, .long (lN (0))), (0, .ref ((ad (kf)))), (1, .int (nI (lv)))]) hx hb dX2_contentTo_1 rfl hl (by decide) rfl (fun ls hl => ?_)
  refine lv_iconst (v := (nI (0))) hx hb dX2_contentTo_2 (by decide) ?_
  refine lv_istore (lv' := [(4, .int (nI (0))), (2, .long (lN (0))), (0, .ref ((ad (kf)))), (1, .int (nI (lv)))]) hx hb dX2_contentTo_3 hl (by decide) rfl (fun ls hl => ?_)
  have loop_5 : ∀ (n_ : Nat) (y : Nat), (y ≤ lv) → lv - y < n_ → ∀ (ls : Array Slot), lv_has ls 5 [(0, .ref ((ad (kf)))), (1, .int (nI (lv))), (2, .long (lN (sqN hh gg ee y))), (4, .int (nI (y)))] → W p l e (headSpec wsX2_contentTo ({ frames := 3, cells := 0, slots := 0, locals := 66 } : Room)).room s m ([.ref ((ad (kf))), .int (nI (lv))] : List Value).toArray below meth c s.heap [] 0 0 (MQ below (vp_Si (fun r : Int32 => r = nI (holdsN hh gg ee lv))) ([.ref ((ad (kf))), .int (nI (lv))] : List Value).toArray s 0 0 (fun _ => False)) (F0 m 5 ls []) := by
    intro n_
    induction n_ with
    | zero => intro y hyl hm_; exact absurd hm_ (Nat.not_lt_zero _)
    | succ n_ ih_5 =>
      intro y hyl hm_ ls hl
      refine lv_iload hx hb dX2_contentTo_5 (lv_at hl 3 rfl) ?_
      refine lv_iload_n hx hb dX2_contentTo_7 rfl (lv_at hl 1 rfl) ?_
      refine g_icmp_ge (tgt := 26) hx hb dX2_contentTo_8 (by decide) (n_i (by omega)) (n_i (by omega)) (fun c_8 => ?_) (fun c_8 => ?_)
      · skip
        obtain rfl : y = lv := by omega
        have hsq := sqN_le (h := hh) (e := ee) (g := gg) (by omega) y
        refine lv_lload_n hx hb dX2_contentTo_26 rfl (lv_at hl 2 rfl) ?_
        refine vp_callSi (va_Run.run (va_runS (As := [.long (lN (sqN hh gg ee y))]) (rest := []) ⟨hx, hb, hml, hown, hts⟩ (c_X2_content l  (sqN hh gg ee y) (by omega)) (va_cwS 1 hts gX2_contentTo_X2_content rfl rfl rfl (by decide +kernel) ⟨Nat.le_of_ble_eq_true rfl, Nat.le_of_ble_eq_true rfl⟩) ⟨nB_blind, nB_pre⟩ rfl rfl hl.1 rfl (lv_room (Nat.le_of_ble_eq_true rfl)) dX2_contentTo_27 ⟨Nat.le_of_ble_eq_true rfl, Nat.le_of_ble_eq_true rfl⟩)) (fun r_27 hr_27 => ?_)
        subst hr_27
        exact W.iret (v := (nI ((sqN hh gg ee y) * 113 / 1420))) hx hb hr (fun t ht hW => ⟨_, rfl, rfl, ht⟩) (fun _ h => nomatch h) dX2_contentTo_30
      · skip
        refine lv_lload_n hx hb dX2_contentTo_11 rfl (lv_at hl 2 rfl) ?_
        refine lv_aload_n hx hb dX2_contentTo_12 rfl (lv_at hl 0 rfl) ?_
        refine lv_iload hx hb dX2_contentTo_13 (lv_at hl 3 rfl) ?_
        obtain ⟨p1, hp1⟩ := kW_pos hkf
        refine vp_callSl (va_Run.run (va_runV (As := [.int (nI (y))]) (rest := [.long (lN (sqN hh gg ee y))]) ⟨hx, hb, hml, hown, hts⟩ (c_X2_squareAt l D cy K ad E (kf) (hkf) (hh) (gg) (ee) (nn) (hEf) (hfo) (y) (by omega)) (cwV 1 hts gX2_contentTo_X2_squareAt rfl rfl rfl (by decide +kernel) ⟨Nat.le_of_ble_eq_true rfl, Nat.le_of_ble_eq_true rfl⟩) ⟨rB2_blind, va_recv hK hP (ci := 2) (q0 := p1) rfl (kW_get hp1 hEf), (rB2_pre hP hK hN)⟩ rfl rfl hl.1 rfl (lv_room (Nat.le_of_ble_eq_true rfl)) dX2_contentTo_15 ⟨Nat.le_of_ble_eq_true rfl, Nat.le_of_ble_eq_true rfl⟩)) (fun r_15 hr_15 => ?_)
        subst hr_15
        refine lv_ladd hx hb dX2_contentTo_18 ?_
        refine g_topl (y := lN ((sqN hh gg ee y) + (girthN (hh) (gg) (ee) (y) * girthN (hh) (gg) (ee) (y)))) (lN_add _ _) ?_
        refine lv_lstore_n (lv' := [(2, .long (lN ((sqN hh gg ee y) + (girthN (hh) (gg) (ee) (y) * girthN (hh) (gg) (ee) (y))))), (0, .ref ((ad (kf)))), (1, .int (nI (lv))), (4, .int (nI (y)))]) hx hb dX2_contentTo_19 rfl hl (by decide) rfl (fun ls hl => ?_)
        refine lv_iinc (v := (nI (y + 1))) (lv' := [(4, .int (nI (y + 1))), (2, .long (lN ((sqN hh gg ee y) + (girthN (hh) (gg) (ee) (y) * girthN (hh) (gg) (ee) (y))))), (0, .ref ((ad (kf)))), (1, .int (nI (lv)))]) hx hb dX2_contentTo_20 hl (k := 3) rfl (nI_add _ _) (by decide) rfl (fun ls hl => ?_)
        refine lv_goto (tgt := 5) hx hb dX2_contentTo_23 (by decide) ?_
        exact ih_5 (y + 1)  (by omega) (by omega) ls (lv_sub hl [2, 3, 1, 0] rfl)
  exact loop_5 _ (0)  (by omega) (Nat.lt_succ_self _) ls (lv_sub hl [2, 3, 1, 0] rfl)
set_option maxHeartbeats 4000000 in
set_option maxRecDepth 100000 in
theorem c_X2_leastLevel (l : Launch) (D : va_G) (cy : Nat → ClassId) (K : List Nat) (ad : Nat → Nat) (E : Nat → va_E) (kf : Nat) (hkf : kf ∈ K) (hh gg ee nn : Nat) (hEf : E kf = cellF hh gg ee nn) (hfo : formOk hh gg ee nn) (much : Nat) (hmu : much < 2147483648) : Met l yX2_leastLevel wsX2_leastLevel ({ frames := 3, cells := 0, slots := 0, locals := 66 } : Room) (va_Pc [.ref ((ad (kf))), .int (nI (much))] (rB2 D cy (kW K ad E))) (vp_Si (fun r : Int32 => r = zI (levelN hh gg ee much 0 (hh + 1)))) 0 0 (fun _ => False) := by
  refine Met.ofW (cc := cX2_leastLevel) (maxL := 5) (ret := (some .int)) (by decide) rfl ?_
  intro p e s m args below meth c s₁ B hml hv
  obtain ⟨rfl, hv⟩ := hv
  have hx := B.exec
  have hb := B.bytes
  have hr := B.returns
  have hts := atoms_spec (ws := wsX2_leastLevel) B.pre
  have hown : s.vm.findClass RX2 = some m.cls := findClass_of_methodNamed B.named
  have hlocks := B.notSynchronized
  obtain ⟨⟨hP, hK⟩, hN⟩ := hv
  have hl := lv_entry ([.ref ((ad (kf))), .int (nI (much))]) (n := 5) (Nat.le_of_ble_eq_true rfl)
  rw [lg_entry_eq]
  generalize (lg_sl ([.ref ((ad (kf))), .int (nI (much))]) ++ List.replicate (5 - (lg_sl ([.ref ((ad (kf))), .int (nI (much))])).length) Slot.unset).toArray = ls at hl ⊢
  have hl : lv_has ls 5 [(0, .ref ((ad (kf)))), (1, .int (nI (much)))] := hl
  refine lv_lconst (v := lN 0) hx hb dX2_leastLevel_0 (by decide) ?_
  refine lv_lstore_n (lv' := [(2, .long (lN (0))), (0, .ref ((ad (kf)))), (1, .int (nI (much)))]) hx hb dX2_leastLevel_1 rfl hl (by decide) rfl (fun ls hl => ?_)
  refine lv_iconst (v := (nI (0))) hx hb dX2_leastLevel_2 (by decide) ?_
  refine lv_istore (lv' := [(4, .int (nI (0))), (2, .long (lN (0))), (0, .ref ((ad (kf)))), (1, .int (nI (much)))]) hx hb dX2_leastLevel_3 hl (by decide) rfl (fun ls hl => ?_)
  have loop_5 : ∀ (n_ : Nat) (y : Nat), (y ≤ hh + 1) → (levelN hh gg ee much 0 (hh + 1) = levelN hh gg ee much y (hh + 1 - y)) → hh + 1 - y < n_ → ∀ (ls : Array Slot), lv_has ls 5 [(0, .ref ((ad (kf)))), (1, .int (nI (much))), (2, .long (lN (sqN hh gg ee y))), (4, .int (nI (y)))] → W p l e (headSpec wsX2_leastLevel ({ frames := 3, cells := 0, slots := 0, locals := 66 } : Room)).room s m ([.ref ((ad (kf))), .int (nI (much))] : List Value).toArray below meth c s.heap [] 0 0 (MQ below (vp_Si (fun r : Int32 => r = zI (levelN hh gg ee much 0 (hh + 1)))) ([.ref ((ad (kf))), .int (nI (much))] : List Value).toArray s 0 0 (fun _ => False)) (F0 m 5 ls []) := by
    intro n_
    induction n_ with
    | zero => intro y hyl hlv hm_; exact absurd hm_ (Nat.not_lt_zero _)
    | succ n_ ih_5 =>
      intro y hyl hlv hm_ ls hl
      refine lv_iload hx hb dX2_leastLevel_5 (lv_at hl 3 rfl) ?_
      refine lv_aload_n hx hb dX2_leastLevel_7 rfl (lv_at hl 0 rfl) ?_
      obtain ⟨p1, hp1⟩ := kW_pos hkf
      refine va_get (D := D) (ci := 2) (v := .int (nI (hh))) (C := RX2) (T := TX2) (N := 4) hx hb hts (by decide +kernel) hown hK hP p1 (kW_get hp1 hEf) rfl 0 (by decide) (hts (.fieldLink RX2 9 "CaskYard$Form" "height" "I") (by decide +kernel)) (fun _ h9 => h9) rfl dX2_leastLevel_8 ?_
      refine g_icmp_gt (tgt := 40) hx hb dX2_leastLevel_11 (by decide) (n_i (by omega)) (n_i (by omega)) (fun c_11 => ?_) (fun c_11 => ?_)
      · skip
        refine lv_iconst (v := (zI ((-1)))) hx hb dX2_leastLevel_40 (by decide) ?_
        exact W.iret (v := (zI ((-1)))) hx hb hr (fun t ht hW => ⟨_, rfl, (by rw [hlv, levelN_end (by omega)]), ht⟩) (fun _ h => nomatch h) dX2_leastLevel_41
      · skip
        have hsq := sqN_le (h := hh) (e := ee) (g := gg) (by omega) y
        refine lv_lload_n hx hb dX2_leastLevel_14 rfl (lv_at hl 2 rfl) ?_
        refine vp_callSi (va_Run.run (va_runS (As := [.long (lN (sqN hh gg ee y))]) (rest := []) ⟨hx, hb, hml, hown, hts⟩ (c_X2_content l  (sqN hh gg ee y) (by omega)) (va_cwS 1 hts gX2_leastLevel_X2_content rfl rfl rfl (by decide +kernel) ⟨Nat.le_of_ble_eq_true rfl, Nat.le_of_ble_eq_true rfl⟩) ⟨nB_blind, nB_pre⟩ rfl rfl hl.1 rfl (lv_room (Nat.le_of_ble_eq_true rfl)) dX2_leastLevel_15 ⟨Nat.le_of_ble_eq_true rfl, Nat.le_of_ble_eq_true rfl⟩)) (fun r_15 hr_15 => ?_)
        subst hr_15
        refine lv_iload_n hx hb dX2_leastLevel_18 rfl (lv_at hl 1 rfl) ?_
        refine g_icmp_lt (tgt := 25) hx hb dX2_leastLevel_19 (by decide) (n_i (by omega)) (n_i (by omega)) (fun c_19 => ?_) (fun c_19 => ?_)
        · skip
          refine lv_lload_n hx hb dX2_leastLevel_25 rfl (lv_at hl 2 rfl) ?_
          refine lv_aload_n hx hb dX2_leastLevel_26 rfl (lv_at hl 0 rfl) ?_
          refine lv_iload hx hb dX2_leastLevel_27 (lv_at hl 3 rfl) ?_
          obtain ⟨p2, hp2⟩ := kW_pos hkf
          refine vp_callSl (va_Run.run (va_runV (As := [.int (nI (y))]) (rest := [.long (lN (sqN hh gg ee y))]) ⟨hx, hb, hml, hown, hts⟩ (c_X2_squareAt l D cy K ad E (kf) (hkf) (hh) (gg) (ee) (nn) (hEf) (hfo) (y) (by omega)) (cwV 1 hts gX2_leastLevel_X2_squareAt rfl rfl rfl (by decide +kernel) ⟨Nat.le_of_ble_eq_true rfl, Nat.le_of_ble_eq_true rfl⟩) ⟨rB2_blind, va_recv hK hP (ci := 2) (q0 := p2) rfl (kW_get hp2 hEf), (rB2_pre hP hK hN)⟩ rfl rfl hl.1 rfl (lv_room (Nat.le_of_ble_eq_true rfl)) dX2_leastLevel_29 ⟨Nat.le_of_ble_eq_true rfl, Nat.le_of_ble_eq_true rfl⟩)) (fun r_29 hr_29 => ?_)
          subst hr_29
          refine lv_ladd hx hb dX2_leastLevel_32 ?_
          refine g_topl (y := lN ((sqN hh gg ee y) + (girthN (hh) (gg) (ee) (y) * girthN (hh) (gg) (ee) (y)))) (lN_add _ _) ?_
          refine lv_lstore_n (lv' := [(2, .long (lN ((sqN hh gg ee y) + (girthN (hh) (gg) (ee) (y) * girthN (hh) (gg) (ee) (y))))), (0, .ref ((ad (kf)))), (1, .int (nI (much))), (4, .int (nI (y)))]) hx hb dX2_leastLevel_33 rfl hl (by decide) rfl (fun ls hl => ?_)
          refine lv_iinc (v := (nI (y + 1))) (lv' := [(4, .int (nI (y + 1))), (2, .long (lN ((sqN hh gg ee y) + (girthN (hh) (gg) (ee) (y) * girthN (hh) (gg) (ee) (y))))), (0, .ref ((ad (kf)))), (1, .int (nI (much)))]) hx hb dX2_leastLevel_34 hl (k := 3) rfl (nI_add _ _) (by decide) rfl (fun ls hl => ?_)
          refine lv_goto (tgt := 5) hx hb dX2_leastLevel_37 (by decide) ?_
          exact ih_5 (y + 1)  (by omega) (hlv.trans (levelN_step (by omega) (by unfold holdsN; omega))) (by omega) ls (lv_sub hl [2, 3, 1, 0] rfl)
        · skip
          refine lv_iload hx hb dX2_leastLevel_22 (lv_at hl 3 rfl) ?_
          exact W.iret (v := (nI (y))) hx hb hr (fun t ht hW => ⟨_, rfl, (by rw [hlv, levelN_hit (by omega) (by unfold holdsN; omega)]; rfl), ht⟩) (fun _ h => nomatch h) dX2_leastLevel_24
  exact loop_5 _ (0)  (by omega) rfl (Nat.lt_succ_self _) ls (lv_sub hl [2, 3, 1, 0] rfl)
set_option maxHeartbeats 4000000 in
set_option maxRecDepth 100000 in
theorem c_X2_narrowPiece (l : Launch) (D : va_G) (cy : Nat → ClassId) (K : List Nat) (ad : Nat → Nat) (E : Nat → va_E) (kf : Nat) (hkf : kf ∈ K) (hh gg ee nn : Nat) (hEf : E kf = cellF hh gg ee nn) (hfo : formOk hh gg ee nn) : Met l yX2_narrowPiece wsX2_narrowPiece ({ frames := 1, cells := 0, slots := 0, locals := 21 } : Room) (va_Pc [.ref ((ad (kf)))] (rB2 D cy (kW K ad E))) (vp_Si (fun r : Int32 => r = nI (gg / nn + 2))) 0 0 (fun _ => False) := by
  refine Met.ofW (cc := cX2_narrowPiece) (maxL := 1) (ret := (some .int)) (by decide) rfl ?_
  intro p e s m args below meth c s₁ B hml hv
  obtain ⟨rfl, hv⟩ := hv
  have hx := B.exec
  have hb := B.bytes
  have hr := B.returns
  have hts := atoms_spec (ws := wsX2_narrowPiece) B.pre
  have hown : s.vm.findClass RX2 = some m.cls := findClass_of_methodNamed B.named
  have hlocks := B.notSynchronized
  obtain ⟨⟨hP, hK⟩, hN⟩ := hv
  have hl := lv_entry ([.ref ((ad (kf)))]) (n := 1) (Nat.le_of_ble_eq_true rfl)
  rw [lg_entry_eq]
  generalize (lg_sl ([.ref ((ad (kf)))]) ++ List.replicate (1 - (lg_sl ([.ref ((ad (kf)))])).length) Slot.unset).toArray = ls at hl ⊢
  have hl : lv_has ls 1 [(0, .ref ((ad (kf))))] := hl
  refine lv_aload_n hx hb dX2_narrowPiece_0 rfl (lv_at hl 0 rfl) ?_
  obtain ⟨p1, hp1⟩ := kW_pos hkf
  refine va_get (D := D) (ci := 2) (v := .int (nI (gg))) (C := RX2) (T := TX2) (N := 4) hx hb hts (by decide +kernel) hown hK hP p1 (kW_get hp1 hEf) rfl 1 (by decide) (hts (.fieldLink RX2 15 "CaskYard$Form" "bilge" "I") (by decide +kernel)) (fun _ h9 => h9) rfl dX2_narrowPiece_1 ?_
  refine lv_aload_n hx hb dX2_narrowPiece_4 rfl (lv_at hl 0 rfl) ?_
  obtain ⟨p2, hp2⟩ := kW_pos hkf
  refine va_get (D := D) (ci := 2) (v := .int (nI (nn))) (C := RX2) (T := TX2) (N := 4) hx hb hts (by decide +kernel) hown hK hP p2 (kW_get hp2 hEf) rfl 3 (by decide) (hts (.fieldLink RX2 21 "CaskYard$Form" "staves" "I") (by decide +kernel)) (fun _ h9 => h9) rfl dX2_narrowPiece_5 ?_
  refine vp_callSi (va_Run.run (va_runSN (As := [.int (nI (gg)), .int (nI (nn))]) (rest := []) ⟨hx, hb, hml, hown, hts⟩ (c_X4_parted l  (gg) (nn) (by omega) (by omega) (by omega)) ⟨va_cnB 2 hts gX2_narrowPiece_X4_parted_n24 rfl rfl rfl hN.1 (hts (.initialized RX4) (by decide +kernel)) (by decide +kernel) ⟨Nat.le_of_ble_eq_true rfl, Nat.le_of_ble_eq_true rfl⟩, hts (.static yX4_parted) (by decide +kernel), trivial⟩ ⟨nB_blind, nB_pre⟩ rfl rfl hl.1 rfl (lv_room (Nat.le_of_ble_eq_true rfl)) dX2_narrowPiece_8 ⟨Nat.le_of_ble_eq_true rfl, Nat.le_of_ble_eq_true rfl⟩)) (fun r_8 hr_8 => ?_)
  subst hr_8
  refine lv_iconst (v := (nI (2))) hx hb dX2_narrowPiece_11 (by decide) ?_
  refine g_iadd_n hx hb dX2_narrowPiece_12 ?_
  exact W.iret (v := (nI (((gg) / (nn)) + 2))) hx hb hr (fun t ht hW => ⟨_, rfl, rfl, ht⟩) (fun _ h => nomatch h) dX2_narrowPiece_13
set_option maxHeartbeats 4000000 in
set_option maxRecDepth 100000 in
theorem c_X2_wides (l : Launch) (D : va_G) (cy : Nat → ClassId) (K : List Nat) (ad : Nat → Nat) (E : Nat → va_E) (kf : Nat) (hkf : kf ∈ K) (hh gg ee nn : Nat) (hEf : E kf = cellF hh gg ee nn) (hfo : formOk hh gg ee nn) : Met l yX2_wides wsX2_wides ({ frames := 1, cells := 0, slots := 0, locals := 21 } : Room) (va_Pc [.ref ((ad (kf)))] (rB2 D cy (kW K ad E))) (vp_Si (fun r : Int32 => r = nI (gg % nn))) 0 0 (fun _ => False) := by
  refine Met.ofW (cc := cX2_wides) (maxL := 1) (ret := (some .int)) (by decide) rfl ?_
  intro p e s m args below meth c s₁ B hml hv
  obtain ⟨rfl, hv⟩ := hv
  have hx := B.exec
  have hb := B.bytes
  have hr := B.returns
  have hts := atoms_spec (ws := wsX2_wides) B.pre
  have hown : s.vm.findClass RX2 = some m.cls := findClass_of_methodNamed B.named
  have hlocks := B.notSynchronized
  obtain ⟨⟨hP, hK⟩, hN⟩ := hv
  have hl := lv_entry ([.ref ((ad (kf)))]) (n := 1) (Nat.le_of_ble_eq_true rfl)
  rw [lg_entry_eq]
  generalize (lg_sl ([.ref ((ad (kf)))]) ++ List.replicate (1 - (lg_sl ([.ref ((ad (kf)))])).length) Slot.unset).toArray = ls at hl ⊢
  have hl : lv_has ls 1 [(0, .ref ((ad (kf))))] := hl
  have hdm := Nat.div_add_mod gg nn
  have hmc := Nat.mul_comm nn (gg / nn)
  have hle : gg / nn * nn ≤ gg := Nat.div_mul_le_self _ _
  refine lv_aload_n hx hb dX2_wides_0 rfl (lv_at hl 0 rfl) ?_
  obtain ⟨p1, hp1⟩ := kW_pos hkf
  refine va_get (D := D) (ci := 2) (v := .int (nI (gg))) (C := RX2) (T := TX2) (N := 4) hx hb hts (by decide +kernel) hown hK hP p1 (kW_get hp1 hEf) rfl 1 (by decide) (hts (.fieldLink RX2 15 "CaskYard$Form" "bilge" "I") (by decide +kernel)) (fun _ h9 => h9) rfl dX2_wides_1 ?_
  refine lv_aload_n hx hb dX2_wides_4 rfl (lv_at hl 0 rfl) ?_
  obtain ⟨p2, hp2⟩ := kW_pos hkf
  refine va_get (D := D) (ci := 2) (v := .int (nI (gg))) (C := RX2) (T := TX2) (N := 4) hx hb hts (by decide +kernel) hown hK hP p2 (kW_get hp2 hEf) rfl 1 (by decide) (hts (.fieldLink RX2 15 "CaskYard$Form" "bilge" "I") (by decide +kernel)) (fun _ h9 => h9) rfl dX2_wides_5 ?_
  refine lv_aload_n hx hb dX2_wides_8 rfl (lv_at hl 0 rfl) ?_
  obtain ⟨p3, hp3⟩ := kW_pos hkf
  refine va_get (D := D) (ci := 2) (v := .int (nI (nn))) (C := RX2) (T := TX2) (N := 4) hx hb hts (by decide +kernel) hown hK hP p3 (kW_get hp3 hEf) rfl 3 (by decide) (hts (.fieldLink RX2 21 "CaskYard$Form" "staves" "I") (by decide +kernel)) (fun _ h9 => h9) rfl dX2_wides_9 ?_
  refine vp_callSi (va_Run.run (va_runSN (As := [.int (nI (gg)), .int (nI (nn))]) (rest := [.int (nI (gg))]) ⟨hx, hb, hml, hown, hts⟩ (c_X4_parted l  (gg) (nn) (by omega) (by omega) (by omega)) ⟨va_cnB 2 hts gX2_wides_X4_parted_n24 rfl rfl rfl hN.1 (hts (.initialized RX4) (by decide +kernel)) (by decide +kernel) ⟨Nat.le_of_ble_eq_true rfl, Nat.le_of_ble_eq_true rfl⟩, hts (.static yX4_parted) (by decide +kernel), trivial⟩ ⟨nB_blind, nB_pre⟩ rfl rfl hl.1 rfl (lv_room (Nat.le_of_ble_eq_true rfl)) dX2_wides_12 ⟨Nat.le_of_ble_eq_true rfl, Nat.le_of_ble_eq_true rfl⟩)) (fun r_12 hr_12 => ?_)
  subst hr_12
  refine lv_aload_n hx hb dX2_wides_15 rfl (lv_at hl 0 rfl) ?_
  obtain ⟨p4, hp4⟩ := kW_pos hkf
  refine va_get (D := D) (ci := 2) (v := .int (nI (nn))) (C := RX2) (T := TX2) (N := 4) hx hb hts (by decide +kernel) hown hK hP p4 (kW_get hp4 hEf) rfl 3 (by decide) (hts (.fieldLink RX2 21 "CaskYard$Form" "staves" "I") (by decide +kernel)) (fun _ h9 => h9) rfl dX2_wides_16 ?_
  refine g_imul_n hx hb dX2_wides_19 ?_
  refine g_isub_n hx hb dX2_wides_20 hle ?_
  exact W.iret (v := (nI (gg - (((gg) / (nn)) * nn)))) hx hb hr (fun t ht hW => ⟨_, rfl, (congrArg nI (by omega)), ht⟩) (fun _ h => nomatch h) dX2_wides_21
set_option maxHeartbeats 4000000 in
set_option maxRecDepth 100000 in
theorem c_X2_narrows (l : Launch) (D : va_G) (cy : Nat → ClassId) (K : List Nat) (ad : Nat → Nat) (E : Nat → va_E) (kf : Nat) (hkf : kf ∈ K) (hh gg ee nn : Nat) (hEf : E kf = cellF hh gg ee nn) (hfo : formOk hh gg ee nn) : Met l yX2_narrows wsX2_narrows ({ frames := 2, cells := 0, slots := 0, locals := 41 } : Room) (va_Pc [.ref ((ad (kf)))] (rB2 D cy (kW K ad E))) (vp_Si (fun r : Int32 => r = nI (nn - gg % nn))) 0 0 (fun _ => False) := by
  refine Met.ofW (cc := cX2_narrows) (maxL := 1) (ret := (some .int)) (by decide) rfl ?_
  intro p e s m args below meth c s₁ B hml hv
  obtain ⟨rfl, hv⟩ := hv
  have hx := B.exec
  have hb := B.bytes
  have hr := B.returns
  have hts := atoms_spec (ws := wsX2_narrows) B.pre
  have hown : s.vm.findClass RX2 = some m.cls := findClass_of_methodNamed B.named
  have hlocks := B.notSynchronized
  obtain ⟨⟨hP, hK⟩, hN⟩ := hv
  have hl := lv_entry ([.ref ((ad (kf)))]) (n := 1) (Nat.le_of_ble_eq_true rfl)
  rw [lg_entry_eq]
  generalize (lg_sl ([.ref ((ad (kf)))]) ++ List.replicate (1 - (lg_sl ([.ref ((ad (kf)))])).length) Slot.unset).toArray = ls at hl ⊢
  have hl : lv_has ls 1 [(0, .ref ((ad (kf))))] := hl
  have hml9 := Nat.mod_lt gg (show 0 < nn by omega)
  refine lv_aload_n hx hb dX2_narrows_0 rfl (lv_at hl 0 rfl) ?_
  obtain ⟨p1, hp1⟩ := kW_pos hkf
  refine va_get (D := D) (ci := 2) (v := .int (nI (nn))) (C := RX2) (T := TX2) (N := 4) hx hb hts (by decide +kernel) hown hK hP p1 (kW_get hp1 hEf) rfl 3 (by decide) (hts (.fieldLink RX2 21 "CaskYard$Form" "staves" "I") (by decide +kernel)) (fun _ h9 => h9) rfl dX2_narrows_1 ?_
  refine lv_aload_n hx hb dX2_narrows_4 rfl (lv_at hl 0 rfl) ?_
  obtain ⟨p2, hp2⟩ := kW_pos hkf
  refine vp_callSi (va_Run.run (va_runV (As := []) (rest := [.int (nI (nn))]) ⟨hx, hb, hml, hown, hts⟩ (c_X2_wides l D cy K ad E (kf) (hkf) (hh) (gg) (ee) (nn) (hEf) (hfo)) (cwV 0 hts gX2_narrows_X2_wides rfl rfl rfl (by decide +kernel) ⟨Nat.le_of_ble_eq_true rfl, Nat.le_of_ble_eq_true rfl⟩) ⟨rB2_blind, va_recv hK hP (ci := 2) (q0 := p2) rfl (kW_get hp2 hEf), (rB2_pre hP hK hN)⟩ rfl rfl hl.1 rfl (lv_room (Nat.le_of_ble_eq_true rfl)) dX2_narrows_5 ⟨Nat.le_of_ble_eq_true rfl, Nat.le_of_ble_eq_true rfl⟩)) (fun r_5 hr_5 => ?_)
  subst hr_5
  refine g_isub_n hx hb dX2_narrows_8 (by omega) ?_
  exact W.iret (v := (nI (nn - ((gg) % (nn))))) hx hb hr (fun t ht hW => ⟨_, rfl, rfl, ht⟩) (fun _ h => nomatch h) dX2_narrows_9
set_option maxHeartbeats 4000000 in
set_option maxRecDepth 100000 in
theorem c_X2_isWide (l : Launch) (D : va_G) (cy : Nat → ClassId) (K : List Nat) (ad : Nat → Nat) (E : Nat → va_E) (kf : Nat) (hkf : kf ∈ K) (hh gg ee nn : Nat) (hEf : E kf = cellF hh gg ee nn) (hfo : formOk hh gg ee nn) (k : Nat) (hk : k < nn) : Met l yX2_isWide wsX2_isWide ({ frames := 4, cells := 0, slots := 0, locals := 87 } : Room) (va_Pc [.ref ((ad (kf))), .int (nI (k))] (rB2 D cy (kW K ad E))) (vp_Si (fun r : Int32 => r = bI (widthN nn k gg + 2 = gg / nn + 3))) 0 0 (fun _ => False) := by
  refine Met.ofW (cc := cX2_isWide) (maxL := 2) (ret := (some .boolean)) (by decide) rfl ?_
  intro p e s m args below meth c s₁ B hml hv
  obtain ⟨rfl, hv⟩ := hv
  have hx := B.exec
  have hb := B.bytes
  have hr := B.returns
  have hts := atoms_spec (ws := wsX2_isWide) B.pre
  have hown : s.vm.findClass RX2 = some m.cls := findClass_of_methodNamed B.named
  have hlocks := B.notSynchronized
  obtain ⟨⟨hP, hK⟩, hN⟩ := hv
  have hl := lv_entry ([.ref ((ad (kf))), .int (nI (k))]) (n := 2) (Nat.le_of_ble_eq_true rfl)
  rw [lg_entry_eq]
  generalize (lg_sl ([.ref ((ad (kf))), .int (nI (k))]) ++ List.replicate (2 - (lg_sl ([.ref ((ad (kf))), .int (nI (k))])).length) Slot.unset).toArray = ls at hl ⊢
  have hl : lv_has ls 2 [(0, .ref ((ad (kf)))), (1, .int (nI (k)))] := hl
  have hwg := width_ge (k := k) (g := gg) (n := nn) (by omega)
  have hwl := width_le (k := k) (g := gg) (n := nn) (by omega)
  have hqle := Nat.div_le_self gg nn
  refine lv_aload_n hx hb dX2_isWide_0 rfl (lv_at hl 0 rfl) ?_
  refine lv_iload_n hx hb dX2_isWide_1 rfl (lv_at hl 1 rfl) ?_
  obtain ⟨p1, hp1⟩ := kW_pos hkf
  refine vp_callSi (va_Run.run (va_runV (As := [.int (nI (k))]) (rest := []) ⟨hx, hb, hml, hown, hts⟩ (c_X2_bilgeWidth l D cy K ad E (kf) (hkf) (hh) (gg) (ee) (nn) (hEf) (hfo) (k) (hk)) (cwV 1 hts gX2_isWide_X2_bilgeWidth rfl rfl rfl (by decide +kernel) ⟨Nat.le_of_ble_eq_true rfl, Nat.le_of_ble_eq_true rfl⟩) ⟨rB2_blind, va_recv hK hP (ci := 2) (q0 := p1) rfl (kW_get hp1 hEf), (rB2_pre hP hK hN)⟩ rfl rfl hl.1 rfl (lv_room (Nat.le_of_ble_eq_true rfl)) dX2_isWide_2 ⟨Nat.le_of_ble_eq_true rfl, Nat.le_of_ble_eq_true rfl⟩)) (fun r_2 hr_2 => ?_)
  subst hr_2
  refine lv_iconst (v := (nI (2))) hx hb dX2_isWide_5 (by decide) ?_
  refine g_iadd_n hx hb dX2_isWide_6 ?_
  refine lv_aload_n hx hb dX2_isWide_7 rfl (lv_at hl 0 rfl) ?_
  obtain ⟨p2, hp2⟩ := kW_pos hkf
  refine vp_callSi (va_Run.run (va_runV (As := []) (rest := [.int (nI ((widthN (nn) (k) (gg)) + 2))]) ⟨hx, hb, hml, hown, hts⟩ (c_X2_narrowPiece l D cy K ad E (kf) (hkf) (hh) (gg) (ee) (nn) (hEf) (hfo)) (cwV 0 hts gX2_isWide_X2_narrowPiece rfl rfl rfl (by decide +kernel) ⟨Nat.le_of_ble_eq_true rfl, Nat.le_of_ble_eq_true rfl⟩) ⟨rB2_blind, va_recv hK hP (ci := 2) (q0 := p2) rfl (kW_get hp2 hEf), (rB2_pre hP hK hN)⟩ rfl rfl hl.1 rfl (lv_room (Nat.le_of_ble_eq_true rfl)) dX2_isWide_8 ⟨Nat.le_of_ble_eq_true rfl, Nat.le_of_ble_eq_true rfl⟩)) (fun r_8 hr_8 => ?_)
  subst hr_8
  refine g_icmp_le (tgt := 18) hx hb dX2_isWide_11 (by decide) (n_i (by omega)) (n_i (by omega)) (fun c_11 => ?_) (fun c_11 => ?_)
  · skip
    refine lv_iconst (v := (nI (0))) hx hb dX2_isWide_18 (by decide) ?_
    exact W.zret (v := (nI (0))) hx hb hr (by decide) (fun t ht hW => ⟨_, rfl, (bI_f (by omega)).symm, ht⟩) (fun _ h => nomatch h) dX2_isWide_19
  · skip
    refine lv_iconst (v := (nI (1))) hx hb dX2_isWide_14 (by decide) ?_
    refine lv_goto (tgt := 19) hx hb dX2_isWide_15 (by decide) ?_
    exact W.zret (v := (nI (1))) hx hb hr (by decide) (fun t ht hW => ⟨_, rfl, (bI_t (by omega)).symm, ht⟩) (fun _ h => nomatch h) dX2_isWide_19
