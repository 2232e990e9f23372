set_option maxHeartbeats 4000000 in
set_option maxRecDepth 100000 in
theorem c_X4_count (l : Launch) (hlt : l.stackTraces = false) (D : va_G) (cy : Nat → ClassId) (sz : Nat) (sa : Nat → Nat) (K : List Nat) (ad : Nat → Nat) (E : Nat → va_E) (Y : YT) (hKR : KR K Y) (hR : YR cy ad E Y) (hY : WF Y) (a : Int32) : vx_Met l yX4_count wsX4_count ({ frames := 6, cells := 1, slots := 6, locals := 82 } : Room) (va_Pc [.ref ((ad (0))), .int (a)] (wX D cy sz sa (kW K ad E))) (va_Qi (fun (r : Int32) (u : Nat → va_E) => YP cy ad (sp_count Y a) r u) (fun u t => wE D cy (va_A (kW K ad E) sz) (kW K ad u) t) (va_A (kW K ad E) sz)) (vx_X (fun _ : Unit => True) (fun (En : String) _ t => (xOk En (sp_count Y a).1 1 2) ∧ wE D cy (va_A (kW K ad E) sz) (kW K ad E) t) (va_A (kW K ad E) sz)) 1 6 (va_A (kW K ad E) sz) := by
  refine vx_ofW (cc := cX4_count) (maxL := 2) (ret := (some .int)) (by decide) rfl ?_
  intro p e s m args below meth c s₁ B hml htb hv
  obtain ⟨rfl, ⟨⟨hsz, hP, hK, hD0⟩, hN⟩, hX, hZ⟩ := hv
  have hx := B.exec
  have hb := B.bytes
  have hr := B.returns
  have hts := atoms_spec (ws := wsX4_count) B.pre
  have hown : s.vm.findClass RX4 = some m.cls := findClass_of_methodNamed B.named
  have hlocks := B.notSynchronized
  subst hsz
  have hD := hD0.self (sz := s.heap.size)
  generalize hAe : va_A (kW K ad E) s.heap.size = A at hD hZ ⊢
  have hA : ∀ q : Nat, s.heap.size ≤ q → A q := w_A hAe
  have hS : va_S A s.heap s.heap [] := va_S.rf
  have hnd := kW_nd hD
  have hl := lv_entry ([.ref ((ad (0))), .int (a)]) (n := 2) (Nat.le_of_ble_eq_true rfl)
  rw [lg_entry_eq]
  generalize (lg_sl ([.ref ((ad (0))), .int (a)]) ++ List.replicate (2 - (lg_sl ([.ref ((ad (0))), .int (a)])).length) Slot.unset).toArray = ls at hl ⊢
  have hl : lv_has ls 2 [(0, .ref ((ad (0)))), (1, .int (a))] := hl
  obtain ⟨⟨hE0, f1, f2, f3, hE1, hE2, hE3, hr1, hr2, hr3⟩, ⟨f4, f5, hE4, hE5, hbr, hwt⟩, hsaw, hspa, hYf, hYb, hYc⟩ := id hR
  obtain ⟨hy0, hyF, hyB, hyC, hyf, hyb, hyc, hyr, hyw⟩ := id hY
  refine lv_iload_n hx hb dX4_count_0 rfl (lv_at hl 1 rfl) ?_
  by_cases hsw : isIx a 4
  · rcases (show a.toInt = 0 ∨ a.toInt = 1 ∨ a.toInt = 2 ∨ a.toInt = 3 by omega) with hq | hq | hq | hq
    · skip
      have hix : ix a = 0 := by have := ix_c (a := a) (by omega); omega
      refine lv_tableIn (tgt := 32) hx hb dX4_count_1 (by omega) (by omega) (by rw [hq]; rfl) (by decide) ?_
      refine lv_aload_n hx hb dX4_count_32 rfl (lv_at hl 0 rfl) ?_
      obtain ⟨p1, hp1⟩ := kW_pos (hKR.m (show keyOk Y (0) by unfold keyOk; omega))
      refine va_get (D := D) (ci := 4) (v := .int (nI (yNow Y))) (C := RX4) (T := TX4) (N := 11) hx hb hts (by decide +kernel) hown hK hP p1 (kW_get hp1 hE0) rfl 10 (by decide) (hts (.fieldLink RX4 88 "CaskYard" "now" "I") (by decide +kernel)) (fun _ h9 => h9) rfl dX4_count_33 ?_
      refine vx_ret ?_
      refine W.widen (k := 1) (n := 6) (by omega) (by omega) ?_
      exact W.iret (v := (nI (yNow Y))) hx hb hr (fun t ht hW => ⟨⟨_, E, rfl, by rw [sp_count, if_pos hsw]; exact ⟨rfl, by rw [hix]; rfl, hR⟩, by rw [ht]; exact hP, va_K.moved hW.alike hK, hD⟩, hS.F ht⟩) hS.2.2 dX4_count_36
    · skip
      have hix : ix a = 1 := by have := ix_c (a := a) (by omega); omega
      refine lv_tableIn (tgt := 37) hx hb dX4_count_1 (by omega) (by omega) (by rw [hq]; rfl) (by decide) ?_
      refine lv_aload_n hx hb dX4_count_37 rfl (lv_at hl 0 rfl) ?_
      obtain ⟨p2, hp2⟩ := kW_pos (hKR.m (show keyOk Y (0) by unfold keyOk; omega))
      refine va_get (D := D) (ci := 4) (v := .int (nI (yF Y))) (C := RX4) (T := TX4) (N := 11) hx hb hts (by decide +kernel) hown hK hP p2 (kW_get hp2 hE0) rfl 7 (by decide) (hts (.fieldLink RX4 48 "CaskYard" "formCount" "I") (by decide +kernel)) (fun _ h9 => h9) rfl dX4_count_38 ?_
      refine vx_ret ?_
      refine W.widen (k := 1) (n := 6) (by omega) (by omega) ?_
      exact W.iret (v := (nI (yF Y))) hx hb hr (fun t ht hW => ⟨⟨_, E, rfl, by rw [sp_count, if_pos hsw]; exact ⟨rfl, by rw [hix]; rfl, hR⟩, by rw [ht]; exact hP, va_K.moved hW.alike hK, hD⟩, hS.F ht⟩) hS.2.2 dX4_count_41
    · skip
      have hix : ix a = 2 := by have := ix_c (a := a) (by omega); omega
      refine lv_tableIn (tgt := 42) hx hb dX4_count_1 (by omega) (by omega) (by rw [hq]; rfl) (by decide) ?_
      refine lv_aload_n hx hb dX4_count_42 rfl (lv_at hl 0 rfl) ?_
      obtain ⟨p3, hp3⟩ := kW_pos (hKR.m (show keyOk Y (0) by unfold keyOk; omega))
      refine va_get (D := D) (ci := 4) (v := .int (nI (yB Y))) (C := RX4) (T := TX4) (N := 11) hx hb hts (by decide +kernel) hown hK hP p3 (kW_get hp3 hE0) rfl 8 (by decide) (hts (.fieldLink RX4 93 "CaskYard" "boltCount" "I") (by decide +kernel)) (fun _ h9 => h9) rfl dX4_count_43 ?_
      refine vx_ret ?_
      refine W.widen (k := 1) (n := 6) (by omega) (by omega) ?_
      exact W.iret (v := (nI (yB Y))) hx hb hr (fun t ht hW => ⟨⟨_, E, rfl, by rw [sp_count, if_pos hsw]; exact ⟨rfl, by rw [hix]; rfl, hR⟩, by rw [ht]; exact hP, va_K.moved hW.alike hK, hD⟩, hS.F ht⟩) hS.2.2 dX4_count_46
    · skip
      have hix : ix a = 3 := by have := ix_c (a := a) (by omega); omega
      refine lv_tableIn (tgt := 47) hx hb dX4_count_1 (by omega) (by omega) (by rw [hq]; rfl) (by decide) ?_
      refine lv_aload_n hx hb dX4_count_47 rfl (lv_at hl 0 rfl) ?_
      obtain ⟨p4, hp4⟩ := kW_pos (hKR.m (show keyOk Y (0) by unfold keyOk; omega))
      refine va_get (D := D) (ci := 4) (v := .int (nI (yC Y))) (C := RX4) (T := TX4) (N := 11) hx hb hts (by decide +kernel) hown hK hP p4 (kW_get hp4 hE0) rfl 9 (by decide) (hts (.fieldLink RX4 143 "CaskYard" "caskCount" "I") (by decide +kernel)) (fun _ h9 => h9) rfl dX4_count_48 ?_
      refine vx_ret ?_
      refine W.widen (k := 1) (n := 6) (by omega) (by omega) ?_
      exact W.iret (v := (nI (yC Y))) hx hb hr (fun t ht hW => ⟨⟨_, E, rfl, by rw [sp_count, if_pos hsw]; exact ⟨rfl, by rw [hix]; rfl, hR⟩, by rw [ht]; exact hP, va_K.moved hW.alike hK, hD⟩, hS.F ht⟩) hS.2.2 dX4_count_51
  · skip
    refine lv_tableOut (tgt := 52) hx hb dX4_count_1 (by omega) (by decide) ?_
    exact g_thrN hx hb hlt hown hts (by decide +kernel) (by decide +kernel) (by decide +kernel) hX (is := 172) (text := "no such what") (by decide) hZ hP hK hD hS (hl.1.trans hml.symm) htb (Nat.lt_of_lt_of_le (show 5 < 6 by decide) (Nat.le_of_ble_eq_true rfl)) (Nat.le_of_ble_eq_true rfl) (Nat.le_of_ble_eq_true rfl) (Nat.le_of_ble_eq_true rfl) hlocks (fun t hw9 hF9 => ⟨(), trivial, ⟨Or.inl ⟨rfl, by rw [sp_count, if_neg hsw]⟩, hw9⟩, hF9⟩) hS.2.2 (by decide) (by decide) dX4_count_52 dX4_count_55 dX4_count_56 dX4_count_58 dX4_count_61
set_option maxHeartbeats 4000000 in
set_option maxRecDepth 100000 in
theorem c_X4_days (l : Launch) (hlt : l.stackTraces = false) (D : va_G) (cy : Nat → ClassId) (sz : Nat) (sa : Nat → Nat) (K : List Nat) (ad : Nat → Nat) (E : Nat → va_E) (Y : YT) (hKR : KR K Y) (hR : YR cy ad E Y) (hY : WF Y) (a : Int32) : vx_Met l yX4_days wsX4_days ({ frames := 6, cells := 1, slots := 6, locals := 82 } : Room) (va_Pc [.ref ((ad (0))), .int (a)] (wX D cy sz sa (kW K ad E))) (va_Qi (fun (r : Int32) (u : Nat → va_E) => YP cy ad (sp_days Y a) r u) (fun u t => wE D cy (va_A (kW K ad E) sz) (kW K ad u) t) (va_A (kW K ad E) sz)) (vx_X (fun _ : Unit => True) (fun (En : String) _ t => (xOk En (sp_days Y a).1 5 1) ∧ wE D cy (va_A (kW K ad E) sz) (kW K ad E) t) (va_A (kW K ad E) sz)) 1 6 (va_A (kW K ad E) sz) := by
  refine vx_ofW (cc := cX4_days) (maxL := 2) (ret := (some .int)) (by decide) rfl ?_
  intro p e s m args below meth c s₁ B hml htb hv
  obtain ⟨rfl, ⟨⟨hsz, hP, hK, hD0⟩, hN⟩, hX, hZ⟩ := hv
  have hx := B.exec
  have hb := B.bytes
  have hr := B.returns
  have hts := atoms_spec (ws := wsX4_days) B.pre
  have hown : s.vm.findClass RX4 = some m.cls := findClass_of_methodNamed B.named
  have hlocks := B.notSynchronized
  subst hsz
  have hD := hD0.self (sz := s.heap.size)
  generalize hAe : va_A (kW K ad E) s.heap.size = A at hD hZ ⊢
  have hA : ∀ q : Nat, s.heap.size ≤ q → A q := w_A hAe
  have hS : va_S A s.heap s.heap [] := va_S.rf
  have hnd := kW_nd hD
  have hl := lv_entry ([.ref ((ad (0))), .int (a)]) (n := 2) (Nat.le_of_ble_eq_true rfl)
  rw [lg_entry_eq]
  generalize (lg_sl ([.ref ((ad (0))), .int (a)]) ++ List.replicate (2 - (lg_sl ([.ref ((ad (0))), .int (a)])).length) Slot.unset).toArray = ls at hl ⊢
  have hl : lv_has ls 2 [(0, .ref ((ad (0)))), (1, .int (a))] := hl
  obtain ⟨⟨hE0, f1, f2, f3, hE1, hE2, hE3, hr1, hr2, hr3⟩, ⟨f4, f5, hE4, hE5, hbr, hwt⟩, hsaw, hspa, hYf, hYb, hYc⟩ := id hR
  obtain ⟨hy0, hyF, hyB, hyC, hyf, hyb, hyc, hyr, hyw⟩ := id hY
  refine lv_iload_n hx hb dX4_days_0 rfl (lv_at hl 1 rfl) ?_
  refine g_if_lt (tgt := 15) hx hb dX4_days_1 (by decide) rfl (fun c_1 => ?_) (fun c_1 => ?_)
  · skip
    exact g_thrI hx hb hlt hown hts (by decide +kernel) (by decide +kernel) (by decide +kernel) hX (is := 91) (text := "no such day") (by decide) hZ hP hK hD hS (hl.1.trans hml.symm) htb (Nat.lt_of_lt_of_le (show 5 < 6 by decide) (Nat.le_of_ble_eq_true rfl)) (Nat.le_of_ble_eq_true rfl) (Nat.le_of_ble_eq_true rfl) (Nat.le_of_ble_eq_true rfl) hlocks (fun t hw9 hF9 => ⟨(), trivial, ⟨Or.inr ⟨rfl, by rw [sp_days, if_neg (fun q9 => by have h91 := q9.1; have h92 := q9.2; omega)]⟩, hw9⟩, hF9⟩) hS.2.2 (by decide) (by decide) dX4_days_15 dX4_days_18 dX4_days_19 dX4_days_21 dX4_days_24
  · skip
    refine lv_iload_n hx hb dX4_days_4 rfl (lv_at hl 1 rfl) ?_
    refine lv_ldc hx hb hown (hts (.constant RX4 87 (100000)) (by decide +kernel)) dX4_days_5 ?_
    refine g_top (y := (nI (100000))) (by decide) ?_
    refine lv_aload_n hx hb dX4_days_7 rfl (lv_at hl 0 rfl) ?_
    obtain ⟨p1, hp1⟩ := kW_pos (hKR.m (show keyOk Y (0) by unfold keyOk; omega))
    refine va_get (D := D) (ci := 4) (v := .int (nI (yNow Y))) (C := RX4) (T := TX4) (N := 11) hx hb hts (by decide +kernel) hown hK hP p1 (kW_get hp1 hE0) rfl 10 (by decide) (hts (.fieldLink RX4 88 "CaskYard" "now" "I") (by decide +kernel)) (fun _ h9 => h9) rfl dX4_days_8 ?_
    refine g_isub_n hx hb dX4_days_11 (by omega) ?_
    refine g_icmp_le (tgt := 25) hx hb dX4_days_12 (by decide) rfl (n_i (by omega)) (fun c_12 => ?_) (fun c_12 => ?_)
    · skip
      have hna := ix_n (a := a) (by omega)
      have hxa := ix_c (a := a) (by omega)
      have hl : lv_has ls 2 [(0, .ref ((ad (0)))), (1, .int (nI (ix a)))] := by rw [← hna]; exact hl
      refine lv_aload_n hx hb dX4_days_25 rfl (lv_at hl 0 rfl) ?_
      refine lv_dup hx hb dX4_days_26 rfl ?_
      obtain ⟨p2, hp2⟩ := kW_pos (hKR.m (show keyOk Y (0) by unfold keyOk; omega))
      refine va_get (D := D) (ci := 4) (v := .int (nI (yNow Y))) (C := RX4) (T := TX4) (N := 11) hx hb hts (by decide +kernel) hown hK hP p2 (kW_get hp2 hE0) rfl 10 (by decide) (hts (.fieldLink RX4 88 "CaskYard" "now" "I") (by decide +kernel)) (fun _ h9 => h9) rfl dX4_days_27 ?_
      refine lv_iload_n hx hb dX4_days_30 rfl (lv_at hl 1 rfl) ?_
      refine g_iadd_n hx hb dX4_days_31 ?_
      obtain ⟨p3, hp3⟩ := kW_pos (hKR.m (show keyOk Y (0) by unfold keyOk; omega))
      refine va_put (D := D) (ci := 4) (v := .int (nI ((yNow Y) + (ix a)))) (ty := .int) (C := RX4) (T := TX4) (N := 11) hx hb hts (by decide +kernel) tyX4 tyX4_ok nmX4 hown hK hP hD hS p3 (kW_get hp3 hE0) rfl 10 (by decide) (hts (.fieldLink RX4 88 "CaskYard" "now" "I") (by decide +kernel)) (fun _ h9 => h9) rfl (by decide +kernel) rfl rfl (Nat.le_of_ble_eq_true rfl) dX4_days_32 (fun H locs hP hD hS => ?_)
      rw [show ([.ref ((ad (1))), .ref ((ad (2))), .ref ((ad (3))), .ref ((ad (4))), .ref ((ad (5))), .ref ((ad (6))), .ref ((ad (18))), .int (nI (yF Y)), .int (nI (yB Y)), .int (nI (yC Y)), .int (nI (yNow Y))] : List Value).set 10 (.int (nI ((yNow Y) + (ix a)))) = [.ref ((ad (1))), .ref ((ad (2))), .ref ((ad (3))), .ref ((ad (4))), .ref ((ad (5))), .ref ((ad (6))), .ref ((ad (18))), .int (nI (yF Y)), .int (nI (yB Y)), .int (nI (yC Y)), .int (nI ((yNow Y) + (ix a)))] from rfl] at hP hD
      rw [kW_set hnd hp3] at hP hD
      obtain ⟨Ew4, hEw4⟩ : ∃ G, G = va_up E (0) (.inr (4, [.ref ((ad (1))), .ref ((ad (2))), .ref ((ad (3))), .ref ((ad (4))), .ref ((ad (5))), .ref ((ad (6))), .ref ((ad (18))), .int (nI (yF Y)), .int (nI (yB Y)), .int (nI (yC Y)), .int (nI ((yNow Y) + (ix a)))])) := ⟨_, rfl⟩
      have eEw4_25 : Ew4 (0) = .inr (4, [.ref ((ad (1))), .ref ((ad (2))), .ref ((ad (3))), .ref ((ad (4))), .ref ((ad (5))), .ref ((ad (6))), .ref ((ad (18))), .int (nI (yF Y)), .int (nI (yB Y)), .int (nI (yC Y)), .int (nI ((yNow Y) + (ix a)))]) := by rw [hEw4]; exact va_up_self _ _ _
      rw [← hEw4] at hP hD
      refine lv_aload_n hx hb dX4_days_35 rfl (lv_at hl 0 rfl) ?_
      obtain ⟨p5, hp5⟩ := kW_pos (hKR.m (show keyOk Y (0) by unfold keyOk; omega))
      refine va_get (D := D) (ci := 4) (v := .int (nI ((yNow Y) + (ix a)))) (C := RX4) (T := TX4) (N := 11) hx hb hts (by decide +kernel) hown hK hP p5 (kW_get hp5 eEw4_25) rfl 10 (by decide) (hts (.fieldLink RX4 88 "CaskYard" "now" "I") (by decide +kernel)) (fun _ h9 => h9) rfl dX4_days_36 ?_
      refine vx_ret ?_
      refine W.widen (k := 1) (n := 6) (by omega) (by omega) ?_
      exact W.iret (v := (nI ((yNow Y) + (ix a)))) hx hb hr (fun t ht hW => ⟨⟨_, Ew4, rfl, by rw [sp_days, if_pos ⟨by omega, by omega⟩]; exact ⟨rfl, rfl, YR_days hR eEw4_25 (fun j_ h0_ => by rw [hEw4, va_up_ne _ _ h0_])⟩, by rw [ht]; exact hP, va_K.moved hW.alike hK, hD⟩, hS.F ht⟩) hS.2.2 dX4_days_39
    · skip
      exact g_thrI hx hb hlt hown hts (by decide +kernel) (by decide +kernel) (by decide +kernel) hX (is := 91) (text := "no such day") (by decide) hZ hP hK hD hS (hl.1.trans hml.symm) htb (Nat.lt_of_lt_of_le (show 5 < 6 by decide) (Nat.le_of_ble_eq_true rfl)) (Nat.le_of_ble_eq_true rfl) (Nat.le_of_ble_eq_true rfl) (Nat.le_of_ble_eq_true rfl) hlocks (fun t hw9 hF9 => ⟨(), trivial, ⟨Or.inr ⟨rfl, by rw [sp_days, if_neg (fun q9 => by have h91 := q9.1; have h92 := q9.2; omega)]⟩, hw9⟩, hF9⟩) hS.2.2 (by decide) (by decide) dX4_days_15 dX4_days_18 dX4_days_19 dX4_days_21 dX4_days_24
set_option maxHeartbeats 4000000 in
set_option maxRecDepth 100000 in
theorem c_X4_weight (l : Launch) (hlt : l.stackTraces = false) (D : va_G) (cy : Nat → ClassId) (sz : Nat) (sa : Nat → Nat) (K : List Nat) (ad : Nat → Nat) (E : Nat → va_E) (Y : YT) (hKR : KR K Y) (hR : YR cy ad E Y) (hY : WF Y) (a : Int32) (b : Int32) : vx_Met l yX4_weight wsX4_weight ({ frames := 7, cells := 2, slots := 12, locals := 102 } : Room) (va_Pc [.ref ((ad (0))), .int (a), .int (b)] (wX D cy sz sa (kW K ad E))) (va_Qi (fun (r : Int32) (u : Nat → va_E) => YP cy ad (sp_weight Y a b) r u) (fun u t => wE D cy (va_A (kW K ad E) sz) (kW K ad u) t) (va_A (kW K ad E) sz)) (vx_X (fun _ : Unit => True) (fun (En : String) _ t => (xOk En (sp_weight Y a b).1 5 1) ∧ wE D cy (va_A (kW K ad E) sz) (kW K ad E) t) (va_A (kW K ad E) sz)) 2 12 (va_A (kW K ad E) sz) := by
  refine vx_ofW (cc := cX4_weight) (maxL := 4) (ret := (some .int)) (by decide) rfl ?_
  intro p e s m args below meth c s₁ B hml htb hv
  obtain ⟨rfl, ⟨⟨hsz, hP, hK, hD0⟩, hN⟩, hX, hZ⟩ := hv
  have hx := B.exec
  have hb := B.bytes
  have hr := B.returns
  have hts := atoms_spec (ws := wsX4_weight) B.pre
  have hown : s.vm.findClass RX4 = some m.cls := findClass_of_methodNamed B.named
  have hlocks := B.notSynchronized
  subst hsz
  have hD := hD0.self (sz := s.heap.size)
  generalize hAe : va_A (kW K ad E) s.heap.size = A at hD hZ ⊢
  have hA : ∀ q : Nat, s.heap.size ≤ q → A q := w_A hAe
  have hS : va_S A s.heap s.heap [] := va_S.rf
  have hnd := kW_nd hD
  have hl := lv_entry ([.ref ((ad (0))), .int (a), .int (b)]) (n := 4) (Nat.le_of_ble_eq_true rfl)
  rw [lg_entry_eq]
  generalize (lg_sl ([.ref ((ad (0))), .int (a), .int (b)]) ++ List.replicate (4 - (lg_sl ([.ref ((ad (0))), .int (a), .int (b)])).length) Slot.unset).toArray = ls at hl ⊢
  have hl : lv_has ls 4 [(0, .ref ((ad (0)))), (1, .int (a)), (2, .int (b))] := hl
  obtain ⟨⟨hE0, f1, f2, f3, hE1, hE2, hE3, hr1, hr2, hr3⟩, ⟨f4, f5, hE4, hE5, hbr, hwt⟩, hsaw, hspa, hYf, hYb, hYc⟩ := id hR
  obtain ⟨hy0, hyF, hyB, hyC, hyf, hyb, hyc, hyr, hyw⟩ := id hY
  refine lv_iload_n hx hb dX4_weight_0 rfl (lv_at hl 1 rfl) ?_
  have hFc := w_free hD hS hA
  refine vx_callv (vx_runS (As := [.int (a)]) (rest := []) ⟨hx, hb, hml, hown, hts⟩ (c_X4_checkKind l hlt D cy s.heap.size sa K ad E (a)) (va_cwS 1 hts gX4_weight_X4_checkKind rfl rfl rfl (by decide +kernel) ⟨Nat.le_of_ble_eq_true rfl, Nat.le_of_ble_eq_true rfl⟩) ⟨wX_blind, wX_pre hP hK hD hN hX hZ hS hA⟩ rfl rfl hl.1 rfl (lv_room (Nat.le_of_ble_eq_true rfl)) dX4_weight_1 ⟨Nat.le_of_ble_eq_true rfl, Nat.le_of_ble_eq_true rfl⟩) hS (fun q _ h => hFc q h) hFc (fun q _ h => hFc q h) (fun En ce q9 u9 t9 H locs ht hvm hpx hBX _ _ hS hce hcv hcl => ?_) (fun u_1 t9 H locs ht hvm hw_1 hB _ _ hS => ?_)
  · exact vx_out (fun x hx => (htb x hx).elim) hlocks hce hcv hcl (fun t ht2 hal => ⟨(), trivial, ⟨Or.inr ⟨hBX.1.1, by rw [sp_weight, if_neg (fun q9 => hBX.1.2 q9.1)]⟩, by rw [ht2, ← ht]; exact hBX.2.1, va_K.moved hal hK, hBX.2.2.2.weaken (fun _ _ _ h => hFc _ h)⟩, hS.F ht2⟩) hS.2.2 (by decide) (by decide)
  obtain ⟨hP1, hK1, hD1⟩ := hB
  rw [ht] at hP1
  have hP := hP1
  have hD := hD1.weaken (fun _ _ _ h => hFc _ h)
  obtain ⟨hue_1, hok_1⟩ := hw_1
  rw [hue_1] at hP hD
  have hxa := ix_c hok_1.1
  have hlta := ix_lt hok_1
  have hna := ix_n hok_1.1
  have hl : lv_has ls 4 [(0, .ref ((ad (0)))), (1, .int (nI (ix a))), (2, .int (b))] := by rw [← hna]; exact hl
  refine lv_iload_n hx hb dX4_weight_4 rfl (lv_at hl 2 rfl) ?_
  refine lv_iconst (v := (nI (1))) hx hb dX4_weight_5 (by decide) ?_
  refine g_icmp_lt (tgt := 16) hx hb dX4_weight_6 (by decide) rfl (n_i (by omega)) (fun c_6 => ?_) (fun c_6 => ?_)
  · skip
    exact g_thrI hx hb hlt hown hts (by decide +kernel) (by decide +kernel) (by decide +kernel) hX (is := 215) (text := "no such weight") (by decide) hZ hP hK hD hS (hl.1.trans hml.symm) htb (Nat.lt_of_lt_of_le (show 5 < 6 by decide) (Nat.le_of_ble_eq_true rfl)) (Nat.le_of_ble_eq_true rfl) (Nat.le_of_ble_eq_true rfl) (Nat.le_of_ble_eq_true rfl) hlocks (fun t hw9 hF9 => ⟨(), trivial, ⟨Or.inr ⟨rfl, by rw [sp_weight, if_neg (fun q9 => by have h91 := q9.2.1; have h92 := q9.2.2; omega)]⟩, hw9⟩, hF9⟩) hS.2.2 (by decide) (by decide) dX4_weight_16 dX4_weight_19 dX4_weight_20 dX4_weight_22 dX4_weight_25
  · skip
    refine lv_iload_n hx hb dX4_weight_9 rfl (lv_at hl 2 rfl) ?_
    refine lv_sipush (v := (nI (5000))) hx hb dX4_weight_10 (by decide) ?_
    refine g_icmp_le (tgt := 26) hx hb dX4_weight_13 (by decide) rfl (n_i (by omega)) (fun c_13 => ?_) (fun c_13 => ?_)
    · skip
      have hnb := ix_n (a := b) (by omega)
      have hxb := ix_c (a := b) (by omega)
      have hl : lv_has ls 4 [(0, .ref ((ad (0)))), (1, .int (nI (ix a))), (2, .int (nI (ix b)))] := by rw [← hnb]; exact hl
      refine lv_aload_n hx hb dX4_weight_26 rfl (lv_at hl 0 rfl) ?_
      obtain ⟨p1, hp1⟩ := kW_pos (hKR.m (show keyOk Y (0) by unfold keyOk; omega))
      refine va_get (D := D) (ci := 4) (v := .ref ((ad (5)))) (C := RX4) (T := TX4) (N := 11) hx hb hts (by decide +kernel) hown hK hP p1 (kW_get hp1 hE0) rfl 4 (by decide) (hts (.fieldLink RX4 31 "CaskYard" "weights" "[I") (by decide +kernel)) (fun _ h9 => h9) rfl dX4_weight_27 ?_
      refine lv_iload_n hx hb dX4_weight_30 rfl (lv_at hl 1 rfl) ?_
      obtain ⟨p2, hp2⟩ := kW_pos (hKR.m (show keyOk Y (5) by unfold keyOk; omega))
      refine g_iald hx hb hK hP p2 0 (kW_get hp2 hE5) rfl (ix a) rfl (by omega) (by decide) dX4_weight_31 ?_
      refine g_top (y := (nI (ywt Y (ix a)))) (hwt (ix a) (by omega)) ?_
      refine lv_istore_n (lv' := [(3, .int (nI (ywt Y (ix a)))), (0, .ref ((ad (0)))), (1, .int (nI (ix a))), (2, .int (nI (ix b)))]) hx hb dX4_weight_32 rfl hl (by decide) rfl (fun ls hl => ?_)
      refine lv_aload_n hx hb dX4_weight_33 rfl (lv_at hl 1 rfl) ?_
      obtain ⟨p3, hp3⟩ := kW_pos (hKR.m (show keyOk Y (0) by unfold keyOk; omega))
      refine va_get (D := D) (ci := 4) (v := .ref ((ad (5)))) (C := RX4) (T := TX4) (N := 11) hx hb hts (by decide +kernel) hown hK hP p3 (kW_get hp3 hE0) rfl 4 (by decide) (hts (.fieldLink RX4 31 "CaskYard" "weights" "[I") (by decide +kernel)) (fun _ h9 => h9) rfl dX4_weight_34 ?_
      refine lv_iload_n hx hb dX4_weight_37 rfl (lv_at hl 2 rfl) ?_
      refine lv_iload_n hx hb dX4_weight_38 rfl (lv_at hl 3 rfl) ?_
      obtain ⟨p4, hp4⟩ := kW_pos (hKR.m (show keyOk Y (5) by unfold keyOk; omega))
      refine g_iast hx hb hK hP hD hS p4 0 (kW_get hp4 hE5) rfl (ix a) rfl (by omega) (by decide) dX4_weight_39 (fun H locs hP hD hS => ?_)
      rw [kW_set hnd hp4] at hP hD
      obtain ⟨Ew5, hEw5⟩ : ∃ G, G = va_up E (5) (.inl (cy 0, 16, .inl (upd (f5) (ix a) (nI (ix b))))) := ⟨_, rfl⟩
      have eEw5_26 : Ew5 (5) = .inl (cy 0, 16, .inl (upd (f5) (ix a) (nI (ix b)))) := by rw [hEw5]; exact va_up_self _ _ _
      rw [← hEw5] at hP hD
      refine lv_iload_n hx hb dX4_weight_40 rfl (lv_at hl 0 rfl) ?_
      refine vx_ret ?_
      refine W.widen (k := 2) (n := 12) (by omega) (by omega) ?_
      exact W.iret (v := (nI (ywt Y (ix a)))) hx hb hr (fun t ht hW => ⟨⟨_, Ew5, rfl, by rw [sp_weight, if_pos ⟨hok_1, by omega, by omega⟩]; exact ⟨rfl, rfl, YR_weight hR hE5 hwt eEw5_26 (fun j_ h0_ => by rw [hEw5, va_up_ne _ _ h0_])⟩, by rw [ht]; exact hP, va_K.moved hW.alike hK, hD⟩, hS.F ht⟩) hS.2.2 dX4_weight_41
    · skip
      exact g_thrI hx hb hlt hown hts (by decide +kernel) (by decide +kernel) (by decide +kernel) hX (is := 215) (text := "no such weight") (by decide) hZ hP hK hD hS (hl.1.trans hml.symm) htb (Nat.lt_of_lt_of_le (show 5 < 6 by decide) (Nat.le_of_ble_eq_true rfl)) (Nat.le_of_ble_eq_true rfl) (Nat.le_of_ble_eq_true rfl) (Nat.le_of_ble_eq_true rfl) hlocks (fun t hw9 hF9 => ⟨(), trivial, ⟨Or.inr ⟨rfl, by rw [sp_weight, if_neg (fun q9 => by have h91 := q9.2.1; have h92 := q9.2.2; omega)]⟩, hw9⟩, hF9⟩) hS.2.2 (by decide) (by decide) dX4_weight_16 dX4_weight_19 dX4_weight_20 dX4_weight_22 dX4_weight_25
set_option maxHeartbeats 4000000 in
set_option maxRecDepth 100000 in
theorem c_X4_bars (l : Launch) (hlt : l.stackTraces = false) (D : va_G) (cy : Nat → ClassId) (sz : Nat) (sa : Nat → Nat) (K : List Nat) (ad : Nat → Nat) (E : Nat → va_E) (Y : YT) (hKR : KR K Y) (hR : YR cy ad E Y) (hY : WF Y) (a : Int32) (b : Int32) (is : Nat) (his : is ≤ 1) : vx_Met l yX4_bars wsX4_bars ({ frames := 7, cells := 2, slots := 12, locals := 102 } : Room) (va_Pc [.ref ((ad (0))), .int (a), .int (b), .int (nI (is))] (wX D cy sz sa (kW K ad E))) (va_Qi (fun (r : Int32) (u : Nat → va_E) => YP cy ad (sp_bars Y a b is) r u) (fun u t => wE D cy (va_A (kW K ad E) sz) (kW K ad u) t) (va_A (kW K ad E) sz)) (vx_X (fun _ : Unit => True) (fun (En : String) _ t => (xOk En (sp_bars Y a b is).1 5 1) ∧ wE D cy (va_A (kW K ad E) sz) (kW K ad E) t) (va_A (kW K ad E) sz)) 2 12 (va_A (kW K ad E) sz) := by
  refine vx_ofW (cc := cX4_bars) (maxL := 5) (ret := (some .boolean)) (by decide) rfl ?_
  intro p e s m args below meth c s₁ B hml htb hv
  obtain ⟨rfl, ⟨⟨hsz, hP, hK, hD0⟩, hN⟩, hX, hZ⟩ := hv
  have hx := B.exec
  have hb := B.bytes
  have hr := B.returns
  have hts := atoms_spec (ws := wsX4_bars) B.pre
  have hown : s.vm.findClass RX4 = some m.cls := findClass_of_methodNamed B.named
  have hlocks := B.notSynchronized
  subst hsz
  have hD := hD0.self (sz := s.heap.size)
  generalize hAe : va_A (kW K ad E) s.heap.size = A at hD hZ ⊢
  have hA : ∀ q : Nat, s.heap.size ≤ q → A q := w_A hAe
  have hS : va_S A s.heap s.heap [] := va_S.rf
  have hnd := kW_nd hD
  have hl := lv_entry ([.ref ((ad (0))), .int (a), .int (b), .int (nI (is))]) (n := 5) (Nat.le_of_ble_eq_true rfl)
  rw [lg_entry_eq]
  generalize (lg_sl ([.ref ((ad (0))), .int (a), .int (b), .int (nI (is))]) ++ List.replicate (5 - (lg_sl ([.ref ((ad (0))), .int (a), .int (b), .int (nI (is))])).length) Slot.unset).toArray = ls at hl ⊢
  have hl : lv_has ls 5 [(0, .ref ((ad (0)))), (1, .int (a)), (2, .int (b)), (3, .int (nI (is)))] := hl
  obtain ⟨⟨hE0, f1, f2, f3, hE1, hE2, hE3, hr1, hr2, hr3⟩, ⟨f4, f5, hE4, hE5, hbr, hwt⟩, hsaw, hspa, hYf, hYb, hYc⟩ := id hR
  obtain ⟨hy0, hyF, hyB, hyC, hyf, hyb, hyc, hyr, hyw⟩ := id hY
  refine lv_iload_n hx hb dX4_bars_0 rfl (lv_at hl 1 rfl) ?_
  have hFc := w_free hD hS hA
  refine vx_callv (vx_runS (As := [.int (a)]) (rest := []) ⟨hx, hb, hml, hown, hts⟩ (c_X4_checkKind l hlt D cy s.heap.size sa K ad E (a)) (va_cwS 1 hts gX4_bars_X4_checkKind rfl rfl rfl (by decide +kernel) ⟨Nat.le_of_ble_eq_true rfl, Nat.le_of_ble_eq_true rfl⟩) ⟨wX_blind, wX_pre hP hK hD hN hX hZ hS hA⟩ rfl rfl hl.1 rfl (lv_room (Nat.le_of_ble_eq_true rfl)) dX4_bars_1 ⟨Nat.le_of_ble_eq_true rfl, Nat.le_of_ble_eq_true rfl⟩) hS (fun q _ h => hFc q h) hFc (fun q _ h => hFc q h) (fun En ce q9 u9 t9 H locs ht hvm hpx hBX _ _ hS hce hcv hcl => ?_) (fun u_1 t9 H locs ht hvm hw_1 hB _ _ hS => ?_)
  · exact vx_out (fun x hx => (htb x hx).elim) hlocks hce hcv hcl (fun t ht2 hal => ⟨(), trivial, ⟨Or.inr ⟨hBX.1.1, by rw [sp_bars, if_neg (fun q9 => hBX.1.2 q9.1)]⟩, by rw [ht2, ← ht]; exact hBX.2.1, va_K.moved hal hK, hBX.2.2.2.weaken (fun _ _ _ h => hFc _ h)⟩, hS.F ht2⟩) hS.2.2 (by decide) (by decide)
  obtain ⟨hP1, hK1, hD1⟩ := hB
  rw [ht] at hP1
  have hP := hP1
  have hD := hD1.weaken (fun _ _ _ h => hFc _ h)
  obtain ⟨hue_1, hok_1⟩ := hw_1
  rw [hue_1] at hP hD
  have hxa := ix_c hok_1.1
  have hlta := ix_lt hok_1
  have hna := ix_n hok_1.1
  have hl : lv_has ls 5 [(0, .ref ((ad (0)))), (1, .int (nI (ix a))), (2, .int (b)), (3, .int (nI (is)))] := by rw [← hna]; exact hl
  refine lv_iload_n hx hb dX4_bars_4 rfl (lv_at hl 2 rfl) ?_
  have hFc := w_free hD hS hA
  refine vx_callv (vx_runS (As := [.int (b)]) (rest := []) ⟨hx, hb, hml, hown, hts⟩ (c_X4_checkKind l hlt D cy H.size sa K ad E (b)) (va_cwS 1 hts gX4_bars_X4_checkKind rfl rfl rfl (by decide +kernel) ⟨Nat.le_of_ble_eq_true rfl, Nat.le_of_ble_eq_true rfl⟩) ⟨wX_blind, wX_pre hP hK hD hN hX hZ hS hA⟩ rfl rfl hl.1 rfl (lv_room (Nat.le_of_ble_eq_true rfl)) dX4_bars_5 ⟨Nat.le_of_ble_eq_true rfl, Nat.le_of_ble_eq_true rfl⟩) hS (fun q _ h => hFc q h) hFc (fun q _ h => hFc q h) (fun En ce q9 u9 t9 H locs ht hvm hpx hBX _ _ hS hce hcv hcl => ?_) (fun u_5 t9 H locs ht hvm hw_5 hB _ _ hS => ?_)
  · exact vx_out (fun x hx => (htb x hx).elim) hlocks hce hcv hcl (fun t ht2 hal => ⟨(), trivial, ⟨Or.inr ⟨hBX.1.1, by rw [sp_bars, if_neg (fun q9 => hBX.1.2 q9.2)]⟩, by rw [ht2, ← ht]; exact hBX.2.1, va_K.moved hal hK, hBX.2.2.2.weaken (fun _ _ _ h => hFc _ h)⟩, hS.F ht2⟩) hS.2.2 (by decide) (by decide)
  obtain ⟨hP1, hK1, hD1⟩ := hB
  rw [ht] at hP1
  have hP := hP1
  have hD := hD1.weaken (fun _ _ _ h => hFc _ h)
  obtain ⟨hue_5, hok_5⟩ := hw_5
  rw [hue_5] at hP hD
  have hxb := ix_c hok_5.1
  have hltb := ix_lt hok_5
  have hnb := ix_n hok_5.1
  obtain ⟨v9, hv1, hv2, hv3⟩ := hbr (ix a) hlta
  have hl : lv_has ls 5 [(0, .ref ((ad (0)))), (1, .int (nI (ix a))), (2, .int (nI (ix b))), (3, .int (nI (is)))] := by rw [← hnb]; exact hl
  refine lv_aload_n hx hb dX4_bars_8 rfl (lv_at hl 0 rfl) ?_
  obtain ⟨p1, hp1⟩ := kW_pos (hKR.m (show keyOk Y (0) by unfold keyOk; omega))
  refine va_get (D := D) (ci := 4) (v := .ref ((ad (4)))) (C := RX4) (T := TX4) (N := 11) hx hb hts (by decide +kernel) hown hK hP p1 (kW_get hp1 hE0) rfl 3 (by decide) (hts (.fieldLink RX4 27 "CaskYard" "barred" "[I") (by decide +kernel)) (fun _ h9 => h9) rfl dX4_bars_9 ?_
  refine lv_iload_n hx hb dX4_bars_12 rfl (lv_at hl 1 rfl) ?_
  obtain ⟨p2, hp2⟩ := kW_pos (hKR.m (show keyOk Y (4) by unfold keyOk; omega))
  refine g_iald hx hb hK hP p2 0 (kW_get hp2 hE4) rfl (ix a) rfl (by omega) (by decide) dX4_bars_13 ?_
  refine g_top (y := (nI (v9))) hv1 ?_
  refine lv_iload_n hx hb dX4_bars_14 rfl (lv_at hl 2 rfl) ?_
  refine lv_ishr hx hb dX4_bars_15 ?_
  refine g_top (y := (nI (v9 / 2 ^ ix b))) (n_shr (by omega) (by omega)) ?_
  refine lv_iconst (v := (nI (1))) hx hb dX4_bars_16 (by decide) ?_
  have hdl := Nat.div_le_self v9 (2 ^ ix b)
  refine lv_iand hx hb dX4_bars_17 ?_
  refine g_top (y := (nI (v9 / 2 ^ ix b % 2))) (n_and1 (by omega)) ?_
  refine g_if_eq (tgt := 25) hx hb dX4_bars_18 (by decide) (n_i (by omega)) (fun c_18 => ?_) (fun c_18 => ?_)
  · skip
    refine lv_iconst (v := (nI (0))) hx hb dX4_bars_25 (by decide) ?_
    refine lv_istore (lv' := [(4, .int (nI (0))), (0, .ref ((ad (0)))), (1, .int (nI (ix a))), (2, .int (nI (ix b))), (3, .int (nI (is)))]) hx hb dX4_bars_26 hl (by decide) rfl (fun ls hl => ?_)
    refine lv_aload_n hx hb dX4_bars_28 rfl (lv_at hl 1 rfl) ?_
    obtain ⟨p3, hp3⟩ := kW_pos (hKR.m (show keyOk Y (0) by unfold keyOk; omega))
    refine va_get (D := D) (ci := 4) (v := .ref ((ad (4)))) (C := RX4) (T := TX4) (N := 11) hx hb hts (by decide +kernel) hown hK hP p3 (kW_get hp3 hE0) rfl 3 (by decide) (hts (.fieldLink RX4 27 "CaskYard" "barred" "[I") (by decide +kernel)) (fun _ h9 => h9) rfl dX4_bars_29 ?_
    refine lv_iload_n hx hb dX4_bars_32 rfl (lv_at hl 2 rfl) ?_
    refine lv_iload_n hx hb dX4_bars_33 rfl (lv_at hl 4 rfl) ?_
    refine g_if_eq (tgt := 50) hx hb dX4_bars_34 (by decide) (n_i (by omega)) (fun c_34 => ?_) (fun c_34 => ?_)
    · skip
      have his9 : is = 0 := by omega
      refine lv_aload_n hx hb dX4_bars_50 rfl (lv_at hl 1 rfl) ?_
      obtain ⟨p4, hp4⟩ := kW_pos (hKR.m (show keyOk Y (0) by unfold keyOk; omega))
      refine va_get (D := D) (ci := 4) (v := .ref ((ad (4)))) (C := RX4) (T := TX4) (N := 11) hx hb hts (by decide +kernel) hown hK hP p4 (kW_get hp4 hE0) rfl 3 (by decide) (hts (.fieldLink RX4 27 "CaskYard" "barred" "[I") (by decide +kernel)) (fun _ h9 => h9) rfl dX4_bars_51 ?_
      refine lv_iload_n hx hb dX4_bars_54 rfl (lv_at hl 2 rfl) ?_
      obtain ⟨p5, hp5⟩ := kW_pos (hKR.m (show keyOk Y (4) by unfold keyOk; omega))
      refine g_iald hx hb hK hP p5 0 (kW_get hp5 hE4) rfl (ix a) rfl (by omega) (by decide) dX4_bars_55 ?_
      refine g_top (y := (nI (v9))) hv1 ?_
      refine lv_iconst (v := (nI (1))) hx hb dX4_bars_56 (by decide) ?_
      refine lv_iload_n hx hb dX4_bars_57 rfl (lv_at hl 3 rfl) ?_
      refine lv_ishl hx hb dX4_bars_58 ?_
      refine g_top (y := (nI (2 ^ ix b))) (n_shl1 (by omega)) ?_
      refine lv_iconst (v := (zI ((-1)))) hx hb dX4_bars_59 (by decide) ?_
      refine lv_ixor hx hb dX4_bars_60 ?_
      refine lv_iand hx hb dX4_bars_61 ?_
      refine g_top (y := (nI (v9 &&& (65535 ^^^ 2 ^ ix b)))) (n_andnot hv2 hltb) ?_
      obtain ⟨p6, hp6⟩ := kW_pos (hKR.m (show keyOk Y (4) by unfold keyOk; omega))
      refine g_iast hx hb hK hP hD hS p6 0 (kW_get hp6 hE4) rfl (ix a) rfl (by omega) (by decide) dX4_bars_62 (fun H locs hP hD hS => ?_)
      rw [kW_set hnd hp6] at hP hD
      obtain ⟨Ew7, hEw7⟩ : ∃ G, G = va_up E (4) (.inl (cy 0, 16, .inl (upd (f4) (ix a) (nI (v9 &&& (65535 ^^^ 2 ^ ix b)))))) := ⟨_, rfl⟩
      have eEw7_27 : Ew7 (4) = .inl (cy 0, 16, .inl (upd (f4) (ix a) (nI (v9 &&& (65535 ^^^ 2 ^ ix b))))) := by rw [hEw7]; exact va_up_self _ _ _
      rw [← hEw7] at hP hD
      refine lv_iload hx hb dX4_bars_63 (lv_at hl 0 rfl) ?_
      refine vx_ret ?_
      exact W.zret (v := (nI (0))) hx hb hr (by decide) (fun t ht hW => ⟨⟨_, Ew7, rfl, by rw [sp_bars, if_pos ⟨hok_1, hok_5⟩, his9]; exact ⟨rfl, (bI_f (by have h91 := hv3 (ix b) (by omega); omega)).symm, YR_bars (v := v9) (w := v9 &&& (65535 ^^^ 2 ^ ix b)) (x := 0) hR hE4 hbr hlta hltb hv3 (fun j => and_bit hv2) (Nat.lt_of_le_of_lt Nat.and_le_left hv2) eEw7_27 (fun j_ h0_ => by rw [hEw7, va_up_ne _ _ h0_])⟩, by rw [ht]; exact hP, va_K.moved hW.alike hK, hD⟩, hS.F ht⟩) hS.2.2 dX4_bars_65
    · skip
      have his9 : is = 1 := by omega
      refine lv_aload_n hx hb dX4_bars_37 rfl (lv_at hl 1 rfl) ?_
      obtain ⟨p8, hp8⟩ := kW_pos (hKR.m (show keyOk Y (0) by unfold keyOk; omega))
      refine va_get (D := D) (ci := 4) (v := .ref ((ad (4)))) (C := RX4) (T := TX4) (N := 11) hx hb hts (by decide +kernel) hown hK hP p8 (kW_get hp8 hE0) rfl 3 (by decide) (hts (.fieldLink RX4 27 "CaskYard" "barred" "[I") (by decide +kernel)) (fun _ h9 => h9) rfl dX4_bars_38 ?_
      refine lv_iload_n hx hb dX4_bars_41 rfl (lv_at hl 2 rfl) ?_
      obtain ⟨p9, hp9⟩ := kW_pos (hKR.m (show keyOk Y (4) by unfold keyOk; omega))
      refine g_iald hx hb hK hP p9 0 (kW_get hp9 hE4) rfl (ix a) rfl (by omega) (by decide) dX4_bars_42 ?_
      refine g_top (y := (nI (v9))) hv1 ?_
      refine lv_iconst (v := (nI (1))) hx hb dX4_bars_43 (by decide) ?_
      refine lv_iload_n hx hb dX4_bars_44 rfl (lv_at hl 3 rfl) ?_
      refine lv_ishl hx hb dX4_bars_45 ?_
      refine g_top (y := (nI (2 ^ ix b))) (n_shl1 (by omega)) ?_
      refine lv_ior hx hb dX4_bars_46 ?_
      refine g_top (y := (nI (v9 ||| 2 ^ ix b))) (n_or _ _) ?_
      refine lv_goto (tgt := 62) hx hb dX4_bars_47 (by decide) ?_
      obtain ⟨p10, hp10⟩ := kW_pos (hKR.m (show keyOk Y (4) by unfold keyOk; omega))
      refine g_iast hx hb hK hP hD hS p10 0 (kW_get hp10 hE4) rfl (ix a) rfl (by omega) (by decide) dX4_bars_62 (fun H locs hP hD hS => ?_)
      rw [kW_set hnd hp10] at hP hD
      obtain ⟨Ew11, hEw11⟩ : ∃ G, G = va_up E (4) (.inl (cy 0, 16, .inl (upd (f4) (ix a) (nI (v9 ||| 2 ^ ix b))))) := ⟨_, rfl⟩
      have eEw11_27 : Ew11 (4) = .inl (cy 0, 16, .inl (upd (f4) (ix a) (nI (v9 ||| 2 ^ ix b)))) := by rw [hEw11]; exact va_up_self _ _ _
      rw [← hEw11] at hP hD
      refine lv_iload hx hb dX4_bars_63 (lv_at hl 0 rfl) ?_
      refine vx_ret ?_
      exact W.zret (v := (nI (0))) hx hb hr (by decide) (fun t ht hW => ⟨⟨_, Ew11, rfl, by rw [sp_bars, if_pos ⟨hok_1, hok_5⟩, his9]; exact ⟨rfl, (bI_f (by have h91 := hv3 (ix b) (by omega); omega)).symm, YR_bars (v := v9) (w := v9 ||| 2 ^ ix b) (x := 1) hR hE4 hbr hlta hltb hv3 (fun j => or_bit) (or_lt hv2 hltb) eEw11_27 (fun j_ h0_ => by rw [hEw11, va_up_ne _ _ h0_])⟩, by rw [ht]; exact hP, va_K.moved hW.alike hK, hD⟩, hS.F ht⟩) hS.2.2 dX4_bars_65
  · skip
    refine lv_iconst (v := (nI (1))) hx hb dX4_bars_21 (by decide) ?_
    refine lv_goto (tgt := 26) hx hb dX4_bars_22 (by decide) ?_
    refine lv_istore (lv' := [(4, .int (nI (1))), (0, .ref ((ad (0)))), (1, .int (nI (ix a))), (2, .int (nI (ix b))), (3, .int (nI (is)))]) hx hb dX4_bars_26 hl (by decide) rfl (fun ls hl => ?_)
    refine lv_aload_n hx hb dX4_bars_28 rfl (lv_at hl 1 rfl) ?_
    obtain ⟨p12, hp12⟩ := kW_pos (hKR.m (show keyOk Y (0) by unfold keyOk; omega))
    refine va_get (D := D) (ci := 4) (v := .ref ((ad (4)))) (C := RX4) (T := TX4) (N := 11) hx hb hts (by decide +kernel) hown hK hP p12 (kW_get hp12 hE0) rfl 3 (by decide) (hts (.fieldLink RX4 27 "CaskYard" "barred" "[I") (by decide +kernel)) (fun _ h9 => h9) rfl dX4_bars_29 ?_
    refine lv_iload_n hx hb dX4_bars_32 rfl (lv_at hl 2 rfl) ?_
    refine lv_iload_n hx hb dX4_bars_33 rfl (lv_at hl 4 rfl) ?_
    refine g_if_eq (tgt := 50) hx hb dX4_bars_34 (by decide) (n_i (by omega)) (fun c_34 => ?_) (fun c_34 => ?_)
    · skip
      have his9 : is = 0 := by omega
      refine lv_aload_n hx hb dX4_bars_50 rfl (lv_at hl 1 rfl) ?_
      obtain ⟨p13, hp13⟩ := kW_pos (hKR.m (show keyOk Y (0) by unfold keyOk; omega))
      refine va_get (D := D) (ci := 4) (v := .ref ((ad (4)))) (C := RX4) (T := TX4) (N := 11) hx hb hts (by decide +kernel) hown hK hP p13 (kW_get hp13 hE0) rfl 3 (by decide) (hts (.fieldLink RX4 27 "CaskYard" "barred" "[I") (by decide +kernel)) (fun _ h9 => h9) rfl dX4_bars_51 ?_
      refine lv_iload_n hx hb dX4_bars_54 rfl (lv_at hl 2 rfl) ?_
      obtain ⟨p14, hp14⟩ := kW_pos (hKR.m (show keyOk Y (4) by unfold keyOk; omega))
      refine g_iald hx hb hK hP p14 0 (kW_get hp14 hE4) rfl (ix a) rfl (by omega) (by decide) dX4_bars_55 ?_
      refine g_top (y := (nI (v9))) hv1 ?_
      refine lv_iconst (v := (nI (1))) hx hb dX4_bars_56 (by decide) ?_
      refine lv_iload_n hx hb dX4_bars_57 rfl (lv_at hl 3 rfl) ?_
      refine lv_ishl hx hb dX4_bars_58 ?_
      refine g_top (y := (nI (2 ^ ix b))) (n_shl1 (by omega)) ?_
      refine lv_iconst (v := (zI ((-1)))) hx hb dX4_bars_59 (by decide) ?_
      refine lv_ixor hx hb dX4_bars_60 ?_
      refine lv_iand hx hb dX4_bars_61 ?_
      refine g_top (y := (nI (v9 &&& (65535 ^^^ 2 ^ ix b)))) (n_andnot hv2 hltb) ?_
      obtain ⟨p15, hp15⟩ := kW_pos (hKR.m (show keyOk Y (4) by unfold keyOk; omega))
      refine g_iast hx hb hK hP hD hS p15 0 (kW_get hp15 hE4) rfl (ix a) rfl (by omega) (by decide) dX4_bars_62 (fun H locs hP hD hS => ?_)
      rw [kW_set hnd hp15] at hP hD
      obtain ⟨Ew16, hEw16⟩ : ∃ G, G = va_up E (4) (.inl (cy 0, 16, .inl (upd (f4) (ix a) (nI (v9 &&& (65535 ^^^ 2 ^ ix b)))))) := ⟨_, rfl⟩
      have eEw16_27 : Ew16 (4) = .inl (cy 0, 16, .inl (upd (f4) (ix a) (nI (v9 &&& (65535 ^^^ 2 ^ ix b))))) := by rw [hEw16]; exact va_up_self _ _ _
      rw [← hEw16] at hP hD
      refine lv_iload hx hb dX4_bars_63 (lv_at hl 0 rfl) ?_
      refine vx_ret ?_
      exact W.zret (v := (nI (1))) hx hb hr (by decide) (fun t ht hW => ⟨⟨_, Ew16, rfl, by rw [sp_bars, if_pos ⟨hok_1, hok_5⟩, his9]; exact ⟨rfl, (bI_t (by have h91 := hv3 (ix b) (by omega); omega)).symm, YR_bars (v := v9) (w := v9 &&& (65535 ^^^ 2 ^ ix b)) (x := 0) hR hE4 hbr hlta hltb hv3 (fun j => and_bit hv2) (Nat.lt_of_le_of_lt Nat.and_le_left hv2) eEw16_27 (fun j_ h0_ => by rw [hEw16, va_up_ne _ _ h0_])⟩, by rw [ht]; exact hP, va_K.moved hW.alike hK, hD⟩, hS.F ht⟩) hS.2.2 dX4_bars_65
    · skip
      have his9 : is = 1 := by omega
      refine lv_aload_n hx hb dX4_bars_37 rfl (lv_at hl 1 rfl) ?_
      obtain ⟨p17, hp17⟩ := kW_pos (hKR.m (show keyOk Y (0) by unfold keyOk; omega))
      refine va_get (D := D) (ci := 4) (v := .ref ((ad (4)))) (C := RX4) (T := TX4) (N := 11) hx hb hts (by decide +kernel) hown hK hP p17 (kW_get hp17 hE0) rfl 3 (by decide) (hts (.fieldLink RX4 27 "CaskYard" "barred" "[I") (by decide +kernel)) (fun _ h9 => h9) rfl dX4_bars_38 ?_
      refine lv_iload_n hx hb dX4_bars_41 rfl (lv_at hl 2 rfl) ?_
      obtain ⟨p18, hp18⟩ := kW_pos (hKR.m (show keyOk Y (4) by unfold keyOk; omega))
      refine g_iald hx hb hK hP p18 0 (kW_get hp18 hE4) rfl (ix a) rfl (by omega) (by decide) dX4_bars_42 ?_
      refine g_top (y := (nI (v9))) hv1 ?_
      refine lv_iconst (v := (nI (1))) hx hb dX4_bars_43 (by decide) ?_
      refine lv_iload_n hx hb dX4_bars_44 rfl (lv_at hl 3 rfl) ?_
      refine lv_ishl hx hb dX4_bars_45 ?_
      refine g_top (y := (nI (2 ^ ix b))) (n_shl1 (by omega)) ?_
      refine lv_ior hx hb dX4_bars_46 ?_
      refine g_top (y := (nI (v9 ||| 2 ^ ix b))) (n_or _ _) ?_
      refine lv_goto (tgt := 62) hx hb dX4_bars_47 (by decide) ?_
      obtain ⟨p19, hp19⟩ := kW_pos (hKR.m (show keyOk Y (4) by unfold keyOk; omega))
      refine g_iast hx hb hK hP hD hS p19 0 (kW_get hp19 hE4) rfl (ix a) rfl (by omega) (by decide) dX4_bars_62 (fun H locs hP hD hS => ?_)
      rw [kW_set hnd hp19] at hP hD
      obtain ⟨Ew20, hEw20⟩ : ∃ G, G = va_up E (4) (.inl (cy 0, 16, .inl (upd (f4) (ix a) (nI (v9 ||| 2 ^ ix b))))) := ⟨_, rfl⟩
      have eEw20_27 : Ew20 (4) = .inl (cy 0, 16, .inl (upd (f4) (ix a) (nI (v9 ||| 2 ^ ix b)))) := by rw [hEw20]; exact va_up_self _ _ _
      rw [← hEw20] at hP hD
      refine lv_iload hx hb dX4_bars_63 (lv_at hl 0 rfl) ?_
      refine vx_ret ?_
      exact W.zret (v := (nI (1))) hx hb hr (by decide) (fun t ht hW => ⟨⟨_, Ew20, rfl, by rw [sp_bars, if_pos ⟨hok_1, hok_5⟩, his9]; exact ⟨rfl, (bI_t (by have h91 := hv3 (ix b) (by omega); omega)).symm, YR_bars (v := v9) (w := v9 ||| 2 ^ ix b) (x := 1) hR hE4 hbr hlta hltb hv3 (fun j => or_bit) (or_lt hv2 hltb) eEw20_27 (fun j_ h0_ => by rw [hEw20, va_up_ne _ _ h0_])⟩, by rw [ht]; exact hP, va_K.moved hW.alike hK, hD⟩, hS.F ht⟩) hS.2.2 dX4_bars_65
set_option maxHeartbeats 4000000 in
set_option maxRecDepth 100000 in
theorem c_X4_weighs (l : Launch) (hlt : l.stackTraces = false) (D : va_G) (cy : Nat → ClassId) (sz : Nat) (sa : Nat → Nat) (K : List Nat) (ad : Nat → Nat) (E : Nat → va_E) (Y : YT) (hKR : KR K Y) (hR : YR cy ad E Y) (hY : WF Y) (a : Int32) (b : Int32) : vx_Met l yX4_weighs wsX4_weighs ({ frames := 7, cells := 2, slots := 12, locals := 104 } : Room) (va_Pc [.ref ((ad (0))), .int (a), .int (b)] (wX D cy sz sa (kW K ad E))) (va_Ql (fun (r : Int64) (u : Nat → va_E) => YPl cy ad (sp_weighs Y a b) r u) (fun u t => wE D cy (va_A (kW K ad E) sz) (kW K ad u) t) (va_A (kW K ad E) sz)) (vx_X (fun _ : Unit => True) (fun (En : String) _ t => (xOk En (sp_weighs Y a b).1 1 2) ∧ wE D cy (va_A (kW K ad E) sz) (kW K ad E) t) (va_A (kW K ad E) sz)) 2 12 (va_A (kW K ad E) sz) := by
  refine vx_ofW (cc := cX4_weighs) (maxL := 5) (ret := (some .long)) (by decide) rfl ?_
  intro p e s m args below meth c s₁ B hml htb hv
  obtain ⟨rfl, ⟨⟨hsz, hP, hK, hD0⟩, hN⟩, hX, hZ⟩ := hv
  have hx := B.exec
  have hb := B.bytes
  have hr := B.returns
  have hts := atoms_spec (ws := wsX4_weighs) B.pre
  have hown : s.vm.findClass RX4 = some m.cls := findClass_of_methodNamed B.named
  have hlocks := B.notSynchronized
  subst hsz
  have hD := hD0.self (sz := s.heap.size)
  generalize hAe : va_A (kW K ad E) s.heap.size = A at hD hZ ⊢
  have hA : ∀ q : Nat, s.heap.size ≤ q → A q := w_A hAe
  have hS : va_S A s.heap s.heap [] := va_S.rf
  have hnd := kW_nd hD
  have hl := lv_entry ([.ref ((ad (0))), .int (a), .int (b)]) (n := 5) (Nat.le_of_ble_eq_true rfl)
  rw [lg_entry_eq]
  generalize (lg_sl ([.ref ((ad (0))), .int (a), .int (b)]) ++ List.replicate (5 - (lg_sl ([.ref ((ad (0))), .int (a), .int (b)])).length) Slot.unset).toArray = ls at hl ⊢
  have hl : lv_has ls 5 [(0, .ref ((ad (0)))), (1, .int (a)), (2, .int (b))] := hl
  obtain ⟨⟨hE0, f1, f2, f3, hE1, hE2, hE3, hr1, hr2, hr3⟩, ⟨f4, f5, hE4, hE5, hbr, hwt⟩, hsaw, hspa, hYf, hYb, hYc⟩ := id hR
  obtain ⟨hy0, hyF, hyB, hyC, hyf, hyb, hyc, hyr, hyw⟩ := id hY
  refine lv_aload_n hx hb dX4_weighs_0 rfl (lv_at hl 0 rfl) ?_
  refine lv_iload_n hx hb dX4_weighs_1 rfl (lv_at hl 1 rfl) ?_
  have hFc := w_free hD hS hA
  obtain ⟨p1, hp1⟩ := kW_pos (hKR.m (show keyOk Y (0) by unfold keyOk; omega))
  refine vx_callr (vx_runV (As := [.int (a)]) (rest := []) ⟨hx, hb, hml, hown, hts⟩ (c_X4_caskAt l hlt D cy s.heap.size sa K ad E (hKR.m (show keyOk Y (0) by unfold keyOk; omega)) (yF Y) (yB Y) (yC Y) (yNow Y) (hE0) (hKR.m (show keyOk Y (3) by unfold keyOk; omega)) (f3) (hE3) (hr3) (hyC) (a)) (cwV 1 hts gX4_weighs_X4_caskAt rfl rfl rfl (by decide +kernel) ⟨Nat.le_of_ble_eq_true rfl, Nat.le_of_ble_eq_true rfl⟩) ⟨wX_blind, va_recv hK hP (ci := 4) (q0 := p1) rfl (kW_get hp1 hE0), wX_pre hP hK hD hN hX hZ hS hA⟩ rfl rfl hl.1 rfl (lv_room (Nat.le_of_ble_eq_true rfl)) dX4_weighs_2 ⟨Nat.le_of_ble_eq_true rfl, Nat.le_of_ble_eq_true rfl⟩) hS (fun q _ h => hFc q h) hFc (fun q _ h => hFc q h) (fun En ce q9 u9 t9 H locs ht hvm hpx hBX _ _ hS hce hcv hcl => ?_) (fun u_2 ra_2 t9 H locs ht hvm hw_2 hB _ _ hS => ?_)
  · exact vx_out (fun x hx => (htb x hx).elim) hlocks hce hcv hcl (fun t ht2 hal => ⟨(), trivial, ⟨Or.inl ⟨hBX.1.1, by rw [sp_weighs, if_neg hBX.1.2]⟩, by rw [ht2, ← ht]; exact hBX.2.1, va_K.moved hal hK, hBX.2.2.2.weaken (fun _ _ _ h => hFc _ h)⟩, hS.F ht2⟩) hS.2.2 (by decide) (by decide)
  obtain ⟨hra_2, hP1, hK1, hD1⟩ := hB
  subst hra_2
  rw [ht] at hP1
  have hP := hP1
  have hD := hD1.weaken (fun _ _ _ h => hFc _ h)
  have hiaa := ix_lt hw_2
  obtain ⟨fb, fp, fd, ft, fk, hc0, hc1, hc2, hc3, hc4, hc5, hcbp, hcE⟩ := hYc (ix a) (by omega)
  have hcwhc := hyc (ix a) (by omega)
  have hfhc := hYf (ycf Y (ix a)) hcwhc.1
  have hfohc := hyf (ycf Y (ix a)) hcwhc.1
  have hcfhc := hcwhc.1
  have hmfhc : 1000 + ycf Y (ix a) ∈ K := (hKR.m (show keyOk Y (1000 + ycf Y (ix a)) by unfold keyOk; omega))
  have hqhc : ∀ q ∈ yE Y (ix a), q.1 ≤ 100000 ∧ q.2.1 ≤ 100000 ∧ q.2.2 ≤ 16 := fun q hq => by have h9 := hcwhc.2.2.1 q hq; exact ⟨by omega, by omega, h9.2.2⟩
  refine lv_astore_n (lv' := [(3, .ref ((ad (5000 + ix a)))), (0, .ref ((ad (0)))), (1, .int (a)), (2, .int (b))]) hx hb dX4_weighs_5 rfl hl (by decide) rfl (fun ls hl => ?_)
  refine lv_aload_n hx hb dX4_weighs_6 rfl (lv_at hl 0 rfl) ?_
  obtain ⟨p2, hp2⟩ := kW_pos (hKR.m (show keyOk Y (5000 + ix a) by unfold keyOk; omega))
  refine va_get (D := D) (ci := 1) (v := .ref ((ad (1000 + ycf Y (ix a))))) (C := RX1) (T := TX1) (N := 8) hx hb hts (by decide +kernel) hown hK hP p2 (kW_get hp2 hc0) rfl 1 (by decide) (hts (.fieldLink RX4 168 "CaskYard$Cask" "shape" "LCaskYard$Form;") (by decide +kernel)) (fun _ h9 => h9) rfl dX4_weighs_7 ?_
  refine lv_iload_n hx hb dX4_weighs_10 rfl (lv_at hl 3 rfl) ?_
  have hFc := w_free hD hS hA
  refine vx_callv (vx_runS (As := [.ref ((ad (1000 + ycf Y (ix a)))), .int (b)]) (rest := []) ⟨hx, hb, hml, hown, hts⟩ (c_X4_checkHeight l hlt D cy H.size sa K ad E (1000 + ycf Y (ix a)) (hmfhc) (yh Y (ycf Y (ix a))) (yg Y (ycf Y (ix a))) (ye Y (ycf Y (ix a))) (ys Y (ycf Y (ix a))) (hfhc) (hfohc) (b)) (va_cwS 2 hts gX4_weighs_X4_checkHeight rfl rfl rfl (by decide +kernel) ⟨Nat.le_of_ble_eq_true rfl, Nat.le_of_ble_eq_true rfl⟩) ⟨wX_blind, wX_pre hP hK hD hN hX hZ hS hA⟩ rfl rfl hl.1 rfl (lv_room (Nat.le_of_ble_eq_true rfl)) dX4_weighs_11 ⟨Nat.le_of_ble_eq_true rfl, Nat.le_of_ble_eq_true rfl⟩) hS (fun q _ h => hFc q h) hFc (fun q _ h => hFc q h) (fun En ce q9 u9 t9 H locs ht hvm hpx hBX _ _ hS hce hcv hcl => ?_) (fun u_11 t9 H locs ht hvm hw_11 hB _ _ hS => ?_)
  · exact vx_out (fun x hx => (htb x hx).elim) hlocks hce hcv hcl (fun t ht2 hal => ⟨(), trivial, ⟨Or.inr ⟨hBX.1.1, by rw [sp_weighs, if_pos hw_2, if_neg hBX.1.2]⟩, by rw [ht2, ← ht]; exact hBX.2.1, va_K.moved hal hK, hBX.2.2.2.weaken (fun _ _ _ h => hFc _ h)⟩, hS.F ht2⟩) hS.2.2 (by decide) (by decide)
  obtain ⟨hP1, hK1, hD1⟩ := hB
  rw [ht] at hP1
  have hP := hP1
  have hD := hD1.weaken (fun _ _ _ h => hFc _ h)
  obtain ⟨hue_11, hok_11⟩ := hw_11
  rw [hue_11] at hP hD
  have hxb := ix_c hok_11.1
  have hltb := ix_lt hok_11
  have hnb := ix_n hok_11.1
  have hl : lv_has ls 5 [(3, .ref ((ad (5000 + ix a)))), (0, .ref ((ad (0)))), (1, .int (a)), (2, .int (nI (ix b)))] := by rw [← hnb]; exact hl
  refine lv_aload_n hx hb dX4_weighs_14 rfl (lv_at hl 0 rfl) ?_
  refine lv_aload_n hx hb dX4_weighs_15 rfl (lv_at hl 1 rfl) ?_
  obtain ⟨p3, hp3⟩ := kW_pos (hKR.m (show keyOk Y (0) by unfold keyOk; omega))
  refine va_get (D := D) (ci := 4) (v := .int (nI (yNow Y))) (C := RX4) (T := TX4) (N := 11) hx hb hts (by decide +kernel) hown hK hP p3 (kW_get hp3 hE0) rfl 10 (by decide) (hts (.fieldLink RX4 88 "CaskYard" "now" "I") (by decide +kernel)) (fun _ h9 => h9) rfl dX4_weighs_16 ?_
  refine lv_aload_n hx hb dX4_weighs_19 rfl (lv_at hl 1 rfl) ?_
  obtain ⟨p4, hp4⟩ := kW_pos (hKR.m (show keyOk Y (0) by unfold keyOk; omega))
  refine va_get (D := D) (ci := 4) (v := .int (nI (yNow Y))) (C := RX4) (T := TX4) (N := 11) hx hb hts (by decide +kernel) hown hK hP p4 (kW_get hp4 hE0) rfl 10 (by decide) (hts (.fieldLink RX4 88 "CaskYard" "now" "I") (by decide +kernel)) (fun _ h9 => h9) rfl dX4_weighs_20 ?_
  obtain ⟨p5, hp5⟩ := kW_pos (hKR.m (show keyOk Y (5000 + ix a) by unfold keyOk; omega))
  refine vp_callSi (va_Run.run (va_runV (As := [.int (nI (yNow Y)), .int (nI (yNow Y))]) (rest := []) ⟨hx, hb, hml, hown, hts⟩ (c_X1_heldOn l D cy K ad E (5000 + ix a) (6000 + ix a) (7000 + ix a) (8000 + ix a) (9000 + ix a) (10000 + ix a) (1000 + ycf Y (ix a)) (hKR.m (show keyOk Y (5000 + ix a) by unfold keyOk; omega)) (nI (ycf Y (ix a))) (yE Y (ix a)) (hc0) (hKR.m (show keyOk Y (8000 + ix a) by unfold keyOk; omega)) (fd) (hc3) (hKR.m (show keyOk Y (9000 + ix a) by unfold keyOk; omega)) (ft) (hc4) (hKR.m (show keyOk Y (10000 + ix a) by unfold keyOk; omega)) (fk) (hc5) (hcwhc.2.1) (hcE) (hqhc) (nI (yNow Y)) (nI (yNow Y))) (cwV 2 hts gX4_weighs_X1_heldOn rfl rfl rfl (by decide +kernel) ⟨Nat.le_of_ble_eq_true rfl, Nat.le_of_ble_eq_true rfl⟩) ⟨rB2_blind, va_recv hK hP (ci := 1) (q0 := p5) rfl (kW_get hp5 hc0), (rB2_pre hP hK hN)⟩ rfl rfl hl.1 rfl (lv_room (Nat.le_of_ble_eq_true rfl)) dX4_weighs_23 ⟨Nat.le_of_ble_eq_true rfl, Nat.le_of_ble_eq_true rfl⟩)) (fun r_23 hr_23 => ?_)
  refine g_top (y := (zI ((heldS (yE Y (ix a)) (yNow Y : Int) (yNow Y : Int)).2))) (by rw [hr_23, n_i (by omega)]) ?_
  have hhb := heldS_bd (fun q hq => (hqhc q hq).2.2) (yNow Y : Int) (yNow Y : Int)
  have hzi := zI_toInt (z := (heldS (yE Y (ix a)) (yNow Y : Int) (yNow Y : Int)).2) (by omega) (by omega)
  refine lv_istore (lv' := [(4, .int (zI ((heldS (yE Y (ix a)) (yNow Y : Int) (yNow Y : Int)).2))), (3, .ref ((ad (5000 + ix a)))), (0, .ref ((ad (0)))), (1, .int (a)), (2, .int (nI (ix b)))]) hx hb dX4_weighs_26 hl (by decide) rfl (fun ls hl => ?_)
  refine lv_iload hx hb dX4_weighs_28 (lv_at hl 0 rfl) ?_
  refine g_if_lt (tgt := 40) hx hb dX4_weighs_30 (by decide) (zI_toInt (by omega) (by omega)) (fun c_30 => ?_) (fun c_30 => ?_)
  · skip
    refine lv_ldc2 hx hb hown (hts (.constantLong RX4 217 (-1)) (by decide +kernel)) dX4_weighs_40 ?_
    refine vx_ret ?_
    exact W.lret (v := ((-1))) hx hb hr (fun t ht hW => ⟨⟨_, E, rfl, by rw [sp_weighs, if_pos hw_2, if_pos hok_11]; exact ⟨rfl, (if_neg (by omega)).symm, hR⟩, by rw [ht]; exact hP, va_K.moved hW.alike hK, hD⟩, hS.F ht⟩) hS.2.2 dX4_weighs_43
  · skip
    refine lv_iload hx hb dX4_weighs_33 (lv_at hl 0 rfl) ?_
    refine lv_bipush (v := (nI (16))) hx hb dX4_weighs_35 (by decide) ?_
    refine g_icmp_lt (tgt := 44) hx hb dX4_weighs_37 (by decide) (zI_toInt (by omega) (by omega)) (n_i (by omega)) (fun c_37 => ?_) (fun c_37 => ?_)
    · skip
      refine lv_aload_n hx hb dX4_weighs_44 rfl (lv_at hl 1 rfl) ?_
      obtain ⟨p6, hp6⟩ := kW_pos (hKR.m (show keyOk Y (5000 + ix a) by unfold keyOk; omega))
      refine va_get (D := D) (ci := 1) (v := .ref ((ad (1000 + ycf Y (ix a))))) (C := RX1) (T := TX1) (N := 8) hx hb hts (by decide +kernel) hown hK hP p6 (kW_get hp6 hc0) rfl 1 (by decide) (hts (.fieldLink RX4 168 "CaskYard$Cask" "shape" "LCaskYard$Form;") (by decide +kernel)) (fun _ h9 => h9) rfl dX4_weighs_45 ?_
      refine lv_iload_n hx hb dX4_weighs_48 rfl (lv_at hl 4 rfl) ?_
      obtain ⟨p7, hp7⟩ := kW_pos hmfhc
      refine vp_callSi (va_Run.run (va_runV (As := [.int (nI (ix b))]) (rest := []) ⟨hx, hb, hml, hown, hts⟩ (c_X2_contentTo l D cy K ad E (1000 + ycf Y (ix a)) (hmfhc) (yh Y (ycf Y (ix a))) (yg Y (ycf Y (ix a))) (ye Y (ycf Y (ix a))) (ys Y (ycf Y (ix a))) (hfhc) (hfohc) (ix b) (by omega)) (cwV 1 hts gX4_weighs_X2_contentTo rfl rfl rfl (by decide +kernel) ⟨Nat.le_of_ble_eq_true rfl, Nat.le_of_ble_eq_true rfl⟩) ⟨rB2_blind, va_recv hK hP (ci := 2) (q0 := p7) rfl (kW_get hp7 hfhc), (rB2_pre hP hK hN)⟩ rfl rfl hl.1 rfl (lv_room (Nat.le_of_ble_eq_true rfl)) dX4_weighs_49 ⟨Nat.le_of_ble_eq_true rfl, Nat.le_of_ble_eq_true rfl⟩)) (fun r_49 hr_49 => ?_)
      subst hr_49
      have hhl := holdsN_lt (h := yh Y (ycf Y (ix a))) (e := ye Y (ycf Y (ix a))) (g := yg Y (ycf Y (ix a))) (l := ix b) (by omega) (by omega)
      refine lv_i2l (v := lN (holdsN (yh Y (ycf Y (ix a))) (yg Y (ycf Y (ix a))) (ye Y (ycf Y (ix a))) (ix b))) hx hb dX4_weighs_52 (nI_l (by omega)) ?_
      refine lv_aload_n hx hb dX4_weighs_53 rfl (lv_at hl 2 rfl) ?_
      obtain ⟨p8, hp8⟩ := kW_pos (hKR.m (show keyOk Y (0) by unfold keyOk; omega))
      refine va_get (D := D) (ci := 4) (v := .ref ((ad (5)))) (C := RX4) (T := TX4) (N := 11) hx hb hts (by decide +kernel) hown hK hP p8 (kW_get hp8 hE0) rfl 4 (by decide) (hts (.fieldLink RX4 31 "CaskYard" "weights" "[I") (by decide +kernel)) (fun _ h9 => h9) rfl dX4_weighs_54 ?_
      refine lv_iload hx hb dX4_weighs_57 (lv_at hl 0 rfl) ?_
      obtain ⟨p9, hp9⟩ := kW_pos (hKR.m (show keyOk Y (5) by unfold keyOk; omega))
      refine g_iald hx hb hK hP p9 0 (kW_get hp9 hE5) rfl ((heldS (yE Y (ix a)) (yNow Y : Int) (yNow Y : Int)).2.toNat) (z_n (by omega)) (by omega) (by decide) dX4_weighs_59 ?_
      refine g_top (y := (nI (ywt Y (heldS (yE Y (ix a)) (yNow Y : Int) (yNow Y : Int)).2.toNat))) (hwt (heldS (yE Y (ix a)) (yNow Y : Int) (yNow Y : Int)).2.toNat (by omega)) ?_
      have hwl := (hyw (heldS (yE Y (ix a)) (yNow Y : Int) (yNow Y : Int)).2.toNat (by omega)).2
      refine lv_i2l (v := lN (ywt Y (heldS (yE Y (ix a)) (yNow Y : Int) (yNow Y : Int)).2.toNat)) hx hb dX4_weighs_60 (nI_l (by omega)) ?_
      have hpr : holdsN (yh Y (ycf Y (ix a))) (yg Y (ycf Y (ix a))) (ye Y (ycf Y (ix a))) (ix b) * ywt Y (heldS (yE Y (ix a)) (yNow Y : Int) (yNow Y : Int)).2.toNat ≤ 2147483648 * 5000 := Nat.mul_le_mul (by omega) (by omega)
      refine lv_lmul hx hb dX4_weighs_61 ?_
      refine g_topl (y := lN ((holdsN (yh Y (ycf Y (ix a))) (yg Y (ycf Y (ix a))) (ye Y (ycf Y (ix a))) (ix b)) * (ywt Y (heldS (yE Y (ix a)) (yNow Y : Int) (yNow Y : Int)).2.toNat))) (lN_mul _ _) ?_
      refine lv_ldc2 hx hb hown (hts (.constantLong RX4 219 (1000)) (by decide +kernel)) dX4_weighs_62 ?_
      refine g_topl (y := lN 1000) (by decide) ?_
      refine lv_ldiv hx hb dX4_weighs_65 (by decide) ?_
      refine g_topl (y := lN (((holdsN (yh Y (ycf Y (ix a))) (yg Y (ycf Y (ix a))) (ye Y (ycf Y (ix a))) (ix b)) * (ywt Y (heldS (yE Y (ix a)) (yNow Y : Int) (yNow Y : Int)).2.toNat)) / 1000)) (pk_lDiv (by omega) (by omega) (by omega)) ?_
      refine vx_ret ?_
      exact W.lret (v := (lN (((holdsN (yh Y (ycf Y (ix a))) (yg Y (ycf Y (ix a))) (ye Y (ycf Y (ix a))) (ix b)) * (ywt Y (heldS (yE Y (ix a)) (yNow Y : Int) (yNow Y : Int)).2.toNat)) / 1000))) hx hb hr (fun t ht hW => ⟨⟨_, E, rfl, by rw [sp_weighs, if_pos hw_2, if_pos hok_11]; exact ⟨rfl, (if_pos (by omega)).symm, hR⟩, by rw [ht]; exact hP, va_K.moved hW.alike hK, hD⟩, hS.F ht⟩) hS.2.2 dX4_weighs_66
    · skip
      refine lv_ldc2 hx hb hown (hts (.constantLong RX4 217 (-1)) (by decide +kernel)) dX4_weighs_40 ?_
      refine vx_ret ?_
      exact W.lret (v := ((-1))) hx hb hr (fun t ht hW => ⟨⟨_, E, rfl, by rw [sp_weighs, if_pos hw_2, if_pos hok_11]; exact ⟨rfl, (if_neg (by omega)).symm, hR⟩, by rw [ht]; exact hP, va_K.moved hW.alike hK, hD⟩, hS.F ht⟩) hS.2.2 dX4_weighs_43
set_option maxHeartbeats 4000000 in
set_option maxRecDepth 100000 in
theorem c_X4_lacks (l : Launch) (hlt : l.stackTraces = false) (D : va_G) (cy : Nat → ClassId) (sz : Nat) (sa : Nat → Nat) (K : List Nat) (ad : Nat → Nat) (E : Nat → va_E) (Y : YT) (hKR : KR K Y) (hR : YR cy ad E Y) (hY : WF Y) (a : Int32) (b : Int32) (v : Int32) (w : Int32) : vx_Met l yX4_lacks wsX4_lacks ({ frames := 7, cells := 2, slots := 12, locals := 104 } : Room) (va_Pc [.ref ((ad (0))), .int (a), .int (b), .int (v), .int (w)] (wX D cy sz sa (kW K ad E))) (va_Qi (fun (r : Int32) (u : Nat → va_E) => YP cy ad (sp_lacks Y a b v w) r u) (fun u t => wE D cy (va_A (kW K ad E) sz) (kW K ad u) t) (va_A (kW K ad E) sz)) (vx_X (fun _ : Unit => True) (fun (En : String) _ t => (xOk En (sp_lacks Y a b v w).1 1 2) ∧ wE D cy (va_A (kW K ad E) sz) (kW K ad E) t) (va_A (kW K ad E) sz)) 2 12 (va_A (kW K ad E) sz) := by
  refine vx_ofW (cc := cX4_lacks) (maxL := 11) (ret := (some .int)) (by decide) rfl ?_
  intro p e s m args below meth c s₁ B hml htb hv
  obtain ⟨rfl, ⟨⟨hsz, hP, hK, hD0⟩, hN⟩, hX, hZ⟩ := hv
  have hx := B.exec
  have hb := B.bytes
  have hr := B.returns
  have hts := atoms_spec (ws := wsX4_lacks) B.pre
  have hown : s.vm.findClass RX4 = some m.cls := findClass_of_methodNamed B.named
  have hlocks := B.notSynchronized
  subst hsz
  have hD := hD0.self (sz := s.heap.size)
  generalize hAe : va_A (kW K ad E) s.heap.size = A at hD hZ ⊢
  have hA : ∀ q : Nat, s.heap.size ≤ q → A q := w_A hAe
  have hS : va_S A s.heap s.heap [] := va_S.rf
  have hnd := kW_nd hD
  have hl := lv_entry ([.ref ((ad (0))), .int (a), .int (b), .int (v), .int (w)]) (n := 11) (Nat.le_of_ble_eq_true rfl)
  rw [lg_entry_eq]
  generalize (lg_sl ([.ref ((ad (0))), .int (a), .int (b), .int (v), .int (w)]) ++ List.replicate (11 - (lg_sl ([.ref ((ad (0))), .int (a), .int (b), .int (v), .int (w)])).length) Slot.unset).toArray = ls at hl ⊢
  have hl : lv_has ls 11 [(0, .ref ((ad (0)))), (1, .int (a)), (2, .int (b)), (3, .int (v)), (4, .int (w))] := hl
  obtain ⟨⟨hE0, f1, f2, f3, hE1, hE2, hE3, hr1, hr2, hr3⟩, ⟨f4, f5, hE4, hE5, hbr, hwt⟩, hsaw, hspa, hYf, hYb, hYc⟩ := id hR
  obtain ⟨hy0, hyF, hyB, hyC, hyf, hyb, hyc, hyr, hyw⟩ := id hY
  refine lv_aload_n hx hb dX4_lacks_0 rfl (lv_at hl 0 rfl) ?_
  refine lv_iload_n hx hb dX4_lacks_1 rfl (lv_at hl 1 rfl) ?_
  have hFc := w_free hD hS hA
  obtain ⟨p1, hp1⟩ := kW_pos (hKR.m (show keyOk Y (0) by unfold keyOk; omega))
  refine vx_callr (vx_runV (As := [.int (a)]) (rest := []) ⟨hx, hb, hml, hown, hts⟩ (c_X4_caskAt l hlt D cy s.heap.size sa K ad E (hKR.m (show keyOk Y (0) by unfold keyOk; omega)) (yF Y) (yB Y) (yC Y) (yNow Y) (hE0) (hKR.m (show keyOk Y (3) by unfold keyOk; omega)) (f3) (hE3) (hr3) (hyC) (a)) (cwV 1 hts gX4_lacks_X4_caskAt rfl rfl rfl (by decide +kernel) ⟨Nat.le_of_ble_eq_true rfl, Nat.le_of_ble_eq_true rfl⟩) ⟨wX_blind, va_recv hK hP (ci := 4) (q0 := p1) rfl (kW_get hp1 hE0), wX_pre hP hK hD hN hX hZ hS hA⟩ rfl rfl hl.1 rfl (lv_room (Nat.le_of_ble_eq_true rfl)) dX4_lacks_2 ⟨Nat.le_of_ble_eq_true rfl, Nat.le_of_ble_eq_true rfl⟩) hS (fun q _ h => hFc q h) hFc (fun q _ h => hFc q h) (fun En ce q9 u9 t9 H locs ht hvm hpx hBX _ _ hS hce hcv hcl => ?_) (fun u_2 ra_2 t9 H locs ht hvm hw_2 hB _ _ hS => ?_)
  · exact vx_out (fun x hx => (htb x hx).elim) hlocks hce hcv hcl (fun t ht2 hal => ⟨(), trivial, ⟨Or.inl ⟨hBX.1.1, by rw [sp_lacks, if_neg hBX.1.2]⟩, by rw [ht2, ← ht]; exact hBX.2.1, va_K.moved hal hK, hBX.2.2.2.weaken (fun _ _ _ h => hFc _ h)⟩, hS.F ht2⟩) hS.2.2 (by decide) (by decide)
  obtain ⟨hra_2, hP1, hK1, hD1⟩ := hB
  subst hra_2
  rw [ht] at hP1
  have hP := hP1
  have hD := hD1.weaken (fun _ _ _ h => hFc _ h)
  have hiaa := ix_lt hw_2
  obtain ⟨fb, fp, fd, ft, fk, hc0, hc1, hc2, hc3, hc4, hc5, hcbp, hcE⟩ := hYc (ix a) (by omega)
  have hcwhc := hyc (ix a) (by omega)
  have hfhc := hYf (ycf Y (ix a)) hcwhc.1
  have hfohc := hyf (ycf Y (ix a)) hcwhc.1
  have hcfhc := hcwhc.1
  have hmfhc : 1000 + ycf Y (ix a) ∈ K := (hKR.m (show keyOk Y (1000 + ycf Y (ix a)) by unfold keyOk; omega))
  have hqhc : ∀ q ∈ yE Y (ix a), q.1 ≤ 100000 ∧ q.2.1 ≤ 100000 ∧ q.2.2 ≤ 16 := fun q hq => by have h9 := hcwhc.2.2.1 q hq; exact ⟨by omega, by omega, h9.2.2⟩
  refine lv_astore (lv' := [(5, .ref ((ad (5000 + ix a)))), (0, .ref ((ad (0)))), (1, .int (a)), (2, .int (b)), (3, .int (v)), (4, .int (w))]) hx hb dX4_lacks_5 hl (by decide) rfl (fun ls hl => ?_)
  refine lv_iload_n hx hb dX4_lacks_7 rfl (lv_at hl 3 rfl) ?_
  refine g_if_lt (tgt := 33) hx hb dX4_lacks_8 (by decide) rfl (fun c_8 => ?_) (fun c_8 => ?_)
  · skip
    exact g_thrI hx hb hlt hown hts (by decide +kernel) (by decide +kernel) (by decide +kernel) hX (is := 206) (text := "no such days or what") (by decide) hZ hP hK hD hS (hl.1.trans hml.symm) htb (Nat.lt_of_lt_of_le (show 5 < 6 by decide) (Nat.le_of_ble_eq_true rfl)) (Nat.le_of_ble_eq_true rfl) (Nat.le_of_ble_eq_true rfl) (Nat.le_of_ble_eq_true rfl) hlocks (fun t hw9 hF9 => ⟨(), trivial, ⟨Or.inr ⟨rfl, by rw [sp_lacks, if_pos hw_2, if_neg (fun q9 => by have h91 := q9.1; have h92 := q9.2.1; have h93 := q9.2.2.1; have h94 := q9.2.2.2.1; have h95 := q9.2.2.2.2; omega)]⟩, hw9⟩, hF9⟩) hS.2.2 (by decide) (by decide) dX4_lacks_33 dX4_lacks_36 dX4_lacks_37 dX4_lacks_39 dX4_lacks_42
  · skip
    refine lv_iload_n hx hb dX4_lacks_11 rfl (lv_at hl 3 rfl) ?_
    refine lv_iload_n hx hb dX4_lacks_12 rfl (lv_at hl 4 rfl) ?_
    refine g_icmp_gt (tgt := 33) hx hb dX4_lacks_13 (by decide) rfl rfl (fun c_13 => ?_) (fun c_13 => ?_)
    · skip
      exact g_thrI hx hb hlt hown hts (by decide +kernel) (by decide +kernel) (by decide +kernel) hX (is := 206) (text := "no such days or what") (by decide) hZ hP hK hD hS (hl.1.trans hml.symm) htb (Nat.lt_of_lt_of_le (show 5 < 6 by decide) (Nat.le_of_ble_eq_true rfl)) (Nat.le_of_ble_eq_true rfl) (Nat.le_of_ble_eq_true rfl) (Nat.le_of_ble_eq_true rfl) hlocks (fun t hw9 hF9 => ⟨(), trivial, ⟨Or.inr ⟨rfl, by rw [sp_lacks, if_pos hw_2, if_neg (fun q9 => by have h91 := q9.1; have h92 := q9.2.1; have h93 := q9.2.2.1; have h94 := q9.2.2.2.1; have h95 := q9.2.2.2.2; omega)]⟩, hw9⟩, hF9⟩) hS.2.2 (by decide) (by decide) dX4_lacks_33 dX4_lacks_36 dX4_lacks_37 dX4_lacks_39 dX4_lacks_42
    · skip
      refine lv_iload_n hx hb dX4_lacks_16 rfl (lv_at hl 4 rfl) ?_
      refine lv_ldc hx hb hown (hts (.constant RX4 87 (100000)) (by decide +kernel)) dX4_lacks_17 ?_
      refine g_top (y := (nI (100000))) (by decide) ?_
      refine g_icmp_gt (tgt := 33) hx hb dX4_lacks_19 (by decide) rfl (n_i (by omega)) (fun c_19 => ?_) (fun c_19 => ?_)
      · skip
        exact g_thrI hx hb hlt hown hts (by decide +kernel) (by decide +kernel) (by decide +kernel) hX (is := 206) (text := "no such days or what") (by decide) hZ hP hK hD hS (hl.1.trans hml.symm) htb (Nat.lt_of_lt_of_le (show 5 < 6 by decide) (Nat.le_of_ble_eq_true rfl)) (Nat.le_of_ble_eq_true rfl) (Nat.le_of_ble_eq_true rfl) (Nat.le_of_ble_eq_true rfl) hlocks (fun t hw9 hF9 => ⟨(), trivial, ⟨Or.inr ⟨rfl, by rw [sp_lacks, if_pos hw_2, if_neg (fun q9 => by have h91 := q9.1; have h92 := q9.2.1; have h93 := q9.2.2.1; have h94 := q9.2.2.2.1; have h95 := q9.2.2.2.2; omega)]⟩, hw9⟩, hF9⟩) hS.2.2 (by decide) (by decide) dX4_lacks_33 dX4_lacks_36 dX4_lacks_37 dX4_lacks_39 dX4_lacks_42
      · skip
        refine lv_iload hx hb dX4_lacks_22 (lv_at hl 5 rfl) ?_
        refine g_if_lt (tgt := 33) hx hb dX4_lacks_24 (by decide) rfl (fun c_24 => ?_) (fun c_24 => ?_)
        · skip
          exact g_thrI hx hb hlt hown hts (by decide +kernel) (by decide +kernel) (by decide +kernel) hX (is := 206) (text := "no such days or what") (by decide) hZ hP hK hD hS (hl.1.trans hml.symm) htb (Nat.lt_of_lt_of_le (show 5 < 6 by decide) (Nat.le_of_ble_eq_true rfl)) (Nat.le_of_ble_eq_true rfl) (Nat.le_of_ble_eq_true rfl) (Nat.le_of_ble_eq_true rfl) hlocks (fun t hw9 hF9 => ⟨(), trivial, ⟨Or.inr ⟨rfl, by rw [sp_lacks, if_pos hw_2, if_neg (fun q9 => by have h91 := q9.1; have h92 := q9.2.1; have h93 := q9.2.2.1; have h94 := q9.2.2.2.1; have h95 := q9.2.2.2.2; omega)]⟩, hw9⟩, hF9⟩) hS.2.2 (by decide) (by decide) dX4_lacks_33 dX4_lacks_36 dX4_lacks_37 dX4_lacks_39 dX4_lacks_42
        · skip
          refine lv_iload hx hb dX4_lacks_27 (lv_at hl 5 rfl) ?_
          refine lv_iconst (v := (nI (1))) hx hb dX4_lacks_29 (by decide) ?_
          refine g_icmp_le (tgt := 43) hx hb dX4_lacks_30 (by decide) rfl (n_i (by omega)) (fun c_30 => ?_) (fun c_30 => ?_)
          · skip
            have hnb := ix_n (a := b) (by omega)
            have hxb := ix_c (a := b) (by omega)
            have hnv := ix_n (a := v) (by omega)
            have hxv := ix_c (a := v) (by omega)
            have hxw := ix_m w
            have hl : lv_has ls 11 [(5, .ref ((ad (5000 + ix a)))), (0, .ref ((ad (0)))), (1, .int (a)), (2, .int (nI (ix b))), (3, .int (nI (ix v))), (4, .int (w))] := by rw [← hnb, ← hnv]; exact hl
            refine lv_iload hx hb dX4_lacks_43 (lv_at hl 5 rfl) ?_
            refine g_if_ne (tgt := 52) hx hb dX4_lacks_45 (by decide) rfl (fun c_45 => ?_) (fun c_45 => ?_)
            · skip
              refine lv_bipush (v := (nI (16))) hx hb dX4_lacks_52 (by decide) ?_
              refine lv_istore (lv' := [(6, .int (nI (16))), (5, .ref ((ad (5000 + ix a)))), (0, .ref ((ad (0)))), (1, .int (a)), (2, .int (nI (ix b))), (3, .int (nI (ix v))), (4, .int (w))]) hx hb dX4_lacks_54 hl (by decide) rfl (fun ls hl => ?_)
              obtain ⟨sz9, hsz9⟩ : ∃ z : Int, z = (16 : Int) := ⟨_, rfl⟩
              have hl : lv_has ls 11 [(6, .int (zI (sz9))), (5, .ref ((ad (5000 + ix a)))), (0, .ref ((ad (0)))), (1, .int (a)), (2, .int (nI (ix b))), (3, .int (nI (ix v))), (4, .int (w))] := by rw [hsz9]; exact hl
              refine lv_iconst (v := (nI (0))) hx hb dX4_lacks_56 (by decide) ?_
              refine lv_istore (lv' := [(7, .int (nI (0))), (6, .int (zI (sz9))), (5, .ref ((ad (5000 + ix a)))), (0, .ref ((ad (0)))), (1, .int (a)), (2, .int (nI (ix b))), (3, .int (nI (ix v))), (4, .int (w))]) hx hb dX4_lacks_57 hl (by decide) rfl (fun ls hl => ?_)
              refine lv_iload_n hx hb dX4_lacks_59 rfl (lv_at hl 5 rfl) ?_
              refine lv_istore (lv' := [(8, .int (nI (ix b))), (7, .int (nI (0))), (6, .int (zI (sz9))), (5, .ref ((ad (5000 + ix a)))), (0, .ref ((ad (0)))), (1, .int (a)), (2, .int (nI (ix b))), (3, .int (nI (ix v))), (4, .int (w))]) hx hb dX4_lacks_60 hl (by decide) rfl (fun ls hl => ?_)
              refine lv_iconst (v := (nI (0))) hx hb dX4_lacks_62 (by decide) ?_
              refine lv_istore (lv' := [(9, .int (nI (0))), (8, .int (nI (ix b))), (7, .int (nI (0))), (6, .int (zI (sz9))), (5, .ref ((ad (5000 + ix a)))), (0, .ref ((ad (0)))), (1, .int (a)), (2, .int (nI (ix b))), (3, .int (nI (ix v))), (4, .int (w))]) hx hb dX4_lacks_63 hl (by decide) rfl (fun ls hl => ?_)
              have loop_65 : ∀ (n_ : Nat) (tt : Nat) (dd : Nat) (i : Nat), (dd ≤ ix v + 1) → (tt + lackN (yE Y (ix a)) (yNow Y : Int) sz9 (dd) (ix v + 1 - dd) = lackN (yE Y (ix a)) (yNow Y : Int) sz9 (ix b) (ix v + 1 - ix b)) → (dd ≤ ix v → i + behN (yE Y (ix a)) dd ≤ 40) → (i ≤ 41) → 41 - i < n_ → ∀ (ls : Array Slot), lv_has ls 11 [(0, .ref ((ad (0)))), (3, .int (nI (ix v))), (5, .ref ((ad (5000 + ix a)))), (6, .int (zI (sz9))), (7, .int (nI (tt))), (8, .int (nI (dd))), (9, .int (nI (i)))] → W p l e (headSpec wsX4_lacks ({ frames := 7, cells := 2, slots := 12, locals := 104 } : Room)).room s m ([.ref ((ad (0))), .int (a), .int (b), .int (v), .int (w)] : List Value).toArray below meth c H locs 1 6 (vx_MQ below (va_Qi (fun (r : Int32) (u : Nat → va_E) => YP cy ad (sp_lacks Y a b v w) r u) (fun u t => wE D cy A (kW K ad u) t) A) (vx_X (fun _ : Unit => True) (fun (En : String) _ t => (xOk En (sp_lacks Y a b v w).1 1 2) ∧ wE D cy A (kW K ad E) t) A) ([.ref ((ad (0))), .int (a), .int (b), .int (v), .int (w)] : List Value).toArray s 2 12 A) (F0 m 65 ls []) := by
                intro n_
                induction n_ with
                | zero => intro tt dd i hdd htt hib hi41 hm_; exact absurd hm_ (Nat.not_lt_zero _)
                | succ n_ ih_65 =>
                  intro tt dd i hdd htt hib hi41 hm_ ls hl
                  have hlb := lackN_le (yE Y (ix a)) (yNow Y : Int) sz9 (ix v + 1 - ix b) (ix b)
                  refine lv_iload hx hb dX4_lacks_65 (lv_at hl 6 rfl) ?_
                  refine lv_bipush (v := (nI (40))) hx hb dX4_lacks_67 (by decide) ?_
                  refine g_icmp_gt (tgt := 129) hx hb dX4_lacks_69 (by decide) (n_i (by omega)) (n_i (by omega)) (fun c_69 => ?_) (fun c_69 => ?_)
                  · skip
                    have hend : ix v < dd := by
                      rcases Nat.lt_or_ge (ix v) dd with e9 | e9
                      · exact e9
                      · have := hib e9; omega
                    rw [show ix v + 1 - dd = 0 by omega, lackN, Nat.add_zero] at htt
                    refine lv_iload hx hb dX4_lacks_129 (lv_at hl 4 rfl) ?_
                    refine vx_ret ?_
                    refine W.widen (k := 2) (n := 12) (by omega) (by omega) ?_
                    exact W.iret (v := (nI (tt))) hx hb hr (fun t ht hW => ⟨⟨_, E, rfl, by rw [sp_lacks, if_pos hw_2, if_pos ⟨by omega, by omega, by omega, by omega⟩]; exact ⟨rfl, by rw [htt, hsz9, show ix v - ix b + 1 = ix v + 1 - ix b by omega]; congr 2; first | exact (if_pos (by omega)).symm | exact (if_neg (by omega)).symm, hR⟩, by rw [ht]; exact hP, va_K.moved hW.alike hK, hD⟩, hS.F ht⟩) hS.2.2 dX4_lacks_131
                  · skip
                    refine lv_iload hx hb dX4_lacks_72 (lv_at hl 5 rfl) ?_
                    refine lv_iload_n hx hb dX4_lacks_74 rfl (lv_at hl 1 rfl) ?_
                    refine g_icmp_gt (tgt := 129) hx hb dX4_lacks_75 (by decide) (n_i (by omega)) (n_i (by omega)) (fun c_75 => ?_) (fun c_75 => ?_)
                    · skip
                      rw [show ix v + 1 - dd = 0 by omega, lackN, Nat.add_zero] at htt
                      refine lv_iload hx hb dX4_lacks_129 (lv_at hl 4 rfl) ?_
                      refine vx_ret ?_
                      refine W.widen (k := 2) (n := 12) (by omega) (by omega) ?_
                      exact W.iret (v := (nI (tt))) hx hb hr (fun t ht hW => ⟨⟨_, E, rfl, by rw [sp_lacks, if_pos hw_2, if_pos ⟨by omega, by omega, by omega, by omega⟩]; exact ⟨rfl, by rw [htt, hsz9, show ix v - ix b + 1 = ix v + 1 - ix b by omega]; congr 2; first | exact (if_pos (by omega)).symm | exact (if_neg (by omega)).symm, hR⟩, by rw [ht]; exact hP, va_K.moved hW.alike hK, hD⟩, hS.F ht⟩) hS.2.2 dX4_lacks_131
                    · skip
                      refine lv_aload hx hb dX4_lacks_78 (lv_at hl 2 rfl) ?_
                      refine lv_iload hx hb dX4_lacks_80 (lv_at hl 5 rfl) ?_
                      obtain ⟨p2, hp2⟩ := kW_pos (hKR.m (show keyOk Y (5000 + ix a) by unfold keyOk; omega))
                      refine vp_callSi (va_Run.run (va_runV (As := [.int (nI (dd))]) (rest := []) ⟨hx, hb, hml, hown, hts⟩ (c_X1_nextEntryDay l D cy K ad E (5000 + ix a) (6000 + ix a) (7000 + ix a) (8000 + ix a) (9000 + ix a) (10000 + ix a) (1000 + ycf Y (ix a)) (hKR.m (show keyOk Y (5000 + ix a) by unfold keyOk; omega)) (nI (ycf Y (ix a))) (yE Y (ix a)) (hc0) (hKR.m (show keyOk Y (8000 + ix a) by unfold keyOk; omega)) (fd) (hc3) (hcwhc.2.1) (ft) (fk) (hcE) (hqhc) (dd) (by omega)) (cwV 1 hts gX4_lacks_X1_nextEntryDay rfl rfl rfl (by decide +kernel) ⟨Nat.le_of_ble_eq_true rfl, Nat.le_of_ble_eq_true rfl⟩) ⟨rB2_blind, va_recv hK hP (ci := 1) (q0 := p2) rfl (kW_get hp2 hc0), (rB2_pre hP hK hN)⟩ rfl rfl hl.1 rfl (lv_room (Nat.le_of_ble_eq_true rfl)) dX4_lacks_82 ⟨Nat.le_of_ble_eq_true rfl, Nat.le_of_ble_eq_true rfl⟩)) (fun r_82 hr_82 => ?_)
                      subst hr_82
                      have hnl := nxtN_le (yE Y (ix a)) dd (yE Y (ix a)).length
                      refine lv_iload_n hx hb dX4_lacks_85 rfl (lv_at hl 1 rfl) ?_
                      refine lv_iconst (v := (nI (1))) hx hb dX4_lacks_86 (by decide) ?_
                      refine g_iadd_n hx hb dX4_lacks_87 ?_
                      obtain ⟨ee9, hee⟩ : ∃ x, x = min (nxtN (yE Y (ix a)) (dd) (yE Y (ix a)).length) (ix v + 1) := ⟨_, rfl⟩
                      have hls := lack_step (z := sz9) (k := (yNow Y : Int)) (by omega) (by omega) hee htt
                      refine va_mmin hx hb (hml.trans hl.1.symm) hown (hts (.methodLink RX4 109 Lib.Math.min.name) (by decide +kernel)) (hts (.static Lib.Math.min.name) (by decide +kernel)) (hts (.initialized "java/lang/Math") (by decide +kernel)) (hts (.code Lib.Math.min.name Lib.Math.min.code 2 (some .int)) (by decide +kernel)) (Nat.le_of_ble_eq_true rfl) (Nat.le_of_ble_eq_true rfl) (Nat.le_of_ble_eq_true rfl) (Nat.le_of_ble_eq_true rfl) dX4_lacks_88 ?_
                      refine g_top (y := (nI (min (nxtN (yE Y (ix a)) (dd) (yE Y (ix a)).length) ((ix v) + 1)))) (n_min (by omega) (by omega)) ?_
                      refine g_top (y := (nI (ee9))) (congrArg nI hee.symm) ?_
                      refine lv_istore (lv' := [(10, .int (nI (ee9))), (0, .ref ((ad (0)))), (3, .int (nI (ix v))), (5, .ref ((ad (5000 + ix a)))), (6, .int (zI (sz9))), (7, .int (nI (tt))), (8, .int (nI (dd))), (9, .int (nI (i)))]) hx hb dX4_lacks_91 hl (by decide) rfl (fun ls hl => ?_)
                      refine lv_aload hx hb dX4_lacks_93 (lv_at hl 3 rfl) ?_
                      refine lv_iload hx hb dX4_lacks_95 (lv_at hl 6 rfl) ?_
                      refine lv_aload_n hx hb dX4_lacks_97 rfl (lv_at hl 1 rfl) ?_
                      obtain ⟨p3, hp3⟩ := kW_pos (hKR.m (show keyOk Y (0) by unfold keyOk; omega))
                      refine va_get (D := D) (ci := 4) (v := .int (nI (yNow Y))) (C := RX4) (T := TX4) (N := 11) hx hb hts (by decide +kernel) hown hK hP p3 (kW_get hp3 hE0) rfl 10 (by decide) (hts (.fieldLink RX4 88 "CaskYard" "now" "I") (by decide +kernel)) (fun _ h9 => h9) rfl dX4_lacks_98 ?_
                      obtain ⟨p4, hp4⟩ := kW_pos (hKR.m (show keyOk Y (5000 + ix a) by unfold keyOk; omega))
                      refine vp_callSi (va_Run.run (va_runV (As := [.int (nI (dd)), .int (nI (yNow Y))]) (rest := []) ⟨hx, hb, hml, hown, hts⟩ (c_X1_heldOn l D cy K ad E (5000 + ix a) (6000 + ix a) (7000 + ix a) (8000 + ix a) (9000 + ix a) (10000 + ix a) (1000 + ycf Y (ix a)) (hKR.m (show keyOk Y (5000 + ix a) by unfold keyOk; omega)) (nI (ycf Y (ix a))) (yE Y (ix a)) (hc0) (hKR.m (show keyOk Y (8000 + ix a) by unfold keyOk; omega)) (fd) (hc3) (hKR.m (show keyOk Y (9000 + ix a) by unfold keyOk; omega)) (ft) (hc4) (hKR.m (show keyOk Y (10000 + ix a) by unfold keyOk; omega)) (fk) (hc5) (hcwhc.2.1) (hcE) (hqhc) (nI dd) (nI (yNow Y))) (cwV 2 hts gX4_lacks_X1_heldOn rfl rfl rfl (by decide +kernel) ⟨Nat.le_of_ble_eq_true rfl, Nat.le_of_ble_eq_true rfl⟩) ⟨rB2_blind, va_recv hK hP (ci := 1) (q0 := p4) rfl (kW_get hp4 hc0), (rB2_pre hP hK hN)⟩ rfl rfl hl.1 rfl (lv_room (Nat.le_of_ble_eq_true rfl)) dX4_lacks_101 ⟨Nat.le_of_ble_eq_true rfl, Nat.le_of_ble_eq_true rfl⟩)) (fun r_101 hr_101 => ?_)
                      refine g_top (y := (zI ((heldS (yE Y (ix a)) (dd : Int) (yNow Y : Int)).2))) (by rw [hr_101, n_i (by omega), n_i (by omega)]) ?_
                      have hhb := heldS_bd (fun q hq => (hqhc q hq).2.2) (dd : Int) (yNow Y : Int)
                      refine lv_iload hx hb dX4_lacks_104 (lv_at hl 4 rfl) ?_
                      refine g_icmp_ne (tgt := 119) hx hb dX4_lacks_106 (by decide) (zI_toInt (by omega) (by omega)) (zI_toInt (by omega) (by omega)) (fun c_106 => ?_) (fun c_106 => ?_)
                      · skip
                        refine lv_iload hx hb dX4_lacks_119 (lv_at hl 0 rfl) ?_
                        refine lv_istore (lv' := [(8, .int (nI (ee9))), (10, .int (nI (ee9))), (0, .ref ((ad (0)))), (3, .int (nI (ix v))), (5, .ref ((ad (5000 + ix a)))), (6, .int (zI (sz9))), (7, .int (nI (tt))), (9, .int (nI (i)))]) hx hb dX4_lacks_121 hl (by decide) rfl (fun ls hl => ?_)
                        refine lv_iinc (v := (nI (i + 1))) (lv' := [(9, .int (nI (i + 1))), (8, .int (nI (ee9))), (10, .int (nI (ee9))), (0, .ref ((ad (0)))), (3, .int (nI (ix v))), (5, .ref ((ad (5000 + ix a)))), (6, .int (zI (sz9))), (7, .int (nI (tt)))]) hx hb dX4_lacks_123 hl (k := 7) rfl (nI_add _ _) (by decide) rfl (fun ls hl => ?_)
                        refine lv_goto (tgt := 65) hx hb dX4_lacks_126 (by decide) ?_
                        exact ih_65 (tt) (ee9) (i + 1)  (by omega) (hls.2.2.2 (by omega)) (fun h9 => by have h8 := beh_step (L := yE Y (ix a)) (d := dd) (by omega) (by omega); rw [show ee9 = nxtN (yE Y (ix a)) (dd) (yE Y (ix a)).length by omega]; have h7 := hib (by omega); omega) (by omega) (by omega) ls (lv_sub hl [3, 4, 5, 6, 7, 1, 0] rfl)
                      · skip
                        refine lv_iload hx hb dX4_lacks_109 (lv_at hl 5 rfl) ?_
                        refine lv_iload hx hb dX4_lacks_111 (lv_at hl 0 rfl) ?_
                        refine lv_iload hx hb dX4_lacks_113 (lv_at hl 6 rfl) ?_
                        refine g_isub_n hx hb dX4_lacks_115 (by omega) ?_
                        refine g_iadd_n hx hb dX4_lacks_116 ?_
                        refine lv_istore (lv' := [(7, .int (nI (tt + (ee9 - dd)))), (10, .int (nI (ee9))), (0, .ref ((ad (0)))), (3, .int (nI (ix v))), (5, .ref ((ad (5000 + ix a)))), (6, .int (zI (sz9))), (8, .int (nI (dd))), (9, .int (nI (i)))]) hx hb dX4_lacks_117 hl (by decide) rfl (fun ls hl => ?_)
                        refine lv_iload hx hb dX4_lacks_119 (lv_at hl 1 rfl) ?_
                        refine lv_istore (lv' := [(8, .int (nI (ee9))), (7, .int (nI (tt + (ee9 - dd)))), (10, .int (nI (ee9))), (0, .ref ((ad (0)))), (3, .int (nI (ix v))), (5, .ref ((ad (5000 + ix a)))), (6, .int (zI (sz9))), (9, .int (nI (i)))]) hx hb dX4_lacks_121 hl (by decide) rfl (fun ls hl => ?_)
                        refine lv_iinc (v := (nI (i + 1))) (lv' := [(9, .int (nI (i + 1))), (8, .int (nI (ee9))), (7, .int (nI (tt + (ee9 - dd)))), (10, .int (nI (ee9))), (0, .ref ((ad (0)))), (3, .int (nI (ix v))), (5, .ref ((ad (5000 + ix a)))), (6, .int (zI (sz9)))]) hx hb dX4_lacks_123 hl (k := 7) rfl (nI_add _ _) (by decide) rfl (fun ls hl => ?_)
                        refine lv_goto (tgt := 65) hx hb dX4_lacks_126 (by decide) ?_
                        exact ih_65 (tt + (ee9 - dd)) (ee9) (i + 1)  (by omega) (hls.2.2.1 (by omega)) (fun h9 => by have h8 := beh_step (L := yE Y (ix a)) (d := dd) (by omega) (by omega); rw [show ee9 = nxtN (yE Y (ix a)) (dd) (yE Y (ix a)).length by omega]; have h7 := hib (by omega); omega) (by omega) (by omega) ls (lv_sub hl [4, 5, 6, 7, 2, 1, 0] rfl)
              exact loop_65 _ (0) (ix b) (0)  (by omega) (Nat.zero_add _) (fun _ => by have := behN_le (yE Y (ix a)) (ix b); omega) (by omega) (Nat.lt_succ_self _) ls (lv_sub hl [5, 8, 4, 3, 2, 1, 0] rfl)
            · skip
              refine lv_iconst (v := (zI ((-1)))) hx hb dX4_lacks_48 (by decide) ?_
              refine lv_goto (tgt := 54) hx hb dX4_lacks_49 (by decide) ?_
              refine lv_istore (lv' := [(6, .int (zI ((-1)))), (5, .ref ((ad (5000 + ix a)))), (0, .ref ((ad (0)))), (1, .int (a)), (2, .int (nI (ix b))), (3, .int (nI (ix v))), (4, .int (w))]) hx hb dX4_lacks_54 hl (by decide) rfl (fun ls hl => ?_)
              obtain ⟨sz9, hsz9⟩ : ∃ z : Int, z = (-1 : Int) := ⟨_, rfl⟩
              have hl : lv_has ls 11 [(6, .int (zI (sz9))), (5, .ref ((ad (5000 + ix a)))), (0, .ref ((ad (0)))), (1, .int (a)), (2, .int (nI (ix b))), (3, .int (nI (ix v))), (4, .int (w))] := by rw [hsz9]; exact hl
              refine lv_iconst (v := (nI (0))) hx hb dX4_lacks_56 (by decide) ?_
              refine lv_istore (lv' := [(7, .int (nI (0))), (6, .int (zI (sz9))), (5, .ref ((ad (5000 + ix a)))), (0, .ref ((ad (0)))), (1, .int (a)), (2, .int (nI (ix b))), (3, .int (nI (ix v))), (4, .int (w))]) hx hb dX4_lacks_57 hl (by decide) rfl (fun ls hl => ?_)
              refine lv_iload_n hx hb dX4_lacks_59 rfl (lv_at hl 5 rfl) ?_
              refine lv_istore (lv' := [(8, .int (nI (ix b))), (7, .int (nI (0))), (6, .int (zI (sz9))), (5, .ref ((ad (5000 + ix a)))), (0, .ref ((ad (0)))), (1, .int (a)), (2, .int (nI (ix b))), (3, .int (nI (ix v))), (4, .int (w))]) hx hb dX4_lacks_60 hl (by decide) rfl (fun ls hl => ?_)
              refine lv_iconst (v := (nI (0))) hx hb dX4_lacks_62 (by decide) ?_
              refine lv_istore (lv' := [(9, .int (nI (0))), (8, .int (nI (ix b))), (7, .int (nI (0))), (6, .int (zI (sz9))), (5, .ref ((ad (5000 + ix a)))), (0, .ref ((ad (0)))), (1, .int (a)), (2, .int (nI (ix b))), (3, .int (nI (ix v))), (4, .int (w))]) hx hb dX4_lacks_63 hl (by decide) rfl (fun ls hl => ?_)
              have loop_65 : ∀ (n_ : Nat) (tt : Nat) (dd : Nat) (i : Nat), (dd ≤ ix v + 1) → (tt + lackN (yE Y (ix a)) (yNow Y : Int) sz9 (dd) (ix v + 1 - dd) = lackN (yE Y (ix a)) (yNow Y : Int) sz9 (ix b) (ix v + 1 - ix b)) → (dd ≤ ix v → i + behN (yE Y (ix a)) dd ≤ 40) → (i ≤ 41) → 41 - i < n_ → ∀ (ls : Array Slot), lv_has ls 11 [(0, .ref ((ad (0)))), (3, .int (nI (ix v))), (5, .ref ((ad (5000 + ix a)))), (6, .int (zI (sz9))), (7, .int (nI (tt))), (8, .int (nI (dd))), (9, .int (nI (i)))] → W p l e (headSpec wsX4_lacks ({ frames := 7, cells := 2, slots := 12, locals := 104 } : Room)).room s m ([.ref ((ad (0))), .int (a), .int (b), .int (v), .int (w)] : List Value).toArray below meth c H locs 1 6 (vx_MQ below (va_Qi (fun (r : Int32) (u : Nat → va_E) => YP cy ad (sp_lacks Y a b v w) r u) (fun u t => wE D cy A (kW K ad u) t) A) (vx_X (fun _ : Unit => True) (fun (En : String) _ t => (xOk En (sp_lacks Y a b v w).1 1 2) ∧ wE D cy A (kW K ad E) t) A) ([.ref ((ad (0))), .int (a), .int (b), .int (v), .int (w)] : List Value).toArray s 2 12 A) (F0 m 65 ls []) := by
                intro n_
                induction n_ with
                | zero => intro tt dd i hdd htt hib hi41 hm_; exact absurd hm_ (Nat.not_lt_zero _)
                | succ n_ ih_65 =>
                  intro tt dd i hdd htt hib hi41 hm_ ls hl
                  have hlb := lackN_le (yE Y (ix a)) (yNow Y : Int) sz9 (ix v + 1 - ix b) (ix b)
                  refine lv_iload hx hb dX4_lacks_65 (lv_at hl 6 rfl) ?_
                  refine lv_bipush (v := (nI (40))) hx hb dX4_lacks_67 (by decide) ?_
                  refine g_icmp_gt (tgt := 129) hx hb dX4_lacks_69 (by decide) (n_i (by omega)) (n_i (by omega)) (fun c_69 => ?_) (fun c_69 => ?_)
                  · skip
                    have hend : ix v < dd := by
                      rcases Nat.lt_or_ge (ix v) dd with e9 | e9
                      · exact e9
                      · have := hib e9; omega
                    rw [show ix v + 1 - dd = 0 by omega, lackN, Nat.add_zero] at htt
                    refine lv_iload hx hb dX4_lacks_129 (lv_at hl 4 rfl) ?_
                    refine vx_ret ?_
                    refine W.widen (k := 2) (n := 12) (by omega) (by omega) ?_
                    exact W.iret (v := (nI (tt))) hx hb hr (fun t ht hW => ⟨⟨_, E, rfl, by rw [sp_lacks, if_pos hw_2, if_pos ⟨by omega, by omega, by omega, by omega⟩]; exact ⟨rfl, by rw [htt, hsz9, show ix v - ix b + 1 = ix v + 1 - ix b by omega]; congr 2; first | exact (if_pos (by omega)).symm | exact (if_neg (by omega)).symm, hR⟩, by rw [ht]; exact hP, va_K.moved hW.alike hK, hD⟩, hS.F ht⟩) hS.2.2 dX4_lacks_131
                  · skip
                    refine lv_iload hx hb dX4_lacks_72 (lv_at hl 5 rfl) ?_
                    refine lv_iload_n hx hb dX4_lacks_74 rfl (lv_at hl 1 rfl) ?_
                    refine g_icmp_gt (tgt := 129) hx hb dX4_lacks_75 (by decide) (n_i (by omega)) (n_i (by omega)) (fun c_75 => ?_) (fun c_75 => ?_)
                    · skip
                      rw [show ix v + 1 - dd = 0 by omega, lackN, Nat.add_zero] at htt
                      refine lv_iload hx hb dX4_lacks_129 (lv_at hl 4 rfl) ?_
                      refine vx_ret ?_
                      refine W.widen (k := 2) (n := 12) (by omega) (by omega) ?_
                      exact W.iret (v := (nI (tt))) hx hb hr (fun t ht hW => ⟨⟨_, E, rfl, by rw [sp_lacks, if_pos hw_2, if_pos ⟨by omega, by omega, by omega, by omega⟩]; exact ⟨rfl, by rw [htt, hsz9, show ix v - ix b + 1 = ix v + 1 - ix b by omega]; congr 2; first | exact (if_pos (by omega)).symm | exact (if_neg (by omega)).symm, hR⟩, by rw [ht]; exact hP, va_K.moved hW.alike hK, hD⟩, hS.F ht⟩) hS.2.2 dX4_lacks_131
                    · skip
                      refine lv_aload hx hb dX4_lacks_78 (lv_at hl 2 rfl) ?_
                      refine lv_iload hx hb dX4_lacks_80 (lv_at hl 5 rfl) ?_
                      obtain ⟨p5, hp5⟩ := kW_pos (hKR.m (show keyOk Y (5000 + ix a) by unfold keyOk; omega))
                      refine vp_callSi (va_Run.run (va_runV (As := [.int (nI (dd))]) (rest := []) ⟨hx, hb, hml, hown, hts⟩ (c_X1_nextEntryDay l D cy K ad E (5000 + ix a) (6000 + ix a) (7000 + ix a) (8000 + ix a) (9000 + ix a) (10000 + ix a) (1000 + ycf Y (ix a)) (hKR.m (show keyOk Y (5000 + ix a) by unfold keyOk; omega)) (nI (ycf Y (ix a))) (yE Y (ix a)) (hc0) (hKR.m (show keyOk Y (8000 + ix a) by unfold keyOk; omega)) (fd) (hc3) (hcwhc.2.1) (ft) (fk) (hcE) (hqhc) (dd) (by omega)) (cwV 1 hts gX4_lacks_X1_nextEntryDay rfl rfl rfl (by decide +kernel) ⟨Nat.le_of_ble_eq_true rfl, Nat.le_of_ble_eq_true rfl⟩) ⟨rB2_blind, va_recv hK hP (ci := 1) (q0 := p5) rfl (kW_get hp5 hc0), (rB2_pre hP hK hN)⟩ rfl rfl hl.1 rfl (lv_room (Nat.le_of_ble_eq_true rfl)) dX4_lacks_82 ⟨Nat.le_of_ble_eq_true rfl, Nat.le_of_ble_eq_true rfl⟩)) (fun r_82 hr_82 => ?_)
                      subst hr_82
                      have hnl := nxtN_le (yE Y (ix a)) dd (yE Y (ix a)).length
                      refine lv_iload_n hx hb dX4_lacks_85 rfl (lv_at hl 1 rfl) ?_
                      refine lv_iconst (v := (nI (1))) hx hb dX4_lacks_86 (by decide) ?_
                      refine g_iadd_n hx hb dX4_lacks_87 ?_
                      obtain ⟨ee9, hee⟩ : ∃ x, x = min (nxtN (yE Y (ix a)) (dd) (yE Y (ix a)).length) (ix v + 1) := ⟨_, rfl⟩
                      have hls := lack_step (z := sz9) (k := (yNow Y : Int)) (by omega) (by omega) hee htt
                      refine va_mmin hx hb (hml.trans hl.1.symm) hown (hts (.methodLink RX4 109 Lib.Math.min.name) (by decide +kernel)) (hts (.static Lib.Math.min.name) (by decide +kernel)) (hts (.initialized "java/lang/Math") (by decide +kernel)) (hts (.code Lib.Math.min.name Lib.Math.min.code 2 (some .int)) (by decide +kernel)) (Nat.le_of_ble_eq_true rfl) (Nat.le_of_ble_eq_true rfl) (Nat.le_of_ble_eq_true rfl) (Nat.le_of_ble_eq_true rfl) dX4_lacks_88 ?_
                      refine g_top (y := (nI (min (nxtN (yE Y (ix a)) (dd) (yE Y (ix a)).length) ((ix v) + 1)))) (n_min (by omega) (by omega)) ?_
                      refine g_top (y := (nI (ee9))) (congrArg nI hee.symm) ?_
                      refine lv_istore (lv' := [(10, .int (nI (ee9))), (0, .ref ((ad (0)))), (3, .int (nI (ix v))), (5, .ref ((ad (5000 + ix a)))), (6, .int (zI (sz9))), (7, .int (nI (tt))), (8, .int (nI (dd))), (9, .int (nI (i)))]) hx hb dX4_lacks_91 hl (by decide) rfl (fun ls hl => ?_)
                      refine lv_aload hx hb dX4_lacks_93 (lv_at hl 3 rfl) ?_
                      refine lv_iload hx hb dX4_lacks_95 (lv_at hl 6 rfl) ?_
                      refine lv_aload_n hx hb dX4_lacks_97 rfl (lv_at hl 1 rfl) ?_
                      obtain ⟨p6, hp6⟩ := kW_pos (hKR.m (show keyOk Y (0) by unfold keyOk; omega))
                      refine va_get (D := D) (ci := 4) (v := .int (nI (yNow Y))) (C := RX4) (T := TX4) (N := 11) hx hb hts (by decide +kernel) hown hK hP p6 (kW_get hp6 hE0) rfl 10 (by decide) (hts (.fieldLink RX4 88 "CaskYard" "now" "I") (by decide +kernel)) (fun _ h9 => h9) rfl dX4_lacks_98 ?_
                      obtain ⟨p7, hp7⟩ := kW_pos (hKR.m (show keyOk Y (5000 + ix a) by unfold keyOk; omega))
                      refine vp_callSi (va_Run.run (va_runV (As := [.int (nI (dd)), .int (nI (yNow Y))]) (rest := []) ⟨hx, hb, hml, hown, hts⟩ (c_X1_heldOn l D cy K ad E (5000 + ix a) (6000 + ix a) (7000 + ix a) (8000 + ix a) (9000 + ix a) (10000 + ix a) (1000 + ycf Y (ix a)) (hKR.m (show keyOk Y (5000 + ix a) by unfold keyOk; omega)) (nI (ycf Y (ix a))) (yE Y (ix a)) (hc0) (hKR.m (show keyOk Y (8000 + ix a) by unfold keyOk; omega)) (fd) (hc3) (hKR.m (show keyOk Y (9000 + ix a) by unfold keyOk; omega)) (ft) (hc4) (hKR.m (show keyOk Y (10000 + ix a) by unfold keyOk; omega)) (fk) (hc5) (hcwhc.2.1) (hcE) (hqhc) (nI dd) (nI (yNow Y))) (cwV 2 hts gX4_lacks_X1_heldOn rfl rfl rfl (by decide +kernel) ⟨Nat.le_of_ble_eq_true rfl, Nat.le_of_ble_eq_true rfl⟩) ⟨rB2_blind, va_recv hK hP (ci := 1) (q0 := p7) rfl (kW_get hp7 hc0), (rB2_pre hP hK hN)⟩ rfl rfl hl.1 rfl (lv_room (Nat.le_of_ble_eq_true rfl)) dX4_lacks_101 ⟨Nat.le_of_ble_eq_true rfl, Nat.le_of_ble_eq_true rfl⟩)) (fun r_101 hr_101 => ?_)
                      refine g_top (y := (zI ((heldS (yE Y (ix a)) (dd : Int) (yNow Y : Int)).2))) (by rw [hr_101, n_i (by omega), n_i (by omega)]) ?_
                      have hhb := heldS_bd (fun q hq => (hqhc q hq).2.2) (dd : Int) (yNow Y : Int)
                      refine lv_iload hx hb dX4_lacks_104 (lv_at hl 4 rfl) ?_
                      refine g_icmp_ne (tgt := 119) hx hb dX4_lacks_106 (by decide) (zI_toInt (by omega) (by omega)) (zI_toInt (by omega) (by omega)) (fun c_106 => ?_) (fun c_106 => ?_)
                      · skip
                        refine lv_iload hx hb dX4_lacks_119 (lv_at hl 0 rfl) ?_
                        refine lv_istore (lv' := [(8, .int (nI (ee9))), (10, .int (nI (ee9))), (0, .ref ((ad (0)))), (3, .int (nI (ix v))), (5, .ref ((ad (5000 + ix a)))), (6, .int (zI (sz9))), (7, .int (nI (tt))), (9, .int (nI (i)))]) hx hb dX4_lacks_121 hl (by decide) rfl (fun ls hl => ?_)
                        refine lv_iinc (v := (nI (i + 1))) (lv' := [(9, .int (nI (i + 1))), (8, .int (nI (ee9))), (10, .int (nI (ee9))), (0, .ref ((ad (0)))), (3, .int (nI (ix v))), (5, .ref ((ad (5000 + ix a)))), (6, .int (zI (sz9))), (7, .int (nI (tt)))]) hx hb dX4_lacks_123 hl (k := 7) rfl (nI_add _ _) (by decide) rfl (fun ls hl => ?_)
                        refine lv_goto (tgt := 65) hx hb dX4_lacks_126 (by decide) ?_
                        exact ih_65 (tt) (ee9) (i + 1)  (by omega) (hls.2.2.2 (by omega)) (fun h9 => by have h8 := beh_step (L := yE Y (ix a)) (d := dd) (by omega) (by omega); rw [show ee9 = nxtN (yE Y (ix a)) (dd) (yE Y (ix a)).length by omega]; have h7 := hib (by omega); omega) (by omega) (by omega) ls (lv_sub hl [3, 4, 5, 6, 7, 1, 0] rfl)
                      · skip
                        refine lv_iload hx hb dX4_lacks_109 (lv_at hl 5 rfl) ?_
                        refine lv_iload hx hb dX4_lacks_111 (lv_at hl 0 rfl) ?_
                        refine lv_iload hx hb dX4_lacks_113 (lv_at hl 6 rfl) ?_
                        refine g_isub_n hx hb dX4_lacks_115 (by omega) ?_
                        refine g_iadd_n hx hb dX4_lacks_116 ?_
                        refine lv_istore (lv' := [(7, .int (nI (tt + (ee9 - dd)))), (10, .int (nI (ee9))), (0, .ref ((ad (0)))), (3, .int (nI (ix v))), (5, .ref ((ad (5000 + ix a)))), (6, .int (zI (sz9))), (8, .int (nI (dd))), (9, .int (nI (i)))]) hx hb dX4_lacks_117 hl (by decide) rfl (fun ls hl => ?_)
                        refine lv_iload hx hb dX4_lacks_119 (lv_at hl 1 rfl) ?_
                        refine lv_istore (lv' := [(8, .int (nI (ee9))), (7, .int (nI (tt + (ee9 - dd)))), (10, .int (nI (ee9))), (0, .ref ((ad (0)))), (3, .int (nI (ix v))), (5, .ref ((ad (5000 + ix a)))), (6, .int (zI (sz9))), (9, .int (nI (i)))]) hx hb dX4_lacks_121 hl (by decide) rfl (fun ls hl => ?_)
                        refine lv_iinc (v := (nI (i + 1))) (lv' := [(9, .int (nI (i + 1))), (8, .int (nI (ee9))), (7, .int (nI (tt + (ee9 - dd)))), (10, .int (nI (ee9))), (0, .ref ((ad (0)))), (3, .int (nI (ix v))), (5, .ref ((ad (5000 + ix a)))), (6, .int (zI (sz9)))]) hx hb dX4_lacks_123 hl (k := 7) rfl (nI_add _ _) (by decide) rfl (fun ls hl => ?_)
                        refine lv_goto (tgt := 65) hx hb dX4_lacks_126 (by decide) ?_
                        exact ih_65 (tt + (ee9 - dd)) (ee9) (i + 1)  (by omega) (hls.2.2.1 (by omega)) (fun h9 => by have h8 := beh_step (L := yE Y (ix a)) (d := dd) (by omega) (by omega); rw [show ee9 = nxtN (yE Y (ix a)) (dd) (yE Y (ix a)).length by omega]; have h7 := hib (by omega); omega) (by omega) (by omega) ls (lv_sub hl [4, 5, 6, 7, 2, 1, 0] rfl)
              exact loop_65 _ (0) (ix b) (0)  (by omega) (Nat.zero_add _) (fun _ => by have := behN_le (yE Y (ix a)) (ix b); omega) (by omega) (Nat.lt_succ_self _) ls (lv_sub hl [5, 8, 4, 3, 2, 1, 0] rfl)
          · skip
            exact g_thrI hx hb hlt hown hts (by decide +kernel) (by decide +kernel) (by decide +kernel) hX (is := 206) (text := "no such days or what") (by decide) hZ hP hK hD hS (hl.1.trans hml.symm) htb (Nat.lt_of_lt_of_le (show 5 < 6 by decide) (Nat.le_of_ble_eq_true rfl)) (Nat.le_of_ble_eq_true rfl) (Nat.le_of_ble_eq_true rfl) (Nat.le_of_ble_eq_true rfl) hlocks (fun t hw9 hF9 => ⟨(), trivial, ⟨Or.inr ⟨rfl, by rw [sp_lacks, if_pos hw_2, if_neg (fun q9 => by have h91 := q9.1; have h92 := q9.2.1; have h93 := q9.2.2.1; have h94 := q9.2.2.2.1; have h95 := q9.2.2.2.2; omega)]⟩, hw9⟩, hF9⟩) hS.2.2 (by decide) (by decide) dX4_lacks_33 dX4_lacks_36 dX4_lacks_37 dX4_lacks_39 dX4_lacks_42
