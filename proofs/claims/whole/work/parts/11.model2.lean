set_option maxHeartbeats 4000000 in
set_option maxRecDepth 100000 in
theorem c_X5_isRipe (l : Launch) (D : va_G) (cy : Nat → ClassId) (h0 : Nat) (ad : Nat → Nat) (I : Nat → Int32) (F : Nat → Nat → Int32) (b sp nw : Nat) (hbb : b < 40) (h1 : I 4 = nI nw) (h2 : F 9 b = nI sp) (hle : sp ≤ nw ∧ nw ≤ 100000) : Met l yX5_isRipe wsX5_isRipe ({ frames := 0, cells := 0, slots := 0, locals := 0 } : Room) (va_Pc [.ref h0, .int (nI (b))] (rB D cy (wM cy h0 ad I F))) (vp_Si (fun r : Int32 => r = bI (sp + 1095 ≤ nw))) 0 0 (fun _ => False) := by
  refine Met.ofW (cc := cX5_isRipe) (maxL := 2) (ret := (some .boolean)) (by decide) rfl ?_
  intro p e s m args below meth c s₁ B hml hv
  obtain ⟨rfl, hv⟩ := hv
  have hx := B.exec
  have hb := B.bytes
  have hr := B.returns
  have hts := atoms_spec (ws := wsX5_isRipe) B.pre
  have hown : s.vm.findClass RX5 = some m.cls := findClass_of_methodNamed B.named
  have hlocks := B.notSynchronized
  obtain ⟨hP, hK⟩ := hv
  have hl := lv_entry ([.ref h0, .int (nI (b))]) (n := 2) (Nat.le_of_ble_eq_true rfl)
  rw [lg_entry_eq]
  generalize (lg_sl ([.ref h0, .int (nI (b))]) ++ List.replicate (2 - (lg_sl ([.ref h0, .int (nI (b))])).length) Slot.unset).toArray = ls at hl ⊢
  have hl : lv_has ls 2 [(0, .ref h0), (1, .int (nI (b)))] := hl
  refine lv_aload_n hx hb dX5_isRipe_0 rfl (lv_at hl 0 rfl) ?_
  refine va_get (D := D) (ci := 5) (v := .int (I 4)) (C := RX5) (T := TX5) (N := 34) hx hb hts (by decide +kernel) hown hK hP 0 rfl rfl 4 (by decide) (hts (.fieldLink RX5 117 "CaskYardModel" "now" "I") (by decide +kernel)) (fun _ h9 => h9) rfl dX5_isRipe_1 ?_
  refine g_top (y := (nI (nw))) h1 ?_
  refine lv_aload_n hx hb dX5_isRipe_4 rfl (lv_at hl 0 rfl) ?_
  refine va_get (D := D) (ci := 5) (v := .ref ((ad 9))) (C := RX5) (T := TX5) (N := 34) hx hb hts (by decide +kernel) hown hK hP 0 rfl rfl 9 (by decide) (hts (.fieldLink RX5 22 "CaskYardModel" "splitOn" "[I") (by decide +kernel)) (fun _ h9 => h9) rfl dX5_isRipe_5 ?_
  refine lv_iload_n hx hb dX5_isRipe_8 rfl (lv_at hl 1 rfl) ?_
  refine g_iald hx hb hK hP 5 0 rfl rfl (b) rfl (by omega) (by decide) dX5_isRipe_9 ?_
  refine g_top (y := (nI (sp))) h2 ?_
  refine g_isub_n hx hb dX5_isRipe_10 (by omega) ?_
  refine lv_sipush (v := (nI (1095))) hx hb dX5_isRipe_11 (by decide) ?_
  refine g_icmp_lt (tgt := 21) hx hb dX5_isRipe_14 (by decide) (n_i (by omega)) (n_i (by omega)) (fun c_14 => ?_) (fun c_14 => ?_)
  · skip
    refine lv_iconst (v := (nI (0))) hx hb dX5_isRipe_21 (by decide) ?_
    exact W.zret (v := (nI (0))) hx hb hr (by decide) (fun t ht hW => ⟨_, rfl, (bI_f (fun q => by omega)).symm, ht⟩) (fun _ h => nomatch h) dX5_isRipe_22
  · skip
    refine lv_iconst (v := (nI (1))) hx hb dX5_isRipe_17 (by decide) ?_
    refine lv_goto (tgt := 22) hx hb dX5_isRipe_18 (by decide) ?_
    exact W.zret (v := (nI (1))) hx hb hr (by decide) (fun t ht hW => ⟨_, rfl, (bI_t (by omega)).symm, ht⟩) (fun _ h => nomatch h) dX5_isRipe_22
set_option maxHeartbeats 4000000 in
set_option maxRecDepth 100000 in
theorem c_X5_holdsAt (l : Launch) (D : va_G) (cy : Nat → ClassId) (h0 : Nat) (ad : Nat → Nat) (I : Nat → Int32) (F : Nat → Nat → Int32) (i lv : Nat) (hi : i < 8) (hh gg ee : Nat) (h5 : F 5 i = nI hh) (h6 : F 6 i = nI gg) (h7 : F 7 i = nI ee) (hfb : 10 ≤ hh ∧ hh ≤ 200 ∧ ee ≤ gg ∧ gg ≤ 2000) (hlv : lv ≤ hh) : Met l yX5_holdsAt wsX5_holdsAt ({ frames := 1, cells := 0, slots := 0, locals := 23 } : Room) (va_Pc [.ref h0, .int (nI (i)), .int (nI (lv))] (rB D cy (wM cy h0 ad I F))) (vp_Si (fun r : Int32 => r = nI (holdsN hh gg ee lv))) 0 0 (fun _ => False) := by
  refine Met.ofW (cc := cX5_holdsAt) (maxL := 6) (ret := (some .int)) (by decide) rfl ?_
  intro p e s m args below meth c s₁ B hml hv
  obtain ⟨rfl, hv⟩ := hv
  have hx := B.exec
  have hb := B.bytes
  have hr := B.returns
  have hts := atoms_spec (ws := wsX5_holdsAt) B.pre
  have hown : s.vm.findClass RX5 = some m.cls := findClass_of_methodNamed B.named
  have hlocks := B.notSynchronized
  obtain ⟨hP, hK⟩ := hv
  have hl := lv_entry ([.ref h0, .int (nI (i)), .int (nI (lv))]) (n := 6) (Nat.le_of_ble_eq_true rfl)
  rw [lg_entry_eq]
  generalize (lg_sl ([.ref h0, .int (nI (i)), .int (nI (lv))]) ++ List.replicate (6 - (lg_sl ([.ref h0, .int (nI (i)), .int (nI (lv))])).length) Slot.unset).toArray = ls at hl ⊢
  have hl : lv_has ls 6 [(0, .ref h0), (1, .int (nI (i))), (2, .int (nI (lv)))] := hl
  refine lv_lconst (v := lN 0) hx hb dX5_holdsAt_0 (by decide) ?_
  refine lv_lstore_n (lv' := [(3, .long (lN (0))), (0, .ref h0), (1, .int (nI (i))), (2, .int (nI (lv)))]) hx hb dX5_holdsAt_1 rfl hl (by decide) rfl (fun ls hl => ?_)
  refine lv_iconst (v := (nI (0))) hx hb dX5_holdsAt_2 (by decide) ?_
  refine lv_istore (lv' := [(5, .int (nI (0))), (3, .long (lN (0))), (0, .ref h0), (1, .int (nI (i))), (2, .int (nI (lv)))]) hx hb dX5_holdsAt_3 hl (by decide) rfl (fun ls hl => ?_)
  have loop_5 : ∀ (n_ : Nat) (y : Nat), y ≤ lv → lv - y < n_ → ∀ (ls : Array Slot), lv_has ls 6 [(0, .ref h0), (1, .int (nI (i))), (2, .int (nI (lv))), (3, .long (lN (sqN hh gg ee y))), (5, .int (nI (y)))] → W p l e (headSpec wsX5_holdsAt ({ frames := 1, cells := 0, slots := 0, locals := 23 } : Room)).room s m ([.ref h0, .int (nI (i)), .int (nI (lv))] : List Value).toArray below meth c s.heap [] 0 0 (MQ below (vp_Si (fun r : Int32 => r = nI (holdsN hh gg ee lv))) ([.ref h0, .int (nI (i)), .int (nI (lv))] : List Value).toArray s 0 0 (fun _ => False)) (F0 m 5 ls []) := by
    intro n_
    induction n_ with
    | zero => intro y hyl hm_; exact absurd hm_ (Nat.not_lt_zero _)
    | succ n_ ih_5 =>
      intro y hyl hm_ ls hl
      refine lv_iload hx hb dX5_holdsAt_5 (lv_at hl 4 rfl) ?_
      refine lv_iload_n hx hb dX5_holdsAt_7 rfl (lv_at hl 2 rfl) ?_
      refine g_icmp_ge (tgt := 37) hx hb dX5_holdsAt_8 (by decide) (n_i (by omega)) (n_i (by omega)) (fun c_8 => ?_) (fun c_8 => ?_)
      · skip
        obtain rfl : y = lv := by omega
        have hsq := sqN_le (h := hh) (e := ee) hfb.2.2.2 y
        refine lv_lload_n hx hb dX5_holdsAt_37 rfl (lv_at hl 3 rfl) ?_
        refine lv_ldc2 hx hb hown (hts (.constantLong RX5 110 (113)) (by decide +kernel)) dX5_holdsAt_38 ?_
        refine g_topl (y := lN 113) (by decide) ?_
        refine lv_lmul hx hb dX5_holdsAt_41 ?_
        refine g_topl (y := lN ((sqN hh gg ee y) * 113)) (lN_mul _ _) ?_
        refine lv_ldc2 hx hb hown (hts (.constantLong RX5 112 (1420)) (by decide +kernel)) dX5_holdsAt_42 ?_
        refine g_topl (y := lN 1420) (by decide) ?_
        refine lv_ldiv hx hb dX5_holdsAt_45 (by decide) ?_
        refine g_topl (y := lN (((sqN hh gg ee y) * 113) / 1420)) (pk_lDiv (by omega) (by omega) (by omega)) ?_
        refine lv_l2i (v := nI (((sqN hh gg ee y) * 113) / 1420)) hx hb dX5_holdsAt_46 (lN_i _) ?_
        exact W.iret (v := (nI (((sqN hh gg ee y) * 113) / 1420))) hx hb hr (fun t ht hW => ⟨_, rfl, rfl, ht⟩) (fun _ h => nomatch h) dX5_holdsAt_47
      · skip
        have hgl := girthN_le hh gg ee y
        refine lv_lload_n hx hb dX5_holdsAt_11 rfl (lv_at hl 3 rfl) ?_
        refine lv_aload_n hx hb dX5_holdsAt_12 rfl (lv_at hl 0 rfl) ?_
        refine lv_iload_n hx hb dX5_holdsAt_13 rfl (lv_at hl 1 rfl) ?_
        refine lv_iload hx hb dX5_holdsAt_14 (lv_at hl 4 rfl) ?_
        refine vp_callSi (va_Run.run (va_runV (As := [.int (nI (i)), .int (nI (y))]) (rest := [.long (lN (sqN hh gg ee y))]) ⟨hx, hb, hml, hown, hts⟩ (c_X5_girthOf l D cy h0 ad I F (i) (y) (hi) (hh) (gg) (ee) (h5) (h6) (h7) (hfb) (by omega)) (cwV 2 hts gX5_holdsAt_X5_girthOf rfl rfl rfl (by decide +kernel) ⟨Nat.le_of_ble_eq_true rfl, Nat.le_of_ble_eq_true rfl⟩) ⟨rB_blind, va_recv hK hP (ci := 5) (q0 := 0) rfl rfl, (rB_pre hP hK)⟩ rfl rfl hl.1 rfl (lv_room (Nat.le_of_ble_eq_true rfl)) dX5_holdsAt_16 ⟨Nat.le_of_ble_eq_true rfl, Nat.le_of_ble_eq_true rfl⟩)) (fun r_16 hr_16 => ?_)
        subst hr_16
        refine lv_i2l (v := lN (girthN (hh) (gg) (ee) (y))) hx hb dX5_holdsAt_19 (nI_l (by omega)) ?_
        refine lv_aload_n hx hb dX5_holdsAt_20 rfl (lv_at hl 0 rfl) ?_
        refine lv_iload_n hx hb dX5_holdsAt_21 rfl (lv_at hl 1 rfl) ?_
        refine lv_iload hx hb dX5_holdsAt_22 (lv_at hl 4 rfl) ?_
        refine vp_callSi (va_Run.run (va_runV (As := [.int (nI (i)), .int (nI (y))]) (rest := [.long (lN (girthN (hh) (gg) (ee) (y))), .long (lN (sqN hh gg ee y))]) ⟨hx, hb, hml, hown, hts⟩ (c_X5_girthOf l D cy h0 ad I F (i) (y) (hi) (hh) (gg) (ee) (h5) (h6) (h7) (hfb) (by omega)) (cwV 2 hts gX5_holdsAt_X5_girthOf rfl rfl rfl (by decide +kernel) ⟨Nat.le_of_ble_eq_true rfl, Nat.le_of_ble_eq_true rfl⟩) ⟨rB_blind, va_recv hK hP (ci := 5) (q0 := 0) rfl rfl, (rB_pre hP hK)⟩ rfl rfl hl.1 rfl (lv_room (Nat.le_of_ble_eq_true rfl)) dX5_holdsAt_24 ⟨Nat.le_of_ble_eq_true rfl, Nat.le_of_ble_eq_true rfl⟩)) (fun r_24 hr_24 => ?_)
        subst hr_24
        refine lv_i2l (v := lN (girthN (hh) (gg) (ee) (y))) hx hb dX5_holdsAt_27 (nI_l (by omega)) ?_
        refine lv_lmul hx hb dX5_holdsAt_28 ?_
        refine g_topl (y := lN ((girthN (hh) (gg) (ee) (y)) * (girthN (hh) (gg) (ee) (y)))) (lN_mul _ _) ?_
        refine lv_ladd hx hb dX5_holdsAt_29 ?_
        refine g_topl (y := lN ((sqN hh gg ee y) + ((girthN (hh) (gg) (ee) (y)) * (girthN (hh) (gg) (ee) (y))))) (lN_add _ _) ?_
        refine lv_lstore_n (lv' := [(3, .long (lN ((sqN hh gg ee y) + ((girthN (hh) (gg) (ee) (y)) * (girthN (hh) (gg) (ee) (y)))))), (0, .ref h0), (1, .int (nI (i))), (2, .int (nI (lv))), (5, .int (nI (y)))]) hx hb dX5_holdsAt_30 rfl hl (by decide) rfl (fun ls hl => ?_)
        refine lv_iinc (v := (nI (y + 1))) (lv' := [(5, .int (nI (y + 1))), (3, .long (lN ((sqN hh gg ee y) + ((girthN (hh) (gg) (ee) (y)) * (girthN (hh) (gg) (ee) (y)))))), (0, .ref h0), (1, .int (nI (i))), (2, .int (nI (lv)))]) hx hb dX5_holdsAt_31 hl (k := 4) rfl (nI_add _ _) (by decide) rfl (fun ls hl => ?_)
        refine lv_goto (tgt := 5) hx hb dX5_holdsAt_34 (by decide) ?_
        exact ih_5 (y + 1)  (by omega) (by omega) ls (lv_sub hl [2, 3, 4, 1, 0] rfl)
  exact loop_5 _ (0)  (by omega) (Nat.lt_succ_self _) ls (lv_sub hl [2, 3, 4, 1, 0] rfl)
set_option maxHeartbeats 4000000 in
set_option maxRecDepth 100000 in
theorem c_X5_girth (l : Launch) (D : va_G) (cy : Nat → ClassId) (sz : Nat) (h0 : Nat) (ad : Nat → Nat) (I : Nat → Int32) (F : Nat → Nat → Int32) (Y : YT) (hM : MR I F Y) (hY : WF Y) (a b : Int32) : Met l yX5_girth wsX5_girth ({ frames := 1, cells := 0, slots := 0, locals := 23 } : Room) (va_Pc [.ref h0, .int (a), .int (b)] (wB D cy sz (wM cy h0 ad I F))) (va_Qi (fun (r : Int32) (u : (Nat → Int32) × (Nat → Nat → Int32)) => MP r u (sp_girth Y a b)) (fun u t => wE D cy (va_A (wM cy h0 ad I F) sz) (wM cy h0 ad u.1 u.2) t) (va_A (wM cy h0 ad I F) sz)) 0 0 (va_A (wM cy h0 ad I F) sz) := by
  refine Met.ofW (cc := cX5_girth) (maxL := 3) (ret := (some .int)) (by decide) rfl ?_
  intro p e s m args below meth c s₁ B hml hv
  obtain ⟨rfl, hsz, hP, hK, hD0⟩ := hv
  have hx := B.exec
  have hb := B.bytes
  have hr := B.returns
  have hts := atoms_spec (ws := wsX5_girth) B.pre
  have hown : s.vm.findClass RX5 = some m.cls := findClass_of_methodNamed B.named
  have hlocks := B.notSynchronized
  subst hsz
  have hD := hD0.self (sz := s.heap.size)
  generalize hAe : va_A (wM cy h0 ad I F) s.heap.size = A at hD ⊢
  have hA : ∀ q : Nat, s.heap.size ≤ q → A q := w_A hAe
  have hS : va_S A s.heap s.heap [] := va_S.rf
  have hl := lv_entry ([.ref h0, .int (a), .int (b)]) (n := 3) (Nat.le_of_ble_eq_true rfl)
  rw [lg_entry_eq]
  generalize (lg_sl ([.ref h0, .int (a), .int (b)]) ++ List.replicate (3 - (lg_sl ([.ref h0, .int (a), .int (b)])).length) Slot.unset).toArray = ls at hl ⊢
  have hl : lv_has ls 3 [(0, .ref h0), (1, .int (a)), (2, .int (b))] := hl
  obtain ⟨hm1, hm2, hm3, hm4, hmF, hmB, hmC, hmR, hmW⟩ := id hM
  obtain ⟨hy0, hyF, hyB, hyC, hyf, hyb, hyc, hyr, hyw⟩ := id hY
  refine lv_aload_n hx hb dX5_girth_0 rfl (lv_at hl 0 rfl) ?_
  refine lv_iconst (v := (nI (0))) hx hb dX5_girth_1 (by decide) ?_
  refine va_put (D := D) (ci := 5) (v := .int (nI (0))) (ty := .int) (C := RX5) (T := TX5) (N := 34) hx hb hts (by decide +kernel) tyX5 tyX5_ok nmX5 hown hK hP hD hS 0 rfl rfl 0 (by decide) (hts (.fieldLink RX5 83 "CaskYardModel" "code" "I") (by decide +kernel)) (fun _ h9 => h9) rfl (by decide +kernel) rfl rfl (Nat.le_of_ble_eq_true rfl) dX5_girth_2 (fun H locs hP hD hS => ?_)
  have hP : va_P D vwCl (wM cy h0 ad (va_up I 0 (nI (0))) F) H := hP
  have hD : va_D A (wM cy h0 ad (va_up I 0 (nI (0))) F) := hD
  refine lv_aload_n hx hb dX5_girth_5 rfl (lv_at hl 0 rfl) ?_
  refine lv_iload_n hx hb dX5_girth_6 rfl (lv_at hl 1 rfl) ?_
  refine vp_callSi (va_Run.run (va_runV (As := [.int (a)]) (rest := []) ⟨hx, hb, hml, hown, hts⟩ (c_X5_isForm l D cy h0 ad (va_up I 0 (nI (0))) F (a) (yF Y) (hm1) (by omega)) (cwV 1 hts gX5_girth_X5_isForm rfl rfl rfl (by decide +kernel) ⟨Nat.le_of_ble_eq_true rfl, Nat.le_of_ble_eq_true rfl⟩) ⟨rB_blind, va_recv hK hP (ci := 5) (q0 := 0) rfl rfl, (rB_pre hP hK)⟩ rfl rfl hl.1 rfl (lv_room (Nat.le_of_ble_eq_true rfl)) dX5_girth_7 ⟨Nat.le_of_ble_eq_true rfl, Nat.le_of_ble_eq_true rfl⟩)) (fun r_7 hr_7 => ?_)
  subst hr_7
  refine g_ifne_b (tgt := 21) hx hb dX5_girth_10 (by decide) (fun c_10 => ?_) (fun c_10 => ?_)
  · skip
    have hxa := ix_c c_10.1
    have hia : ix a < yF Y := by omega
    have ha := ix_n c_10.1
    have hl : lv_has ls 3 [(0, .ref h0), (1, .int (nI (ix a))), (2, .int (b))] := by rw [← ha]; exact hl
    refine lv_aload_n hx hb dX5_girth_21 rfl (lv_at hl 0 rfl) ?_
    refine lv_iload_n hx hb dX5_girth_22 rfl (lv_at hl 1 rfl) ?_
    refine lv_iload_n hx hb dX5_girth_23 rfl (lv_at hl 2 rfl) ?_
    refine vp_callSi (va_Run.run (va_runV (As := [.int (nI (ix a)), .int (b)]) (rest := []) ⟨hx, hb, hml, hown, hts⟩ (c_X5_isHeight l D cy h0 ad (va_up I 0 (nI (0))) F (ix a) (Nat.lt_of_lt_of_le hia hyF) (b) (yh Y (ix a)) (hmF (ix a) hia).1 (hyf (ix a) hia).2.1) (cwV 2 hts gX5_girth_X5_isHeight rfl rfl rfl (by decide +kernel) ⟨Nat.le_of_ble_eq_true rfl, Nat.le_of_ble_eq_true rfl⟩) ⟨rB_blind, va_recv hK hP (ci := 5) (q0 := 0) rfl rfl, (rB_pre hP hK)⟩ rfl rfl hl.1 rfl (lv_room (Nat.le_of_ble_eq_true rfl)) dX5_girth_24 ⟨Nat.le_of_ble_eq_true rfl, Nat.le_of_ble_eq_true rfl⟩)) (fun r_24 hr_24 => ?_)
    subst hr_24
    refine g_ifne_b (tgt := 38) hx hb dX5_girth_27 (by decide) (fun c_27 => ?_) (fun c_27 => ?_)
    · skip
      have hxb := ix_c c_27.1
      have hib : ix b ≤ yh Y (ix a) := by omega
      have hb2 := ix_n c_27.1
      have hl : lv_has ls 3 [(0, .ref h0), (1, .int (nI (ix a))), (2, .int (nI (ix b)))] := by rw [← hb2]; exact hl
      refine lv_aload_n hx hb dX5_girth_38 rfl (lv_at hl 0 rfl) ?_
      refine lv_iload_n hx hb dX5_girth_39 rfl (lv_at hl 1 rfl) ?_
      refine lv_iload_n hx hb dX5_girth_40 rfl (lv_at hl 2 rfl) ?_
      refine vp_callSi (va_Run.run (va_runV (As := [.int (nI (ix a)), .int (nI (ix b))]) (rest := []) ⟨hx, hb, hml, hown, hts⟩ (c_X5_girthOf l D cy h0 ad (va_up I 0 (nI (0))) F (ix a) (ix b) (Nat.lt_of_lt_of_le (show ix a < yF Y from hia) hyF) (yh Y (ix a)) (yg Y (ix a)) (ye Y (ix a)) (hmF (ix a) (show ix a < yF Y from hia)).1 (hmF (ix a) (show ix a < yF Y from hia)).2.1 (hmF (ix a) (show ix a < yF Y from hia)).2.2.1 (form_b (hyf (ix a) (show ix a < yF Y from hia))) (hib)) (cwV 2 hts gX5_girth_X5_girthOf rfl rfl rfl (by decide +kernel) ⟨Nat.le_of_ble_eq_true rfl, Nat.le_of_ble_eq_true rfl⟩) ⟨rB_blind, va_recv hK hP (ci := 5) (q0 := 0) rfl rfl, (rB_pre hP hK)⟩ rfl rfl hl.1 rfl (lv_room (Nat.le_of_ble_eq_true rfl)) dX5_girth_41 ⟨Nat.le_of_ble_eq_true rfl, Nat.le_of_ble_eq_true rfl⟩)) (fun r_41 hr_41 => ?_)
      subst hr_41
      exact W.iret (v := (nI (girthN (yh Y (ix a)) (yg Y (ix a)) (ye Y (ix a)) (ix b)))) hx hb hr (fun t ht hW => ⟨⟨_, ((va_up I 0 (nI (0))), F), rfl, by rw [sp_girth, if_pos ⟨by omega, by omega⟩, if_pos ⟨by omega, by omega⟩]; exact ⟨rfl, fun _ => rfl, hM⟩, by rw [ht]; exact hP, va_K.moved hW.alike hK, hD⟩, hS.F ht⟩) hS.2.2 dX5_girth_44
    · skip
      refine lv_aload_n hx hb dX5_girth_30 rfl (lv_at hl 0 rfl) ?_
      refine lv_iconst (v := (nI (2))) hx hb dX5_girth_31 (by decide) ?_
      have hFc := w_free hD hS hA
      refine va_calli (va_runV (As := [.int (nI (2))]) (rest := []) ⟨hx, hb, hml, hown, hts⟩ (c_X5_fail l D cy H.size h0 ad (va_up I 0 (nI (0))) F (nI 2)) (cwV 1 hts gX5_girth_X5_fail rfl rfl rfl (by decide +kernel) ⟨Nat.le_of_ble_eq_true rfl, Nat.le_of_ble_eq_true rfl⟩) ⟨wB_blind, va_recv hK hP (ci := 5) (q0 := 0) rfl rfl, wB_pre hP hK hD⟩ rfl rfl hl.1 rfl (lv_room (Nat.le_of_ble_eq_true rfl)) dX5_girth_32 ⟨Nat.le_of_ble_eq_true rfl, Nat.le_of_ble_eq_true rfl⟩) hS (fun q _ h => hFc q h) hFc (fun r_32 u_32 t H locs ht hvm hw_32 hB _ _ hS => ?_)
      obtain ⟨I_32, F_32⟩ := u_32
      obtain ⟨hP1, hK1, hD1⟩ := hB
      rw [ht] at hP1
      dsimp only at hP1 hD1 hw_32
      obtain ⟨hw_32, hu_32⟩ := hw_32
      rw [(Prod.mk.inj hu_32).1, (Prod.mk.inj hu_32).2] at hP1 hD1
      have hP := hP1
      have hD := hD1.weaken (fun _ _ _ h => hFc _ h)
      have hP : va_P D vwCl (wM cy h0 ad (va_up I 0 (nI (2))) F) H := hP
      have hD : va_D A (wM cy h0 ad (va_up I 0 (nI (2))) F) := hD
      refine g_top (y := (nI (0))) (hw_32) ?_
      refine lv_goto (tgt := 44) hx hb dX5_girth_35 (by decide) ?_
      exact W.iret (v := (nI (0))) hx hb hr (fun t ht hW => ⟨⟨_, ((va_up I 0 (nI (2))), F), rfl, by rw [sp_girth, if_pos ⟨by omega, by omega⟩, if_neg (fun q => c_27 ⟨q.1, by omega⟩)]; exact MP_t rfl hM, by rw [ht]; exact hP, va_K.moved hW.alike hK, hD⟩, hS.F ht⟩) hS.2.2 dX5_girth_44
  · skip
    refine lv_aload_n hx hb dX5_girth_13 rfl (lv_at hl 0 rfl) ?_
    refine lv_iconst (v := (nI (1))) hx hb dX5_girth_14 (by decide) ?_
    have hFc := w_free hD hS hA
    refine va_calli (va_runV (As := [.int (nI (1))]) (rest := []) ⟨hx, hb, hml, hown, hts⟩ (c_X5_fail l D cy H.size h0 ad (va_up I 0 (nI (0))) F (nI 1)) (cwV 1 hts gX5_girth_X5_fail rfl rfl rfl (by decide +kernel) ⟨Nat.le_of_ble_eq_true rfl, Nat.le_of_ble_eq_true rfl⟩) ⟨wB_blind, va_recv hK hP (ci := 5) (q0 := 0) rfl rfl, wB_pre hP hK hD⟩ rfl rfl hl.1 rfl (lv_room (Nat.le_of_ble_eq_true rfl)) dX5_girth_15 ⟨Nat.le_of_ble_eq_true rfl, Nat.le_of_ble_eq_true rfl⟩) hS (fun q _ h => hFc q h) hFc (fun r_15 u_15 t H locs ht hvm hw_15 hB _ _ hS => ?_)
    obtain ⟨I_15, F_15⟩ := u_15
    obtain ⟨hP1, hK1, hD1⟩ := hB
    rw [ht] at hP1
    dsimp only at hP1 hD1 hw_15
    obtain ⟨hw_15, hu_15⟩ := hw_15
    rw [(Prod.mk.inj hu_15).1, (Prod.mk.inj hu_15).2] at hP1 hD1
    have hP := hP1
    have hD := hD1.weaken (fun _ _ _ h => hFc _ h)
    have hP : va_P D vwCl (wM cy h0 ad (va_up I 0 (nI (1))) F) H := hP
    have hD : va_D A (wM cy h0 ad (va_up I 0 (nI (1))) F) := hD
    refine g_top (y := (nI (0))) (hw_15) ?_
    refine lv_goto (tgt := 44) hx hb dX5_girth_18 (by decide) ?_
    exact W.iret (v := (nI (0))) hx hb hr (fun t ht hW => ⟨⟨_, ((va_up I 0 (nI (1))), F), rfl, by rw [sp_girth, if_neg (fun q => c_10 ⟨q.1, by omega⟩)]; exact MP_t rfl hM, by rw [ht]; exact hP, va_K.moved hW.alike hK, hD⟩, hS.F ht⟩) hS.2.2 dX5_girth_44
set_option maxHeartbeats 4000000 in
set_option maxRecDepth 100000 in
theorem c_X5_holds (l : Launch) (D : va_G) (cy : Nat → ClassId) (sz : Nat) (h0 : Nat) (ad : Nat → Nat) (I : Nat → Int32) (F : Nat → Nat → Int32) (Y : YT) (hM : MR I F Y) (hY : WF Y) (a b : Int32) : Met l yX5_holds wsX5_holds ({ frames := 2, cells := 0, slots := 0, locals := 48 } : Room) (va_Pc [.ref h0, .int (a), .int (b)] (wB D cy sz (wM cy h0 ad I F))) (va_Qi (fun (r : Int32) (u : (Nat → Int32) × (Nat → Nat → Int32)) => MP r u (sp_holds Y a b)) (fun u t => wE D cy (va_A (wM cy h0 ad I F) sz) (wM cy h0 ad u.1 u.2) t) (va_A (wM cy h0 ad I F) sz)) 0 0 (va_A (wM cy h0 ad I F) sz) := by
  refine Met.ofW (cc := cX5_holds) (maxL := 3) (ret := (some .int)) (by decide) rfl ?_
  intro p e s m args below meth c s₁ B hml hv
  obtain ⟨rfl, hsz, hP, hK, hD0⟩ := hv
  have hx := B.exec
  have hb := B.bytes
  have hr := B.returns
  have hts := atoms_spec (ws := wsX5_holds) B.pre
  have hown : s.vm.findClass RX5 = some m.cls := findClass_of_methodNamed B.named
  have hlocks := B.notSynchronized
  subst hsz
  have hD := hD0.self (sz := s.heap.size)
  generalize hAe : va_A (wM cy h0 ad I F) s.heap.size = A at hD ⊢
  have hA : ∀ q : Nat, s.heap.size ≤ q → A q := w_A hAe
  have hS : va_S A s.heap s.heap [] := va_S.rf
  have hl := lv_entry ([.ref h0, .int (a), .int (b)]) (n := 3) (Nat.le_of_ble_eq_true rfl)
  rw [lg_entry_eq]
  generalize (lg_sl ([.ref h0, .int (a), .int (b)]) ++ List.replicate (3 - (lg_sl ([.ref h0, .int (a), .int (b)])).length) Slot.unset).toArray = ls at hl ⊢
  have hl : lv_has ls 3 [(0, .ref h0), (1, .int (a)), (2, .int (b))] := hl
  obtain ⟨hm1, hm2, hm3, hm4, hmF, hmB, hmC, hmR, hmW⟩ := id hM
  obtain ⟨hy0, hyF, hyB, hyC, hyf, hyb, hyc, hyr, hyw⟩ := id hY
  refine lv_aload_n hx hb dX5_holds_0 rfl (lv_at hl 0 rfl) ?_
  refine lv_iconst (v := (nI (0))) hx hb dX5_holds_1 (by decide) ?_
  refine va_put (D := D) (ci := 5) (v := .int (nI (0))) (ty := .int) (C := RX5) (T := TX5) (N := 34) hx hb hts (by decide +kernel) tyX5 tyX5_ok nmX5 hown hK hP hD hS 0 rfl rfl 0 (by decide) (hts (.fieldLink RX5 83 "CaskYardModel" "code" "I") (by decide +kernel)) (fun _ h9 => h9) rfl (by decide +kernel) rfl rfl (Nat.le_of_ble_eq_true rfl) dX5_holds_2 (fun H locs hP hD hS => ?_)
  have hP : va_P D vwCl (wM cy h0 ad (va_up I 0 (nI (0))) F) H := hP
  have hD : va_D A (wM cy h0 ad (va_up I 0 (nI (0))) F) := hD
  refine lv_aload_n hx hb dX5_holds_5 rfl (lv_at hl 0 rfl) ?_
  refine lv_iload_n hx hb dX5_holds_6 rfl (lv_at hl 1 rfl) ?_
  refine vp_callSi (va_Run.run (va_runV (As := [.int (a)]) (rest := []) ⟨hx, hb, hml, hown, hts⟩ (c_X5_isForm l D cy h0 ad (va_up I 0 (nI (0))) F (a) (yF Y) (hm1) (by omega)) (cwV 1 hts gX5_holds_X5_isForm rfl rfl rfl (by decide +kernel) ⟨Nat.le_of_ble_eq_true rfl, Nat.le_of_ble_eq_true rfl⟩) ⟨rB_blind, va_recv hK hP (ci := 5) (q0 := 0) rfl rfl, (rB_pre hP hK)⟩ rfl rfl hl.1 rfl (lv_room (Nat.le_of_ble_eq_true rfl)) dX5_holds_7 ⟨Nat.le_of_ble_eq_true rfl, Nat.le_of_ble_eq_true rfl⟩)) (fun r_7 hr_7 => ?_)
  subst hr_7
  refine g_ifne_b (tgt := 21) hx hb dX5_holds_10 (by decide) (fun c_10 => ?_) (fun c_10 => ?_)
  · skip
    have hxa := ix_c c_10.1
    have hia : ix a < yF Y := by omega
    have ha := ix_n c_10.1
    have hl : lv_has ls 3 [(0, .ref h0), (1, .int (nI (ix a))), (2, .int (b))] := by rw [← ha]; exact hl
    refine lv_aload_n hx hb dX5_holds_21 rfl (lv_at hl 0 rfl) ?_
    refine lv_iload_n hx hb dX5_holds_22 rfl (lv_at hl 1 rfl) ?_
    refine lv_iload_n hx hb dX5_holds_23 rfl (lv_at hl 2 rfl) ?_
    refine vp_callSi (va_Run.run (va_runV (As := [.int (nI (ix a)), .int (b)]) (rest := []) ⟨hx, hb, hml, hown, hts⟩ (c_X5_isHeight l D cy h0 ad (va_up I 0 (nI (0))) F (ix a) (Nat.lt_of_lt_of_le hia hyF) (b) (yh Y (ix a)) (hmF (ix a) hia).1 (hyf (ix a) hia).2.1) (cwV 2 hts gX5_holds_X5_isHeight rfl rfl rfl (by decide +kernel) ⟨Nat.le_of_ble_eq_true rfl, Nat.le_of_ble_eq_true rfl⟩) ⟨rB_blind, va_recv hK hP (ci := 5) (q0 := 0) rfl rfl, (rB_pre hP hK)⟩ rfl rfl hl.1 rfl (lv_room (Nat.le_of_ble_eq_true rfl)) dX5_holds_24 ⟨Nat.le_of_ble_eq_true rfl, Nat.le_of_ble_eq_true rfl⟩)) (fun r_24 hr_24 => ?_)
    subst hr_24
    refine g_ifne_b (tgt := 38) hx hb dX5_holds_27 (by decide) (fun c_27 => ?_) (fun c_27 => ?_)
    · skip
      have hxb := ix_c c_27.1
      have hib : ix b ≤ yh Y (ix a) := by omega
      have hb2 := ix_n c_27.1
      have hl : lv_has ls 3 [(0, .ref h0), (1, .int (nI (ix a))), (2, .int (nI (ix b)))] := by rw [← hb2]; exact hl
      refine lv_aload_n hx hb dX5_holds_38 rfl (lv_at hl 0 rfl) ?_
      refine lv_iload_n hx hb dX5_holds_39 rfl (lv_at hl 1 rfl) ?_
      refine lv_iload_n hx hb dX5_holds_40 rfl (lv_at hl 2 rfl) ?_
      refine vp_callSi (va_Run.run (va_runV (As := [.int (nI (ix a)), .int (nI (ix b))]) (rest := []) ⟨hx, hb, hml, hown, hts⟩ (c_X5_holdsAt l D cy h0 ad (va_up I 0 (nI (0))) F (ix a) (ix b) (Nat.lt_of_lt_of_le (show ix a < yF Y from hia) hyF) (yh Y (ix a)) (yg Y (ix a)) (ye Y (ix a)) (hmF (ix a) (show ix a < yF Y from hia)).1 (hmF (ix a) (show ix a < yF Y from hia)).2.1 (hmF (ix a) (show ix a < yF Y from hia)).2.2.1 (form_b (hyf (ix a) (show ix a < yF Y from hia))) (hib)) (cwV 2 hts gX5_holds_X5_holdsAt rfl rfl rfl (by decide +kernel) ⟨Nat.le_of_ble_eq_true rfl, Nat.le_of_ble_eq_true rfl⟩) ⟨rB_blind, va_recv hK hP (ci := 5) (q0 := 0) rfl rfl, (rB_pre hP hK)⟩ rfl rfl hl.1 rfl (lv_room (Nat.le_of_ble_eq_true rfl)) dX5_holds_41 ⟨Nat.le_of_ble_eq_true rfl, Nat.le_of_ble_eq_true rfl⟩)) (fun r_41 hr_41 => ?_)
      subst hr_41
      exact W.iret (v := (nI (holdsN (yh Y (ix a)) (yg Y (ix a)) (ye Y (ix a)) (ix b)))) hx hb hr (fun t ht hW => ⟨⟨_, ((va_up I 0 (nI (0))), F), rfl, by rw [sp_holds, if_pos ⟨by omega, by omega⟩, if_pos ⟨by omega, by omega⟩]; exact ⟨rfl, fun _ => rfl, hM⟩, by rw [ht]; exact hP, va_K.moved hW.alike hK, hD⟩, hS.F ht⟩) hS.2.2 dX5_holds_44
    · skip
      refine lv_aload_n hx hb dX5_holds_30 rfl (lv_at hl 0 rfl) ?_
      refine lv_iconst (v := (nI (2))) hx hb dX5_holds_31 (by decide) ?_
      have hFc := w_free hD hS hA
      refine va_calli (va_runV (As := [.int (nI (2))]) (rest := []) ⟨hx, hb, hml, hown, hts⟩ (c_X5_fail l D cy H.size h0 ad (va_up I 0 (nI (0))) F (nI 2)) (cwV 1 hts gX5_holds_X5_fail rfl rfl rfl (by decide +kernel) ⟨Nat.le_of_ble_eq_true rfl, Nat.le_of_ble_eq_true rfl⟩) ⟨wB_blind, va_recv hK hP (ci := 5) (q0 := 0) rfl rfl, wB_pre hP hK hD⟩ rfl rfl hl.1 rfl (lv_room (Nat.le_of_ble_eq_true rfl)) dX5_holds_32 ⟨Nat.le_of_ble_eq_true rfl, Nat.le_of_ble_eq_true rfl⟩) hS (fun q _ h => hFc q h) hFc (fun r_32 u_32 t H locs ht hvm hw_32 hB _ _ hS => ?_)
      obtain ⟨I_32, F_32⟩ := u_32
      obtain ⟨hP1, hK1, hD1⟩ := hB
      rw [ht] at hP1
      dsimp only at hP1 hD1 hw_32
      obtain ⟨hw_32, hu_32⟩ := hw_32
      rw [(Prod.mk.inj hu_32).1, (Prod.mk.inj hu_32).2] at hP1 hD1
      have hP := hP1
      have hD := hD1.weaken (fun _ _ _ h => hFc _ h)
      have hP : va_P D vwCl (wM cy h0 ad (va_up I 0 (nI (2))) F) H := hP
      have hD : va_D A (wM cy h0 ad (va_up I 0 (nI (2))) F) := hD
      refine g_top (y := (nI (0))) (hw_32) ?_
      refine lv_goto (tgt := 44) hx hb dX5_holds_35 (by decide) ?_
      exact W.iret (v := (nI (0))) hx hb hr (fun t ht hW => ⟨⟨_, ((va_up I 0 (nI (2))), F), rfl, by rw [sp_holds, if_pos ⟨by omega, by omega⟩, if_neg (fun q => c_27 ⟨q.1, by omega⟩)]; exact MP_t rfl hM, by rw [ht]; exact hP, va_K.moved hW.alike hK, hD⟩, hS.F ht⟩) hS.2.2 dX5_holds_44
  · skip
    refine lv_aload_n hx hb dX5_holds_13 rfl (lv_at hl 0 rfl) ?_
    refine lv_iconst (v := (nI (1))) hx hb dX5_holds_14 (by decide) ?_
    have hFc := w_free hD hS hA
    refine va_calli (va_runV (As := [.int (nI (1))]) (rest := []) ⟨hx, hb, hml, hown, hts⟩ (c_X5_fail l D cy H.size h0 ad (va_up I 0 (nI (0))) F (nI 1)) (cwV 1 hts gX5_holds_X5_fail rfl rfl rfl (by decide +kernel) ⟨Nat.le_of_ble_eq_true rfl, Nat.le_of_ble_eq_true rfl⟩) ⟨wB_blind, va_recv hK hP (ci := 5) (q0 := 0) rfl rfl, wB_pre hP hK hD⟩ rfl rfl hl.1 rfl (lv_room (Nat.le_of_ble_eq_true rfl)) dX5_holds_15 ⟨Nat.le_of_ble_eq_true rfl, Nat.le_of_ble_eq_true rfl⟩) hS (fun q _ h => hFc q h) hFc (fun r_15 u_15 t H locs ht hvm hw_15 hB _ _ hS => ?_)
    obtain ⟨I_15, F_15⟩ := u_15
    obtain ⟨hP1, hK1, hD1⟩ := hB
    rw [ht] at hP1
    dsimp only at hP1 hD1 hw_15
    obtain ⟨hw_15, hu_15⟩ := hw_15
    rw [(Prod.mk.inj hu_15).1, (Prod.mk.inj hu_15).2] at hP1 hD1
    have hP := hP1
    have hD := hD1.weaken (fun _ _ _ h => hFc _ h)
    have hP : va_P D vwCl (wM cy h0 ad (va_up I 0 (nI (1))) F) H := hP
    have hD : va_D A (wM cy h0 ad (va_up I 0 (nI (1))) F) := hD
    refine g_top (y := (nI (0))) (hw_15) ?_
    refine lv_goto (tgt := 44) hx hb dX5_holds_18 (by decide) ?_
    exact W.iret (v := (nI (0))) hx hb hr (fun t ht hW => ⟨⟨_, ((va_up I 0 (nI (1))), F), rfl, by rw [sp_holds, if_neg (fun q => c_10 ⟨q.1, by omega⟩)]; exact MP_t rfl hM, by rw [ht]; exact hP, va_K.moved hW.alike hK, hD⟩, hS.F ht⟩) hS.2.2 dX5_holds_44
