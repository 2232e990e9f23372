set_option maxHeartbeats 4000000 in
set_option maxRecDepth 100000 in
theorem c_X5_isRipe (l : Launch) (D : va_G) (cy : Nat → ClassId) (h0 : Nat) (ad : Nat → Nat) (I : Nat → Int32) (F : Nat → Nat → Int32) (b sp nw : Nat) (hbb : b < 40) (h1 : I 4 = nI nw) (h2 : F 9 b = nI sp) (hle : sp ≤ nw ∧ nw ≤ 100000) : Met l yX5_isRipe wsX5_isRipe ({ frames := 0, cells := 0, slots := 0, locals := 0 } : Room) (va_Pc [.ref h0, .int (nI (b))] (rB D cy (wM cy h0 ad I F))) (vp_Si (fun r : Int32 => r = bI (sp + 1095 ≤ nw))) 0 0 (fun _ => False) := by
  refine Met.ofW (cc := cX5_isRipe) (maxL := 2) (ret := (some .boolean)) (by decide) rfl ?_
  intro p e s m args below meth c s₁ B hml hv
  obtain ⟨rfl, hv⟩ := hv
  have hx := B.exec
  have hb := B.bytes
  have hr := B.returns
  have hts := atoms_spec (ws := wsX5_isRipe) B.pre
  have hown : s.vm.findClass RX5 = some m.cls := findClass_of_methodNamed B.named
  have hlocks := B.notSynchronized
  obtain ⟨hP, hK⟩ := hv
  have hl := lv_entry ([.ref h0, .int (nI (b))]) (n := 2) (Nat.le_of_ble_eq_true rfl)
  rw [lg_entry_eq]
  generalize (lg_sl ([.ref h0, .int (nI (b))]) ++ List.replicate (2 - (lg_sl ([.ref h0, .int (nI (b))])).length) Slot.unset).toArray = ls at hl ⊢
  have hl : lv_has ls 2 [(0, .ref h0), (1, .int (nI (b)))] := hl
  refine lv_aload_n hx hb dX5_isRipe_0 rfl (lv_at hl 0 rfl) ?_
  refine va_get (D := D) (ci := 5) (v := .int (I 4)) (C := RX5) (T := TX5) (N := 34) hx hb hts (by decide +kernel) hown hK hP 0 rfl rfl 4 (by decide) (hts (.fieldLink RX5 117 "CaskYardModel" "now" "I") (by decide +kernel)) (fun _ h9 => h9) rfl dX5_isRipe_1 ?_
  refine g_top (y := (nI (nw))) h1 ?_
  refine lv_aload_n hx hb dX5_isRipe_4 rfl (lv_at hl 0 rfl) ?_
  refine va_get (D := D) (ci := 5) (v := .ref ((ad 9))) (C := RX5) (T := TX5) (N := 34) hx hb hts (by decide +kernel) hown hK hP 0 rfl rfl 9 (by decide) (hts (.fieldLink RX5 22 "CaskYardModel" "splitOn" "[I") (by decide +kernel)) (fun _ h9 => h9) rfl dX5_isRipe_5 ?_
  refine lv_iload_n hx hb dX5_isRipe_8 rfl (lv_at hl 1 rfl) ?_
  refine g_iald hx hb hK hP 5 0 rfl rfl (b) rfl (by omega) (by decide) dX5_isRipe_9 ?_
  refine g_top (y := (nI (sp))) h2 ?_
  refine g_isub_n hx hb dX5_isRipe_10 (by omega) ?_
  refine lv_sipush (v := (nI (1095))) hx hb dX5_isRipe_11 (by decide) ?_
  refine g_icmp_lt (tgt := 21) hx hb dX5_isRipe_14 (by decide) (n_i (by omega)) (n_i (by omega)) (fun c_14 => ?_) (fun c_14 => ?_)
  · skip
    refine lv_iconst (v := (nI (0))) hx hb dX5_isRipe_21 (by decide) ?_
    exact W.zret (v := (nI (0))) hx hb hr (by decide) (fun t ht hW => ⟨_, rfl, (bI_f (fun q => by omega)).symm, ht⟩) (fun _ h => nomatch h) dX5_isRipe_22
  · skip
    refine lv_iconst (v := (nI (1))) hx hb dX5_isRipe_17 (by decide) ?_
    refine lv_goto (tgt := 22) hx hb dX5_isRipe_18 (by decide) ?_
    exact W.zret (v := (nI (1))) hx hb hr (by decide) (fun t ht hW => ⟨_, rfl, (bI_t (by omega)).symm, ht⟩) (fun _ h => nomatch h) dX5_isRipe_22
set_option maxHeartbeats 4000000 in
set_option maxRecDepth 100000 in
theorem c_X5_holdsAt (l : Launch) (D : va_G) (cy : Nat → ClassId) (h0 : Nat) (ad : Nat → Nat) (I : Nat → Int32) (F : Nat → Nat → Int32) (i lv : Nat) (hi : i < 8) (hh gg ee : Nat) (h5 : F 5 i = nI hh) (h6 : F 6 i = nI gg) (h7 : F 7 i = nI ee) (hfb : 10 ≤ hh ∧ hh ≤ 200 ∧ ee ≤ gg ∧ gg ≤ 2000) (hlv : lv ≤ hh) : Met l yX5_holdsAt wsX5_holdsAt ({ frames := 1, cells := 0, slots := 0, locals := 23 } : Room) (va_Pc [.ref h0, .int (nI (i)), .int (nI (lv))] (rB D cy (wM cy h0 ad I F))) (vp_Si (fun r : Int32 => r = nI (holdsN hh gg ee lv))) 0 0 (fun _ => False) := by
  refine Met.ofW (cc := cX5_holdsAt) (maxL := 6) (ret := (some .int)) (by decide) rfl ?_
  intro p e s m args below meth c s₁ B hml hv
  obtain ⟨rfl, hv⟩ := hv
  have hx := B.exec
  have hb := B.bytes
  have hr := B.returns
  have hts := atoms_spec (ws := wsX5_holdsAt) B.pre
  have hown : s.vm.findClass RX5 = some m.cls := findClass_of_methodNamed B.named
  have hlocks := B.notSynchronized
  obtain ⟨hP, hK⟩ := hv
  have hl := lv_entry ([.ref h0, .int (nI (i)), .int (nI (lv))]) (n := 6) (Nat.le_of_ble_eq_true rfl)
  rw [lg_entry_eq]
  generalize (lg_sl ([.ref h0, .int (nI (i)), .int (nI (lv))]) ++ List.replicate (6 - (lg_sl ([.ref h0, .int (nI (i)), .int (nI (lv))])).length) Slot.unset).toArray = ls at hl ⊢
  have hl : lv_has ls 6 [(0, .ref h0), (1, .int (nI (i))), (2, .int (nI (lv)))] := hl
  refine lv_lconst (v := lN 0) hx hb dX5_holdsAt_0 (by decide) ?_
  refine lv_lstore_n (lv' := [(3, .long (lN (0))), (0, .ref h0), (1, .int (nI (i))), (2, .int (nI (lv)))]) hx hb dX5_holdsAt_1 rfl hl (by decide) rfl (fun ls hl => ?_)
  refine lv_iconst (v := (nI (0))) hx hb dX5_holdsAt_2 (by decide) ?_
  refine lv_istore (lv' := [(5, .int (nI (0))), (3, .long (lN (0))), (0, .ref h0), (1, .int (nI (i))), (2, .int (nI (lv)))]) hx hb dX5_holdsAt_3 hl (by decide) rfl (fun ls hl => ?_)
  have loop_5 : ∀ (n_ : Nat) (y : Nat), (y ≤ lv) → lv - y < n_ → ∀ (ls : Array Slot), lv_has ls 6 [(0, .ref h0), (1, .int (nI (i))), (2, .int (nI (lv))), (3, .long (lN (sqN hh gg ee y))), (5, .int (nI (y)))] → W p l e (headSpec wsX5_holdsAt ({ frames := 1, cells := 0, slots := 0, locals := 23 } : Room)).room s m ([.ref h0, .int (nI (i)), .int (nI (lv))] : List Value).toArray below meth c s.heap [] 0 0 (MQ below (vp_Si (fun r : Int32 => r = nI (holdsN hh gg ee lv))) ([.ref h0, .int (nI (i)), .int (nI (lv))] : List Value).toArray s 0 0 (fun _ => False)) (F0 m 5 ls []) := by
    intro n_
    induction n_ with
    | zero => intro y hyl hm_; exact absurd hm_ (Nat.not_lt_zero _)
    | succ n_ ih_5 =>
      intro y hyl hm_ ls hl
      refine lv_iload hx hb dX5_holdsAt_5 (lv_at hl 4 rfl) ?_
      refine lv_iload_n hx hb dX5_holdsAt_7 rfl (lv_at hl 2 rfl) ?_
      refine g_icmp_ge (tgt := 37) hx hb dX5_holdsAt_8 (by decide) (n_i (by omega)) (n_i (by omega)) (fun c_8 => ?_) (fun c_8 => ?_)
      · skip
        obtain rfl : y = lv := by omega
        have hsq := sqN_le (h := hh) (e := ee) hfb.2.2.2 y
        refine lv_lload_n hx hb dX5_holdsAt_37 rfl (lv_at hl 3 rfl) ?_
        refine lv_ldc2 hx hb hown (hts (.constantLong RX5 110 (113)) (by decide +kernel)) dX5_holdsAt_38 ?_
        refine g_topl (y := lN 113) (by decide) ?_
        refine lv_lmul hx hb dX5_holdsAt_41 ?_
        refine g_topl (y := lN ((sqN hh gg ee y) * 113)) (lN_mul _ _) ?_
        refine lv_ldc2 hx hb hown (hts (.constantLong RX5 112 (1420)) (by decide +kernel)) dX5_holdsAt_42 ?_
        refine g_topl (y := lN 1420) (by decide) ?_
        refine lv_ldiv hx hb dX5_holdsAt_45 (by decide) ?_
        refine g_topl (y := lN (((sqN hh gg ee y) * 113) / 1420)) (pk_lDiv (by omega) (by omega) (by omega)) ?_
        refine lv_l2i (v := nI (((sqN hh gg ee y) * 113) / 1420)) hx hb dX5_holdsAt_46 (lN_i _) ?_
        exact W.iret (v := (nI (((sqN hh gg ee y) * 113) / 1420))) hx hb hr (fun t ht hW => ⟨_, rfl, rfl, ht⟩) (fun _ h => nomatch h) dX5_holdsAt_47
      · skip
        have hgl := girthN_le hh gg ee y
        refine lv_lload_n hx hb dX5_holdsAt_11 rfl (lv_at hl 3 rfl) ?_
        refine lv_aload_n hx hb dX5_holdsAt_12 rfl (lv_at hl 0 rfl) ?_
        refine lv_iload_n hx hb dX5_holdsAt_13 rfl (lv_at hl 1 rfl) ?_
        refine lv_iload hx hb dX5_holdsAt_14 (lv_at hl 4 rfl) ?_
        refine vp_callSi (va_Run.run (va_runV (As := [.int (nI (i)), .int (nI (y))]) (rest := [.long (lN (sqN hh gg ee y))]) ⟨hx, hb, hml, hown, hts⟩ (c_X5_girthOf l D cy h0 ad I F (i) (y) (hi) (hh) (gg) (ee) (h5) (h6) (h7) (hfb) (by omega)) (cwV 2 hts gX5_holdsAt_X5_girthOf rfl rfl rfl (by decide +kernel) ⟨Nat.le_of_ble_eq_true rfl, Nat.le_of_ble_eq_true rfl⟩) ⟨rB_blind, va_recv hK hP (ci := 5) (q0 := 0) rfl rfl, (rB_pre hP hK)⟩ rfl rfl hl.1 rfl (lv_room (Nat.le_of_ble_eq_true rfl)) dX5_holdsAt_16 ⟨Nat.le_of_ble_eq_true rfl, Nat.le_of_ble_eq_true rfl⟩)) (fun r_16 hr_16 => ?_)
        subst hr_16
        refine lv_i2l (v := lN (girthN (hh) (gg) (ee) (y))) hx hb dX5_holdsAt_19 (nI_l (by omega)) ?_
        refine lv_aload_n hx hb dX5_holdsAt_20 rfl (lv_at hl 0 rfl) ?_
        refine lv_iload_n hx hb dX5_holdsAt_21 rfl (lv_at hl 1 rfl) ?_
        refine lv_iload hx hb dX5_holdsAt_22 (lv_at hl 4 rfl) ?_
        refine vp_callSi (va_Run.run (va_runV (As := [.int (nI (i)), .int (nI (y))]) (rest := [.long (lN (girthN (hh) (gg) (ee) (y))), .long (lN (sqN hh gg ee y))]) ⟨hx, hb, hml, hown, hts⟩ (c_X5_girthOf l D cy h0 ad I F (i) (y) (hi) (hh) (gg) (ee) (h5) (h6) (h7) (hfb) (by omega)) (cwV 2 hts gX5_holdsAt_X5_girthOf rfl rfl rfl (by decide +kernel) ⟨Nat.le_of_ble_eq_true rfl, Nat.le_of_ble_eq_true rfl⟩) ⟨rB_blind, va_recv hK hP (ci := 5) (q0 := 0) rfl rfl, (rB_pre hP hK)⟩ rfl rfl hl.1 rfl (lv_room (Nat.le_of_ble_eq_true rfl)) dX5_holdsAt_24 ⟨Nat.le_of_ble_eq_true rfl, Nat.le_of_ble_eq_true rfl⟩)) (fun r_24 hr_24 => ?_)
        subst hr_24
        refine lv_i2l (v := lN (girthN (hh) (gg) (ee) (y))) hx hb dX5_holdsAt_27 (nI_l (by omega)) ?_
        refine lv_lmul hx hb dX5_holdsAt_28 ?_
        refine g_topl (y := lN ((girthN (hh) (gg) (ee) (y)) * (girthN (hh) (gg) (ee) (y)))) (lN_mul _ _) ?_
        refine lv_ladd hx hb dX5_holdsAt_29 ?_
        refine g_topl (y := lN ((sqN hh gg ee y) + ((girthN (hh) (gg) (ee) (y)) * (girthN (hh) (gg) (ee) (y))))) (lN_add _ _) ?_
        refine lv_lstore_n (lv' := [(3, .long (lN ((sqN hh gg ee y) + ((girthN (hh) (gg) (ee) (y)) * (girthN (hh) (gg) (ee) (y)))))), (0, .ref h0), (1, .int (nI (i))), (2, .int (nI (lv))), (5, .int (nI (y)))]) hx hb dX5_holdsAt_30 rfl hl (by decide) rfl (fun ls hl => ?_)
        refine lv_iinc (v := (nI (y + 1))) (lv' := [(5, .int (nI (y + 1))), (3, .long (lN ((sqN hh gg ee y) + ((girthN (hh) (gg) (ee) (y)) * (girthN (hh) (gg) (ee) (y)))))), (0, .ref h0), (1, .int (nI (i))), (2, .int (nI (lv)))]) hx hb dX5_holdsAt_31 hl (k := 4) rfl (nI_add _ _) (by decide) rfl (fun ls hl => ?_)
        refine lv_goto (tgt := 5) hx hb dX5_holdsAt_34 (by decide) ?_
        exact ih_5 (y + 1)  (by omega) (by omega) ls (lv_sub hl [2, 3, 4, 1, 0] rfl)
  exact loop_5 _ (0)  (by omega) (Nat.lt_succ_self _) ls (lv_sub hl [2, 3, 4, 1, 0] rfl)
set_option maxHeartbeats 4000000 in
set_option maxRecDepth 100000 in
theorem c_X5_girth (l : Launch) (D : va_G) (cy : Nat → ClassId) (sz : Nat) (h0 : Nat) (ad : Nat → Nat) (I : Nat → Int32) (F : Nat → Nat → Int32) (Y : YT) (hM : MR I F Y) (hY : WF Y) (a b : Int32) : Met l yX5_girth wsX5_girth ({ frames := 1, cells := 0, slots := 0, locals := 23 } : Room) (va_Pc [.ref h0, .int (a), .int (b)] (wB D cy sz (wM cy h0 ad I F))) (va_Qi (fun (r : Int32) (u : (Nat → Int32) × (Nat → Nat → Int32)) => MP r u (sp_girth Y a b)) (fun u t => wE D cy (va_A (wM cy h0 ad I F) sz) (wM cy h0 ad u.1 u.2) t) (va_A (wM cy h0 ad I F) sz)) 0 0 (va_A (wM cy h0 ad I F) sz) := by
  refine Met.ofW (cc := cX5_girth) (maxL := 3) (ret := (some .int)) (by decide) rfl ?_
  intro p e s m args below meth c s₁ B hml hv
  obtain ⟨rfl, hsz, hP, hK, hD0⟩ := hv
  have hx := B.exec
  have hb := B.bytes
  have hr := B.returns
  have hts := atoms_spec (ws := wsX5_girth) B.pre
  have hown : s.vm.findClass RX5 = some m.cls := findClass_of_methodNamed B.named
  have hlocks := B.notSynchronized
  subst hsz
  have hD := hD0.self (sz := s.heap.size)
  generalize hAe : va_A (wM cy h0 ad I F) s.heap.size = A at hD ⊢
  have hA : ∀ q : Nat, s.heap.size ≤ q → A q := w_A hAe
  have hS : va_S A s.heap s.heap [] := va_S.rf
  have hl := lv_entry ([.ref h0, .int (a), .int (b)]) (n := 3) (Nat.le_of_ble_eq_true rfl)
  rw [lg_entry_eq]
  generalize (lg_sl ([.ref h0, .int (a), .int (b)]) ++ List.replicate (3 - (lg_sl ([.ref h0, .int (a), .int (b)])).length) Slot.unset).toArray = ls at hl ⊢
  have hl : lv_has ls 3 [(0, .ref h0), (1, .int (a)), (2, .int (b))] := hl
  obtain ⟨hm1, hm2, hm3, hm4, hmF, hmB, hmC, hmR, hmW⟩ := id hM
  obtain ⟨hy0, hyF, hyB, hyC, hyf, hyb, hyc, hyr, hyw⟩ := id hY
  refine lv_aload_n hx hb dX5_girth_0 rfl (lv_at hl 0 rfl) ?_
  refine lv_iconst (v := (nI (0))) hx hb dX5_girth_1 (by decide) ?_
  refine va_put (D := D) (ci := 5) (v := .int (nI (0))) (ty := .int) (C := RX5) (T := TX5) (N := 34) hx hb hts (by decide +kernel) tyX5 tyX5_ok nmX5 hown hK hP hD hS 0 rfl rfl 0 (by decide) (hts (.fieldLink RX5 83 "CaskYardModel" "code" "I") (by decide +kernel)) (fun _ h9 => h9) rfl (by decide +kernel) rfl rfl (Nat.le_of_ble_eq_true rfl) dX5_girth_2 (fun H locs hP hD hS => ?_)
  have hP : va_P D vwCl (wM cy h0 ad (va_up I 0 (nI (0))) F) H := hP
  have hD : va_D A (wM cy h0 ad (va_up I 0 (nI (0))) F) := hD
  refine lv_aload_n hx hb dX5_girth_5 rfl (lv_at hl 0 rfl) ?_
  refine lv_iload_n hx hb dX5_girth_6 rfl (lv_at hl 1 rfl) ?_
  refine vp_callSi (va_Run.run (va_runV (As := [.int (a)]) (rest := []) ⟨hx, hb, hml, hown, hts⟩ (c_X5_isForm l D cy h0 ad (va_up I 0 (nI (0))) F (a) (yF Y) (hm1) (by omega)) (cwV 1 hts gX5_girth_X5_isForm rfl rfl rfl (by decide +kernel) ⟨Nat.le_of_ble_eq_true rfl, Nat.le_of_ble_eq_true rfl⟩) ⟨rB_blind, va_recv hK hP (ci := 5) (q0 := 0) rfl rfl, (rB_pre hP hK)⟩ rfl rfl hl.1 rfl (lv_room (Nat.le_of_ble_eq_true rfl)) dX5_girth_7 ⟨Nat.le_of_ble_eq_true rfl, Nat.le_of_ble_eq_true rfl⟩)) (fun r_7 hr_7 => ?_)
  subst hr_7
  refine g_ifne_b (tgt := 21) hx hb dX5_girth_10 (by decide) (fun c_10 => ?_) (fun c_10 => ?_)
  · skip
    have hxa := ix_c c_10.1
    have hia : ix a < yF Y := by omega
    have ha := ix_n c_10.1
    have hl : lv_has ls 3 [(0, .ref h0), (1, .int (nI (ix a))), (2, .int (b))] := by rw [← ha]; exact hl
    refine lv_aload_n hx hb dX5_girth_21 rfl (lv_at hl 0 rfl) ?_
    refine lv_iload_n hx hb dX5_girth_22 rfl (lv_at hl 1 rfl) ?_
    refine lv_iload_n hx hb dX5_girth_23 rfl (lv_at hl 2 rfl) ?_
    refine vp_callSi (va_Run.run (va_runV (As := [.int (nI (ix a)), .int (b)]) (rest := []) ⟨hx, hb, hml, hown, hts⟩ (c_X5_isHeight l D cy h0 ad (va_up I 0 (nI (0))) F (ix a) (Nat.lt_of_lt_of_le hia hyF) (b) (yh Y (ix a)) ((hmF (ix a) hia).1) ((hyf (ix a) hia).2.1)) (cwV 2 hts gX5_girth_X5_isHeight rfl rfl rfl (by decide +kernel) ⟨Nat.le_of_ble_eq_true rfl, Nat.le_of_ble_eq_true rfl⟩) ⟨rB_blind, va_recv hK hP (ci := 5) (q0 := 0) rfl rfl, (rB_pre hP hK)⟩ rfl rfl hl.1 rfl (lv_room (Nat.le_of_ble_eq_true rfl)) dX5_girth_24 ⟨Nat.le_of_ble_eq_true rfl, Nat.le_of_ble_eq_true rfl⟩)) (fun r_24 hr_24 => ?_)
    subst hr_24
    refine g_ifne_b (tgt := 38) hx hb dX5_girth_27 (by decide) (fun c_27 => ?_) (fun c_27 => ?_)
    · skip
      have hxb := ix_c c_27.1
      have hib : ix b ≤ yh Y (ix a) := by omega
      have hb2 := ix_n c_27.1
      have hl : lv_has ls 3 [(0, .ref h0), (1, .int (nI (ix a))), (2, .int (nI (ix b)))] := by rw [← hb2]; exact hl
      refine lv_aload_n hx hb dX5_girth_38 rfl (lv_at hl 0 rfl) ?_
      refine lv_iload_n hx hb dX5_girth_39 rfl (lv_at hl 1 rfl) ?_
      refine lv_iload_n hx hb dX5_girth_40 rfl (lv_at hl 2 rfl) ?_
      refine vp_callSi (va_Run.run (va_runV (As := [.int (nI (ix a)), .int (nI (ix b))]) (rest := []) ⟨hx, hb, hml, hown, hts⟩ (c_X5_girthOf l D cy h0 ad (va_up I 0 (nI (0))) F (ix a) (ix b) (Nat.lt_of_lt_of_le (show ix a < yF Y from hia) hyF) (yh Y (ix a)) (yg Y (ix a)) (ye Y (ix a)) ((hmF (ix a) (show ix a < yF Y from hia)).1) ((hmF (ix a) (show ix a < yF Y from hia)).2.1) ((hmF (ix a) (show ix a < yF Y from hia)).2.2.1) (form_b (hyf (ix a) (show ix a < yF Y from hia))) (hib)) (cwV 2 hts gX5_girth_X5_girthOf rfl rfl rfl (by decide +kernel) ⟨Nat.le_of_ble_eq_true rfl, Nat.le_of_ble_eq_true rfl⟩) ⟨rB_blind, va_recv hK hP (ci := 5) (q0 := 0) rfl rfl, (rB_pre hP hK)⟩ rfl rfl hl.1 rfl (lv_room (Nat.le_of_ble_eq_true rfl)) dX5_girth_41 ⟨Nat.le_of_ble_eq_true rfl, Nat.le_of_ble_eq_true rfl⟩)) (fun r_41 hr_41 => ?_)
      subst hr_41
      exact W.iret (v := (nI (girthN (yh Y (ix a)) (yg Y (ix a)) (ye Y (ix a)) (ix b)))) hx hb hr (fun t ht hW => ⟨⟨_, ((va_up I 0 (nI (0))), F), rfl, by rw [sp_girth, if_pos ⟨by omega, by omega⟩, if_pos ⟨by omega, by omega⟩]; exact ⟨rfl, fun _ => rfl, hM⟩, by rw [ht]; exact hP, va_K.moved hW.alike hK, hD⟩, hS.F ht⟩) hS.2.2 dX5_girth_44
    · skip
      refine lv_aload_n hx hb dX5_girth_30 rfl (lv_at hl 0 rfl) ?_
      refine lv_iconst (v := (nI (2))) hx hb dX5_girth_31 (by decide) ?_
      have hFc := w_free hD hS hA
      refine va_calli (va_runV (As := [.int (nI (2))]) (rest := []) ⟨hx, hb, hml, hown, hts⟩ (c_X5_fail l D cy H.size h0 ad (va_up I 0 (nI (0))) F (nI 2)) (cwV 1 hts gX5_girth_X5_fail rfl rfl rfl (by decide +kernel) ⟨Nat.le_of_ble_eq_true rfl, Nat.le_of_ble_eq_true rfl⟩) ⟨wB_blind, va_recv hK hP (ci := 5) (q0 := 0) rfl rfl, wB_pre hP hK hD⟩ rfl rfl hl.1 rfl (lv_room (Nat.le_of_ble_eq_true rfl)) dX5_girth_32 ⟨Nat.le_of_ble_eq_true rfl, Nat.le_of_ble_eq_true rfl⟩) hS (fun q _ h => hFc q h) hFc (fun r_32 u_32 t H locs ht hvm hw_32 hB _ _ hS => ?_)
      obtain ⟨I_32, F_32⟩ := u_32
      obtain ⟨hP1, hK1, hD1⟩ := hB
      rw [ht] at hP1
      dsimp only at hP1 hD1 hw_32
      obtain ⟨hw_32, hu_32⟩ := hw_32
      rw [(Prod.mk.inj hu_32).1, (Prod.mk.inj hu_32).2] at hP1 hD1
      have hP := hP1
      have hD := hD1.weaken (fun _ _ _ h => hFc _ h)
      have hP : va_P D vwCl (wM cy h0 ad (va_up I 0 (nI (2))) F) H := hP
      have hD : va_D A (wM cy h0 ad (va_up I 0 (nI (2))) F) := hD
      refine g_top (y := (nI (0))) (hw_32) ?_
      refine lv_goto (tgt := 44) hx hb dX5_girth_35 (by decide) ?_
      exact W.iret (v := (nI (0))) hx hb hr (fun t ht hW => ⟨⟨_, ((va_up I 0 (nI (2))), F), rfl, by rw [sp_girth, if_pos ⟨by omega, by omega⟩, if_neg (fun q => c_27 ⟨q.1, by omega⟩)]; exact MP_t rfl hM, by rw [ht]; exact hP, va_K.moved hW.alike hK, hD⟩, hS.F ht⟩) hS.2.2 dX5_girth_44
  · skip
    refine lv_aload_n hx hb dX5_girth_13 rfl (lv_at hl 0 rfl) ?_
    refine lv_iconst (v := (nI (1))) hx hb dX5_girth_14 (by decide) ?_
    have hFc := w_free hD hS hA
    refine va_calli (va_runV (As := [.int (nI (1))]) (rest := []) ⟨hx, hb, hml, hown, hts⟩ (c_X5_fail l D cy H.size h0 ad (va_up I 0 (nI (0))) F (nI 1)) (cwV 1 hts gX5_girth_X5_fail rfl rfl rfl (by decide +kernel) ⟨Nat.le_of_ble_eq_true rfl, Nat.le_of_ble_eq_true rfl⟩) ⟨wB_blind, va_recv hK hP (ci := 5) (q0 := 0) rfl rfl, wB_pre hP hK hD⟩ rfl rfl hl.1 rfl (lv_room (Nat.le_of_ble_eq_true rfl)) dX5_girth_15 ⟨Nat.le_of_ble_eq_true rfl, Nat.le_of_ble_eq_true rfl⟩) hS (fun q _ h => hFc q h) hFc (fun r_15 u_15 t H locs ht hvm hw_15 hB _ _ hS => ?_)
    obtain ⟨I_15, F_15⟩ := u_15
    obtain ⟨hP1, hK1, hD1⟩ := hB
    rw [ht] at hP1
    dsimp only at hP1 hD1 hw_15
    obtain ⟨hw_15, hu_15⟩ := hw_15
    rw [(Prod.mk.inj hu_15).1, (Prod.mk.inj hu_15).2] at hP1 hD1
    have hP := hP1
    have hD := hD1.weaken (fun _ _ _ h => hFc _ h)
    have hP : va_P D vwCl (wM cy h0 ad (va_up I 0 (nI (1))) F) H := hP
    have hD : va_D A (wM cy h0 ad (va_up I 0 (nI (1))) F) := hD
    refine g_top (y := (nI (0))) (hw_15) ?_
    refine lv_goto (tgt := 44) hx hb dX5_girth_18 (by decide) ?_
    exact W.iret (v := (nI (0))) hx hb hr (fun t ht hW => ⟨⟨_, ((va_up I 0 (nI (1))), F), rfl, by rw [sp_girth, if_neg (fun q => c_10 ⟨q.1, by omega⟩)]; exact MP_t rfl hM, by rw [ht]; exact hP, va_K.moved hW.alike hK, hD⟩, hS.F ht⟩) hS.2.2 dX5_girth_44
set_option maxHeartbeats 4000000 in
set_option maxRecDepth 100000 in
theorem c_X5_holds (l : Launch) (D : va_G) (cy : Nat → ClassId) (sz : Nat) (h0 : Nat) (ad : Nat → Nat) (I : Nat → Int32) (F : Nat → Nat → Int32) (Y : YT) (hM : MR I F Y) (hY : WF Y) (a b : Int32) : Met l yX5_holds wsX5_holds ({ frames := 2, cells := 0, slots := 0, locals := 48 } : Room) (va_Pc [.ref h0, .int (a), .int (b)] (wB D cy sz (wM cy h0 ad I F))) (va_Qi (fun (r : Int32) (u : (Nat → Int32) × (Nat → Nat → Int32)) => MP r u (sp_holds Y a b)) (fun u t => wE D cy (va_A (wM cy h0 ad I F) sz) (wM cy h0 ad u.1 u.2) t) (va_A (wM cy h0 ad I F) sz)) 0 0 (va_A (wM cy h0 ad I F) sz) := by
  refine Met.ofW (cc := cX5_holds) (maxL := 3) (ret := (some .int)) (by decide) rfl ?_
  intro p e s m args below meth c s₁ B hml hv
  obtain ⟨rfl, hsz, hP, hK, hD0⟩ := hv
  have hx := B.exec
  have hb := B.bytes
  have hr := B.returns
  have hts := atoms_spec (ws := wsX5_holds) B.pre
  have hown : s.vm.findClass RX5 = some m.cls := findClass_of_methodNamed B.named
  have hlocks := B.notSynchronized
  subst hsz
  have hD := hD0.self (sz := s.heap.size)
  generalize hAe : va_A (wM cy h0 ad I F) s.heap.size = A at hD ⊢
  have hA : ∀ q : Nat, s.heap.size ≤ q → A q := w_A hAe
  have hS : va_S A s.heap s.heap [] := va_S.rf
  have hl := lv_entry ([.ref h0, .int (a), .int (b)]) (n := 3) (Nat.le_of_ble_eq_true rfl)
  rw [lg_entry_eq]
  generalize (lg_sl ([.ref h0, .int (a), .int (b)]) ++ List.replicate (3 - (lg_sl ([.ref h0, .int (a), .int (b)])).length) Slot.unset).toArray = ls at hl ⊢
  have hl : lv_has ls 3 [(0, .ref h0), (1, .int (a)), (2, .int (b))] := hl
  obtain ⟨hm1, hm2, hm3, hm4, hmF, hmB, hmC, hmR, hmW⟩ := id hM
  obtain ⟨hy0, hyF, hyB, hyC, hyf, hyb, hyc, hyr, hyw⟩ := id hY
  refine lv_aload_n hx hb dX5_holds_0 rfl (lv_at hl 0 rfl) ?_
  refine lv_iconst (v := (nI (0))) hx hb dX5_holds_1 (by decide) ?_
  refine va_put (D := D) (ci := 5) (v := .int (nI (0))) (ty := .int) (C := RX5) (T := TX5) (N := 34) hx hb hts (by decide +kernel) tyX5 tyX5_ok nmX5 hown hK hP hD hS 0 rfl rfl 0 (by decide) (hts (.fieldLink RX5 83 "CaskYardModel" "code" "I") (by decide +kernel)) (fun _ h9 => h9) rfl (by decide +kernel) rfl rfl (Nat.le_of_ble_eq_true rfl) dX5_holds_2 (fun H locs hP hD hS => ?_)
  have hP : va_P D vwCl (wM cy h0 ad (va_up I 0 (nI (0))) F) H := hP
  have hD : va_D A (wM cy h0 ad (va_up I 0 (nI (0))) F) := hD
  refine lv_aload_n hx hb dX5_holds_5 rfl (lv_at hl 0 rfl) ?_
  refine lv_iload_n hx hb dX5_holds_6 rfl (lv_at hl 1 rfl) ?_
  refine vp_callSi (va_Run.run (va_runV (As := [.int (a)]) (rest := []) ⟨hx, hb, hml, hown, hts⟩ (c_X5_isForm l D cy h0 ad (va_up I 0 (nI (0))) F (a) (yF Y) (hm1) (by omega)) (cwV 1 hts gX5_holds_X5_isForm rfl rfl rfl (by decide +kernel) ⟨Nat.le_of_ble_eq_true rfl, Nat.le_of_ble_eq_true rfl⟩) ⟨rB_blind, va_recv hK hP (ci := 5) (q0 := 0) rfl rfl, (rB_pre hP hK)⟩ rfl rfl hl.1 rfl (lv_room (Nat.le_of_ble_eq_true rfl)) dX5_holds_7 ⟨Nat.le_of_ble_eq_true rfl, Nat.le_of_ble_eq_true rfl⟩)) (fun r_7 hr_7 => ?_)
  subst hr_7
  refine g_ifne_b (tgt := 21) hx hb dX5_holds_10 (by decide) (fun c_10 => ?_) (fun c_10 => ?_)
  · skip
    have hxa := ix_c c_10.1
    have hia : ix a < yF Y := by omega
    have ha := ix_n c_10.1
    have hl : lv_has ls 3 [(0, .ref h0), (1, .int (nI (ix a))), (2, .int (b))] := by rw [← ha]; exact hl
    refine lv_aload_n hx hb dX5_holds_21 rfl (lv_at hl 0 rfl) ?_
    refine lv_iload_n hx hb dX5_holds_22 rfl (lv_at hl 1 rfl) ?_
    refine lv_iload_n hx hb dX5_holds_23 rfl (lv_at hl 2 rfl) ?_
    refine vp_callSi (va_Run.run (va_runV (As := [.int (nI (ix a)), .int (b)]) (rest := []) ⟨hx, hb, hml, hown, hts⟩ (c_X5_isHeight l D cy h0 ad (va_up I 0 (nI (0))) F (ix a) (Nat.lt_of_lt_of_le hia hyF) (b) (yh Y (ix a)) ((hmF (ix a) hia).1) ((hyf (ix a) hia).2.1)) (cwV 2 hts gX5_holds_X5_isHeight rfl rfl rfl (by decide +kernel) ⟨Nat.le_of_ble_eq_true rfl, Nat.le_of_ble_eq_true rfl⟩) ⟨rB_blind, va_recv hK hP (ci := 5) (q0 := 0) rfl rfl, (rB_pre hP hK)⟩ rfl rfl hl.1 rfl (lv_room (Nat.le_of_ble_eq_true rfl)) dX5_holds_24 ⟨Nat.le_of_ble_eq_true rfl, Nat.le_of_ble_eq_true rfl⟩)) (fun r_24 hr_24 => ?_)
    subst hr_24
    refine g_ifne_b (tgt := 38) hx hb dX5_holds_27 (by decide) (fun c_27 => ?_) (fun c_27 => ?_)
    · skip
      have hxb := ix_c c_27.1
      have hib : ix b ≤ yh Y (ix a) := by omega
      have hb2 := ix_n c_27.1
      have hl : lv_has ls 3 [(0, .ref h0), (1, .int (nI (ix a))), (2, .int (nI (ix b)))] := by rw [← hb2]; exact hl
      refine lv_aload_n hx hb dX5_holds_38 rfl (lv_at hl 0 rfl) ?_
      refine lv_iload_n hx hb dX5_holds_39 rfl (lv_at hl 1 rfl) ?_
      refine lv_iload_n hx hb dX5_holds_40 rfl (lv_at hl 2 rfl) ?_
      refine vp_callSi (va_Run.run (va_runV (As := [.int (nI (ix a)), .int (nI (ix b))]) (rest := []) ⟨hx, hb, hml, hown, hts⟩ (c_X5_holdsAt l D cy h0 ad (va_up I 0 (nI (0))) F (ix a) (ix b) (Nat.lt_of_lt_of_le (show ix a < yF Y from hia) hyF) (yh Y (ix a)) (yg Y (ix a)) (ye Y (ix a)) ((hmF (ix a) (show ix a < yF Y from hia)).1) ((hmF (ix a) (show ix a < yF Y from hia)).2.1) ((hmF (ix a) (show ix a < yF Y from hia)).2.2.1) (form_b (hyf (ix a) (show ix a < yF Y from hia))) (hib)) (cwV 2 hts gX5_holds_X5_holdsAt rfl rfl rfl (by decide +kernel) ⟨Nat.le_of_ble_eq_true rfl, Nat.le_of_ble_eq_true rfl⟩) ⟨rB_blind, va_recv hK hP (ci := 5) (q0 := 0) rfl rfl, (rB_pre hP hK)⟩ rfl rfl hl.1 rfl (lv_room (Nat.le_of_ble_eq_true rfl)) dX5_holds_41 ⟨Nat.le_of_ble_eq_true rfl, Nat.le_of_ble_eq_true rfl⟩)) (fun r_41 hr_41 => ?_)
      subst hr_41
      exact W.iret (v := (nI (holdsN (yh Y (ix a)) (yg Y (ix a)) (ye Y (ix a)) (ix b)))) hx hb hr (fun t ht hW => ⟨⟨_, ((va_up I 0 (nI (0))), F), rfl, by rw [sp_holds, if_pos ⟨by omega, by omega⟩, if_pos ⟨by omega, by omega⟩]; exact ⟨rfl, fun _ => rfl, hM⟩, by rw [ht]; exact hP, va_K.moved hW.alike hK, hD⟩, hS.F ht⟩) hS.2.2 dX5_holds_44
    · skip
      refine lv_aload_n hx hb dX5_holds_30 rfl (lv_at hl 0 rfl) ?_
      refine lv_iconst (v := (nI (2))) hx hb dX5_holds_31 (by decide) ?_
      have hFc := w_free hD hS hA
      refine va_calli (va_runV (As := [.int (nI (2))]) (rest := []) ⟨hx, hb, hml, hown, hts⟩ (c_X5_fail l D cy H.size h0 ad (va_up I 0 (nI (0))) F (nI 2)) (cwV 1 hts gX5_holds_X5_fail rfl rfl rfl (by decide +kernel) ⟨Nat.le_of_ble_eq_true rfl, Nat.le_of_ble_eq_true rfl⟩) ⟨wB_blind, va_recv hK hP (ci := 5) (q0 := 0) rfl rfl, wB_pre hP hK hD⟩ rfl rfl hl.1 rfl (lv_room (Nat.le_of_ble_eq_true rfl)) dX5_holds_32 ⟨Nat.le_of_ble_eq_true rfl, Nat.le_of_ble_eq_true rfl⟩) hS (fun q _ h => hFc q h) hFc (fun r_32 u_32 t H locs ht hvm hw_32 hB _ _ hS => ?_)
      obtain ⟨I_32, F_32⟩ := u_32
      obtain ⟨hP1, hK1, hD1⟩ := hB
      rw [ht] at hP1
      dsimp only at hP1 hD1 hw_32
      obtain ⟨hw_32, hu_32⟩ := hw_32
      rw [(Prod.mk.inj hu_32).1, (Prod.mk.inj hu_32).2] at hP1 hD1
      have hP := hP1
      have hD := hD1.weaken (fun _ _ _ h => hFc _ h)
      have hP : va_P D vwCl (wM cy h0 ad (va_up I 0 (nI (2))) F) H := hP
      have hD : va_D A (wM cy h0 ad (va_up I 0 (nI (2))) F) := hD
      refine g_top (y := (nI (0))) (hw_32) ?_
      refine lv_goto (tgt := 44) hx hb dX5_holds_35 (by decide) ?_
      exact W.iret (v := (nI (0))) hx hb hr (fun t ht hW => ⟨⟨_, ((va_up I 0 (nI (2))), F), rfl, by rw [sp_holds, if_pos ⟨by omega, by omega⟩, if_neg (fun q => c_27 ⟨q.1, by omega⟩)]; exact MP_t rfl hM, by rw [ht]; exact hP, va_K.moved hW.alike hK, hD⟩, hS.F ht⟩) hS.2.2 dX5_holds_44
  · skip
    refine lv_aload_n hx hb dX5_holds_13 rfl (lv_at hl 0 rfl) ?_
    refine lv_iconst (v := (nI (1))) hx hb dX5_holds_14 (by decide) ?_
    have hFc := w_free hD hS hA
    refine va_calli (va_runV (As := [.int (nI (1))]) (rest := []) ⟨hx, hb, hml, hown, hts⟩ (c_X5_fail l D cy H.size h0 ad (va_up I 0 (nI (0))) F (nI 1)) (cwV 1 hts gX5_holds_X5_fail rfl rfl rfl (by decide +kernel) ⟨Nat.le_of_ble_eq_true rfl, Nat.le_of_ble_eq_true rfl⟩) ⟨wB_blind, va_recv hK hP (ci := 5) (q0 := 0) rfl rfl, wB_pre hP hK hD⟩ rfl rfl hl.1 rfl (lv_room (Nat.le_of_ble_eq_true rfl)) dX5_holds_15 ⟨Nat.le_of_ble_eq_true rfl, Nat.le_of_ble_eq_true rfl⟩) hS (fun q _ h => hFc q h) hFc (fun r_15 u_15 t H locs ht hvm hw_15 hB _ _ hS => ?_)
    obtain ⟨I_15, F_15⟩ := u_15
    obtain ⟨hP1, hK1, hD1⟩ := hB
    rw [ht] at hP1
    dsimp only at hP1 hD1 hw_15
    obtain ⟨hw_15, hu_15⟩ := hw_15
    rw [(Prod.mk.inj hu_15).1, (Prod.mk.inj hu_15).2] at hP1 hD1
    have hP := hP1
    have hD := hD1.weaken (fun _ _ _ h => hFc _ h)
    have hP : va_P D vwCl (wM cy h0 ad (va_up I 0 (nI (1))) F) H := hP
    have hD : va_D A (wM cy h0 ad (va_up I 0 (nI (1))) F) := hD
    refine g_top (y := (nI (0))) (hw_15) ?_
    refine lv_goto (tgt := 44) hx hb dX5_holds_18 (by decide) ?_
    exact W.iret (v := (nI (0))) hx hb hr (fun t ht hW => ⟨⟨_, ((va_up I 0 (nI (1))), F), rfl, by rw [sp_holds, if_neg (fun q => c_10 ⟨q.1, by omega⟩)]; exact MP_t rfl hM, by rw [ht]; exact hP, va_K.moved hW.alike hK, hD⟩, hS.F ht⟩) hS.2.2 dX5_holds_44
set_option maxHeartbeats 4000000 in
set_option maxRecDepth 100000 in
theorem c_X5_width (l : Launch) (D : va_G) (cy : Nat → ClassId) (sz : Nat) (h0 : Nat) (ad : Nat → Nat) (I : Nat → Int32) (F : Nat → Nat → Int32) (Y : YT) (hM : MR I F Y) (hY : WF Y) (a b v : Int32) : Met l yX5_width wsX5_width ({ frames := 2, cells := 0, slots := 0, locals := 47 } : Room) (va_Pc [.ref h0, .int (a), .int (b), .int (v)] (wB D cy sz (wM cy h0 ad I F))) (va_Qi (fun (r : Int32) (u : (Nat → Int32) × (Nat → Nat → Int32)) => MP r u (sp_width Y a b v)) (fun u t => wE D cy (va_A (wM cy h0 ad I F) sz) (wM cy h0 ad u.1 u.2) t) (va_A (wM cy h0 ad I F) sz)) 0 0 (va_A (wM cy h0 ad I F) sz) := by
  refine Met.ofW (cc := cX5_width) (maxL := 4) (ret := (some .int)) (by decide) rfl ?_
  intro p e s m args below meth c s₁ B hml hv
  obtain ⟨rfl, hsz, hP, hK, hD0⟩ := hv
  have hx := B.exec
  have hb := B.bytes
  have hr := B.returns
  have hts := atoms_spec (ws := wsX5_width) B.pre
  have hown : s.vm.findClass RX5 = some m.cls := findClass_of_methodNamed B.named
  have hlocks := B.notSynchronized
  subst hsz
  have hD := hD0.self (sz := s.heap.size)
  generalize hAe : va_A (wM cy h0 ad I F) s.heap.size = A at hD ⊢
  have hA : ∀ q : Nat, s.heap.size ≤ q → A q := w_A hAe
  have hS : va_S A s.heap s.heap [] := va_S.rf
  have hl := lv_entry ([.ref h0, .int (a), .int (b), .int (v)]) (n := 4) (Nat.le_of_ble_eq_true rfl)
  rw [lg_entry_eq]
  generalize (lg_sl ([.ref h0, .int (a), .int (b), .int (v)]) ++ List.replicate (4 - (lg_sl ([.ref h0, .int (a), .int (b), .int (v)])).length) Slot.unset).toArray = ls at hl ⊢
  have hl : lv_has ls 4 [(0, .ref h0), (1, .int (a)), (2, .int (b)), (3, .int (v))] := hl
  obtain ⟨hm1, hm2, hm3, hm4, hmF, hmB, hmC, hmR, hmW⟩ := id hM
  obtain ⟨hy0, hyF, hyB, hyC, hyf, hyb, hyc, hyr, hyw⟩ := id hY
  have hxa := ix_m a
  have hxb := ix_m b
  have hxv := ix_m v
  refine lv_aload_n hx hb dX5_width_0 rfl (lv_at hl 0 rfl) ?_
  refine lv_iconst (v := (nI (0))) hx hb dX5_width_1 (by decide) ?_
  refine va_put (D := D) (ci := 5) (v := .int (nI (0))) (ty := .int) (C := RX5) (T := TX5) (N := 34) hx hb hts (by decide +kernel) tyX5 tyX5_ok nmX5 hown hK hP hD hS 0 rfl rfl 0 (by decide) (hts (.fieldLink RX5 83 "CaskYardModel" "code" "I") (by decide +kernel)) (fun _ h9 => h9) rfl (by decide +kernel) rfl rfl (Nat.le_of_ble_eq_true rfl) dX5_width_2 (fun H locs hP hD hS => ?_)
  have hP : va_P D vwCl (wM cy h0 ad (va_up I 0 (nI (0))) F) H := hP
  have hD : va_D A (wM cy h0 ad (va_up I 0 (nI (0))) F) := hD
  refine lv_aload_n hx hb dX5_width_5 rfl (lv_at hl 0 rfl) ?_
  refine lv_iload_n hx hb dX5_width_6 rfl (lv_at hl 1 rfl) ?_
  refine vp_callSi (va_Run.run (va_runV (As := [.int (a)]) (rest := []) ⟨hx, hb, hml, hown, hts⟩ (c_X5_isForm l D cy h0 ad (va_up I 0 (nI (0))) F (a) (yF Y) (hm1) (by omega)) (cwV 1 hts gX5_width_X5_isForm rfl rfl rfl (by decide +kernel) ⟨Nat.le_of_ble_eq_true rfl, Nat.le_of_ble_eq_true rfl⟩) ⟨rB_blind, va_recv hK hP (ci := 5) (q0 := 0) rfl rfl, (rB_pre hP hK)⟩ rfl rfl hl.1 rfl (lv_room (Nat.le_of_ble_eq_true rfl)) dX5_width_7 ⟨Nat.le_of_ble_eq_true rfl, Nat.le_of_ble_eq_true rfl⟩)) (fun r_7 hr_7 => ?_)
  subst hr_7
  refine g_ifeq_b (tgt := 27) hx hb dX5_width_10 (by decide) (fun c_10 => ?_) (fun c_10 => ?_)
  · skip
    refine lv_aload_n hx hb dX5_width_27 rfl (lv_at hl 0 rfl) ?_
    refine lv_iconst (v := (nI (1))) hx hb dX5_width_28 (by decide) ?_
    have hFc := w_free hD hS hA
    refine va_calli (va_runV (As := [.int (nI (1))]) (rest := []) ⟨hx, hb, hml, hown, hts⟩ (c_X5_fail l D cy H.size h0 ad (va_up I 0 (nI (0))) F (nI (1))) (cwV 1 hts gX5_width_X5_fail rfl rfl rfl (by decide +kernel) ⟨Nat.le_of_ble_eq_true rfl, Nat.le_of_ble_eq_true rfl⟩) ⟨wB_blind, va_recv hK hP (ci := 5) (q0 := 0) rfl rfl, wB_pre hP hK hD⟩ rfl rfl hl.1 rfl (lv_room (Nat.le_of_ble_eq_true rfl)) dX5_width_29 ⟨Nat.le_of_ble_eq_true rfl, Nat.le_of_ble_eq_true rfl⟩) hS (fun q _ h => hFc q h) hFc (fun r_29 u_29 t H locs ht hvm hw_29 hB _ _ hS => ?_)
    obtain ⟨I_29, F_29⟩ := u_29
    obtain ⟨hP1, hK1, hD1⟩ := hB
    rw [ht] at hP1
    dsimp only at hP1 hD1 hw_29
    obtain ⟨hw_29, hu_29⟩ := hw_29
    rw [(Prod.mk.inj hu_29).1, (Prod.mk.inj hu_29).2] at hP1 hD1
    have hP := hP1
    have hD := hD1.weaken (fun _ _ _ h => hFc _ h)
    have hP : va_P D vwCl (wM cy h0 ad (va_up I 0 (nI (1))) F) H := hP
    have hD : va_D A (wM cy h0 ad (va_up I 0 (nI (1))) F) := hD
    refine g_top (y := (nI (0))) (hw_29) ?_
    exact W.iret (v := (nI (0))) hx hb hr (fun t ht hW => ⟨⟨_, ((va_up I 0 (nI (1))), F), rfl, by rw [sp_width, if_neg (by omega)]; exact MP_t rfl hM, by rw [ht]; exact hP, va_K.moved hW.alike hK, hD⟩, hS.F ht⟩) hS.2.2 dX5_width_32
  · skip
    have h_a := ix_n (a := a) (by omega)
    have hia : ix a < yF Y := by omega
    have hfo := hyf (ix a) hia
    have hl : lv_has ls 4 [(0, .ref h0), (1, .int (nI (ix a))), (2, .int (b)), (3, .int (v))] := by rw [← h_a]; exact hl
    refine lv_iload_n hx hb dX5_width_13 rfl (lv_at hl 2 rfl) ?_
    refine g_if_lt (tgt := 27) hx hb dX5_width_14 (by decide) rfl (fun c_14 => ?_) (fun c_14 => ?_)
    · skip
      refine lv_aload_n hx hb dX5_width_27 rfl (lv_at hl 0 rfl) ?_
      refine lv_iconst (v := (nI (1))) hx hb dX5_width_28 (by decide) ?_
      have hFc := w_free hD hS hA
      refine va_calli (va_runV (As := [.int (nI (1))]) (rest := []) ⟨hx, hb, hml, hown, hts⟩ (c_X5_fail l D cy H.size h0 ad (va_up I 0 (nI (0))) F (nI (1))) (cwV 1 hts gX5_width_X5_fail rfl rfl rfl (by decide +kernel) ⟨Nat.le_of_ble_eq_true rfl, Nat.le_of_ble_eq_true rfl⟩) ⟨wB_blind, va_recv hK hP (ci := 5) (q0 := 0) rfl rfl, wB_pre hP hK hD⟩ rfl rfl hl.1 rfl (lv_room (Nat.le_of_ble_eq_true rfl)) dX5_width_29 ⟨Nat.le_of_ble_eq_true rfl, Nat.le_of_ble_eq_true rfl⟩) hS (fun q _ h => hFc q h) hFc (fun r_29 u_29 t H locs ht hvm hw_29 hB _ _ hS => ?_)
      obtain ⟨I_29, F_29⟩ := u_29
      obtain ⟨hP1, hK1, hD1⟩ := hB
      rw [ht] at hP1
      dsimp only at hP1 hD1 hw_29
      obtain ⟨hw_29, hu_29⟩ := hw_29
      rw [(Prod.mk.inj hu_29).1, (Prod.mk.inj hu_29).2] at hP1 hD1
      have hP := hP1
      have hD := hD1.weaken (fun _ _ _ h => hFc _ h)
      have hP : va_P D vwCl (wM cy h0 ad (va_up I 0 (nI (1))) F) H := hP
      have hD : va_D A (wM cy h0 ad (va_up I 0 (nI (1))) F) := hD
      refine g_top (y := (nI (0))) (hw_29) ?_
      exact W.iret (v := (nI (0))) hx hb hr (fun t ht hW => ⟨⟨_, ((va_up I 0 (nI (1))), F), rfl, by rw [sp_width, if_neg (by omega)]; exact MP_t rfl hM, by rw [ht]; exact hP, va_K.moved hW.alike hK, hD⟩, hS.F ht⟩) hS.2.2 dX5_width_32
    · skip
      refine lv_iload_n hx hb dX5_width_17 rfl (lv_at hl 2 rfl) ?_
      refine lv_aload_n hx hb dX5_width_18 rfl (lv_at hl 0 rfl) ?_
      refine va_get (D := D) (ci := 5) (v := .ref ((ad 8))) (C := RX5) (T := TX5) (N := 34) hx hb hts (by decide +kernel) hown hK hP 0 rfl rfl 8 (by decide) (hts (.fieldLink RX5 19 "CaskYardModel" "staves" "[I") (by decide +kernel)) (fun _ h9 => h9) rfl dX5_width_19 ?_
      refine lv_iload_n hx hb dX5_width_22 rfl (lv_at hl 1 rfl) ?_
      refine g_iald hx hb hK hP 4 0 rfl rfl (ix a) rfl (by omega) (by decide) dX5_width_23 ?_
      refine g_top (y := (nI (ys Y (ix a)))) (hmF (ix a) (by omega)).2.2.2 ?_
      refine g_icmp_lt (tgt := 33) hx hb dX5_width_24 (by decide) rfl (n_i (by omega)) (fun c_24 => ?_) (fun c_24 => ?_)
      · skip
        have h_b := ix_n (a := b) (by omega)
        have hl : lv_has ls 4 [(0, .ref h0), (1, .int (nI (ix a))), (2, .int (nI (ix b))), (3, .int (v))] := by rw [← h_b]; exact hl
        refine lv_aload_n hx hb dX5_width_33 rfl (lv_at hl 0 rfl) ?_
        refine lv_iload_n hx hb dX5_width_34 rfl (lv_at hl 1 rfl) ?_
        refine lv_iload_n hx hb dX5_width_35 rfl (lv_at hl 3 rfl) ?_
        refine vp_callSi (va_Run.run (va_runV (As := [.int (nI (ix a)), .int (v)]) (rest := []) ⟨hx, hb, hml, hown, hts⟩ (c_X5_isHeight l D cy h0 ad (va_up I 0 (nI (0))) F (ix a) (Nat.lt_of_lt_of_le hia hyF) (v) (yh Y (ix a)) ((hmF (ix a) hia).1) ((hyf (ix a) hia).2.1)) (cwV 2 hts gX5_width_X5_isHeight rfl rfl rfl (by decide +kernel) ⟨Nat.le_of_ble_eq_true rfl, Nat.le_of_ble_eq_true rfl⟩) ⟨rB_blind, va_recv hK hP (ci := 5) (q0 := 0) rfl rfl, (rB_pre hP hK)⟩ rfl rfl hl.1 rfl (lv_room (Nat.le_of_ble_eq_true rfl)) dX5_width_36 ⟨Nat.le_of_ble_eq_true rfl, Nat.le_of_ble_eq_true rfl⟩)) (fun r_36 hr_36 => ?_)
        subst hr_36
        refine g_ifeq_b (tgt := 52) hx hb dX5_width_39 (by decide) (fun c_39 => ?_) (fun c_39 => ?_)
        · skip
          refine lv_aload_n hx hb dX5_width_52 rfl (lv_at hl 0 rfl) ?_
          refine lv_iconst (v := (nI (2))) hx hb dX5_width_53 (by decide) ?_
          have hFc := w_free hD hS hA
          refine va_calli (va_runV (As := [.int (nI (2))]) (rest := []) ⟨hx, hb, hml, hown, hts⟩ (c_X5_fail l D cy H.size h0 ad (va_up I 0 (nI (0))) F (nI (2))) (cwV 1 hts gX5_width_X5_fail rfl rfl rfl (by decide +kernel) ⟨Nat.le_of_ble_eq_true rfl, Nat.le_of_ble_eq_true rfl⟩) ⟨wB_blind, va_recv hK hP (ci := 5) (q0 := 0) rfl rfl, wB_pre hP hK hD⟩ rfl rfl hl.1 rfl (lv_room (Nat.le_of_ble_eq_true rfl)) dX5_width_54 ⟨Nat.le_of_ble_eq_true rfl, Nat.le_of_ble_eq_true rfl⟩) hS (fun q _ h => hFc q h) hFc (fun r_54 u_54 t H locs ht hvm hw_54 hB _ _ hS => ?_)
          obtain ⟨I_54, F_54⟩ := u_54
          obtain ⟨hP1, hK1, hD1⟩ := hB
          rw [ht] at hP1
          dsimp only at hP1 hD1 hw_54
          obtain ⟨hw_54, hu_54⟩ := hw_54
          rw [(Prod.mk.inj hu_54).1, (Prod.mk.inj hu_54).2] at hP1 hD1
          have hP := hP1
          have hD := hD1.weaken (fun _ _ _ h => hFc _ h)
          have hP : va_P D vwCl (wM cy h0 ad (va_up I 0 (nI (2))) F) H := hP
          have hD : va_D A (wM cy h0 ad (va_up I 0 (nI (2))) F) := hD
          refine g_top (y := (nI (0))) (hw_54) ?_
          exact W.iret (v := (nI (0))) hx hb hr (fun t ht hW => ⟨⟨_, ((va_up I 0 (nI (2))), F), rfl, by rw [sp_width, if_pos (by omega), if_neg (by omega)]; exact MP_t rfl hM, by rw [ht]; exact hP, va_K.moved hW.alike hK, hD⟩, hS.F ht⟩) hS.2.2 dX5_width_57
        · skip
          have h_v := ix_n (a := v) (by omega)
          have hl : lv_has ls 4 [(0, .ref h0), (1, .int (nI (ix a))), (2, .int (nI (ix b))), (3, .int (nI (ix v)))] := by rw [← h_v]; exact hl
          refine lv_aload_n hx hb dX5_width_42 rfl (lv_at hl 0 rfl) ?_
          refine lv_iload_n hx hb dX5_width_43 rfl (lv_at hl 1 rfl) ?_
          refine lv_iload_n hx hb dX5_width_44 rfl (lv_at hl 2 rfl) ?_
          refine lv_iload_n hx hb dX5_width_45 rfl (lv_at hl 3 rfl) ?_
          refine vp_callSi (va_Run.run (va_runV (As := [.int (nI (ix a)), .int (nI (ix b)), .int (nI (ix v))]) (rest := []) ⟨hx, hb, hml, hown, hts⟩ (c_X5_widthOf l D cy h0 ad (va_up I 0 (nI (0))) F (ix a) (ix b) (ix v) (Nat.lt_of_lt_of_le hia hyF) (yh Y (ix a)) (yg Y (ix a)) (ye Y (ix a)) ((hmF (ix a) hia).1) ((hmF (ix a) hia).2.1) ((hmF (ix a) hia).2.2.1) (form_b (hyf (ix a) hia)) (by omega) (ys Y (ix a)) ((hmF (ix a) hia).2.2.2) (by omega) ((hyf (ix a) hia).2.2.2.2.2.2.2.2)) (cwV 3 hts gX5_width_X5_widthOf rfl rfl rfl (by decide +kernel) ⟨Nat.le_of_ble_eq_true rfl, Nat.le_of_ble_eq_true rfl⟩) ⟨rB_blind, va_recv hK hP (ci := 5) (q0 := 0) rfl rfl, (rB_pre hP hK)⟩ rfl rfl hl.1 rfl (lv_room (Nat.le_of_ble_eq_true rfl)) dX5_width_46 ⟨Nat.le_of_ble_eq_true rfl, Nat.le_of_ble_eq_true rfl⟩)) (fun r_46 hr_46 => ?_)
          subst hr_46
          refine lv_goto (tgt := 57) hx hb dX5_width_49 (by decide) ?_
          exact W.iret (v := (nI (widthN (ys Y (ix a)) (ix b) (girthN (yh Y (ix a)) (yg Y (ix a)) (ye Y (ix a)) (ix v))))) hx hb hr (fun t ht hW => ⟨⟨_, ((va_up I 0 (nI (0))), F), rfl, by rw [sp_width, if_pos (by omega), if_pos (by omega)]; exact ⟨rfl, fun _ => rfl, hM⟩, by rw [ht]; exact hP, va_K.moved hW.alike hK, hD⟩, hS.F ht⟩) hS.2.2 dX5_width_57
      · skip
        refine lv_aload_n hx hb dX5_width_27 rfl (lv_at hl 0 rfl) ?_
        refine lv_iconst (v := (nI (1))) hx hb dX5_width_28 (by decide) ?_
        have hFc := w_free hD hS hA
        refine va_calli (va_runV (As := [.int (nI (1))]) (rest := []) ⟨hx, hb, hml, hown, hts⟩ (c_X5_fail l D cy H.size h0 ad (va_up I 0 (nI (0))) F (nI (1))) (cwV 1 hts gX5_width_X5_fail rfl rfl rfl (by decide +kernel) ⟨Nat.le_of_ble_eq_true rfl, Nat.le_of_ble_eq_true rfl⟩) ⟨wB_blind, va_recv hK hP (ci := 5) (q0 := 0) rfl rfl, wB_pre hP hK hD⟩ rfl rfl hl.1 rfl (lv_room (Nat.le_of_ble_eq_true rfl)) dX5_width_29 ⟨Nat.le_of_ble_eq_true rfl, Nat.le_of_ble_eq_true rfl⟩) hS (fun q _ h => hFc q h) hFc (fun r_29 u_29 t H locs ht hvm hw_29 hB _ _ hS => ?_)
        obtain ⟨I_29, F_29⟩ := u_29
        obtain ⟨hP1, hK1, hD1⟩ := hB
        rw [ht] at hP1
        dsimp only at hP1 hD1 hw_29
        obtain ⟨hw_29, hu_29⟩ := hw_29
        rw [(Prod.mk.inj hu_29).1, (Prod.mk.inj hu_29).2] at hP1 hD1
        have hP := hP1
        have hD := hD1.weaken (fun _ _ _ h => hFc _ h)
        have hP : va_P D vwCl (wM cy h0 ad (va_up I 0 (nI (1))) F) H := hP
        have hD : va_D A (wM cy h0 ad (va_up I 0 (nI (1))) F) := hD
        refine g_top (y := (nI (0))) (hw_29) ?_
        exact W.iret (v := (nI (0))) hx hb hr (fun t ht hW => ⟨⟨_, ((va_up I 0 (nI (1))), F), rfl, by rw [sp_width, if_neg (by omega)]; exact MP_t rfl hM, by rw [ht]; exact hP, va_K.moved hW.alike hK, hD⟩, hS.F ht⟩) hS.2.2 dX5_width_32
set_option maxHeartbeats 4000000 in
set_option maxRecDepth 100000 in
theorem c_X5_level (l : Launch) (D : va_G) (cy : Nat → ClassId) (sz : Nat) (h0 : Nat) (ad : Nat → Nat) (I : Nat → Int32) (F : Nat → Nat → Int32) (Y : YT) (hM : MR I F Y) (hY : WF Y) (a b : Int32) : Met l yX5_level wsX5_level ({ frames := 2, cells := 0, slots := 0, locals := 48 } : Room) (va_Pc [.ref h0, .int (a), .int (b)] (wB D cy sz (wM cy h0 ad I F))) (va_Qi (fun (r : Int32) (u : (Nat → Int32) × (Nat → Nat → Int32)) => MP r u (sp_level Y a b)) (fun u t => wE D cy (va_A (wM cy h0 ad I F) sz) (wM cy h0 ad u.1 u.2) t) (va_A (wM cy h0 ad I F) sz)) 0 0 (va_A (wM cy h0 ad I F) sz) := by
  refine Met.ofW (cc := cX5_level) (maxL := 4) (ret := (some .int)) (by decide) rfl ?_
  intro p e s m args below meth c s₁ B hml hv
  obtain ⟨rfl, hsz, hP, hK, hD0⟩ := hv
  have hx := B.exec
  have hb := B.bytes
  have hr := B.returns
  have hts := atoms_spec (ws := wsX5_level) B.pre
  have hown : s.vm.findClass RX5 = some m.cls := findClass_of_methodNamed B.named
  have hlocks := B.notSynchronized
  subst hsz
  have hD := hD0.self (sz := s.heap.size)
  generalize hAe : va_A (wM cy h0 ad I F) s.heap.size = A at hD ⊢
  have hA : ∀ q : Nat, s.heap.size ≤ q → A q := w_A hAe
  have hS : va_S A s.heap s.heap [] := va_S.rf
  have hl := lv_entry ([.ref h0, .int (a), .int (b)]) (n := 4) (Nat.le_of_ble_eq_true rfl)
  rw [lg_entry_eq]
  generalize (lg_sl ([.ref h0, .int (a), .int (b)]) ++ List.replicate (4 - (lg_sl ([.ref h0, .int (a), .int (b)])).length) Slot.unset).toArray = ls at hl ⊢
  have hl : lv_has ls 4 [(0, .ref h0), (1, .int (a)), (2, .int (b))] := hl
  obtain ⟨hm1, hm2, hm3, hm4, hmF, hmB, hmC, hmR, hmW⟩ := id hM
  obtain ⟨hy0, hyF, hyB, hyC, hyf, hyb, hyc, hyr, hyw⟩ := id hY
  have hxa := ix_m a
  have hxb := ix_m b
  refine lv_aload_n hx hb dX5_level_0 rfl (lv_at hl 0 rfl) ?_
  refine lv_iconst (v := (nI (0))) hx hb dX5_level_1 (by decide) ?_
  refine va_put (D := D) (ci := 5) (v := .int (nI (0))) (ty := .int) (C := RX5) (T := TX5) (N := 34) hx hb hts (by decide +kernel) tyX5 tyX5_ok nmX5 hown hK hP hD hS 0 rfl rfl 0 (by decide) (hts (.fieldLink RX5 83 "CaskYardModel" "code" "I") (by decide +kernel)) (fun _ h9 => h9) rfl (by decide +kernel) rfl rfl (Nat.le_of_ble_eq_true rfl) dX5_level_2 (fun H locs hP hD hS => ?_)
  have hP : va_P D vwCl (wM cy h0 ad (va_up I 0 (nI (0))) F) H := hP
  have hD : va_D A (wM cy h0 ad (va_up I 0 (nI (0))) F) := hD
  refine lv_aload_n hx hb dX5_level_5 rfl (lv_at hl 0 rfl) ?_
  refine lv_iload_n hx hb dX5_level_6 rfl (lv_at hl 1 rfl) ?_
  refine vp_callSi (va_Run.run (va_runV (As := [.int (a)]) (rest := []) ⟨hx, hb, hml, hown, hts⟩ (c_X5_isForm l D cy h0 ad (va_up I 0 (nI (0))) F (a) (yF Y) (hm1) (by omega)) (cwV 1 hts gX5_level_X5_isForm rfl rfl rfl (by decide +kernel) ⟨Nat.le_of_ble_eq_true rfl, Nat.le_of_ble_eq_true rfl⟩) ⟨rB_blind, va_recv hK hP (ci := 5) (q0 := 0) rfl rfl, (rB_pre hP hK)⟩ rfl rfl hl.1 rfl (lv_room (Nat.le_of_ble_eq_true rfl)) dX5_level_7 ⟨Nat.le_of_ble_eq_true rfl, Nat.le_of_ble_eq_true rfl⟩)) (fun r_7 hr_7 => ?_)
  subst hr_7
  refine g_ifne_b (tgt := 19) hx hb dX5_level_10 (by decide) (fun c_10 => ?_) (fun c_10 => ?_)
  · skip
    have h_a := ix_n (a := a) (by omega)
    have hia : ix a < yF Y := by omega
    have hfo := hyf (ix a) hia
    have hl : lv_has ls 4 [(0, .ref h0), (1, .int (nI (ix a))), (2, .int (b))] := by rw [← h_a]; exact hl
    refine lv_iload_n hx hb dX5_level_19 rfl (lv_at hl 2 rfl) ?_
    refine g_if_ge (tgt := 29) hx hb dX5_level_20 (by decide) rfl (fun c_20 => ?_) (fun c_20 => ?_)
    · skip
      have h_b := ix_n (a := b) (by omega)
      have hi9 := i_hi b
      have hl : lv_has ls 4 [(0, .ref h0), (1, .int (nI (ix a))), (2, .int (nI (ix b)))] := by rw [← h_b]; exact hl
      refine lv_iconst (v := (nI (0))) hx hb dX5_level_29 (by decide) ?_
      refine lv_istore_n (lv' := [(3, .int (nI (0))), (0, .ref h0), (1, .int (nI (ix a))), (2, .int (nI (ix b)))]) hx hb dX5_level_30 rfl hl (by decide) rfl (fun ls hl => ?_)
      have loop_31 : ∀ (n_ : Nat) (q : Nat), (q ≤ yh Y (ix a) + 1) → (levelN (yh Y (ix a)) (yg Y (ix a)) (ye Y (ix a)) (ix b) 0 (yh Y (ix a) + 1) = levelN (yh Y (ix a)) (yg Y (ix a)) (ye Y (ix a)) (ix b) q (yh Y (ix a) + 1 - q)) → yh Y (ix a) + 1 - q < n_ → ∀ (ls : Array Slot), lv_has ls 4 [(0, .ref h0), (1, .int (nI (ix a))), (2, .int (nI (ix b))), (3, .int (nI (q)))] → W p l e (headSpec wsX5_level ({ frames := 2, cells := 0, slots := 0, locals := 48 } : Room)).room s m ([.ref h0, .int (a), .int (b)] : List Value).toArray below meth c H locs 0 0 (MQ below (va_Qi (fun (r : Int32) (u : (Nat → Int32) × (Nat → Nat → Int32)) => MP r u (sp_level Y a b)) (fun u t => wE D cy A (wM cy h0 ad u.1 u.2) t) A) ([.ref h0, .int (a), .int (b)] : List Value).toArray s 0 0 A) (F0 m 31 ls []) := by
        intro n_
        induction n_ with
        | zero => intro q hq hlv hm_; exact absurd hm_ (Nat.not_lt_zero _)
        | succ n_ ih_31 =>
          intro q hq hlv hm_ ls hl
          refine lv_iload_n hx hb dX5_level_31 rfl (lv_at hl 3 rfl) ?_
          refine lv_aload_n hx hb dX5_level_32 rfl (lv_at hl 0 rfl) ?_
          refine va_get (D := D) (ci := 5) (v := .ref ((ad 5))) (C := RX5) (T := TX5) (N := 34) hx hb hts (by decide +kernel) hown hK hP 0 rfl rfl 5 (by decide) (hts (.fieldLink RX5 9 "CaskYardModel" "tall" "[I") (by decide +kernel)) (fun _ h9 => h9) rfl dX5_level_33 ?_
          refine lv_iload_n hx hb dX5_level_36 rfl (lv_at hl 1 rfl) ?_
          refine g_iald hx hb hK hP 1 0 rfl rfl (ix a) rfl (by omega) (by decide) dX5_level_37 ?_
          refine g_top (y := (nI (yh Y (ix a)))) (hmF (ix a) (by omega)).1 ?_
          refine g_icmp_gt (tgt := 57) hx hb dX5_level_38 (by decide) (n_i (by omega)) (n_i (by omega)) (fun c_38 => ?_) (fun c_38 => ?_)
          · skip
            refine lv_iload_n hx hb dX5_level_57 rfl (lv_at hl 3 rfl) ?_
            refine lv_aload_n hx hb dX5_level_58 rfl (lv_at hl 0 rfl) ?_
            refine va_get (D := D) (ci := 5) (v := .ref ((ad 5))) (C := RX5) (T := TX5) (N := 34) hx hb hts (by decide +kernel) hown hK hP 0 rfl rfl 5 (by decide) (hts (.fieldLink RX5 9 "CaskYardModel" "tall" "[I") (by decide +kernel)) (fun _ h9 => h9) rfl dX5_level_59 ?_
            refine lv_iload_n hx hb dX5_level_62 rfl (lv_at hl 1 rfl) ?_
            refine g_iald hx hb hK hP 1 0 rfl rfl (ix a) rfl (by omega) (by decide) dX5_level_63 ?_
            refine g_top (y := (nI (yh Y (ix a)))) (hmF (ix a) (by omega)).1 ?_
            refine g_icmp_le (tgt := 71) hx hb dX5_level_64 (by decide) (n_i (by omega)) (n_i (by omega)) (fun c_64 => ?_) (fun c_64 => ?_)
            · skip
              refine lv_iload_n hx hb dX5_level_71 rfl (lv_at hl 3 rfl) ?_
              exact W.iret (v := (nI (q))) hx hb hr (fun t ht hW => ⟨⟨_, ((va_up I 0 (nI (0))), F), rfl, by first | (exfalso; omega) | (rw [sp_level, if_pos (by omega), if_pos (by omega)]; exact ⟨rfl, fun _ => by rw [hlv, levelN_hit (by omega) (by omega)]; rfl, hM⟩), by rw [ht]; exact hP, va_K.moved hW.alike hK, hD⟩, hS.F ht⟩) hS.2.2 dX5_level_72
            · skip
              refine lv_iconst (v := (zI ((-1)))) hx hb dX5_level_67 (by decide) ?_
              refine lv_goto (tgt := 72) hx hb dX5_level_68 (by decide) ?_
              exact W.iret (v := (zI ((-1)))) hx hb hr (fun t ht hW => ⟨⟨_, ((va_up I 0 (nI (0))), F), rfl, by first | (exfalso; omega) | (rw [sp_level, if_pos (by omega), if_pos (by omega)]; exact ⟨rfl, fun _ => by rw [hlv, levelN_end (by omega)], hM⟩), by rw [ht]; exact hP, va_K.moved hW.alike hK, hD⟩, hS.F ht⟩) hS.2.2 dX5_level_72
          · skip
            refine lv_aload_n hx hb dX5_level_41 rfl (lv_at hl 0 rfl) ?_
            refine lv_iload_n hx hb dX5_level_42 rfl (lv_at hl 1 rfl) ?_
            refine lv_iload_n hx hb dX5_level_43 rfl (lv_at hl 3 rfl) ?_
            refine vp_callSi (va_Run.run (va_runV (As := [.int (nI (ix a)), .int (nI (q))]) (rest := []) ⟨hx, hb, hml, hown, hts⟩ (c_X5_holdsAt l D cy h0 ad (va_up I 0 (nI (0))) F (ix a) (q) (Nat.lt_of_lt_of_le (show ix a < yF Y from hia) hyF) (yh Y (ix a)) (yg Y (ix a)) (ye Y (ix a)) ((hmF (ix a) (show ix a < yF Y from hia)).1) ((hmF (ix a) (show ix a < yF Y from hia)).2.1) ((hmF (ix a) (show ix a < yF Y from hia)).2.2.1) (form_b (hyf (ix a) (show ix a < yF Y from hia))) (by omega)) (cwV 2 hts gX5_level_X5_holdsAt rfl rfl rfl (by decide +kernel) ⟨Nat.le_of_ble_eq_true rfl, Nat.le_of_ble_eq_true rfl⟩) ⟨rB_blind, va_recv hK hP (ci := 5) (q0 := 0) rfl rfl, (rB_pre hP hK)⟩ rfl rfl hl.1 rfl (lv_room (Nat.le_of_ble_eq_true rfl)) dX5_level_44 ⟨Nat.le_of_ble_eq_true rfl, Nat.le_of_ble_eq_true rfl⟩)) (fun r_44 hr_44 => ?_)
            subst hr_44
            have hhl := holdsN_lt (h := yh Y (ix a)) (e := ye Y (ix a)) (l := q) hfo.2.2.2.2.1 (by omega)
            refine lv_iload_n hx hb dX5_level_47 rfl (lv_at hl 2 rfl) ?_
            refine g_icmp_ge (tgt := 57) hx hb dX5_level_48 (by decide) (n_i (by omega)) (n_i (by omega)) (fun c_48 => ?_) (fun c_48 => ?_)
            · skip
              refine lv_iload_n hx hb dX5_level_57 rfl (lv_at hl 3 rfl) ?_
              refine lv_aload_n hx hb dX5_level_58 rfl (lv_at hl 0 rfl) ?_
              refine va_get (D := D) (ci := 5) (v := .ref ((ad 5))) (C := RX5) (T := TX5) (N := 34) hx hb hts (by decide +kernel) hown hK hP 0 rfl rfl 5 (by decide) (hts (.fieldLink RX5 9 "CaskYardModel" "tall" "[I") (by decide +kernel)) (fun _ h9 => h9) rfl dX5_level_59 ?_
              refine lv_iload_n hx hb dX5_level_62 rfl (lv_at hl 1 rfl) ?_
              refine g_iald hx hb hK hP 1 0 rfl rfl (ix a) rfl (by omega) (by decide) dX5_level_63 ?_
              refine g_top (y := (nI (yh Y (ix a)))) (hmF (ix a) (by omega)).1 ?_
              refine g_icmp_le (tgt := 71) hx hb dX5_level_64 (by decide) (n_i (by omega)) (n_i (by omega)) (fun c_64 => ?_) (fun c_64 => ?_)
              · skip
                refine lv_iload_n hx hb dX5_level_71 rfl (lv_at hl 3 rfl) ?_
                exact W.iret (v := (nI (q))) hx hb hr (fun t ht hW => ⟨⟨_, ((va_up I 0 (nI (0))), F), rfl, by first | (exfalso; omega) | (rw [sp_level, if_pos (by omega), if_pos (by omega)]; exact ⟨rfl, fun _ => by rw [hlv, levelN_hit (by omega) (by omega)]; rfl, hM⟩), by rw [ht]; exact hP, va_K.moved hW.alike hK, hD⟩, hS.F ht⟩) hS.2.2 dX5_level_72
              · skip
                refine lv_iconst (v := (zI ((-1)))) hx hb dX5_level_67 (by decide) ?_
                refine lv_goto (tgt := 72) hx hb dX5_level_68 (by decide) ?_
                exact W.iret (v := (zI ((-1)))) hx hb hr (fun t ht hW => ⟨⟨_, ((va_up I 0 (nI (0))), F), rfl, by first | (exfalso; omega) | (rw [sp_level, if_pos (by omega), if_pos (by omega)]; exact ⟨rfl, fun _ => by rw [hlv, levelN_end (by omega)], hM⟩), by rw [ht]; exact hP, va_K.moved hW.alike hK, hD⟩, hS.F ht⟩) hS.2.2 dX5_level_72
            · skip
              refine lv_iinc (v := (nI (q + 1))) (lv' := [(3, .int (nI (q + 1))), (0, .ref h0), (1, .int (nI (ix a))), (2, .int (nI (ix b)))]) hx hb dX5_level_51 hl (k := 3) rfl (nI_add _ _) (by decide) rfl (fun ls hl => ?_)
              refine lv_goto (tgt := 31) hx hb dX5_level_54 (by decide) ?_
              exact ih_31 (q + 1)  (by omega) (hlv.trans (levelN_step (by omega) (by omega))) (by omega) ls (lv_sub hl [1, 2, 3, 0] rfl)
      exact loop_31 _ (0)  (by omega) rfl (Nat.lt_succ_self _) ls (lv_sub hl [1, 2, 3, 0] rfl)
    · skip
      refine lv_aload_n hx hb dX5_level_23 rfl (lv_at hl 0 rfl) ?_
      refine lv_iconst (v := (nI (2))) hx hb dX5_level_24 (by decide) ?_
      have hFc := w_free hD hS hA
      refine va_calli (va_runV (As := [.int (nI (2))]) (rest := []) ⟨hx, hb, hml, hown, hts⟩ (c_X5_fail l D cy H.size h0 ad (va_up I 0 (nI (0))) F (nI (2))) (cwV 1 hts gX5_level_X5_fail rfl rfl rfl (by decide +kernel) ⟨Nat.le_of_ble_eq_true rfl, Nat.le_of_ble_eq_true rfl⟩) ⟨wB_blind, va_recv hK hP (ci := 5) (q0 := 0) rfl rfl, wB_pre hP hK hD⟩ rfl rfl hl.1 rfl (lv_room (Nat.le_of_ble_eq_true rfl)) dX5_level_25 ⟨Nat.le_of_ble_eq_true rfl, Nat.le_of_ble_eq_true rfl⟩) hS (fun q _ h => hFc q h) hFc (fun r_25 u_25 t H locs ht hvm hw_25 hB _ _ hS => ?_)
      obtain ⟨I_25, F_25⟩ := u_25
      obtain ⟨hP1, hK1, hD1⟩ := hB
      rw [ht] at hP1
      dsimp only at hP1 hD1 hw_25
      obtain ⟨hw_25, hu_25⟩ := hw_25
      rw [(Prod.mk.inj hu_25).1, (Prod.mk.inj hu_25).2] at hP1 hD1
      have hP := hP1
      have hD := hD1.weaken (fun _ _ _ h => hFc _ h)
      have hP : va_P D vwCl (wM cy h0 ad (va_up I 0 (nI (2))) F) H := hP
      have hD : va_D A (wM cy h0 ad (va_up I 0 (nI (2))) F) := hD
      refine g_top (y := (nI (0))) (hw_25) ?_
      exact W.iret (v := (nI (0))) hx hb hr (fun t ht hW => ⟨⟨_, ((va_up I 0 (nI (2))), F), rfl, by rw [sp_level, if_pos (by omega), if_neg (by omega)]; exact MP_t rfl hM, by rw [ht]; exact hP, va_K.moved hW.alike hK, hD⟩, hS.F ht⟩) hS.2.2 dX5_level_28
  · skip
    refine lv_aload_n hx hb dX5_level_13 rfl (lv_at hl 0 rfl) ?_
    refine lv_iconst (v := (nI (1))) hx hb dX5_level_14 (by decide) ?_
    have hFc := w_free hD hS hA
    refine va_calli (va_runV (As := [.int (nI (1))]) (rest := []) ⟨hx, hb, hml, hown, hts⟩ (c_X5_fail l D cy H.size h0 ad (va_up I 0 (nI (0))) F (nI (1))) (cwV 1 hts gX5_level_X5_fail rfl rfl rfl (by decide +kernel) ⟨Nat.le_of_ble_eq_true rfl, Nat.le_of_ble_eq_true rfl⟩) ⟨wB_blind, va_recv hK hP (ci := 5) (q0 := 0) rfl rfl, wB_pre hP hK hD⟩ rfl rfl hl.1 rfl (lv_room (Nat.le_of_ble_eq_true rfl)) dX5_level_15 ⟨Nat.le_of_ble_eq_true rfl, Nat.le_of_ble_eq_true rfl⟩) hS (fun q _ h => hFc q h) hFc (fun r_15 u_15 t H locs ht hvm hw_15 hB _ _ hS => ?_)
    obtain ⟨I_15, F_15⟩ := u_15
    obtain ⟨hP1, hK1, hD1⟩ := hB
    rw [ht] at hP1
    dsimp only at hP1 hD1 hw_15
    obtain ⟨hw_15, hu_15⟩ := hw_15
    rw [(Prod.mk.inj hu_15).1, (Prod.mk.inj hu_15).2] at hP1 hD1
    have hP := hP1
    have hD := hD1.weaken (fun _ _ _ h => hFc _ h)
    have hP : va_P D vwCl (wM cy h0 ad (va_up I 0 (nI (1))) F) H := hP
    have hD : va_D A (wM cy h0 ad (va_up I 0 (nI (1))) F) := hD
    refine g_top (y := (nI (0))) (hw_15) ?_
    exact W.iret (v := (nI (0))) hx hb hr (fun t ht hW => ⟨⟨_, ((va_up I 0 (nI (1))), F), rfl, by rw [sp_level, if_neg (by omega)]; exact MP_t rfl hM, by rw [ht]; exact hP, va_K.moved hW.alike hK, hD⟩, hS.F ht⟩) hS.2.2 dX5_level_18
set_option maxHeartbeats 4000000 in
set_option maxRecDepth 100000 in
theorem c_X5_head (l : Launch) (D : va_G) (cy : Nat → ClassId) (sz : Nat) (h0 : Nat) (ad : Nat → Nat) (I : Nat → Int32) (F : Nat → Nat → Int32) (Y : YT) (hM : MR I F Y) (hY : WF Y) (a : Int32) : Met l yX5_head wsX5_head ({ frames := 1, cells := 0, slots := 0, locals := 23 } : Room) (va_Pc [.ref h0, .int (a)] (wB D cy sz (wM cy h0 ad I F))) (va_Qi (fun (r : Int32) (u : (Nat → Int32) × (Nat → Nat → Int32)) => MP r u (sp_head Y a)) (fun u t => wE D cy (va_A (wM cy h0 ad I F) sz) (wM cy h0 ad u.1 u.2) t) (va_A (wM cy h0 ad I F) sz)) 0 0 (va_A (wM cy h0 ad I F) sz) := by
  refine Met.ofW (cc := cX5_head) (maxL := 2) (ret := (some .int)) (by decide) rfl ?_
  intro p e s m args below meth c s₁ B hml hv
  obtain ⟨rfl, hsz, hP, hK, hD0⟩ := hv
  have hx := B.exec
  have hb := B.bytes
  have hr := B.returns
  have hts := atoms_spec (ws := wsX5_head) B.pre
  have hown : s.vm.findClass RX5 = some m.cls := findClass_of_methodNamed B.named
  have hlocks := B.notSynchronized
  subst hsz
  have hD := hD0.self (sz := s.heap.size)
  generalize hAe : va_A (wM cy h0 ad I F) s.heap.size = A at hD ⊢
  have hA : ∀ q : Nat, s.heap.size ≤ q → A q := w_A hAe
  have hS : va_S A s.heap s.heap [] := va_S.rf
  have hl := lv_entry ([.ref h0, .int (a)]) (n := 2) (Nat.le_of_ble_eq_true rfl)
  rw [lg_entry_eq]
  generalize (lg_sl ([.ref h0, .int (a)]) ++ List.replicate (2 - (lg_sl ([.ref h0, .int (a)])).length) Slot.unset).toArray = ls at hl ⊢
  have hl : lv_has ls 2 [(0, .ref h0), (1, .int (a))] := hl
  obtain ⟨hm1, hm2, hm3, hm4, hmF, hmB, hmC, hmR, hmW⟩ := id hM
  obtain ⟨hy0, hyF, hyB, hyC, hyf, hyb, hyc, hyr, hyw⟩ := id hY
  have hxa := ix_m a
  refine lv_aload_n hx hb dX5_head_0 rfl (lv_at hl 0 rfl) ?_
  refine lv_iconst (v := (nI (0))) hx hb dX5_head_1 (by decide) ?_
  refine va_put (D := D) (ci := 5) (v := .int (nI (0))) (ty := .int) (C := RX5) (T := TX5) (N := 34) hx hb hts (by decide +kernel) tyX5 tyX5_ok nmX5 hown hK hP hD hS 0 rfl rfl 0 (by decide) (hts (.fieldLink RX5 83 "CaskYardModel" "code" "I") (by decide +kernel)) (fun _ h9 => h9) rfl (by decide +kernel) rfl rfl (Nat.le_of_ble_eq_true rfl) dX5_head_2 (fun H locs hP hD hS => ?_)
  have hP : va_P D vwCl (wM cy h0 ad (va_up I 0 (nI (0))) F) H := hP
  have hD : va_D A (wM cy h0 ad (va_up I 0 (nI (0))) F) := hD
  refine lv_aload_n hx hb dX5_head_5 rfl (lv_at hl 0 rfl) ?_
  refine lv_iload_n hx hb dX5_head_6 rfl (lv_at hl 1 rfl) ?_
  refine vp_callSi (va_Run.run (va_runV (As := [.int (a)]) (rest := []) ⟨hx, hb, hml, hown, hts⟩ (c_X5_isForm l D cy h0 ad (va_up I 0 (nI (0))) F (a) (yF Y) (hm1) (by omega)) (cwV 1 hts gX5_head_X5_isForm rfl rfl rfl (by decide +kernel) ⟨Nat.le_of_ble_eq_true rfl, Nat.le_of_ble_eq_true rfl⟩) ⟨rB_blind, va_recv hK hP (ci := 5) (q0 := 0) rfl rfl, (rB_pre hP hK)⟩ rfl rfl hl.1 rfl (lv_room (Nat.le_of_ble_eq_true rfl)) dX5_head_7 ⟨Nat.le_of_ble_eq_true rfl, Nat.le_of_ble_eq_true rfl⟩)) (fun r_7 hr_7 => ?_)
  subst hr_7
  refine g_ifeq_b (tgt := 29) hx hb dX5_head_10 (by decide) (fun c_10 => ?_) (fun c_10 => ?_)
  · skip
    refine lv_aload_n hx hb dX5_head_29 rfl (lv_at hl 0 rfl) ?_
    refine lv_iconst (v := (nI (1))) hx hb dX5_head_30 (by decide) ?_
    have hFc := w_free hD hS hA
    refine va_calli (va_runV (As := [.int (nI (1))]) (rest := []) ⟨hx, hb, hml, hown, hts⟩ (c_X5_fail l D cy H.size h0 ad (va_up I 0 (nI (0))) F (nI (1))) (cwV 1 hts gX5_head_X5_fail rfl rfl rfl (by decide +kernel) ⟨Nat.le_of_ble_eq_true rfl, Nat.le_of_ble_eq_true rfl⟩) ⟨wB_blind, va_recv hK hP (ci := 5) (q0 := 0) rfl rfl, wB_pre hP hK hD⟩ rfl rfl hl.1 rfl (lv_room (Nat.le_of_ble_eq_true rfl)) dX5_head_31 ⟨Nat.le_of_ble_eq_true rfl, Nat.le_of_ble_eq_true rfl⟩) hS (fun q _ h => hFc q h) hFc (fun r_31 u_31 t H locs ht hvm hw_31 hB _ _ hS => ?_)
    obtain ⟨I_31, F_31⟩ := u_31
    obtain ⟨hP1, hK1, hD1⟩ := hB
    rw [ht] at hP1
    dsimp only at hP1 hD1 hw_31
    obtain ⟨hw_31, hu_31⟩ := hw_31
    rw [(Prod.mk.inj hu_31).1, (Prod.mk.inj hu_31).2] at hP1 hD1
    have hP := hP1
    have hD := hD1.weaken (fun _ _ _ h => hFc _ h)
    have hP : va_P D vwCl (wM cy h0 ad (va_up I 0 (nI (1))) F) H := hP
    have hD : va_D A (wM cy h0 ad (va_up I 0 (nI (1))) F) := hD
    refine g_top (y := (nI (0))) (hw_31) ?_
    exact W.iret (v := (nI (0))) hx hb hr (fun t ht hW => ⟨⟨_, ((va_up I 0 (nI (1))), F), rfl, by rw [sp_head, if_neg (by omega)]; exact MP_t rfl hM, by rw [ht]; exact hP, va_K.moved hW.alike hK, hD⟩, hS.F ht⟩) hS.2.2 dX5_head_34
  · skip
    have h_a := ix_n (a := a) (by omega)
    have hia : ix a < yF Y := by omega
    have hfo := hyf (ix a) hia
    have hl : lv_has ls 2 [(0, .ref h0), (1, .int (nI (ix a)))] := by rw [← h_a]; exact hl
    refine lv_aload_n hx hb dX5_head_13 rfl (lv_at hl 0 rfl) ?_
    refine lv_iload_n hx hb dX5_head_14 rfl (lv_at hl 1 rfl) ?_
    refine lv_iconst (v := (nI (0))) hx hb dX5_head_15 (by decide) ?_
    refine vp_callSi (va_Run.run (va_runV (As := [.int (nI (ix a)), .int (nI (0))]) (rest := []) ⟨hx, hb, hml, hown, hts⟩ (c_X5_girthOf l D cy h0 ad (va_up I 0 (nI (0))) F (ix a) (0) (Nat.lt_of_lt_of_le (show ix a < yF Y from hia) hyF) (yh Y (ix a)) (yg Y (ix a)) (ye Y (ix a)) ((hmF (ix a) (show ix a < yF Y from hia)).1) ((hmF (ix a) (show ix a < yF Y from hia)).2.1) ((hmF (ix a) (show ix a < yF Y from hia)).2.2.1) (form_b (hyf (ix a) (show ix a < yF Y from hia))) (Nat.zero_le _)) (cwV 2 hts gX5_head_X5_girthOf rfl rfl rfl (by decide +kernel) ⟨Nat.le_of_ble_eq_true rfl, Nat.le_of_ble_eq_true rfl⟩) ⟨rB_blind, va_recv hK hP (ci := 5) (q0 := 0) rfl rfl, (rB_pre hP hK)⟩ rfl rfl hl.1 rfl (lv_room (Nat.le_of_ble_eq_true rfl)) dX5_head_16 ⟨Nat.le_of_ble_eq_true rfl, Nat.le_of_ble_eq_true rfl⟩)) (fun r_16 hr_16 => ?_)
    subst hr_16
    have hgl := girthN_le (yh Y (ix a)) (yg Y (ix a)) (ye Y (ix a)) 0
    refine lv_bipush (v := (nI (113))) hx hb dX5_head_19 (by decide) ?_
    refine g_imul_n hx hb dX5_head_21 ?_
    refine lv_sipush (v := (nI (355))) hx hb dX5_head_22 (by decide) ?_
    refine g_idiv_n hx hb dX5_head_25 (by omega) (by omega) (by omega) ?_
    refine lv_goto (tgt := 34) hx hb dX5_head_26 (by decide) ?_
    exact W.iret (v := (nI (((girthN (yh Y (ix a)) (yg Y (ix a)) (ye Y (ix a)) (0)) * 113) / 355))) hx hb hr (fun t ht hW => ⟨⟨_, ((va_up I 0 (nI (0))), F), rfl, by rw [sp_head, if_pos (by omega)]; exact ⟨rfl, fun _ => rfl, hM⟩, by rw [ht]; exact hP, va_K.moved hW.alike hK, hD⟩, hS.F ht⟩) hS.2.2 dX5_head_34
set_option maxHeartbeats 4000000 in
set_option maxRecDepth 100000 in
theorem c_X5_days (l : Launch) (D : va_G) (cy : Nat → ClassId) (sz : Nat) (h0 : Nat) (ad : Nat → Nat) (I : Nat → Int32) (F : Nat → Nat → Int32) (Y : YT) (hM : MR I F Y) (hY : WF Y) (a : Int32) : Met l yX5_days wsX5_days ({ frames := 1, cells := 0, slots := 0, locals := 21 } : Room) (va_Pc [.ref h0, .int (a)] (wB D cy sz (wM cy h0 ad I F))) (va_Qi (fun (r : Int32) (u : (Nat → Int32) × (Nat → Nat → Int32)) => MP r u (sp_days Y a)) (fun u t => wE D cy (va_A (wM cy h0 ad I F) sz) (wM cy h0 ad u.1 u.2) t) (va_A (wM cy h0 ad I F) sz)) 0 0 (va_A (wM cy h0 ad I F) sz) := by
  refine Met.ofW (cc := cX5_days) (maxL := 2) (ret := (some .int)) (by decide) rfl ?_
  intro p e s m args below meth c s₁ B hml hv
  obtain ⟨rfl, hsz, hP, hK, hD0⟩ := hv
  have hx := B.exec
  have hb := B.bytes
  have hr := B.returns
  have hts := atoms_spec (ws := wsX5_days) B.pre
  have hown : s.vm.findClass RX5 = some m.cls := findClass_of_methodNamed B.named
  have hlocks := B.notSynchronized
  subst hsz
  have hD := hD0.self (sz := s.heap.size)
  generalize hAe : va_A (wM cy h0 ad I F) s.heap.size = A at hD ⊢
  have hA : ∀ q : Nat, s.heap.size ≤ q → A q := w_A hAe
  have hS : va_S A s.heap s.heap [] := va_S.rf
  have hl := lv_entry ([.ref h0, .int (a)]) (n := 2) (Nat.le_of_ble_eq_true rfl)
  rw [lg_entry_eq]
  generalize (lg_sl ([.ref h0, .int (a)]) ++ List.replicate (2 - (lg_sl ([.ref h0, .int (a)])).length) Slot.unset).toArray = ls at hl ⊢
  have hl : lv_has ls 2 [(0, .ref h0), (1, .int (a))] := hl
  obtain ⟨hm1, hm2, hm3, hm4, hmF, hmB, hmC, hmR, hmW⟩ := id hM
  obtain ⟨hy0, hyF, hyB, hyC, hyf, hyb, hyc, hyr, hyw⟩ := id hY
  have hxa := ix_m a
  refine lv_aload_n hx hb dX5_days_0 rfl (lv_at hl 0 rfl) ?_
  refine lv_iconst (v := (nI (0))) hx hb dX5_days_1 (by decide) ?_
  refine va_put (D := D) (ci := 5) (v := .int (nI (0))) (ty := .int) (C := RX5) (T := TX5) (N := 34) hx hb hts (by decide +kernel) tyX5 tyX5_ok nmX5 hown hK hP hD hS 0 rfl rfl 0 (by decide) (hts (.fieldLink RX5 83 "CaskYardModel" "code" "I") (by decide +kernel)) (fun _ h9 => h9) rfl (by decide +kernel) rfl rfl (Nat.le_of_ble_eq_true rfl) dX5_days_2 (fun H locs hP hD hS => ?_)
  have hP : va_P D vwCl (wM cy h0 ad (va_up I 0 (nI (0))) F) H := hP
  have hD : va_D A (wM cy h0 ad (va_up I 0 (nI (0))) F) := hD
  refine lv_iload_n hx hb dX5_days_5 rfl (lv_at hl 1 rfl) ?_
  refine g_if_lt (tgt := 24) hx hb dX5_days_6 (by decide) rfl (fun c_6 => ?_) (fun c_6 => ?_)
  · skip
    refine lv_aload_n hx hb dX5_days_24 rfl (lv_at hl 0 rfl) ?_
    refine lv_iconst (v := (nI (1))) hx hb dX5_days_25 (by decide) ?_
    have hFc := w_free hD hS hA
    refine va_calli (va_runV (As := [.int (nI (1))]) (rest := []) ⟨hx, hb, hml, hown, hts⟩ (c_X5_fail l D cy H.size h0 ad (va_up I 0 (nI (0))) F (nI (1))) (cwV 1 hts gX5_days_X5_fail rfl rfl rfl (by decide +kernel) ⟨Nat.le_of_ble_eq_true rfl, Nat.le_of_ble_eq_true rfl⟩) ⟨wB_blind, va_recv hK hP (ci := 5) (q0 := 0) rfl rfl, wB_pre hP hK hD⟩ rfl rfl hl.1 rfl (lv_room (Nat.le_of_ble_eq_true rfl)) dX5_days_26 ⟨Nat.le_of_ble_eq_true rfl, Nat.le_of_ble_eq_true rfl⟩) hS (fun q _ h => hFc q h) hFc (fun r_26 u_26 t H locs ht hvm hw_26 hB _ _ hS => ?_)
    obtain ⟨I_26, F_26⟩ := u_26
    obtain ⟨hP1, hK1, hD1⟩ := hB
    rw [ht] at hP1
    dsimp only at hP1 hD1 hw_26
    obtain ⟨hw_26, hu_26⟩ := hw_26
    rw [(Prod.mk.inj hu_26).1, (Prod.mk.inj hu_26).2] at hP1 hD1
    have hP := hP1
    have hD := hD1.weaken (fun _ _ _ h => hFc _ h)
    have hP : va_P D vwCl (wM cy h0 ad (va_up I 0 (nI (1))) F) H := hP
    have hD : va_D A (wM cy h0 ad (va_up I 0 (nI (1))) F) := hD
    refine g_top (y := (nI (0))) (hw_26) ?_
    exact W.iret (v := (nI (0))) hx hb hr (fun t ht hW => ⟨⟨_, ((va_up I 0 (nI (1))), F), rfl, by rw [sp_days, if_neg (by omega)]; exact MP_t rfl hM, by rw [ht]; exact hP, va_K.moved hW.alike hK, hD⟩, hS.F ht⟩) hS.2.2 dX5_days_29
  · skip
    have h_a := ix_n (a := a) (by omega)
    have hi9 := i_hi a
    have hl : lv_has ls 2 [(0, .ref h0), (1, .int (nI (ix a)))] := by rw [← h_a]; exact hl
    refine lv_aload_n hx hb dX5_days_9 rfl (lv_at hl 0 rfl) ?_
    refine va_get (D := D) (ci := 5) (v := .int (I 4)) (C := RX5) (T := TX5) (N := 34) hx hb hts (by decide +kernel) hown hK hP 0 rfl rfl 4 (by decide) (hts (.fieldLink RX5 117 "CaskYardModel" "now" "I") (by decide +kernel)) (fun _ h9 => h9) rfl dX5_days_10 ?_
    refine g_top (y := (nI (yNow Y))) hm4 ?_
    refine lv_i2l (v := lN (yNow Y)) hx hb dX5_days_13 (nI_l (by omega)) ?_
    refine lv_iload_n hx hb dX5_days_14 rfl (lv_at hl 1 rfl) ?_
    refine lv_i2l (v := lN (ix a)) hx hb dX5_days_15 (nI_l (by omega)) ?_
    refine lv_ladd hx hb dX5_days_16 ?_
    refine g_topl (y := lN ((yNow Y) + (ix a))) (lN_add _ _) ?_
    refine lv_ldc2 hx hb hown (hts (.constantLong RX5 120 (100000)) (by decide +kernel)) dX5_days_17 ?_
    refine g_topl (y := lN 100000) (by decide) ?_
    refine W.lcmp hx hb dX5_days_20 ?_
    refine g_top (y := (zI (cmpZ ((yNow Y) + (ix a)) (100000)))) (lg_cmp_n (by omega) (by omega)) ?_
    have hcb_20 := cmpZ_bd ((yNow Y) + (ix a)) (100000)
    refine g_if_le (tgt := 30) hx hb dX5_days_21 (by decide) (zI_toInt (by omega) (by omega)) (fun c_21 => ?_) (fun c_21 => ?_)
    · skip
      have hcz := cmpZ_le c_21
      refine lv_aload_n hx hb dX5_days_30 rfl (lv_at hl 0 rfl) ?_
      refine lv_dup hx hb dX5_days_31 rfl ?_
      refine va_get (D := D) (ci := 5) (v := .int (I 4)) (C := RX5) (T := TX5) (N := 34) hx hb hts (by decide +kernel) hown hK hP 0 rfl rfl 4 (by decide) (hts (.fieldLink RX5 117 "CaskYardModel" "now" "I") (by decide +kernel)) (fun _ h9 => h9) rfl dX5_days_32 ?_
      refine g_top (y := (nI (yNow Y))) hm4 ?_
      refine lv_iload_n hx hb dX5_days_35 rfl (lv_at hl 1 rfl) ?_
      refine g_iadd_n hx hb dX5_days_36 ?_
      refine va_put (D := D) (ci := 5) (v := .int (nI ((yNow Y) + (ix a)))) (ty := .int) (C := RX5) (T := TX5) (N := 34) hx hb hts (by decide +kernel) tyX5 tyX5_ok nmX5 hown hK hP hD hS 0 rfl rfl 4 (by decide) (hts (.fieldLink RX5 117 "CaskYardModel" "now" "I") (by decide +kernel)) (fun _ h9 => h9) rfl (by decide +kernel) rfl rfl (Nat.le_of_ble_eq_true rfl) dX5_days_37 (fun H locs hP hD hS => ?_)
      have hP : va_P D vwCl (wM cy h0 ad (va_up (va_up I 0 (nI (0))) 4 (nI ((yNow Y) + (ix a)))) F) H := hP
      have hD : va_D A (wM cy h0 ad (va_up (va_up I 0 (nI (0))) 4 (nI ((yNow Y) + (ix a)))) F) := hD
      refine lv_aload_n hx hb dX5_days_40 rfl (lv_at hl 0 rfl) ?_
      refine va_get (D := D) (ci := 5) (v := .int (nI ((yNow Y) + (ix a)))) (C := RX5) (T := TX5) (N := 34) hx hb hts (by decide +kernel) hown hK hP 0 rfl rfl 4 (by decide) (hts (.fieldLink RX5 117 "CaskYardModel" "now" "I") (by decide +kernel)) (fun _ h9 => h9) rfl dX5_days_41 ?_
      exact W.iret (v := (nI ((yNow Y) + (ix a)))) hx hb hr (fun t ht hW => ⟨⟨_, ((va_up (va_up I 0 (nI (0))) 4 (nI ((yNow Y) + (ix a)))), F), rfl, by rw [sp_days, if_pos (by omega)]; exact ⟨rfl, fun _ => rfl, MR_days _ hM⟩, by rw [ht]; exact hP, va_K.moved hW.alike hK, hD⟩, hS.F ht⟩) hS.2.2 dX5_days_44
    · skip
      have hcz := cmpZ_gt c_21
      refine lv_aload_n hx hb dX5_days_24 rfl (lv_at hl 0 rfl) ?_
      refine lv_iconst (v := (nI (1))) hx hb dX5_days_25 (by decide) ?_
      have hFc := w_free hD hS hA
      refine va_calli (va_runV (As := [.int (nI (1))]) (rest := []) ⟨hx, hb, hml, hown, hts⟩ (c_X5_fail l D cy H.size h0 ad (va_up I 0 (nI (0))) F (nI (1))) (cwV 1 hts gX5_days_X5_fail rfl rfl rfl (by decide +kernel) ⟨Nat.le_of_ble_eq_true rfl, Nat.le_of_ble_eq_true rfl⟩) ⟨wB_blind, va_recv hK hP (ci := 5) (q0 := 0) rfl rfl, wB_pre hP hK hD⟩ rfl rfl hl.1 rfl (lv_room (Nat.le_of_ble_eq_true rfl)) dX5_days_26 ⟨Nat.le_of_ble_eq_true rfl, Nat.le_of_ble_eq_true rfl⟩) hS (fun q _ h => hFc q h) hFc (fun r_26 u_26 t H locs ht hvm hw_26 hB _ _ hS => ?_)
      obtain ⟨I_26, F_26⟩ := u_26
      obtain ⟨hP1, hK1, hD1⟩ := hB
      rw [ht] at hP1
      dsimp only at hP1 hD1 hw_26
      obtain ⟨hw_26, hu_26⟩ := hw_26
      rw [(Prod.mk.inj hu_26).1, (Prod.mk.inj hu_26).2] at hP1 hD1
      have hP := hP1
      have hD := hD1.weaken (fun _ _ _ h => hFc _ h)
      have hP : va_P D vwCl (wM cy h0 ad (va_up I 0 (nI (1))) F) H := hP
      have hD : va_D A (wM cy h0 ad (va_up I 0 (nI (1))) F) := hD
      refine g_top (y := (nI (0))) (hw_26) ?_
      exact W.iret (v := (nI (0))) hx hb hr (fun t ht hW => ⟨⟨_, ((va_up I 0 (nI (1))), F), rfl, by rw [sp_days, if_neg (by omega)]; exact MP_t rfl hM, by rw [ht]; exact hP, va_K.moved hW.alike hK, hD⟩, hS.F ht⟩) hS.2.2 dX5_days_29
set_option maxHeartbeats 4000000 in
set_option maxRecDepth 100000 in
theorem c_X5_bolt (l : Launch) (D : va_G) (cy : Nat → ClassId) (sz : Nat) (h0 : Nat) (ad : Nat → Nat) (I : Nat → Int32) (F : Nat → Nat → Int32) (Y : YT) (hM : MR I F Y) (hY : WF Y) (a : Int32) : Met l yX5_bolt wsX5_bolt ({ frames := 1, cells := 0, slots := 0, locals := 21 } : Room) (va_Pc [.ref h0, .int (a)] (wB D cy sz (wM cy h0 ad I F))) (va_Qi (fun (r : Int32) (u : (Nat → Int32) × (Nat → Nat → Int32)) => MP r u (sp_bolt Y a)) (fun u t => wE D cy (va_A (wM cy h0 ad I F) sz) (wM cy h0 ad u.1 u.2) t) (va_A (wM cy h0 ad I F) sz)) 0 0 (va_A (wM cy h0 ad I F) sz) := by
  refine Met.ofW (cc := cX5_bolt) (maxL := 2) (ret := (some .int)) (by decide) rfl ?_
  intro p e s m args below meth c s₁ B hml hv
  obtain ⟨rfl, hsz, hP, hK, hD0⟩ := hv
  have hx := B.exec
  have hb := B.bytes
  have hr := B.returns
  have hts := atoms_spec (ws := wsX5_bolt) B.pre
  have hown : s.vm.findClass RX5 = some m.cls := findClass_of_methodNamed B.named
  have hlocks := B.notSynchronized
  subst hsz
  have hD := hD0.self (sz := s.heap.size)
  generalize hAe : va_A (wM cy h0 ad I F) s.heap.size = A at hD ⊢
  have hA : ∀ q : Nat, s.heap.size ≤ q → A q := w_A hAe
  have hS : va_S A s.heap s.heap [] := va_S.rf
  have hl := lv_entry ([.ref h0, .int (a)]) (n := 2) (Nat.le_of_ble_eq_true rfl)
  rw [lg_entry_eq]
  generalize (lg_sl ([.ref h0, .int (a)]) ++ List.replicate (2 - (lg_sl ([.ref h0, .int (a)])).length) Slot.unset).toArray = ls at hl ⊢
  have hl : lv_has ls 2 [(0, .ref h0), (1, .int (a))] := hl
  obtain ⟨hm1, hm2, hm3, hm4, hmF, hmB, hmC, hmR, hmW⟩ := id hM
  obtain ⟨hy0, hyF, hyB, hyC, hyf, hyb, hyc, hyr, hyw⟩ := id hY
  have hxa := ix_m a
  refine lv_aload_n hx hb dX5_bolt_0 rfl (lv_at hl 0 rfl) ?_
  refine lv_iconst (v := (nI (0))) hx hb dX5_bolt_1 (by decide) ?_
  refine va_put (D := D) (ci := 5) (v := .int (nI (0))) (ty := .int) (C := RX5) (T := TX5) (N := 34) hx hb hts (by decide +kernel) tyX5 tyX5_ok nmX5 hown hK hP hD hS 0 rfl rfl 0 (by decide) (hts (.fieldLink RX5 83 "CaskYardModel" "code" "I") (by decide +kernel)) (fun _ h9 => h9) rfl (by decide +kernel) rfl rfl (Nat.le_of_ble_eq_true rfl) dX5_bolt_2 (fun H locs hP hD hS => ?_)
  have hP : va_P D vwCl (wM cy h0 ad (va_up I 0 (nI (0))) F) H := hP
  have hD : va_D A (wM cy h0 ad (va_up I 0 (nI (0))) F) := hD
  refine lv_aload_n hx hb dX5_bolt_5 rfl (lv_at hl 0 rfl) ?_
  refine va_get (D := D) (ci := 5) (v := .int (I 2)) (C := RX5) (T := TX5) (N := 34) hx hb hts (by decide +kernel) hown hK hP 0 rfl rfl 2 (by decide) (hts (.fieldLink RX5 122 "CaskYardModel" "bolts" "I") (by decide +kernel)) (fun _ h9 => h9) rfl dX5_bolt_6 ?_
  refine g_top (y := (nI (yB Y))) hm2 ?_
  refine lv_bipush (v := (nI (40))) hx hb dX5_bolt_9 (by decide) ?_
  refine g_icmp_eq (tgt := 26) hx hb dX5_bolt_11 (by decide) (n_i (by omega)) (n_i (by omega)) (fun c_11 => ?_) (fun c_11 => ?_)
  · skip
    refine lv_iconst (v := (zI ((-1)))) hx hb dX5_bolt_26 (by decide) ?_
    exact W.iret (v := (zI ((-1)))) hx hb hr (fun t ht hW => ⟨⟨_, ((va_up I 0 (nI (0))), F), rfl, by rw [sp_bolt, if_neg (by omega)]; exact ⟨rfl, fun _ => rfl, hM⟩, by rw [ht]; exact hP, va_K.moved hW.alike hK, hD⟩, hS.F ht⟩) hS.2.2 dX5_bolt_27
  · skip
    refine lv_iload_n hx hb dX5_bolt_14 rfl (lv_at hl 1 rfl) ?_
    refine lv_iconst (v := (nI (1))) hx hb dX5_bolt_15 (by decide) ?_
    refine g_icmp_lt (tgt := 26) hx hb dX5_bolt_16 (by decide) rfl (n_i (by omega)) (fun c_16 => ?_) (fun c_16 => ?_)
    · skip
      refine lv_iconst (v := (zI ((-1)))) hx hb dX5_bolt_26 (by decide) ?_
      exact W.iret (v := (zI ((-1)))) hx hb hr (fun t ht hW => ⟨⟨_, ((va_up I 0 (nI (0))), F), rfl, by rw [sp_bolt, if_neg (by omega)]; exact ⟨rfl, fun _ => rfl, hM⟩, by rw [ht]; exact hP, va_K.moved hW.alike hK, hD⟩, hS.F ht⟩) hS.2.2 dX5_bolt_27
    · skip
      refine lv_iload_n hx hb dX5_bolt_19 rfl (lv_at hl 1 rfl) ?_
      refine lv_sipush (v := (nI (600))) hx hb dX5_bolt_20 (by decide) ?_
      refine g_icmp_le (tgt := 28) hx hb dX5_bolt_23 (by decide) rfl (n_i (by omega)) (fun c_23 => ?_) (fun c_23 => ?_)
      · skip
        have h_a := ix_n (a := a) (by omega)
        have hl : lv_has ls 2 [(0, .ref h0), (1, .int (nI (ix a)))] := by rw [← h_a]; exact hl
        refine lv_aload_n hx hb dX5_bolt_28 rfl (lv_at hl 0 rfl) ?_
        refine va_get (D := D) (ci := 5) (v := .ref ((ad 9))) (C := RX5) (T := TX5) (N := 34) hx hb hts (by decide +kernel) hown hK hP 0 rfl rfl 9 (by decide) (hts (.fieldLink RX5 22 "CaskYardModel" "splitOn" "[I") (by decide +kernel)) (fun _ h9 => h9) rfl dX5_bolt_29 ?_
        refine lv_aload_n hx hb dX5_bolt_32 rfl (lv_at hl 0 rfl) ?_
        refine va_get (D := D) (ci := 5) (v := .int (I 2)) (C := RX5) (T := TX5) (N := 34) hx hb hts (by decide +kernel) hown hK hP 0 rfl rfl 2 (by decide) (hts (.fieldLink RX5 122 "CaskYardModel" "bolts" "I") (by decide +kernel)) (fun _ h9 => h9) rfl dX5_bolt_33 ?_
        refine g_top (y := (nI (yB Y))) hm2 ?_
        refine lv_aload_n hx hb dX5_bolt_36 rfl (lv_at hl 0 rfl) ?_
        refine va_get (D := D) (ci := 5) (v := .int (I 4)) (C := RX5) (T := TX5) (N := 34) hx hb hts (by decide +kernel) hown hK hP 0 rfl rfl 4 (by decide) (hts (.fieldLink RX5 117 "CaskYardModel" "now" "I") (by decide +kernel)) (fun _ h9 => h9) rfl dX5_bolt_37 ?_
        refine g_top (y := (nI (yNow Y))) hm4 ?_
        refine g_iast hx hb hK hP hD hS 5 0 rfl rfl (yB Y) rfl (by omega) (by decide) dX5_bolt_40 (fun H locs hP hD hS => ?_)
        rw [wMs_9] at hP hD
        obtain ⟨F1, hF1⟩ : ∃ G, G = va_up F 9 (upd (F 9) (yB Y) (nI (yNow Y))) := ⟨_, rfl⟩
        rw [← hF1] at hP hD
        have eF1_9 : F1 9 = upd (F 9) (yB Y) (nI (yNow Y)) := by rw [hF1]; exact va_up_self _ _ _
        refine lv_aload_n hx hb dX5_bolt_41 rfl (lv_at hl 0 rfl) ?_
        refine va_get (D := D) (ci := 5) (v := .ref ((ad 10))) (C := RX5) (T := TX5) (N := 34) hx hb hts (by decide +kernel) hown hK hP 0 rfl rfl 10 (by decide) (hts (.fieldLink RX5 25 "CaskYardModel" "partMany" "[I") (by decide +kernel)) (fun _ h9 => h9) rfl dX5_bolt_42 ?_
        refine lv_aload_n hx hb dX5_bolt_45 rfl (lv_at hl 0 rfl) ?_
        refine va_get (D := D) (ci := 5) (v := .int (I 2)) (C := RX5) (T := TX5) (N := 34) hx hb hts (by decide +kernel) hown hK hP 0 rfl rfl 2 (by decide) (hts (.fieldLink RX5 122 "CaskYardModel" "bolts" "I") (by decide +kernel)) (fun _ h9 => h9) rfl dX5_bolt_46 ?_
        refine g_top (y := (nI (yB Y))) hm2 ?_
        refine lv_iconst (v := (nI (1))) hx hb dX5_bolt_49 (by decide) ?_
        refine g_iast hx hb hK hP hD hS 6 0 rfl rfl (yB Y) rfl (by omega) (by decide) dX5_bolt_50 (fun H locs hP hD hS => ?_)
        rw [wMs_10] at hP hD
        rw [(show F1 10 = F 10 by rw [hF1, va_up_ne _ _ (by decide)])] at hP hD
        obtain ⟨F2, hF2⟩ : ∃ G, G = va_up F1 10 (upd (F 10) (yB Y) (nI (1))) := ⟨_, rfl⟩
        rw [← hF2] at hP hD
        have eF2_10 : F2 10 = upd (F 10) (yB Y) (nI (1)) := by rw [hF2]; exact va_up_self _ _ _
        have eF2_9 : F2 9 = upd (F 9) (yB Y) (nI (yNow Y)) := by rw [hF2, va_up_ne _ _ (by decide)]; exact eF1_9
        refine lv_aload_n hx hb dX5_bolt_51 rfl (lv_at hl 0 rfl) ?_
        refine va_get (D := D) (ci := 5) (v := .ref ((ad 11))) (C := RX5) (T := TX5) (N := 34) hx hb hts (by decide +kernel) hown hK hP 0 rfl rfl 11 (by decide) (hts (.fieldLink RX5 28 "CaskYardModel" "from" "[I") (by decide +kernel)) (fun _ h9 => h9) rfl dX5_bolt_52 ?_
        refine lv_aload_n hx hb dX5_bolt_55 rfl (lv_at hl 0 rfl) ?_
        refine va_get (D := D) (ci := 5) (v := .int (I 2)) (C := RX5) (T := TX5) (N := 34) hx hb hts (by decide +kernel) hown hK hP 0 rfl rfl 2 (by decide) (hts (.fieldLink RX5 122 "CaskYardModel" "bolts" "I") (by decide +kernel)) (fun _ h9 => h9) rfl dX5_bolt_56 ?_
        refine g_top (y := (nI (yB Y))) hm2 ?_
        refine lv_iconst (v := (nI (0))) hx hb dX5_bolt_59 (by decide) ?_
        refine vp_callSi (va_Run.run (va_runS (As := [.int (nI (yB Y)), .int (nI (0))]) (rest := [.ref ((ad 11))]) ⟨hx, hb, hml, hown, hts⟩ (c_X5_part l  (yB Y) (0)) (va_cwS 2 hts gX5_bolt_X5_part rfl rfl rfl (by decide +kernel) ⟨Nat.le_of_ble_eq_true rfl, Nat.le_of_ble_eq_true rfl⟩) ⟨nB_blind, nB_pre⟩ rfl rfl hl.1 rfl (lv_room (Nat.le_of_ble_eq_true rfl)) dX5_bolt_60 ⟨Nat.le_of_ble_eq_true rfl, Nat.le_of_ble_eq_true rfl⟩)) (fun r_60 hr_60 => ?_)
        subst hr_60
        refine lv_iconst (v := (nI (0))) hx hb dX5_bolt_63 (by decide) ?_
        refine g_iast hx hb hK hP hD hS 7 0 rfl rfl (5 * (yB Y) + (0)) rfl (by omega) (by decide) dX5_bolt_64 (fun H locs hP hD hS => ?_)
        rw [wMs_11] at hP hD
        rw [(show F2 11 = F 11 by rw [hF2, va_up_ne _ _ (by decide), hF1, va_up_ne _ _ (by decide)])] at hP hD
        obtain ⟨F3, hF3⟩ : ∃ G, G = va_up F2 11 (upd (F 11) (5 * (yB Y) + (0)) (nI (0))) := ⟨_, rfl⟩
        rw [← hF3] at hP hD
        have eF3_11 : F3 11 = upd (F 11) (5 * (yB Y) + (0)) (nI (0)) := by rw [hF3]; exact va_up_self _ _ _
        have eF3_9 : F3 9 = upd (F 9) (yB Y) (nI (yNow Y)) := by rw [hF3, va_up_ne _ _ (by decide)]; exact eF2_9
        have eF3_10 : F3 10 = upd (F 10) (yB Y) (nI (1)) := by rw [hF3, va_up_ne _ _ (by decide)]; exact eF2_10
        refine lv_aload_n hx hb dX5_bolt_65 rfl (lv_at hl 0 rfl) ?_
        refine va_get (D := D) (ci := 5) (v := .ref ((ad 12))) (C := RX5) (T := TX5) (N := 34) hx hb hts (by decide +kernel) hown hK hP 0 rfl rfl 12 (by decide) (hts (.fieldLink RX5 31 "CaskYardModel" "to" "[I") (by decide +kernel)) (fun _ h9 => h9) rfl dX5_bolt_66 ?_
        refine lv_aload_n hx hb dX5_bolt_69 rfl (lv_at hl 0 rfl) ?_
        refine va_get (D := D) (ci := 5) (v := .int (I 2)) (C := RX5) (T := TX5) (N := 34) hx hb hts (by decide +kernel) hown hK hP 0 rfl rfl 2 (by decide) (hts (.fieldLink RX5 122 "CaskYardModel" "bolts" "I") (by decide +kernel)) (fun _ h9 => h9) rfl dX5_bolt_70 ?_
        refine g_top (y := (nI (yB Y))) hm2 ?_
        refine lv_iconst (v := (nI (0))) hx hb dX5_bolt_73 (by decide) ?_
        refine vp_callSi (va_Run.run (va_runS (As := [.int (nI (yB Y)), .int (nI (0))]) (rest := [.ref ((ad 12))]) ⟨hx, hb, hml, hown, hts⟩ (c_X5_part l  (yB Y) (0)) (va_cwS 2 hts gX5_bolt_X5_part rfl rfl rfl (by decide +kernel) ⟨Nat.le_of_ble_eq_true rfl, Nat.le_of_ble_eq_true rfl⟩) ⟨nB_blind, nB_pre⟩ rfl rfl hl.1 rfl (lv_room (Nat.le_of_ble_eq_true rfl)) dX5_bolt_74 ⟨Nat.le_of_ble_eq_true rfl, Nat.le_of_ble_eq_true rfl⟩)) (fun r_74 hr_74 => ?_)
        subst hr_74
        refine lv_iload_n hx hb dX5_bolt_77 rfl (lv_at hl 1 rfl) ?_
        refine g_iast hx hb hK hP hD hS 8 0 rfl rfl (5 * (yB Y) + (0)) rfl (by omega) (by decide) dX5_bolt_78 (fun H locs hP hD hS => ?_)
        rw [wMs_12] at hP hD
        rw [(show F3 12 = F 12 by rw [hF3, va_up_ne _ _ (by decide), hF2, va_up_ne _ _ (by decide), hF1, va_up_ne _ _ (by decide)])] at hP hD
        obtain ⟨F4, hF4⟩ : ∃ G, G = va_up F3 12 (upd (F 12) (5 * (yB Y) + (0)) (nI (ix a))) := ⟨_, rfl⟩
        rw [← hF4] at hP hD
        have eF4_12 : F4 12 = upd (F 12) (5 * (yB Y) + (0)) (nI (ix a)) := by rw [hF4]; exact va_up_self _ _ _
        have eF4_9 : F4 9 = upd (F 9) (yB Y) (nI (yNow Y)) := by rw [hF4, va_up_ne _ _ (by decide)]; exact eF3_9
        have eF4_10 : F4 10 = upd (F 10) (yB Y) (nI (1)) := by rw [hF4, va_up_ne _ _ (by decide)]; exact eF3_10
        have eF4_11 : F4 11 = upd (F 11) (5 * (yB Y) + (0)) (nI (0)) := by rw [hF4, va_up_ne _ _ (by decide)]; exact eF3_11
        refine lv_aload_n hx hb dX5_bolt_79 rfl (lv_at hl 0 rfl) ?_
        refine lv_dup hx hb dX5_bolt_80 rfl ?_
        refine va_get (D := D) (ci := 5) (v := .int (I 2)) (C := RX5) (T := TX5) (N := 34) hx hb hts (by decide +kernel) hown hK hP 0 rfl rfl 2 (by decide) (hts (.fieldLink RX5 122 "CaskYardModel" "bolts" "I") (by decide +kernel)) (fun _ h9 => h9) rfl dX5_bolt_81 ?_
        refine g_top (y := (nI (yB Y))) hm2 ?_
        refine lv_iconst (v := (nI (1))) hx hb dX5_bolt_84 (by decide) ?_
        refine g_iadd_n hx hb dX5_bolt_85 ?_
        refine va_put (D := D) (ci := 5) (v := .int (nI ((yB Y) + 1))) (ty := .int) (C := RX5) (T := TX5) (N := 34) hx hb hts (by decide +kernel) tyX5 tyX5_ok nmX5 hown hK hP hD hS 0 rfl rfl 2 (by decide) (hts (.fieldLink RX5 122 "CaskYardModel" "bolts" "I") (by decide +kernel)) (fun _ h9 => h9) rfl (by decide +kernel) rfl rfl (Nat.le_of_ble_eq_true rfl) dX5_bolt_86 (fun H locs hP hD hS => ?_)
        have hP : va_P D vwCl (wM cy h0 ad (va_up (va_up I 0 (nI (0))) 2 (nI ((yB Y) + 1))) F4) H := hP
        have hD : va_D A (wM cy h0 ad (va_up (va_up I 0 (nI (0))) 2 (nI ((yB Y) + 1))) F4) := hD
        refine lv_aload_n hx hb dX5_bolt_89 rfl (lv_at hl 0 rfl) ?_
        refine va_get (D := D) (ci := 5) (v := .int (nI ((yB Y) + 1))) (C := RX5) (T := TX5) (N := 34) hx hb hts (by decide +kernel) hown hK hP 0 rfl rfl 2 (by decide) (hts (.fieldLink RX5 122 "CaskYardModel" "bolts" "I") (by decide +kernel)) (fun _ h9 => h9) rfl dX5_bolt_90 ?_
        refine lv_iconst (v := (nI (1))) hx hb dX5_bolt_93 (by decide) ?_
        refine g_isub_n hx hb dX5_bolt_94 (by omega) ?_
        exact W.iret (v := (nI (((yB Y) + 1) - 1))) hx hb hr (fun t ht hW => ⟨⟨_, ((va_up (va_up I 0 (nI (0))) 2 (nI ((yB Y) + 1))), F4), rfl, by rw [hF4, hF3, hF2, hF1]; rw [sp_bolt, if_pos (by omega)]; exact ⟨rfl, fun _ => rfl, MR_bolt _ hM hY⟩, by rw [ht]; exact hP, va_K.moved hW.alike hK, hD⟩, hS.F ht⟩) hS.2.2 dX5_bolt_95
      · skip
        refine lv_iconst (v := (zI ((-1)))) hx hb dX5_bolt_26 (by decide) ?_
        exact W.iret (v := (zI ((-1)))) hx hb hr (fun t ht hW => ⟨⟨_, ((va_up I 0 (nI (0))), F), rfl, by rw [sp_bolt, if_neg (by omega)]; exact ⟨rfl, fun _ => rfl, hM⟩, by rw [ht]; exact hP, va_K.moved hW.alike hK, hD⟩, hS.F ht⟩) hS.2.2 dX5_bolt_27
set_option maxHeartbeats 4000000 in
set_option maxRecDepth 100000 in
theorem c_X5_clear (l : Launch) (D : va_G) (cy : Nat → ClassId) (sz : Nat) (h0 : Nat) (ad : Nat → Nat) (I : Nat → Int32) (F : Nat → Nat → Int32) (Y : YT) (hM : MR I F Y) (hY : WF Y) (a b v : Int32) : Met l yX5_clear wsX5_clear ({ frames := 1, cells := 0, slots := 0, locals := 21 } : Room) (va_Pc [.ref h0, .int (a), .int (b), .int (v)] (wB D cy sz (wM cy h0 ad I F))) (va_Qi (fun (r : Int32) (u : (Nat → Int32) × (Nat → Nat → Int32)) => MP r u (sp_clear Y a b v)) (fun u t => wE D cy (va_A (wM cy h0 ad I F) sz) (wM cy h0 ad u.1 u.2) t) (va_A (wM cy h0 ad I F) sz)) 0 0 (va_A (wM cy h0 ad I F) sz) := by
  refine Met.ofW (cc := cX5_clear) (maxL := 4) (ret := (some .int)) (by decide) rfl ?_
  intro p e s m args below meth c s₁ B hml hv
  obtain ⟨rfl, hsz, hP, hK, hD0⟩ := hv
  have hx := B.exec
  have hb := B.bytes
  have hr := B.returns
  have hts := atoms_spec (ws := wsX5_clear) B.pre
  have hown : s.vm.findClass RX5 = some m.cls := findClass_of_methodNamed B.named
  have hlocks := B.notSynchronized
  subst hsz
  have hD := hD0.self (sz := s.heap.size)
  generalize hAe : va_A (wM cy h0 ad I F) s.heap.size = A at hD ⊢
  have hA : ∀ q : Nat, s.heap.size ≤ q → A q := w_A hAe
  have hS : va_S A s.heap s.heap [] := va_S.rf
  have hl := lv_entry ([.ref h0, .int (a), .int (b), .int (v)]) (n := 4) (Nat.le_of_ble_eq_true rfl)
  rw [lg_entry_eq]
  generalize (lg_sl ([.ref h0, .int (a), .int (b), .int (v)]) ++ List.replicate (4 - (lg_sl ([.ref h0, .int (a), .int (b), .int (v)])).length) Slot.unset).toArray = ls at hl ⊢
  have hl : lv_has ls 4 [(0, .ref h0), (1, .int (a)), (2, .int (b)), (3, .int (v))] := hl
  obtain ⟨hm1, hm2, hm3, hm4, hmF, hmB, hmC, hmR, hmW⟩ := id hM
  obtain ⟨hy0, hyF, hyB, hyC, hyf, hyb, hyc, hyr, hyw⟩ := id hY
  have hxa := ix_m a
  have hxb := ix_m b
  have hxv := ix_m v
  refine lv_aload_n hx hb dX5_clear_0 rfl (lv_at hl 0 rfl) ?_
  refine lv_iconst (v := (nI (0))) hx hb dX5_clear_1 (by decide) ?_
  refine va_put (D := D) (ci := 5) (v := .int (nI (0))) (ty := .int) (C := RX5) (T := TX5) (N := 34) hx hb hts (by decide +kernel) tyX5 tyX5_ok nmX5 hown hK hP hD hS 0 rfl rfl 0 (by decide) (hts (.fieldLink RX5 83 "CaskYardModel" "code" "I") (by decide +kernel)) (fun _ h9 => h9) rfl (by decide +kernel) rfl rfl (Nat.le_of_ble_eq_true rfl) dX5_clear_2 (fun H locs hP hD hS => ?_)
  have hP : va_P D vwCl (wM cy h0 ad (va_up I 0 (nI (0))) F) H := hP
  have hD : va_D A (wM cy h0 ad (va_up I 0 (nI (0))) F) := hD
  refine lv_aload_n hx hb dX5_clear_5 rfl (lv_at hl 0 rfl) ?_
  refine lv_iload_n hx hb dX5_clear_6 rfl (lv_at hl 1 rfl) ?_
  refine vp_callSi (va_Run.run (va_runV (As := [.int (a)]) (rest := []) ⟨hx, hb, hml, hown, hts⟩ (c_X5_isBolt l D cy h0 ad (va_up I 0 (nI (0))) F (a) (yB Y) (hm2) (by omega)) (cwV 1 hts gX5_clear_X5_isBolt rfl rfl rfl (by decide +kernel) ⟨Nat.le_of_ble_eq_true rfl, Nat.le_of_ble_eq_true rfl⟩) ⟨rB_blind, va_recv hK hP (ci := 5) (q0 := 0) rfl rfl, (rB_pre hP hK)⟩ rfl rfl hl.1 rfl (lv_room (Nat.le_of_ble_eq_true rfl)) dX5_clear_7 ⟨Nat.le_of_ble_eq_true rfl, Nat.le_of_ble_eq_true rfl⟩)) (fun r_7 hr_7 => ?_)
  subst hr_7
  refine g_ifeq_b (tgt := 36) hx hb dX5_clear_10 (by decide) (fun c_10 => ?_) (fun c_10 => ?_)
  · skip
    refine lv_aload_n hx hb dX5_clear_36 rfl (lv_at hl 0 rfl) ?_
    refine lv_iconst (v := (nI (1))) hx hb dX5_clear_37 (by decide) ?_
    have hFc := w_free hD hS hA
    refine va_calli (va_runV (As := [.int (nI (1))]) (rest := []) ⟨hx, hb, hml, hown, hts⟩ (c_X5_fail l D cy H.size h0 ad (va_up I 0 (nI (0))) F (nI (1))) (cwV 1 hts gX5_clear_X5_fail rfl rfl rfl (by decide +kernel) ⟨Nat.le_of_ble_eq_true rfl, Nat.le_of_ble_eq_true rfl⟩) ⟨wB_blind, va_recv hK hP (ci := 5) (q0 := 0) rfl rfl, wB_pre hP hK hD⟩ rfl rfl hl.1 rfl (lv_room (Nat.le_of_ble_eq_true rfl)) dX5_clear_38 ⟨Nat.le_of_ble_eq_true rfl, Nat.le_of_ble_eq_true rfl⟩) hS (fun q _ h => hFc q h) hFc (fun r_38 u_38 t H locs ht hvm hw_38 hB _ _ hS => ?_)
    obtain ⟨I_38, F_38⟩ := u_38
    obtain ⟨hP1, hK1, hD1⟩ := hB
    rw [ht] at hP1
    dsimp only at hP1 hD1 hw_38
    obtain ⟨hw_38, hu_38⟩ := hw_38
    rw [(Prod.mk.inj hu_38).1, (Prod.mk.inj hu_38).2] at hP1 hD1
    have hP := hP1
    have hD := hD1.weaken (fun _ _ _ h => hFc _ h)
    have hP : va_P D vwCl (wM cy h0 ad (va_up I 0 (nI (1))) F) H := hP
    have hD : va_D A (wM cy h0 ad (va_up I 0 (nI (1))) F) := hD
    refine g_top (y := (nI (0))) (hw_38) ?_
    exact W.iret (v := (nI (0))) hx hb hr (fun t ht hW => ⟨⟨_, ((va_up I 0 (nI (1))), F), rfl, by rw [sp_clear, if_neg (by omega)]; exact MP_t rfl hM, by rw [ht]; exact hP, va_K.moved hW.alike hK, hD⟩, hS.F ht⟩) hS.2.2 dX5_clear_41
  · skip
    have h_a := ix_n (a := a) (by omega)
    have hib : ix a < yB Y := by omega
    have hpl := (hyb (ix a) hib).2.1
    have hl : lv_has ls 4 [(0, .ref h0), (1, .int (nI (ix a))), (2, .int (b)), (3, .int (v))] := by rw [← h_a]; exact hl
    refine lv_iload_n hx hb dX5_clear_13 rfl (lv_at hl 2 rfl) ?_
    refine g_if_lt (tgt := 36) hx hb dX5_clear_14 (by decide) rfl (fun c_14 => ?_) (fun c_14 => ?_)
    · skip
      refine lv_aload_n hx hb dX5_clear_36 rfl (lv_at hl 0 rfl) ?_
      refine lv_iconst (v := (nI (1))) hx hb dX5_clear_37 (by decide) ?_
      have hFc := w_free hD hS hA
      refine va_calli (va_runV (As := [.int (nI (1))]) (rest := []) ⟨hx, hb, hml, hown, hts⟩ (c_X5_fail l D cy H.size h0 ad (va_up I 0 (nI (0))) F (nI (1))) (cwV 1 hts gX5_clear_X5_fail rfl rfl rfl (by decide +kernel) ⟨Nat.le_of_ble_eq_true rfl, Nat.le_of_ble_eq_true rfl⟩) ⟨wB_blind, va_recv hK hP (ci := 5) (q0 := 0) rfl rfl, wB_pre hP hK hD⟩ rfl rfl hl.1 rfl (lv_room (Nat.le_of_ble_eq_true rfl)) dX5_clear_38 ⟨Nat.le_of_ble_eq_true rfl, Nat.le_of_ble_eq_true rfl⟩) hS (fun q _ h => hFc q h) hFc (fun r_38 u_38 t H locs ht hvm hw_38 hB _ _ hS => ?_)
      obtain ⟨I_38, F_38⟩ := u_38
      obtain ⟨hP1, hK1, hD1⟩ := hB
      rw [ht] at hP1
      dsimp only at hP1 hD1 hw_38
      obtain ⟨hw_38, hu_38⟩ := hw_38
      rw [(Prod.mk.inj hu_38).1, (Prod.mk.inj hu_38).2] at hP1 hD1
      have hP := hP1
      have hD := hD1.weaken (fun _ _ _ h => hFc _ h)
      have hP : va_P D vwCl (wM cy h0 ad (va_up I 0 (nI (1))) F) H := hP
      have hD : va_D A (wM cy h0 ad (va_up I 0 (nI (1))) F) := hD
      refine g_top (y := (nI (0))) (hw_38) ?_
      exact W.iret (v := (nI (0))) hx hb hr (fun t ht hW => ⟨⟨_, ((va_up I 0 (nI (1))), F), rfl, by rw [sp_clear, if_neg (by omega)]; exact MP_t rfl hM, by rw [ht]; exact hP, va_K.moved hW.alike hK, hD⟩, hS.F ht⟩) hS.2.2 dX5_clear_41
    · skip
      refine lv_iload_n hx hb dX5_clear_17 rfl (lv_at hl 2 rfl) ?_
      refine lv_aload_n hx hb dX5_clear_18 rfl (lv_at hl 0 rfl) ?_
      refine va_get (D := D) (ci := 5) (v := .ref ((ad 10))) (C := RX5) (T := TX5) (N := 34) hx hb hts (by decide +kernel) hown hK hP 0 rfl rfl 10 (by decide) (hts (.fieldLink RX5 25 "CaskYardModel" "partMany" "[I") (by decide +kernel)) (fun _ h9 => h9) rfl dX5_clear_19 ?_
      refine lv_iload_n hx hb dX5_clear_22 rfl (lv_at hl 1 rfl) ?_
      refine g_iald hx hb hK hP 6 0 rfl rfl (ix a) rfl (by omega) (by decide) dX5_clear_23 ?_
      refine g_top (y := (nI ((yP Y (ix a)).length))) (hmB (ix a) (by omega)).2.1 ?_
      refine g_icmp_ge (tgt := 36) hx hb dX5_clear_24 (by decide) rfl (n_i (by omega)) (fun c_24 => ?_) (fun c_24 => ?_)
      · skip
        refine lv_aload_n hx hb dX5_clear_36 rfl (lv_at hl 0 rfl) ?_
        refine lv_iconst (v := (nI (1))) hx hb dX5_clear_37 (by decide) ?_
        have hFc := w_free hD hS hA
        refine va_calli (va_runV (As := [.int (nI (1))]) (rest := []) ⟨hx, hb, hml, hown, hts⟩ (c_X5_fail l D cy H.size h0 ad (va_up I 0 (nI (0))) F (nI (1))) (cwV 1 hts gX5_clear_X5_fail rfl rfl rfl (by decide +kernel) ⟨Nat.le_of_ble_eq_true rfl, Nat.le_of_ble_eq_true rfl⟩) ⟨wB_blind, va_recv hK hP (ci := 5) (q0 := 0) rfl rfl, wB_pre hP hK hD⟩ rfl rfl hl.1 rfl (lv_room (Nat.le_of_ble_eq_true rfl)) dX5_clear_38 ⟨Nat.le_of_ble_eq_true rfl, Nat.le_of_ble_eq_true rfl⟩) hS (fun q _ h => hFc q h) hFc (fun r_38 u_38 t H locs ht hvm hw_38 hB _ _ hS => ?_)
        obtain ⟨I_38, F_38⟩ := u_38
        obtain ⟨hP1, hK1, hD1⟩ := hB
        rw [ht] at hP1
        dsimp only at hP1 hD1 hw_38
        obtain ⟨hw_38, hu_38⟩ := hw_38
        rw [(Prod.mk.inj hu_38).1, (Prod.mk.inj hu_38).2] at hP1 hD1
        have hP := hP1
        have hD := hD1.weaken (fun _ _ _ h => hFc _ h)
        have hP : va_P D vwCl (wM cy h0 ad (va_up I 0 (nI (1))) F) H := hP
        have hD : va_D A (wM cy h0 ad (va_up I 0 (nI (1))) F) := hD
        refine g_top (y := (nI (0))) (hw_38) ?_
        exact W.iret (v := (nI (0))) hx hb hr (fun t ht hW => ⟨⟨_, ((va_up I 0 (nI (1))), F), rfl, by rw [sp_clear, if_neg (by omega)]; exact MP_t rfl hM, by rw [ht]; exact hP, va_K.moved hW.alike hK, hD⟩, hS.F ht⟩) hS.2.2 dX5_clear_41
      · skip
        have h_b := ix_n (a := b) (by omega)
        have hl : lv_has ls 4 [(0, .ref h0), (1, .int (nI (ix a))), (2, .int (nI (ix b))), (3, .int (v))] := by rw [← h_b]; exact hl
        refine lv_iload_n hx hb dX5_clear_27 rfl (lv_at hl 3 rfl) ?_
        refine g_if_lt (tgt := 36) hx hb dX5_clear_28 (by decide) rfl (fun c_28 => ?_) (fun c_28 => ?_)
        · skip
          refine lv_aload_n hx hb dX5_clear_36 rfl (lv_at hl 0 rfl) ?_
          refine lv_iconst (v := (nI (1))) hx hb dX5_clear_37 (by decide) ?_
          have hFc := w_free hD hS hA
          refine va_calli (va_runV (As := [.int (nI (1))]) (rest := []) ⟨hx, hb, hml, hown, hts⟩ (c_X5_fail l D cy H.size h0 ad (va_up I 0 (nI (0))) F (nI (1))) (cwV 1 hts gX5_clear_X5_fail rfl rfl rfl (by decide +kernel) ⟨Nat.le_of_ble_eq_true rfl, Nat.le_of_ble_eq_true rfl⟩) ⟨wB_blind, va_recv hK hP (ci := 5) (q0 := 0) rfl rfl, wB_pre hP hK hD⟩ rfl rfl hl.1 rfl (lv_room (Nat.le_of_ble_eq_true rfl)) dX5_clear_38 ⟨Nat.le_of_ble_eq_true rfl, Nat.le_of_ble_eq_true rfl⟩) hS (fun q _ h => hFc q h) hFc (fun r_38 u_38 t H locs ht hvm hw_38 hB _ _ hS => ?_)
          obtain ⟨I_38, F_38⟩ := u_38
          obtain ⟨hP1, hK1, hD1⟩ := hB
          rw [ht] at hP1
          dsimp only at hP1 hD1 hw_38
          obtain ⟨hw_38, hu_38⟩ := hw_38
          rw [(Prod.mk.inj hu_38).1, (Prod.mk.inj hu_38).2] at hP1 hD1
          have hP := hP1
          have hD := hD1.weaken (fun _ _ _ h => hFc _ h)
          have hP : va_P D vwCl (wM cy h0 ad (va_up I 0 (nI (1))) F) H := hP
          have hD : va_D A (wM cy h0 ad (va_up I 0 (nI (1))) F) := hD
          refine g_top (y := (nI (0))) (hw_38) ?_
          exact W.iret (v := (nI (0))) hx hb hr (fun t ht hW => ⟨⟨_, ((va_up I 0 (nI (1))), F), rfl, by rw [sp_clear, if_neg (by omega)]; exact MP_t rfl hM, by rw [ht]; exact hP, va_K.moved hW.alike hK, hD⟩, hS.F ht⟩) hS.2.2 dX5_clear_41
        · skip
          refine lv_iload_n hx hb dX5_clear_31 rfl (lv_at hl 3 rfl) ?_
          refine lv_iconst (v := (nI (1))) hx hb dX5_clear_32 (by decide) ?_
          refine g_icmp_le (tgt := 42) hx hb dX5_clear_33 (by decide) rfl (n_i (by omega)) (fun c_33 => ?_) (fun c_33 => ?_)
          · skip
            have h_v := ix_n (a := v) (by omega)
            have hl : lv_has ls 4 [(0, .ref h0), (1, .int (nI (ix a))), (2, .int (nI (ix b))), (3, .int (nI (ix v)))] := by rw [← h_v]; exact hl
            refine lv_iload_n hx hb dX5_clear_42 rfl (lv_at hl 3 rfl) ?_
            refine g_if_ne (tgt := 59) hx hb dX5_clear_43 (by decide) (n_i (by omega)) (fun c_43 => ?_) (fun c_43 => ?_)
            · skip
              refine lv_aload_n hx hb dX5_clear_59 rfl (lv_at hl 0 rfl) ?_
              refine va_get (D := D) (ci := 5) (v := .ref ((ad 12))) (C := RX5) (T := TX5) (N := 34) hx hb hts (by decide +kernel) hown hK hP 0 rfl rfl 12 (by decide) (hts (.fieldLink RX5 31 "CaskYardModel" "to" "[I") (by decide +kernel)) (fun _ h9 => h9) rfl dX5_clear_60 ?_
              refine lv_iload_n hx hb dX5_clear_63 rfl (lv_at hl 1 rfl) ?_
              refine lv_iload_n hx hb dX5_clear_64 rfl (lv_at hl 2 rfl) ?_
              refine vp_callSi (va_Run.run (va_runS (As := [.int (nI (ix a)), .int (nI (ix b))]) (rest := [.ref ((ad 12))]) ⟨hx, hb, hml, hown, hts⟩ (c_X5_part l  (ix a) (ix b)) (va_cwS 2 hts gX5_clear_X5_part rfl rfl rfl (by decide +kernel) ⟨Nat.le_of_ble_eq_true rfl, Nat.le_of_ble_eq_true rfl⟩) ⟨nB_blind, nB_pre⟩ rfl rfl hl.1 rfl (lv_room (Nat.le_of_ble_eq_true rfl)) dX5_clear_65 ⟨Nat.le_of_ble_eq_true rfl, Nat.le_of_ble_eq_true rfl⟩)) (fun r_65 hr_65 => ?_)
              subst hr_65
              refine g_iald hx hb hK hP 8 0 rfl rfl (5 * (ix a) + (ix b)) rfl (by omega) (by decide) dX5_clear_68 ?_
              refine g_top (y := (nI (((yP Y (ix a)).getD (ix b) (0, 0)).2))) ((arrP_get (hmB (ix a) hib).2.2 (i := ix b) (by omega)).2) ?_
              exact W.iret (v := (nI (((yP Y (ix a)).getD (ix b) (0, 0)).2))) hx hb hr (fun t ht hW => ⟨⟨_, ((va_up I 0 (nI (0))), F), rfl, by rw [sp_clear, if_pos (by omega)]; exact ⟨rfl, fun _ => congrArg nI (if_neg (by omega)).symm, hM⟩, by rw [ht]; exact hP, va_K.moved hW.alike hK, hD⟩, hS.F ht⟩) hS.2.2 dX5_clear_69
            · skip
              refine lv_aload_n hx hb dX5_clear_46 rfl (lv_at hl 0 rfl) ?_
              refine va_get (D := D) (ci := 5) (v := .ref ((ad 11))) (C := RX5) (T := TX5) (N := 34) hx hb hts (by decide +kernel) hown hK hP 0 rfl rfl 11 (by decide) (hts (.fieldLink RX5 28 "CaskYardModel" "from" "[I") (by decide +kernel)) (fun _ h9 => h9) rfl dX5_clear_47 ?_
              refine lv_iload_n hx hb dX5_clear_50 rfl (lv_at hl 1 rfl) ?_
              refine lv_iload_n hx hb dX5_clear_51 rfl (lv_at hl 2 rfl) ?_
              refine vp_callSi (va_Run.run (va_runS (As := [.int (nI (ix a)), .int (nI (ix b))]) (rest := [.ref ((ad 11))]) ⟨hx, hb, hml, hown, hts⟩ (c_X5_part l  (ix a) (ix b)) (va_cwS 2 hts gX5_clear_X5_part rfl rfl rfl (by decide +kernel) ⟨Nat.le_of_ble_eq_true rfl, Nat.le_of_ble_eq_true rfl⟩) ⟨nB_blind, nB_pre⟩ rfl rfl hl.1 rfl (lv_room (Nat.le_of_ble_eq_true rfl)) dX5_clear_52 ⟨Nat.le_of_ble_eq_true rfl, Nat.le_of_ble_eq_true rfl⟩)) (fun r_52 hr_52 => ?_)
              subst hr_52
              refine g_iald hx hb hK hP 7 0 rfl rfl (5 * (ix a) + (ix b)) rfl (by omega) (by decide) dX5_clear_55 ?_
              refine g_top (y := (nI (((yP Y (ix a)).getD (ix b) (0, 0)).1))) ((arrP_get (hmB (ix a) hib).2.2 (i := ix b) (by omega)).1) ?_
              refine lv_goto (tgt := 69) hx hb dX5_clear_56 (by decide) ?_
              exact W.iret (v := (nI (((yP Y (ix a)).getD (ix b) (0, 0)).1))) hx hb hr (fun t ht hW => ⟨⟨_, ((va_up I 0 (nI (0))), F), rfl, by rw [sp_clear, if_pos (by omega)]; exact ⟨rfl, fun _ => congrArg nI (if_pos (by omega)).symm, hM⟩, by rw [ht]; exact hP, va_K.moved hW.alike hK, hD⟩, hS.F ht⟩) hS.2.2 dX5_clear_69
          · skip
            refine lv_aload_n hx hb dX5_clear_36 rfl (lv_at hl 0 rfl) ?_
            refine lv_iconst (v := (nI (1))) hx hb dX5_clear_37 (by decide) ?_
            have hFc := w_free hD hS hA
            refine va_calli (va_runV (As := [.int (nI (1))]) (rest := []) ⟨hx, hb, hml, hown, hts⟩ (c_X5_fail l D cy H.size h0 ad (va_up I 0 (nI (0))) F (nI (1))) (cwV 1 hts gX5_clear_X5_fail rfl rfl rfl (by decide +kernel) ⟨Nat.le_of_ble_eq_true rfl, Nat.le_of_ble_eq_true rfl⟩) ⟨wB_blind, va_recv hK hP (ci := 5) (q0 := 0) rfl rfl, wB_pre hP hK hD⟩ rfl rfl hl.1 rfl (lv_room (Nat.le_of_ble_eq_true rfl)) dX5_clear_38 ⟨Nat.le_of_ble_eq_true rfl, Nat.le_of_ble_eq_true rfl⟩) hS (fun q _ h => hFc q h) hFc (fun r_38 u_38 t H locs ht hvm hw_38 hB _ _ hS => ?_)
            obtain ⟨I_38, F_38⟩ := u_38
            obtain ⟨hP1, hK1, hD1⟩ := hB
            rw [ht] at hP1
            dsimp only at hP1 hD1 hw_38
            obtain ⟨hw_38, hu_38⟩ := hw_38
            rw [(Prod.mk.inj hu_38).1, (Prod.mk.inj hu_38).2] at hP1 hD1
            have hP := hP1
            have hD := hD1.weaken (fun _ _ _ h => hFc _ h)
            have hP : va_P D vwCl (wM cy h0 ad (va_up I 0 (nI (1))) F) H := hP
            have hD : va_D A (wM cy h0 ad (va_up I 0 (nI (1))) F) := hD
            refine g_top (y := (nI (0))) (hw_38) ?_
            exact W.iret (v := (nI (0))) hx hb hr (fun t ht hW => ⟨⟨_, ((va_up I 0 (nI (1))), F), rfl, by rw [sp_clear, if_neg (by omega)]; exact MP_t rfl hM, by rw [ht]; exact hP, va_K.moved hW.alike hK, hD⟩, hS.F ht⟩) hS.2.2 dX5_clear_41
set_option maxHeartbeats 4000000 in
set_option maxRecDepth 100000 in
theorem c_X5_ripe (l : Launch) (D : va_G) (cy : Nat → ClassId) (sz : Nat) (h0 : Nat) (ad : Nat → Nat) (I : Nat → Int32) (F : Nat → Nat → Int32) (Y : YT) (hM : MR I F Y) (hY : WF Y) (a : Int32) : Met l yX5_ripe wsX5_ripe ({ frames := 1, cells := 0, slots := 0, locals := 21 } : Room) (va_Pc [.ref h0, .int (a)] (wB D cy sz (wM cy h0 ad I F))) (va_Qi (fun (r : Int32) (u : (Nat → Int32) × (Nat → Nat → Int32)) => MP r u (sp_ripe Y a)) (fun u t => wE D cy (va_A (wM cy h0 ad I F) sz) (wM cy h0 ad u.1 u.2) t) (va_A (wM cy h0 ad I F) sz)) 0 0 (va_A (wM cy h0 ad I F) sz) := by
  refine Met.ofW (cc := cX5_ripe) (maxL := 2) (ret := (some .boolean)) (by decide) rfl ?_
  intro p e s m args below meth c s₁ B hml hv
  obtain ⟨rfl, hsz, hP, hK, hD0⟩ := hv
  have hx := B.exec
  have hb := B.bytes
  have hr := B.returns
  have hts := atoms_spec (ws := wsX5_ripe) B.pre
  have hown : s.vm.findClass RX5 = some m.cls := findClass_of_methodNamed B.named
  have hlocks := B.notSynchronized
  subst hsz
  have hD := hD0.self (sz := s.heap.size)
  generalize hAe : va_A (wM cy h0 ad I F) s.heap.size = A at hD ⊢
  have hA : ∀ q : Nat, s.heap.size ≤ q → A q := w_A hAe
  have hS : va_S A s.heap s.heap [] := va_S.rf
  have hl := lv_entry ([.ref h0, .int (a)]) (n := 2) (Nat.le_of_ble_eq_true rfl)
  rw [lg_entry_eq]
  generalize (lg_sl ([.ref h0, .int (a)]) ++ List.replicate (2 - (lg_sl ([.ref h0, .int (a)])).length) Slot.unset).toArray = ls at hl ⊢
  have hl : lv_has ls 2 [(0, .ref h0), (1, .int (a))] := hl
  obtain ⟨hm1, hm2, hm3, hm4, hmF, hmB, hmC, hmR, hmW⟩ := id hM
  obtain ⟨hy0, hyF, hyB, hyC, hyf, hyb, hyc, hyr, hyw⟩ := id hY
  have hxa := ix_m a
  refine lv_aload_n hx hb dX5_ripe_0 rfl (lv_at hl 0 rfl) ?_
  refine lv_iconst (v := (nI (0))) hx hb dX5_ripe_1 (by decide) ?_
  refine va_put (D := D) (ci := 5) (v := .int (nI (0))) (ty := .int) (C := RX5) (T := TX5) (N := 34) hx hb hts (by decide +kernel) tyX5 tyX5_ok nmX5 hown hK hP hD hS 0 rfl rfl 0 (by decide) (hts (.fieldLink RX5 83 "CaskYardModel" "code" "I") (by decide +kernel)) (fun _ h9 => h9) rfl (by decide +kernel) rfl rfl (Nat.le_of_ble_eq_true rfl) dX5_ripe_2 (fun H locs hP hD hS => ?_)
  have hP : va_P D vwCl (wM cy h0 ad (va_up I 0 (nI (0))) F) H := hP
  have hD : va_D A (wM cy h0 ad (va_up I 0 (nI (0))) F) := hD
  refine lv_aload_n hx hb dX5_ripe_5 rfl (lv_at hl 0 rfl) ?_
  refine lv_iload_n hx hb dX5_ripe_6 rfl (lv_at hl 1 rfl) ?_
  refine vp_callSi (va_Run.run (va_runV (As := [.int (a)]) (rest := []) ⟨hx, hb, hml, hown, hts⟩ (c_X5_isBolt l D cy h0 ad (va_up I 0 (nI (0))) F (a) (yB Y) (hm2) (by omega)) (cwV 1 hts gX5_ripe_X5_isBolt rfl rfl rfl (by decide +kernel) ⟨Nat.le_of_ble_eq_true rfl, Nat.le_of_ble_eq_true rfl⟩) ⟨rB_blind, va_recv hK hP (ci := 5) (q0 := 0) rfl rfl, (rB_pre hP hK)⟩ rfl rfl hl.1 rfl (lv_room (Nat.le_of_ble_eq_true rfl)) dX5_ripe_7 ⟨Nat.le_of_ble_eq_true rfl, Nat.le_of_ble_eq_true rfl⟩)) (fun r_7 hr_7 => ?_)
  subst hr_7
  refine g_ifne_b (tgt := 21) hx hb dX5_ripe_10 (by decide) (fun c_10 => ?_) (fun c_10 => ?_)
  · skip
    have h_a := ix_n (a := a) (by omega)
    have hib : ix a < yB Y := by omega
    have hl : lv_has ls 2 [(0, .ref h0), (1, .int (nI (ix a)))] := by rw [← h_a]; exact hl
    refine lv_aload_n hx hb dX5_ripe_21 rfl (lv_at hl 0 rfl) ?_
    refine lv_iload_n hx hb dX5_ripe_22 rfl (lv_at hl 1 rfl) ?_
    refine vp_callSi (va_Run.run (va_runV (As := [.int (nI (ix a))]) (rest := []) ⟨hx, hb, hml, hown, hts⟩ (c_X5_isRipe l D cy h0 ad (va_up I 0 (nI (0))) F (ix a) (ysp Y (ix a)) (yNow Y) (Nat.lt_of_lt_of_le hib hyB) (hm4) ((hmB (ix a) hib).1) (⟨(hyb (ix a) hib).1, hy0⟩)) (cwV 1 hts gX5_ripe_X5_isRipe rfl rfl rfl (by decide +kernel) ⟨Nat.le_of_ble_eq_true rfl, Nat.le_of_ble_eq_true rfl⟩) ⟨rB_blind, va_recv hK hP (ci := 5) (q0 := 0) rfl rfl, (rB_pre hP hK)⟩ rfl rfl hl.1 rfl (lv_room (Nat.le_of_ble_eq_true rfl)) dX5_ripe_23 ⟨Nat.le_of_ble_eq_true rfl, Nat.le_of_ble_eq_true rfl⟩)) (fun r_23 hr_23 => ?_)
    subst hr_23
    exact W.zret (v := (bI ((ysp Y (ix a)) + 1095 ≤ (yNow Y)))) hx hb hr (bI_nar _) (fun t ht hW => ⟨⟨_, ((va_up I 0 (nI (0))), F), rfl, by rw [sp_ripe, if_pos (by omega)]; exact ⟨rfl, fun _ => rfl, hM⟩, by rw [ht]; exact hP, va_K.moved hW.alike hK, hD⟩, hS.F ht⟩) hS.2.2 dX5_ripe_26
  · skip
    refine lv_aload_n hx hb dX5_ripe_13 rfl (lv_at hl 0 rfl) ?_
    refine lv_iconst (v := (nI (1))) hx hb dX5_ripe_14 (by decide) ?_
    have hFc := w_free hD hS hA
    refine va_calli (va_runV (As := [.int (nI (1))]) (rest := []) ⟨hx, hb, hml, hown, hts⟩ (c_X5_fail l D cy H.size h0 ad (va_up I 0 (nI (0))) F (nI (1))) (cwV 1 hts gX5_ripe_X5_fail rfl rfl rfl (by decide +kernel) ⟨Nat.le_of_ble_eq_true rfl, Nat.le_of_ble_eq_true rfl⟩) ⟨wB_blind, va_recv hK hP (ci := 5) (q0 := 0) rfl rfl, wB_pre hP hK hD⟩ rfl rfl hl.1 rfl (lv_room (Nat.le_of_ble_eq_true rfl)) dX5_ripe_15 ⟨Nat.le_of_ble_eq_true rfl, Nat.le_of_ble_eq_true rfl⟩) hS (fun q _ h => hFc q h) hFc (fun r_15 u_15 t H locs ht hvm hw_15 hB _ _ hS => ?_)
    obtain ⟨I_15, F_15⟩ := u_15
    obtain ⟨hP1, hK1, hD1⟩ := hB
    rw [ht] at hP1
    dsimp only at hP1 hD1 hw_15
    obtain ⟨hw_15, hu_15⟩ := hw_15
    rw [(Prod.mk.inj hu_15).1, (Prod.mk.inj hu_15).2] at hP1 hD1
    have hP := hP1
    have hD := hD1.weaken (fun _ _ _ h => hFc _ h)
    have hP : va_P D vwCl (wM cy h0 ad (va_up I 0 (nI (1))) F) H := hP
    have hD : va_D A (wM cy h0 ad (va_up I 0 (nI (1))) F) := hD
    refine g_top (y := (nI (0))) (hw_15) ?_
    refine lv_pop hx hb dX5_ripe_18 rfl ?_
    refine lv_iconst (v := (nI (0))) hx hb dX5_ripe_19 (by decide) ?_
    exact W.zret (v := (nI (0))) hx hb hr (by decide) (fun t ht hW => ⟨⟨_, ((va_up I 0 (nI (1))), F), rfl, by rw [sp_ripe, if_neg (by omega)]; exact MP_t rfl hM, by rw [ht]; exact hP, va_K.moved hW.alike hK, hD⟩, hS.F ht⟩) hS.2.2 dX5_ripe_20
set_option maxHeartbeats 4000000 in
set_option maxRecDepth 100000 in
theorem c_X5_formOf (l : Launch) (D : va_G) (cy : Nat → ClassId) (sz : Nat) (h0 : Nat) (ad : Nat → Nat) (I : Nat → Int32) (F : Nat → Nat → Int32) (Y : YT) (hM : MR I F Y) (hY : WF Y) (a : Int32) : Met l yX5_formOf wsX5_formOf ({ frames := 1, cells := 0, slots := 0, locals := 21 } : Room) (va_Pc [.ref h0, .int (a)] (wB D cy sz (wM cy h0 ad I F))) (va_Qi (fun (r : Int32) (u : (Nat → Int32) × (Nat → Nat → Int32)) => MP r u (sp_formOf Y a)) (fun u t => wE D cy (va_A (wM cy h0 ad I F) sz) (wM cy h0 ad u.1 u.2) t) (va_A (wM cy h0 ad I F) sz)) 0 0 (va_A (wM cy h0 ad I F) sz) := by
  refine Met.ofW (cc := cX5_formOf) (maxL := 2) (ret := (some .int)) (by decide) rfl ?_
  intro p e s m args below meth c s₁ B hml hv
  obtain ⟨rfl, hsz, hP, hK, hD0⟩ := hv
  have hx := B.exec
  have hb := B.bytes
  have hr := B.returns
  have hts := atoms_spec (ws := wsX5_formOf) B.pre
  have hown : s.vm.findClass RX5 = some m.cls := findClass_of_methodNamed B.named
  have hlocks := B.notSynchronized
  subst hsz
  have hD := hD0.self (sz := s.heap.size)
  generalize hAe : va_A (wM cy h0 ad I F) s.heap.size = A at hD ⊢
  have hA : ∀ q : Nat, s.heap.size ≤ q → A q := w_A hAe
  have hS : va_S A s.heap s.heap [] := va_S.rf
  have hl := lv_entry ([.ref h0, .int (a)]) (n := 2) (Nat.le_of_ble_eq_true rfl)
  rw [lg_entry_eq]
  generalize (lg_sl ([.ref h0, .int (a)]) ++ List.replicate (2 - (lg_sl ([.ref h0, .int (a)])).length) Slot.unset).toArray = ls at hl ⊢
  have hl : lv_has ls 2 [(0, .ref h0), (1, .int (a))] := hl
  obtain ⟨hm1, hm2, hm3, hm4, hmF, hmB, hmC, hmR, hmW⟩ := id hM
  obtain ⟨hy0, hyF, hyB, hyC, hyf, hyb, hyc, hyr, hyw⟩ := id hY
  have hxa := ix_m a
  refine lv_aload_n hx hb dX5_formOf_0 rfl (lv_at hl 0 rfl) ?_
  refine lv_iconst (v := (nI (0))) hx hb dX5_formOf_1 (by decide) ?_
  refine va_put (D := D) (ci := 5) (v := .int (nI (0))) (ty := .int) (C := RX5) (T := TX5) (N := 34) hx hb hts (by decide +kernel) tyX5 tyX5_ok nmX5 hown hK hP hD hS 0 rfl rfl 0 (by decide) (hts (.fieldLink RX5 83 "CaskYardModel" "code" "I") (by decide +kernel)) (fun _ h9 => h9) rfl (by decide +kernel) rfl rfl (Nat.le_of_ble_eq_true rfl) dX5_formOf_2 (fun H locs hP hD hS => ?_)
  have hP : va_P D vwCl (wM cy h0 ad (va_up I 0 (nI (0))) F) H := hP
  have hD : va_D A (wM cy h0 ad (va_up I 0 (nI (0))) F) := hD
  refine lv_aload_n hx hb dX5_formOf_5 rfl (lv_at hl 0 rfl) ?_
  refine lv_iload_n hx hb dX5_formOf_6 rfl (lv_at hl 1 rfl) ?_
  refine vp_callSi (va_Run.run (va_runV (As := [.int (a)]) (rest := []) ⟨hx, hb, hml, hown, hts⟩ (c_X5_isCask l D cy h0 ad (va_up I 0 (nI (0))) F (a) (yC Y) (hm3) (by omega)) (cwV 1 hts gX5_formOf_X5_isCask rfl rfl rfl (by decide +kernel) ⟨Nat.le_of_ble_eq_true rfl, Nat.le_of_ble_eq_true rfl⟩) ⟨rB_blind, va_recv hK hP (ci := 5) (q0 := 0) rfl rfl, (rB_pre hP hK)⟩ rfl rfl hl.1 rfl (lv_room (Nat.le_of_ble_eq_true rfl)) dX5_formOf_7 ⟨Nat.le_of_ble_eq_true rfl, Nat.le_of_ble_eq_true rfl⟩)) (fun r_7 hr_7 => ?_)
  subst hr_7
  refine g_ifeq_b (tgt := 22) hx hb dX5_formOf_10 (by decide) (fun c_10 => ?_) (fun c_10 => ?_)
  · skip
    refine lv_aload_n hx hb dX5_formOf_22 rfl (lv_at hl 0 rfl) ?_
    refine lv_iconst (v := (nI (1))) hx hb dX5_formOf_23 (by decide) ?_
    have hFc := w_free hD hS hA
    refine va_calli (va_runV (As := [.int (nI (1))]) (rest := []) ⟨hx, hb, hml, hown, hts⟩ (c_X5_fail l D cy H.size h0 ad (va_up I 0 (nI (0))) F (nI (1))) (cwV 1 hts gX5_formOf_X5_fail rfl rfl rfl (by decide +kernel) ⟨Nat.le_of_ble_eq_true rfl, Nat.le_of_ble_eq_true rfl⟩) ⟨wB_blind, va_recv hK hP (ci := 5) (q0 := 0) rfl rfl, wB_pre hP hK hD⟩ rfl rfl hl.1 rfl (lv_room (Nat.le_of_ble_eq_true rfl)) dX5_formOf_24 ⟨Nat.le_of_ble_eq_true rfl, Nat.le_of_ble_eq_true rfl⟩) hS (fun q _ h => hFc q h) hFc (fun r_24 u_24 t H locs ht hvm hw_24 hB _ _ hS => ?_)
    obtain ⟨I_24, F_24⟩ := u_24
    obtain ⟨hP1, hK1, hD1⟩ := hB
    rw [ht] at hP1
    dsimp only at hP1 hD1 hw_24
    obtain ⟨hw_24, hu_24⟩ := hw_24
    rw [(Prod.mk.inj hu_24).1, (Prod.mk.inj hu_24).2] at hP1 hD1
    have hP := hP1
    have hD := hD1.weaken (fun _ _ _ h => hFc _ h)
    have hP : va_P D vwCl (wM cy h0 ad (va_up I 0 (nI (1))) F) H := hP
    have hD : va_D A (wM cy h0 ad (va_up I 0 (nI (1))) F) := hD
    refine g_top (y := (nI (0))) (hw_24) ?_
    exact W.iret (v := (nI (0))) hx hb hr (fun t ht hW => ⟨⟨_, ((va_up I 0 (nI (1))), F), rfl, by rw [sp_formOf, if_neg (by omega)]; exact MP_t rfl hM, by rw [ht]; exact hP, va_K.moved hW.alike hK, hD⟩, hS.F ht⟩) hS.2.2 dX5_formOf_27
  · skip
    have h_a := ix_n (a := a) (by omega)
    have hl : lv_has ls 2 [(0, .ref h0), (1, .int (nI (ix a)))] := by rw [← h_a]; exact hl
    refine lv_aload_n hx hb dX5_formOf_13 rfl (lv_at hl 0 rfl) ?_
    refine va_get (D := D) (ci := 5) (v := .ref ((ad 13))) (C := RX5) (T := TX5) (N := 34) hx hb hts (by decide +kernel) hown hK hP 0 rfl rfl 13 (by decide) (hts (.fieldLink RX5 34 "CaskYardModel" "caskForm" "[I") (by decide +kernel)) (fun _ h9 => h9) rfl dX5_formOf_14 ?_
    refine lv_iload_n hx hb dX5_formOf_17 rfl (lv_at hl 1 rfl) ?_
    refine g_iald hx hb hK hP 9 0 rfl rfl (ix a) rfl (by omega) (by decide) dX5_formOf_18 ?_
    refine g_top (y := (nI (ycf Y (ix a)))) (hmC (ix a) (by omega)).1 ?_
    refine lv_goto (tgt := 27) hx hb dX5_formOf_19 (by decide) ?_
    exact W.iret (v := (nI (ycf Y (ix a)))) hx hb hr (fun t ht hW => ⟨⟨_, ((va_up I 0 (nI (0))), F), rfl, by rw [sp_formOf, if_pos (by omega)]; exact ⟨rfl, fun _ => rfl, hM⟩, by rw [ht]; exact hP, va_K.moved hW.alike hK, hD⟩, hS.F ht⟩) hS.2.2 dX5_formOf_27
set_option maxHeartbeats 4000000 in
set_option maxRecDepth 100000 in
theorem c_X5_isStave (l : Launch) (D : va_G) (cy : Nat → ClassId) (h0 : Nat) (ad : Nat → Nat) (I : Nat → Int32) (F : Nat → Nat → Int32) (Y : YT) (hM : MR I F Y) (hY : WF Y) (a b : Int32) : Met l yX5_isStave wsX5_isStave ({ frames := 1, cells := 0, slots := 0, locals := 21 } : Room) (va_Pc [.ref h0, .int (a), .int (b)] (rB D cy (wM cy h0 ad I F))) (vp_Si (fun r : Int32 => r = bI (isIx a (yC Y) ∧ isIx b (ys Y (ycf Y (ix a)))))) 0 0 (fun _ => False) := by
  refine Met.ofW (cc := cX5_isStave) (maxL := 3) (ret := (some .boolean)) (by decide) rfl ?_
  intro p e s m args below meth c s₁ B hml hv
  obtain ⟨rfl, hv⟩ := hv
  have hx := B.exec
  have hb := B.bytes
  have hr := B.returns
  have hts := atoms_spec (ws := wsX5_isStave) B.pre
  have hown : s.vm.findClass RX5 = some m.cls := findClass_of_methodNamed B.named
  have hlocks := B.notSynchronized
  obtain ⟨hP, hK⟩ := hv
  have hl := lv_entry ([.ref h0, .int (a), .int (b)]) (n := 3) (Nat.le_of_ble_eq_true rfl)
  rw [lg_entry_eq]
  generalize (lg_sl ([.ref h0, .int (a), .int (b)]) ++ List.replicate (3 - (lg_sl ([.ref h0, .int (a), .int (b)])).length) Slot.unset).toArray = ls at hl ⊢
  have hl : lv_has ls 3 [(0, .ref h0), (1, .int (a)), (2, .int (b))] := hl
  obtain ⟨hm1, hm2, hm3, hm4, hmF, hmB, hmC, hmR, hmW⟩ := id hM
  obtain ⟨hy0, hyF, hyB, hyC, hyf, hyb, hyc, hyr, hyw⟩ := id hY
  have hxa := ix_m a
  have hxb := ix_m b
  refine lv_aload_n hx hb dX5_isStave_0 rfl (lv_at hl 0 rfl) ?_
  refine lv_iload_n hx hb dX5_isStave_1 rfl (lv_at hl 1 rfl) ?_
  refine vp_callSi (va_Run.run (va_runV (As := [.int (a)]) (rest := []) ⟨hx, hb, hml, hown, hts⟩ (c_X5_isCask l D cy h0 ad I F (a) (yC Y) (hm3) (by omega)) (cwV 1 hts gX5_isStave_X5_isCask rfl rfl rfl (by decide +kernel) ⟨Nat.le_of_ble_eq_true rfl, Nat.le_of_ble_eq_true rfl⟩) ⟨rB_blind, va_recv hK hP (ci := 5) (q0 := 0) rfl rfl, (rB_pre hP hK)⟩ rfl rfl hl.1 rfl (lv_room (Nat.le_of_ble_eq_true rfl)) dX5_isStave_2 ⟨Nat.le_of_ble_eq_true rfl, Nat.le_of_ble_eq_true rfl⟩)) (fun r_2 hr_2 => ?_)
  subst hr_2
  refine g_ifeq_b (tgt := 31) hx hb dX5_isStave_5 (by decide) (fun c_5 => ?_) (fun c_5 => ?_)
  · skip
    refine lv_iconst (v := (nI (0))) hx hb dX5_isStave_31 (by decide) ?_
    exact W.zret (v := (nI (0))) hx hb hr (by decide) (fun t ht hW => ⟨_, rfl, (bI_f (by omega)).symm, ht⟩) (fun _ h => nomatch h) dX5_isStave_32
  · skip
    have h_a := ix_n (a := a) (by omega)
    have hic : ix a < yC Y := by omega
    have hcf := (hyc (ix a) hic).1
    have hcs := hyf (ycf Y (ix a)) hcf
    have hl : lv_has ls 3 [(0, .ref h0), (1, .int (nI (ix a))), (2, .int (b))] := by rw [← h_a]; exact hl
    refine lv_iload_n hx hb dX5_isStave_8 rfl (lv_at hl 2 rfl) ?_
    refine g_if_lt (tgt := 31) hx hb dX5_isStave_9 (by decide) rfl (fun c_9 => ?_) (fun c_9 => ?_)
    · skip
      refine lv_iconst (v := (nI (0))) hx hb dX5_isStave_31 (by decide) ?_
      exact W.zret (v := (nI (0))) hx hb hr (by decide) (fun t ht hW => ⟨_, rfl, (bI_f (by omega)).symm, ht⟩) (fun _ h => nomatch h) dX5_isStave_32
    · skip
      refine lv_iload_n hx hb dX5_isStave_12 rfl (lv_at hl 2 rfl) ?_
      refine lv_aload_n hx hb dX5_isStave_13 rfl (lv_at hl 0 rfl) ?_
      refine va_get (D := D) (ci := 5) (v := .ref ((ad 8))) (C := RX5) (T := TX5) (N := 34) hx hb hts (by decide +kernel) hown hK hP 0 rfl rfl 8 (by decide) (hts (.fieldLink RX5 19 "CaskYardModel" "staves" "[I") (by decide +kernel)) (fun _ h9 => h9) rfl dX5_isStave_14 ?_
      refine lv_aload_n hx hb dX5_isStave_17 rfl (lv_at hl 0 rfl) ?_
      refine va_get (D := D) (ci := 5) (v := .ref ((ad 13))) (C := RX5) (T := TX5) (N := 34) hx hb hts (by decide +kernel) hown hK hP 0 rfl rfl 13 (by decide) (hts (.fieldLink RX5 34 "CaskYardModel" "caskForm" "[I") (by decide +kernel)) (fun _ h9 => h9) rfl dX5_isStave_18 ?_
      refine lv_iload_n hx hb dX5_isStave_21 rfl (lv_at hl 1 rfl) ?_
      refine g_iald hx hb hK hP 9 0 rfl rfl (ix a) rfl (by omega) (by decide) dX5_isStave_22 ?_
      refine g_top (y := (nI (ycf Y (ix a)))) (hmC (ix a) (by omega)).1 ?_
      refine g_iald hx hb hK hP 4 0 rfl rfl (ycf Y (ix a)) rfl (by omega) (by decide) dX5_isStave_23 ?_
      refine g_top (y := (nI (ys Y (ycf Y (ix a))))) (hmF (ycf Y (ix a)) (by omega)).2.2.2 ?_
      refine g_icmp_ge (tgt := 31) hx hb dX5_isStave_24 (by decide) rfl (n_i (by omega)) (fun c_24 => ?_) (fun c_24 => ?_)
      · skip
        refine lv_iconst (v := (nI (0))) hx hb dX5_isStave_31 (by decide) ?_
        exact W.zret (v := (nI (0))) hx hb hr (by decide) (fun t ht hW => ⟨_, rfl, (bI_f (by omega)).symm, ht⟩) (fun _ h => nomatch h) dX5_isStave_32
      · skip
        refine lv_iconst (v := (nI (1))) hx hb dX5_isStave_27 (by decide) ?_
        refine lv_goto (tgt := 32) hx hb dX5_isStave_28 (by decide) ?_
        exact W.zret (v := (nI (1))) hx hb hr (by decide) (fun t ht hW => ⟨_, rfl, (bI_t (by omega)).symm, ht⟩) (fun _ h => nomatch h) dX5_isStave_32
set_option maxHeartbeats 4000000 in
set_option maxRecDepth 100000 in
theorem c_X5_middle (l : Launch) (D : va_G) (cy : Nat → ClassId) (h0 : Nat) (ad : Nat → Nat) (I : Nat → Int32) (F : Nat → Nat → Int32) (Y : YT) (hM : MR I F Y) (hY : WF Y) (x k : Nat) (hic : x < yC Y) (hk : k < ys Y (ycf Y x)) : Met l yX5_middle wsX5_middle ({ frames := 2, cells := 0, slots := 0, locals := 47 } : Room) (va_Pc [.ref h0, .int (nI (x)), .int (nI (k))] (rB D cy (wM cy h0 ad I F))) (vp_Si (fun r : Int32 => r = nI (midN Y x k))) 0 0 (fun _ => False) := by
  refine Met.ofW (cc := cX5_middle) (maxL := 3) (ret := (some .int)) (by decide) rfl ?_
  intro p e s m args below meth c s₁ B hml hv
  obtain ⟨rfl, hv⟩ := hv
  have hx := B.exec
  have hb := B.bytes
  have hr := B.returns
  have hts := atoms_spec (ws := wsX5_middle) B.pre
  have hown : s.vm.findClass RX5 = some m.cls := findClass_of_methodNamed B.named
  have hlocks := B.notSynchronized
  obtain ⟨hP, hK⟩ := hv
  have hl := lv_entry ([.ref h0, .int (nI (x)), .int (nI (k))]) (n := 3) (Nat.le_of_ble_eq_true rfl)
  rw [lg_entry_eq]
  generalize (lg_sl ([.ref h0, .int (nI (x)), .int (nI (k))]) ++ List.replicate (3 - (lg_sl ([.ref h0, .int (nI (x)), .int (nI (k))])).length) Slot.unset).toArray = ls at hl ⊢
  have hl : lv_has ls 3 [(0, .ref h0), (1, .int (nI (x))), (2, .int (nI (k)))] := hl
  obtain ⟨hm1, hm2, hm3, hm4, hmF, hmB, hmC, hmR, hmW⟩ := id hM
  obtain ⟨hy0, hyF, hyB, hyC, hyf, hyb, hyc, hyr, hyw⟩ := id hY
  have hcf := (hyc x hic).1
  have hcs := hyf (ycf Y x) hcf
  refine lv_aload_n hx hb dX5_middle_0 rfl (lv_at hl 0 rfl) ?_
  refine lv_aload_n hx hb dX5_middle_1 rfl (lv_at hl 0 rfl) ?_
  refine va_get (D := D) (ci := 5) (v := .ref ((ad 13))) (C := RX5) (T := TX5) (N := 34) hx hb hts (by decide +kernel) hown hK hP 0 rfl rfl 13 (by decide) (hts (.fieldLink RX5 34 "CaskYardModel" "caskForm" "[I") (by decide +kernel)) (fun _ h9 => h9) rfl dX5_middle_2 ?_
  refine lv_iload_n hx hb dX5_middle_5 rfl (lv_at hl 1 rfl) ?_
  refine g_iald hx hb hK hP 9 0 rfl rfl (x) rfl (by omega) (by decide) dX5_middle_6 ?_
  refine g_top (y := (nI (ycf Y (x)))) (hmC (x) (by omega)).1 ?_
  refine lv_iload_n hx hb dX5_middle_7 rfl (lv_at hl 2 rfl) ?_
  refine lv_aload_n hx hb dX5_middle_8 rfl (lv_at hl 0 rfl) ?_
  refine va_get (D := D) (ci := 5) (v := .ref ((ad 5))) (C := RX5) (T := TX5) (N := 34) hx hb hts (by decide +kernel) hown hK hP 0 rfl rfl 5 (by decide) (hts (.fieldLink RX5 9 "CaskYardModel" "tall" "[I") (by decide +kernel)) (fun _ h9 => h9) rfl dX5_middle_9 ?_
  refine lv_aload_n hx hb dX5_middle_12 rfl (lv_at hl 0 rfl) ?_
  refine va_get (D := D) (ci := 5) (v := .ref ((ad 13))) (C := RX5) (T := TX5) (N := 34) hx hb hts (by decide +kernel) hown hK hP 0 rfl rfl 13 (by decide) (hts (.fieldLink RX5 34 "CaskYardModel" "caskForm" "[I") (by decide +kernel)) (fun _ h9 => h9) rfl dX5_middle_13 ?_
  refine lv_iload_n hx hb dX5_middle_16 rfl (lv_at hl 1 rfl) ?_
  refine g_iald hx hb hK hP 9 0 rfl rfl (x) rfl (by omega) (by decide) dX5_middle_17 ?_
  refine g_top (y := (nI (ycf Y (x)))) (hmC (x) (by omega)).1 ?_
  refine g_iald hx hb hK hP 1 0 rfl rfl (ycf Y (x)) rfl (by omega) (by decide) dX5_middle_18 ?_
  refine g_top (y := (nI (yh Y (ycf Y (x))))) (hmF (ycf Y (x)) (by omega)).1 ?_
  refine lv_iconst (v := (nI (2))) hx hb dX5_middle_19 (by decide) ?_
  refine g_idiv_n hx hb dX5_middle_20 (by omega) (by omega) (by omega) ?_
  refine vp_callSi (va_Run.run (va_runV (As := [.int (nI (ycf Y (x))), .int (nI (k)), .int (nI ((yh Y (ycf Y (x))) / 2))]) (rest := []) ⟨hx, hb, hml, hown, hts⟩ (c_X5_widthOf l D cy h0 ad I F (ycf Y x) (k) (yh Y (ycf Y x) / 2) (Nat.lt_of_lt_of_le hcf hyF) (yh Y (ycf Y x)) (yg Y (ycf Y x)) (ye Y (ycf Y x)) ((hmF (ycf Y x) hcf).1) ((hmF (ycf Y x) hcf).2.1) ((hmF (ycf Y x) hcf).2.2.1) (form_b (hyf (ycf Y x) hcf)) (by omega) (ys Y (ycf Y x)) ((hmF (ycf Y x) hcf).2.2.2) (hk) ((hyf (ycf Y x) hcf).2.2.2.2.2.2.2.2)) (cwV 3 hts gX5_middle_X5_widthOf rfl rfl rfl (by decide +kernel) ⟨Nat.le_of_ble_eq_true rfl, Nat.le_of_ble_eq_true rfl⟩) ⟨rB_blind, va_recv hK hP (ci := 5) (q0 := 0) rfl rfl, (rB_pre hP hK)⟩ rfl rfl hl.1 rfl (lv_room (Nat.le_of_ble_eq_true rfl)) dX5_middle_21 ⟨Nat.le_of_ble_eq_true rfl, Nat.le_of_ble_eq_true rfl⟩)) (fun r_21 hr_21 => ?_)
  subst hr_21
  exact W.iret (v := (nI (widthN (ys Y (ycf Y x)) (k) (girthN (yh Y (ycf Y x)) (yg Y (ycf Y x)) (ye Y (ycf Y x)) (yh Y (ycf Y x) / 2))))) hx hb hr (fun t ht hW => ⟨_, rfl, rfl, ht⟩) (fun _ h => nomatch h) dX5_middle_24
set_option maxHeartbeats 4000000 in
set_option maxRecDepth 100000 in
theorem c_X5_stave (l : Launch) (D : va_G) (cy : Nat → ClassId) (sz : Nat) (h0 : Nat) (ad : Nat → Nat) (I : Nat → Int32) (F : Nat → Nat → Int32) (Y : YT) (hM : MR I F Y) (hY : WF Y) (a b v : Int32) : Met l yX5_stave wsX5_stave ({ frames := 3, cells := 0, slots := 0, locals := 69 } : Room) (va_Pc [.ref h0, .int (a), .int (b), .int (v)] (wB D cy sz (wM cy h0 ad I F))) (va_Qi (fun (r : Int32) (u : (Nat → Int32) × (Nat → Nat → Int32)) => MP r u (sp_stave Y a b v)) (fun u t => wE D cy (va_A (wM cy h0 ad I F) sz) (wM cy h0 ad u.1 u.2) t) (va_A (wM cy h0 ad I F) sz)) 0 0 (va_A (wM cy h0 ad I F) sz) := by
  refine Met.ofW (cc := cX5_stave) (maxL := 4) (ret := (some .int)) (by decide) rfl ?_
  intro p e s m args below meth c s₁ B hml hv
  obtain ⟨rfl, hsz, hP, hK, hD0⟩ := hv
  have hx := B.exec
  have hb := B.bytes
  have hr := B.returns
  have hts := atoms_spec (ws := wsX5_stave) B.pre
  have hown : s.vm.findClass RX5 = some m.cls := findClass_of_methodNamed B.named
  have hlocks := B.notSynchronized
  subst hsz
  have hD := hD0.self (sz := s.heap.size)
  generalize hAe : va_A (wM cy h0 ad I F) s.heap.size = A at hD ⊢
  have hA : ∀ q : Nat, s.heap.size ≤ q → A q := w_A hAe
  have hS : va_S A s.heap s.heap [] := va_S.rf
  have hl := lv_entry ([.ref h0, .int (a), .int (b), .int (v)]) (n := 4) (Nat.le_of_ble_eq_true rfl)
  rw [lg_entry_eq]
  generalize (lg_sl ([.ref h0, .int (a), .int (b), .int (v)]) ++ List.replicate (4 - (lg_sl ([.ref h0, .int (a), .int (b), .int (v)])).length) Slot.unset).toArray = ls at hl ⊢
  have hl : lv_has ls 4 [(0, .ref h0), (1, .int (a)), (2, .int (b)), (3, .int (v))] := hl
  obtain ⟨hm1, hm2, hm3, hm4, hmF, hmB, hmC, hmR, hmW⟩ := id hM
  obtain ⟨hy0, hyF, hyB, hyC, hyf, hyb, hyc, hyr, hyw⟩ := id hY
  have hxa := ix_m a
  have hxb := ix_m b
  have hxv := ix_m v
  refine lv_aload_n hx hb dX5_stave_0 rfl (lv_at hl 0 rfl) ?_
  refine lv_iconst (v := (nI (0))) hx hb dX5_stave_1 (by decide) ?_
  refine va_put (D := D) (ci := 5) (v := .int (nI (0))) (ty := .int) (C := RX5) (T := TX5) (N := 34) hx hb hts (by decide +kernel) tyX5 tyX5_ok nmX5 hown hK hP hD hS 0 rfl rfl 0 (by decide) (hts (.fieldLink RX5 83 "CaskYardModel" "code" "I") (by decide +kernel)) (fun _ h9 => h9) rfl (by decide +kernel) rfl rfl (Nat.le_of_ble_eq_true rfl) dX5_stave_2 (fun H locs hP hD hS => ?_)
  have hP : va_P D vwCl (wM cy h0 ad (va_up I 0 (nI (0))) F) H := hP
  have hD : va_D A (wM cy h0 ad (va_up I 0 (nI (0))) F) := hD
  refine lv_aload_n hx hb dX5_stave_5 rfl (lv_at hl 0 rfl) ?_
  refine lv_iload_n hx hb dX5_stave_6 rfl (lv_at hl 1 rfl) ?_
  refine lv_iload_n hx hb dX5_stave_7 rfl (lv_at hl 2 rfl) ?_
  refine vp_callSi (va_Run.run (va_runV (As := [.int (a), .int (b)]) (rest := []) ⟨hx, hb, hml, hown, hts⟩ (c_X5_isStave l D cy h0 ad (va_up I 0 (nI (0))) F (Y) (hM) (hY) (a) (b)) (cwV 2 hts gX5_stave_X5_isStave rfl rfl rfl (by decide +kernel) ⟨Nat.le_of_ble_eq_true rfl, Nat.le_of_ble_eq_true rfl⟩) ⟨rB_blind, va_recv hK hP (ci := 5) (q0 := 0) rfl rfl, (rB_pre hP hK)⟩ rfl rfl hl.1 rfl (lv_room (Nat.le_of_ble_eq_true rfl)) dX5_stave_8 ⟨Nat.le_of_ble_eq_true rfl, Nat.le_of_ble_eq_true rfl⟩)) (fun r_8 hr_8 => ?_)
  subst hr_8
  refine g_ifeq_b (tgt := 23) hx hb dX5_stave_11 (by decide) (fun c_11 => ?_) (fun c_11 => ?_)
  · skip
    refine lv_aload_n hx hb dX5_stave_23 rfl (lv_at hl 0 rfl) ?_
    refine lv_iconst (v := (nI (1))) hx hb dX5_stave_24 (by decide) ?_
    have hFc := w_free hD hS hA
    refine va_calli (va_runV (As := [.int (nI (1))]) (rest := []) ⟨hx, hb, hml, hown, hts⟩ (c_X5_fail l D cy H.size h0 ad (va_up I 0 (nI (0))) F (nI (1))) (cwV 1 hts gX5_stave_X5_fail rfl rfl rfl (by decide +kernel) ⟨Nat.le_of_ble_eq_true rfl, Nat.le_of_ble_eq_true rfl⟩) ⟨wB_blind, va_recv hK hP (ci := 5) (q0 := 0) rfl rfl, wB_pre hP hK hD⟩ rfl rfl hl.1 rfl (lv_room (Nat.le_of_ble_eq_true rfl)) dX5_stave_25 ⟨Nat.le_of_ble_eq_true rfl, Nat.le_of_ble_eq_true rfl⟩) hS (fun q _ h => hFc q h) hFc (fun r_25 u_25 t H locs ht hvm hw_25 hB _ _ hS => ?_)
    obtain ⟨I_25, F_25⟩ := u_25
    obtain ⟨hP1, hK1, hD1⟩ := hB
    rw [ht] at hP1
    dsimp only at hP1 hD1 hw_25
    obtain ⟨hw_25, hu_25⟩ := hw_25
    rw [(Prod.mk.inj hu_25).1, (Prod.mk.inj hu_25).2] at hP1 hD1
    have hP := hP1
    have hD := hD1.weaken (fun _ _ _ h => hFc _ h)
    have hP : va_P D vwCl (wM cy h0 ad (va_up I 0 (nI (1))) F) H := hP
    have hD : va_D A (wM cy h0 ad (va_up I 0 (nI (1))) F) := hD
    refine g_top (y := (nI (0))) (hw_25) ?_
    exact W.iret (v := (nI (0))) hx hb hr (fun t ht hW => ⟨⟨_, ((va_up I 0 (nI (1))), F), rfl, by rw [sp_stave, if_neg (by omega)]; exact MP_t rfl hM, by rw [ht]; exact hP, va_K.moved hW.alike hK, hD⟩, hS.F ht⟩) hS.2.2 dX5_stave_28
  · skip
    have c11a := c_11.1
    have c11b := c_11.2
    have h_a := ix_n (a := a) (by omega)
    have hic : ix a < yC Y := by omega
    have hcf := (hyc (ix a) hic).1
    have hcs := hyf (ycf Y (ix a)) hcf
    have hl : lv_has ls 4 [(0, .ref h0), (1, .int (nI (ix a))), (2, .int (b)), (3, .int (v))] := by rw [← h_a]; exact hl
    have h_b := ix_n (a := b) (by omega)
    have hl : lv_has ls 4 [(0, .ref h0), (1, .int (nI (ix a))), (2, .int (nI (ix b))), (3, .int (v))] := by rw [← h_b]; exact hl
    refine lv_iload_n hx hb dX5_stave_14 rfl (lv_at hl 3 rfl) ?_
    refine g_if_lt (tgt := 23) hx hb dX5_stave_15 (by decide) rfl (fun c_15 => ?_) (fun c_15 => ?_)
    · skip
      refine lv_aload_n hx hb dX5_stave_23 rfl (lv_at hl 0 rfl) ?_
      refine lv_iconst (v := (nI (1))) hx hb dX5_stave_24 (by decide) ?_
      have hFc := w_free hD hS hA
      refine va_calli (va_runV (As := [.int (nI (1))]) (rest := []) ⟨hx, hb, hml, hown, hts⟩ (c_X5_fail l D cy H.size h0 ad (va_up I 0 (nI (0))) F (nI (1))) (cwV 1 hts gX5_stave_X5_fail rfl rfl rfl (by decide +kernel) ⟨Nat.le_of_ble_eq_true rfl, Nat.le_of_ble_eq_true rfl⟩) ⟨wB_blind, va_recv hK hP (ci := 5) (q0 := 0) rfl rfl, wB_pre hP hK hD⟩ rfl rfl hl.1 rfl (lv_room (Nat.le_of_ble_eq_true rfl)) dX5_stave_25 ⟨Nat.le_of_ble_eq_true rfl, Nat.le_of_ble_eq_true rfl⟩) hS (fun q _ h => hFc q h) hFc (fun r_25 u_25 t H locs ht hvm hw_25 hB _ _ hS => ?_)
      obtain ⟨I_25, F_25⟩ := u_25
      obtain ⟨hP1, hK1, hD1⟩ := hB
      rw [ht] at hP1
      dsimp only at hP1 hD1 hw_25
      obtain ⟨hw_25, hu_25⟩ := hw_25
      rw [(Prod.mk.inj hu_25).1, (Prod.mk.inj hu_25).2] at hP1 hD1
      have hP := hP1
      have hD := hD1.weaken (fun _ _ _ h => hFc _ h)
      have hP : va_P D vwCl (wM cy h0 ad (va_up I 0 (nI (1))) F) H := hP
      have hD : va_D A (wM cy h0 ad (va_up I 0 (nI (1))) F) := hD
      refine g_top (y := (nI (0))) (hw_25) ?_
      exact W.iret (v := (nI (0))) hx hb hr (fun t ht hW => ⟨⟨_, ((va_up I 0 (nI (1))), F), rfl, by rw [sp_stave, if_neg (by omega)]; exact MP_t rfl hM, by rw [ht]; exact hP, va_K.moved hW.alike hK, hD⟩, hS.F ht⟩) hS.2.2 dX5_stave_28
    · skip
      refine lv_iload_n hx hb dX5_stave_18 rfl (lv_at hl 3 rfl) ?_
      refine lv_iconst (v := (nI (2))) hx hb dX5_stave_19 (by decide) ?_
      refine g_icmp_le (tgt := 29) hx hb dX5_stave_20 (by decide) rfl (n_i (by omega)) (fun c_20 => ?_) (fun c_20 => ?_)
      · skip
        have h_v := ix_n (a := v) (by omega)
        have hl : lv_has ls 4 [(0, .ref h0), (1, .int (nI (ix a))), (2, .int (nI (ix b))), (3, .int (nI (ix v)))] := by rw [← h_v]; exact hl
        refine lv_iload_n hx hb dX5_stave_29 rfl (lv_at hl 3 rfl) ?_
        refine g_if_ne (tgt := 47) hx hb dX5_stave_30 (by decide) (n_i (by omega)) (fun c_30 => ?_) (fun c_30 => ?_)
        · skip
          refine lv_iload_n hx hb dX5_stave_47 rfl (lv_at hl 3 rfl) ?_
          refine lv_iconst (v := (nI (1))) hx hb dX5_stave_48 (by decide) ?_
          refine g_icmp_ne (tgt := 66) hx hb dX5_stave_49 (by decide) (n_i (by omega)) (n_i (by omega)) (fun c_49 => ?_) (fun c_49 => ?_)
          · skip
            refine lv_aload_n hx hb dX5_stave_66 rfl (lv_at hl 0 rfl) ?_
            refine lv_iload_n hx hb dX5_stave_67 rfl (lv_at hl 1 rfl) ?_
            refine lv_iload_n hx hb dX5_stave_68 rfl (lv_at hl 2 rfl) ?_
            refine vp_callSi (va_Run.run (va_runV (As := [.int (nI (ix a)), .int (nI (ix b))]) (rest := []) ⟨hx, hb, hml, hown, hts⟩ (c_X5_middle l D cy h0 ad (va_up I 0 (nI (0))) F (Y) (hM) (hY) (ix a) (ix b) (hic) (by omega)) (cwV 2 hts gX5_stave_X5_middle rfl rfl rfl (by decide +kernel) ⟨Nat.le_of_ble_eq_true rfl, Nat.le_of_ble_eq_true rfl⟩) ⟨rB_blind, va_recv hK hP (ci := 5) (q0 := 0) rfl rfl, (rB_pre hP hK)⟩ rfl rfl hl.1 rfl (lv_room (Nat.le_of_ble_eq_true rfl)) dX5_stave_69 ⟨Nat.le_of_ble_eq_true rfl, Nat.le_of_ble_eq_true rfl⟩)) (fun r_69 hr_69 => ?_)
            subst hr_69
            exact W.iret (v := (nI (midN Y (ix a) (ix b)))) hx hb hr (fun t ht hW => ⟨⟨_, ((va_up I 0 (nI (0))), F), rfl, by rw [sp_stave, if_pos (by omega)]; exact ⟨rfl, fun _ => congrArg nI ((if_neg (by omega)).trans (if_neg (by omega))).symm, hM⟩, by rw [ht]; exact hP, va_K.moved hW.alike hK, hD⟩, hS.F ht⟩) hS.2.2 dX5_stave_72
          · skip
            refine lv_aload_n hx hb dX5_stave_52 rfl (lv_at hl 0 rfl) ?_
            refine va_get (D := D) (ci := 5) (v := .ref ((ad 15))) (C := RX5) (T := TX5) (N := 34) hx hb hts (by decide +kernel) hown hK hP 0 rfl rfl 15 (by decide) (hts (.fieldLink RX5 40 "CaskYardModel" "past" "[I") (by decide +kernel)) (fun _ h9 => h9) rfl dX5_stave_53 ?_
            refine lv_bipush (v := (nI (40))) hx hb dX5_stave_56 (by decide) ?_
            refine lv_iload_n hx hb dX5_stave_58 rfl (lv_at hl 1 rfl) ?_
            refine g_imul_n hx hb dX5_stave_59 ?_
            refine lv_iload_n hx hb dX5_stave_60 rfl (lv_at hl 2 rfl) ?_
            refine g_iadd_n hx hb dX5_stave_61 ?_
            refine g_iald hx hb hK hP 11 0 rfl rfl ((40 * (ix a)) + (ix b)) rfl (by omega) (by decide) dX5_stave_62 ?_
            refine g_top (y := (nI (ypa Y (ix a) (ix b)))) (((hmC (ix a) hic).2.2.2 (ix b) (by omega)).2) ?_
            refine lv_goto (tgt := 72) hx hb dX5_stave_63 (by decide) ?_
            exact W.iret (v := (nI (ypa Y (ix a) (ix b)))) hx hb hr (fun t ht hW => ⟨⟨_, ((va_up I 0 (nI (0))), F), rfl, by rw [sp_stave, if_pos (by omega)]; exact ⟨rfl, fun _ => congrArg nI ((if_neg (by omega)).trans (if_pos (by omega))).symm, hM⟩, by rw [ht]; exact hP, va_K.moved hW.alike hK, hD⟩, hS.F ht⟩) hS.2.2 dX5_stave_72
        · skip
          refine lv_aload_n hx hb dX5_stave_33 rfl (lv_at hl 0 rfl) ?_
          refine va_get (D := D) (ci := 5) (v := .ref ((ad 14))) (C := RX5) (T := TX5) (N := 34) hx hb hts (by decide +kernel) hown hK hP 0 rfl rfl 14 (by decide) (hts (.fieldLink RX5 37 "CaskYardModel" "boltOf" "[I") (by decide +kernel)) (fun _ h9 => h9) rfl dX5_stave_34 ?_
          refine lv_bipush (v := (nI (40))) hx hb dX5_stave_37 (by decide) ?_
          refine lv_iload_n hx hb dX5_stave_39 rfl (lv_at hl 1 rfl) ?_
          refine g_imul_n hx hb dX5_stave_40 ?_
          refine lv_iload_n hx hb dX5_stave_41 rfl (lv_at hl 2 rfl) ?_
          refine g_iadd_n hx hb dX5_stave_42 ?_
          refine g_iald hx hb hK hP 10 0 rfl rfl ((40 * (ix a)) + (ix b)) rfl (by omega) (by decide) dX5_stave_43 ?_
          refine g_top (y := (nI (ybo Y (ix a) (ix b)))) (((hmC (ix a) hic).2.2.2 (ix b) (by omega)).1) ?_
          refine lv_goto (tgt := 72) hx hb dX5_stave_44 (by decide) ?_
          exact W.iret (v := (nI (ybo Y (ix a) (ix b)))) hx hb hr (fun t ht hW => ⟨⟨_, ((va_up I 0 (nI (0))), F), rfl, by rw [sp_stave, if_pos (by omega)]; exact ⟨rfl, fun _ => congrArg nI (if_pos (by omega)).symm, hM⟩, by rw [ht]; exact hP, va_K.moved hW.alike hK, hD⟩, hS.F ht⟩) hS.2.2 dX5_stave_72
      · skip
        refine lv_aload_n hx hb dX5_stave_23 rfl (lv_at hl 0 rfl) ?_
        refine lv_iconst (v := (nI (1))) hx hb dX5_stave_24 (by decide) ?_
        have hFc := w_free hD hS hA
        refine va_calli (va_runV (As := [.int (nI (1))]) (rest := []) ⟨hx, hb, hml, hown, hts⟩ (c_X5_fail l D cy H.size h0 ad (va_up I 0 (nI (0))) F (nI (1))) (cwV 1 hts gX5_stave_X5_fail rfl rfl rfl (by decide +kernel) ⟨Nat.le_of_ble_eq_true rfl, Nat.le_of_ble_eq_true rfl⟩) ⟨wB_blind, va_recv hK hP (ci := 5) (q0 := 0) rfl rfl, wB_pre hP hK hD⟩ rfl rfl hl.1 rfl (lv_room (Nat.le_of_ble_eq_true rfl)) dX5_stave_25 ⟨Nat.le_of_ble_eq_true rfl, Nat.le_of_ble_eq_true rfl⟩) hS (fun q _ h => hFc q h) hFc (fun r_25 u_25 t H locs ht hvm hw_25 hB _ _ hS => ?_)
        obtain ⟨I_25, F_25⟩ := u_25
        obtain ⟨hP1, hK1, hD1⟩ := hB
        rw [ht] at hP1
        dsimp only at hP1 hD1 hw_25
        obtain ⟨hw_25, hu_25⟩ := hw_25
        rw [(Prod.mk.inj hu_25).1, (Prod.mk.inj hu_25).2] at hP1 hD1
        have hP := hP1
        have hD := hD1.weaken (fun _ _ _ h => hFc _ h)
        have hP : va_P D vwCl (wM cy h0 ad (va_up I 0 (nI (1))) F) H := hP
        have hD : va_D A (wM cy h0 ad (va_up I 0 (nI (1))) F) := hD
        refine g_top (y := (nI (0))) (hw_25) ?_
        exact W.iret (v := (nI (0))) hx hb hr (fun t ht hW => ⟨⟨_, ((va_up I 0 (nI (1))), F), rfl, by rw [sp_stave, if_neg (by omega)]; exact MP_t rfl hM, by rw [ht]; exact hP, va_K.moved hW.alike hK, hD⟩, hS.F ht⟩) hS.2.2 dX5_stave_28
set_option maxHeartbeats 4000000 in
set_option maxRecDepth 100000 in
theorem c_X5_bars (l : Launch) (D : va_G) (cy : Nat → ClassId) (sz : Nat) (h0 : Nat) (ad : Nat → Nat) (I : Nat → Int32) (F : Nat → Nat → Int32) (Y : YT) (hM : MR I F Y) (hY : WF Y) (a b : Int32) (x : Prop) [Decidable x] : Met l yX5_bars wsX5_bars ({ frames := 1, cells := 0, slots := 0, locals := 21 } : Room) (va_Pc [.ref h0, .int (a), .int (b), .int (bI (x))] (wB D cy sz (wM cy h0 ad I F))) (va_Qi (fun (r : Int32) (u : (Nat → Int32) × (Nat → Nat → Int32)) => MP r u (sp_bars Y a b (if x then 1 else 0))) (fun u t => wE D cy (va_A (wM cy h0 ad I F) sz) (wM cy h0 ad u.1 u.2) t) (va_A (wM cy h0 ad I F) sz)) 0 0 (va_A (wM cy h0 ad I F) sz) := by
  refine Met.ofW (cc := cX5_bars) (maxL := 5) (ret := (some .boolean)) (by decide) rfl ?_
  intro p e s m args below meth c s₁ B hml hv
  obtain ⟨rfl, hsz, hP, hK, hD0⟩ := hv
  have hx := B.exec
  have hb := B.bytes
  have hr := B.returns
  have hts := atoms_spec (ws := wsX5_bars) B.pre
  have hown : s.vm.findClass RX5 = some m.cls := findClass_of_methodNamed B.named
  have hlocks := B.notSynchronized
  subst hsz
  have hD := hD0.self (sz := s.heap.size)
  generalize hAe : va_A (wM cy h0 ad I F) s.heap.size = A at hD ⊢
  have hA : ∀ q : Nat, s.heap.size ≤ q → A q := w_A hAe
  have hS : va_S A s.heap s.heap [] := va_S.rf
  have hl := lv_entry ([.ref h0, .int (a), .int (b), .int (bI (x))]) (n := 5) (Nat.le_of_ble_eq_true rfl)
  rw [lg_entry_eq]
  generalize (lg_sl ([.ref h0, .int (a), .int (b), .int (bI (x))]) ++ List.replicate (5 - (lg_sl ([.ref h0, .int (a), .int (b), .int (bI (x))])).length) Slot.unset).toArray = ls at hl ⊢
  have hl : lv_has ls 5 [(0, .ref h0), (1, .int (a)), (2, .int (b)), (3, .int (bI (x)))] := hl
  obtain ⟨hm1, hm2, hm3, hm4, hmF, hmB, hmC, hmR, hmW⟩ := id hM
  obtain ⟨hy0, hyF, hyB, hyC, hyf, hyb, hyc, hyr, hyw⟩ := id hY
  have hxa := ix_m a
  have hxb := ix_m b
  refine lv_aload_n hx hb dX5_bars_0 rfl (lv_at hl 0 rfl) ?_
  refine lv_iconst (v := (nI (0))) hx hb dX5_bars_1 (by decide) ?_
  refine va_put (D := D) (ci := 5) (v := .int (nI (0))) (ty := .int) (C := RX5) (T := TX5) (N := 34) hx hb hts (by decide +kernel) tyX5 tyX5_ok nmX5 hown hK hP hD hS 0 rfl rfl 0 (by decide) (hts (.fieldLink RX5 83 "CaskYardModel" "code" "I") (by decide +kernel)) (fun _ h9 => h9) rfl (by decide +kernel) rfl rfl (Nat.le_of_ble_eq_true rfl) dX5_bars_2 (fun H locs hP hD hS => ?_)
  have hP : va_P D vwCl (wM cy h0 ad (va_up I 0 (nI (0))) F) H := hP
  have hD : va_D A (wM cy h0 ad (va_up I 0 (nI (0))) F) := hD
  refine lv_iload_n hx hb dX5_bars_5 rfl (lv_at hl 1 rfl) ?_
  refine vp_callSi (va_Run.run (va_runS (As := [.int (a)]) (rest := []) ⟨hx, hb, hml, hown, hts⟩ (c_X5_isKind l  (a)) (va_cwS 1 hts gX5_bars_X5_isKind rfl rfl rfl (by decide +kernel) ⟨Nat.le_of_ble_eq_true rfl, Nat.le_of_ble_eq_true rfl⟩) ⟨nB_blind, nB_pre⟩ rfl rfl hl.1 rfl (lv_room (Nat.le_of_ble_eq_true rfl)) dX5_bars_6 ⟨Nat.le_of_ble_eq_true rfl, Nat.le_of_ble_eq_true rfl⟩)) (fun r_6 hr_6 => ?_)
  subst hr_6
  refine g_ifeq_b (tgt := 19) hx hb dX5_bars_9 (by decide) (fun c_9 => ?_) (fun c_9 => ?_)
  · skip
    refine lv_aload_n hx hb dX5_bars_19 rfl (lv_at hl 0 rfl) ?_
    refine lv_iconst (v := (nI (1))) hx hb dX5_bars_20 (by decide) ?_
    have hFc := w_free hD hS hA
    refine va_calli (va_runV (As := [.int (nI (1))]) (rest := []) ⟨hx, hb, hml, hown, hts⟩ (c_X5_fail l D cy H.size h0 ad (va_up I 0 (nI (0))) F (nI (1))) (cwV 1 hts gX5_bars_X5_fail rfl rfl rfl (by decide +kernel) ⟨Nat.le_of_ble_eq_true rfl, Nat.le_of_ble_eq_true rfl⟩) ⟨wB_blind, va_recv hK hP (ci := 5) (q0 := 0) rfl rfl, wB_pre hP hK hD⟩ rfl rfl hl.1 rfl (lv_room (Nat.le_of_ble_eq_true rfl)) dX5_bars_21 ⟨Nat.le_of_ble_eq_true rfl, Nat.le_of_ble_eq_true rfl⟩) hS (fun q _ h => hFc q h) hFc (fun r_21 u_21 t H locs ht hvm hw_21 hB _ _ hS => ?_)
    obtain ⟨I_21, F_21⟩ := u_21
    obtain ⟨hP1, hK1, hD1⟩ := hB
    rw [ht] at hP1
    dsimp only at hP1 hD1 hw_21
    obtain ⟨hw_21, hu_21⟩ := hw_21
    rw [(Prod.mk.inj hu_21).1, (Prod.mk.inj hu_21).2] at hP1 hD1
    have hP := hP1
    have hD := hD1.weaken (fun _ _ _ h => hFc _ h)
    have hP : va_P D vwCl (wM cy h0 ad (va_up I 0 (nI (1))) F) H := hP
    have hD : va_D A (wM cy h0 ad (va_up I 0 (nI (1))) F) := hD
    refine g_top (y := (nI (0))) (hw_21) ?_
    refine lv_pop hx hb dX5_bars_24 rfl ?_
    refine lv_iconst (v := (nI (0))) hx hb dX5_bars_25 (by decide) ?_
    exact W.zret (v := (nI (0))) hx hb hr (by decide) (fun t ht hW => ⟨⟨_, ((va_up I 0 (nI (1))), F), rfl, by rw [sp_bars, if_neg (by omega)]; exact MP_t rfl hM, by rw [ht]; exact hP, va_K.moved hW.alike hK, hD⟩, hS.F ht⟩) hS.2.2 dX5_bars_26
  · skip
    have h_a := ix_n (a := a) (by omega)
    have hl : lv_has ls 5 [(0, .ref h0), (1, .int (nI (ix a))), (2, .int (b)), (3, .int (bI (x)))] := by rw [← h_a]; exact hl
    refine lv_iload_n hx hb dX5_bars_12 rfl (lv_at hl 2 rfl) ?_
    refine vp_callSi (va_Run.run (va_runS (As := [.int (b)]) (rest := []) ⟨hx, hb, hml, hown, hts⟩ (c_X5_isKind l  (b)) (va_cwS 1 hts gX5_bars_X5_isKind rfl rfl rfl (by decide +kernel) ⟨Nat.le_of_ble_eq_true rfl, Nat.le_of_ble_eq_true rfl⟩) ⟨nB_blind, nB_pre⟩ rfl rfl hl.1 rfl (lv_room (Nat.le_of_ble_eq_true rfl)) dX5_bars_13 ⟨Nat.le_of_ble_eq_true rfl, Nat.le_of_ble_eq_true rfl⟩)) (fun r_13 hr_13 => ?_)
    subst hr_13
    refine g_ifne_b (tgt := 27) hx hb dX5_bars_16 (by decide) (fun c_16 => ?_) (fun c_16 => ?_)
    · skip
      have h_b := ix_n (a := b) (by omega)
      have hl : lv_has ls 5 [(0, .ref h0), (1, .int (nI (ix a))), (2, .int (nI (ix b))), (3, .int (bI (x)))] := by rw [← h_b]; exact hl
      refine lv_aload_n hx hb dX5_bars_27 rfl (lv_at hl 0 rfl) ?_
      refine va_get (D := D) (ci := 5) (v := .ref ((ad 20))) (C := RX5) (T := TX5) (N := 34) hx hb hts (by decide +kernel) hown hK hP 0 rfl rfl 20 (by decide) (hts (.fieldLink RX5 55 "CaskYardModel" "barsIt" "[Z") (by decide +kernel)) (fun _ h9 => h9) rfl dX5_bars_28 ?_
      refine lv_bipush (v := (nI (16))) hx hb dX5_bars_31 (by decide) ?_
      refine lv_iload_n hx hb dX5_bars_33 rfl (lv_at hl 1 rfl) ?_
      refine g_imul_n hx hb dX5_bars_34 ?_
      refine lv_iload_n hx hb dX5_bars_35 rfl (lv_at hl 2 rfl) ?_
      refine g_iadd_n hx hb dX5_bars_36 ?_
      refine g_zald hx hb hK hP 16 1 rfl rfl ((16 * (ix a)) + (ix b)) rfl (by omega) (by decide) dX5_bars_37 ?_
      refine g_top (y := (bI (ybr Y (ix a) (ix b) = 1))) ((hmR (ix a) (ix b) (by omega) (by omega)).trans (bI_of (hyr (ix a) (ix b) (by omega) (by omega)))) ?_
      refine lv_istore (lv' := [(4, .int (bI (ybr Y (ix a) (ix b) = 1))), (0, .ref h0), (1, .int (nI (ix a))), (2, .int (nI (ix b))), (3, .int (bI (x)))]) hx hb dX5_bars_38 hl (by decide) rfl (fun ls hl => ?_)
      refine lv_aload_n hx hb dX5_bars_40 rfl (lv_at hl 1 rfl) ?_
      refine va_get (D := D) (ci := 5) (v := .ref ((ad 20))) (C := RX5) (T := TX5) (N := 34) hx hb hts (by decide +kernel) hown hK hP 0 rfl rfl 20 (by decide) (hts (.fieldLink RX5 55 "CaskYardModel" "barsIt" "[Z") (by decide +kernel)) (fun _ h9 => h9) rfl dX5_bars_41 ?_
      refine lv_bipush (v := (nI (16))) hx hb dX5_bars_44 (by decide) ?_
      refine lv_iload_n hx hb dX5_bars_46 rfl (lv_at hl 2 rfl) ?_
      refine g_imul_n hx hb dX5_bars_47 ?_
      refine lv_iload_n hx hb dX5_bars_48 rfl (lv_at hl 3 rfl) ?_
      refine g_iadd_n hx hb dX5_bars_49 ?_
      refine lv_iload_n hx hb dX5_bars_50 rfl (lv_at hl 4 rfl) ?_
      refine g_zast hx hb hK hP hD hS 16 1 rfl rfl ((16 * (ix a)) + (ix b)) rfl (by omega) (by decide) dX5_bars_51 (fun H locs hP hD hS => ?_)
      rw [wMs_20] at hP hD
      obtain ⟨F1, hF1⟩ : ∃ G, G = va_up F 20 (upd (F 20) ((16 * (ix a)) + (ix b)) (bI (x))) := ⟨_, rfl⟩
      rw [← hF1] at hP hD
      have eF1_20 : F1 20 = upd (F 20) ((16 * (ix a)) + (ix b)) (bI (x)) := by rw [hF1]; exact va_up_self _ _ _
      refine lv_iload hx hb dX5_bars_52 (lv_at hl 0 rfl) ?_
      exact W.zret (v := (bI (ybr Y (ix a) (ix b) = 1))) hx hb hr (bI_nar _) (fun t ht hW => ⟨⟨_, ((va_up I 0 (nI (0))), F1), rfl, by rw [hF1]; rw [sp_bars, if_pos (by omega)]; exact ⟨rfl, fun _ => rfl, by rw [bI_n]; exact MR_bars _ _ _ (by omega) (by omega) hM⟩, by rw [ht]; exact hP, va_K.moved hW.alike hK, hD⟩, hS.F ht⟩) hS.2.2 dX5_bars_54
    · skip
      refine lv_aload_n hx hb dX5_bars_19 rfl (lv_at hl 0 rfl) ?_
      refine lv_iconst (v := (nI (1))) hx hb dX5_bars_20 (by decide) ?_
      have hFc := w_free hD hS hA
      refine va_calli (va_runV (As := [.int (nI (1))]) (rest := []) ⟨hx, hb, hml, hown, hts⟩ (c_X5_fail l D cy H.size h0 ad (va_up I 0 (nI (0))) F (nI (1))) (cwV 1 hts gX5_bars_X5_fail rfl rfl rfl (by decide +kernel) ⟨Nat.le_of_ble_eq_true rfl, Nat.le_of_ble_eq_true rfl⟩) ⟨wB_blind, va_recv hK hP (ci := 5) (q0 := 0) rfl rfl, wB_pre hP hK hD⟩ rfl rfl hl.1 rfl (lv_room (Nat.le_of_ble_eq_true rfl)) dX5_bars_21 ⟨Nat.le_of_ble_eq_true rfl, Nat.le_of_ble_eq_true rfl⟩) hS (fun q _ h => hFc q h) hFc (fun r_21 u_21 t H locs ht hvm hw_21 hB _ _ hS => ?_)
      obtain ⟨I_21, F_21⟩ := u_21
      obtain ⟨hP1, hK1, hD1⟩ := hB
      rw [ht] at hP1
      dsimp only at hP1 hD1 hw_21
      obtain ⟨hw_21, hu_21⟩ := hw_21
      rw [(Prod.mk.inj hu_21).1, (Prod.mk.inj hu_21).2] at hP1 hD1
      have hP := hP1
      have hD := hD1.weaken (fun _ _ _ h => hFc _ h)
      have hP : va_P D vwCl (wM cy h0 ad (va_up I 0 (nI (1))) F) H := hP
      have hD : va_D A (wM cy h0 ad (va_up I 0 (nI (1))) F) := hD
      refine g_top (y := (nI (0))) (hw_21) ?_
      refine lv_pop hx hb dX5_bars_24 rfl ?_
      refine lv_iconst (v := (nI (0))) hx hb dX5_bars_25 (by decide) ?_
      exact W.zret (v := (nI (0))) hx hb hr (by decide) (fun t ht hW => ⟨⟨_, ((va_up I 0 (nI (1))), F), rfl, by rw [sp_bars, if_neg (by omega)]; exact MP_t rfl hM, by rw [ht]; exact hP, va_K.moved hW.alike hK, hD⟩, hS.F ht⟩) hS.2.2 dX5_bars_26
set_option maxHeartbeats 4000000 in
set_option maxRecDepth 100000 in
theorem c_X5_weight (l : Launch) (D : va_G) (cy : Nat → ClassId) (sz : Nat) (h0 : Nat) (ad : Nat → Nat) (I : Nat → Int32) (F : Nat → Nat → Int32) (Y : YT) (hM : MR I F Y) (hY : WF Y) (a b : Int32) : Met l yX5_weight wsX5_weight ({ frames := 1, cells := 0, slots := 0, locals := 21 } : Room) (va_Pc [.ref h0, .int (a), .int (b)] (wB D cy sz (wM cy h0 ad I F))) (va_Qi (fun (r : Int32) (u : (Nat → Int32) × (Nat → Nat → Int32)) => MP r u (sp_weight Y a b)) (fun u t => wE D cy (va_A (wM cy h0 ad I F) sz) (wM cy h0 ad u.1 u.2) t) (va_A (wM cy h0 ad I F) sz)) 0 0 (va_A (wM cy h0 ad I F) sz) := by
  refine Met.ofW (cc := cX5_weight) (maxL := 4) (ret := (some .int)) (by decide) rfl ?_
  intro p e s m args below meth c s₁ B hml hv
  obtain ⟨rfl, hsz, hP, hK, hD0⟩ := hv
  have hx := B.exec
  have hb := B.bytes
  have hr := B.returns
  have hts := atoms_spec (ws := wsX5_weight) B.pre
  have hown : s.vm.findClass RX5 = some m.cls := findClass_of_methodNamed B.named
  have hlocks := B.notSynchronized
  subst hsz
  have hD := hD0.self (sz := s.heap.size)
  generalize hAe : va_A (wM cy h0 ad I F) s.heap.size = A at hD ⊢
  have hA : ∀ q : Nat, s.heap.size ≤ q → A q := w_A hAe
  have hS : va_S A s.heap s.heap [] := va_S.rf
  have hl := lv_entry ([.ref h0, .int (a), .int (b)]) (n := 4) (Nat.le_of_ble_eq_true rfl)
  rw [lg_entry_eq]
  generalize (lg_sl ([.ref h0, .int (a), .int (b)]) ++ List.replicate (4 - (lg_sl ([.ref h0, .int (a), .int (b)])).length) Slot.unset).toArray = ls at hl ⊢
  have hl : lv_has ls 4 [(0, .ref h0), (1, .int (a)), (2, .int (b))] := hl
  obtain ⟨hm1, hm2, hm3, hm4, hmF, hmB, hmC, hmR, hmW⟩ := id hM
  obtain ⟨hy0, hyF, hyB, hyC, hyf, hyb, hyc, hyr, hyw⟩ := id hY
  have hxa := ix_m a
  have hxb := ix_m b
  refine lv_aload_n hx hb dX5_weight_0 rfl (lv_at hl 0 rfl) ?_
  refine lv_iconst (v := (nI (0))) hx hb dX5_weight_1 (by decide) ?_
  refine va_put (D := D) (ci := 5) (v := .int (nI (0))) (ty := .int) (C := RX5) (T := TX5) (N := 34) hx hb hts (by decide +kernel) tyX5 tyX5_ok nmX5 hown hK hP hD hS 0 rfl rfl 0 (by decide) (hts (.fieldLink RX5 83 "CaskYardModel" "code" "I") (by decide +kernel)) (fun _ h9 => h9) rfl (by decide +kernel) rfl rfl (Nat.le_of_ble_eq_true rfl) dX5_weight_2 (fun H locs hP hD hS => ?_)
  have hP : va_P D vwCl (wM cy h0 ad (va_up I 0 (nI (0))) F) H := hP
  have hD : va_D A (wM cy h0 ad (va_up I 0 (nI (0))) F) := hD
  refine lv_iload_n hx hb dX5_weight_5 rfl (lv_at hl 1 rfl) ?_
  refine vp_callSi (va_Run.run (va_runS (As := [.int (a)]) (rest := []) ⟨hx, hb, hml, hown, hts⟩ (c_X5_isKind l  (a)) (va_cwS 1 hts gX5_weight_X5_isKind rfl rfl rfl (by decide +kernel) ⟨Nat.le_of_ble_eq_true rfl, Nat.le_of_ble_eq_true rfl⟩) ⟨nB_blind, nB_pre⟩ rfl rfl hl.1 rfl (lv_room (Nat.le_of_ble_eq_true rfl)) dX5_weight_6 ⟨Nat.le_of_ble_eq_true rfl, Nat.le_of_ble_eq_true rfl⟩)) (fun r_6 hr_6 => ?_)
  subst hr_6
  refine g_ifeq_b (tgt := 24) hx hb dX5_weight_9 (by decide) (fun c_9 => ?_) (fun c_9 => ?_)
  · skip
    refine lv_aload_n hx hb dX5_weight_24 rfl (lv_at hl 0 rfl) ?_
    refine lv_iconst (v := (nI (1))) hx hb dX5_weight_25 (by decide) ?_
    have hFc := w_free hD hS hA
    refine va_calli (va_runV (As := [.int (nI (1))]) (rest := []) ⟨hx, hb, hml, hown, hts⟩ (c_X5_fail l D cy H.size h0 ad (va_up I 0 (nI (0))) F (nI (1))) (cwV 1 hts gX5_weight_X5_fail rfl rfl rfl (by decide +kernel) ⟨Nat.le_of_ble_eq_true rfl, Nat.le_of_ble_eq_true rfl⟩) ⟨wB_blind, va_recv hK hP (ci := 5) (q0 := 0) rfl rfl, wB_pre hP hK hD⟩ rfl rfl hl.1 rfl (lv_room (Nat.le_of_ble_eq_true rfl)) dX5_weight_26 ⟨Nat.le_of_ble_eq_true rfl, Nat.le_of_ble_eq_true rfl⟩) hS (fun q _ h => hFc q h) hFc (fun r_26 u_26 t H locs ht hvm hw_26 hB _ _ hS => ?_)
    obtain ⟨I_26, F_26⟩ := u_26
    obtain ⟨hP1, hK1, hD1⟩ := hB
    rw [ht] at hP1
    dsimp only at hP1 hD1 hw_26
    obtain ⟨hw_26, hu_26⟩ := hw_26
    rw [(Prod.mk.inj hu_26).1, (Prod.mk.inj hu_26).2] at hP1 hD1
    have hP := hP1
    have hD := hD1.weaken (fun _ _ _ h => hFc _ h)
    have hP : va_P D vwCl (wM cy h0 ad (va_up I 0 (nI (1))) F) H := hP
    have hD : va_D A (wM cy h0 ad (va_up I 0 (nI (1))) F) := hD
    refine g_top (y := (nI (0))) (hw_26) ?_
    exact W.iret (v := (nI (0))) hx hb hr (fun t ht hW => ⟨⟨_, ((va_up I 0 (nI (1))), F), rfl, by rw [sp_weight, if_neg (by omega)]; exact MP_t rfl hM, by rw [ht]; exact hP, va_K.moved hW.alike hK, hD⟩, hS.F ht⟩) hS.2.2 dX5_weight_29
  · skip
    have h_a := ix_n (a := a) (by omega)
    have hl : lv_has ls 4 [(0, .ref h0), (1, .int (nI (ix a))), (2, .int (b))] := by rw [← h_a]; exact hl
    refine lv_iload_n hx hb dX5_weight_12 rfl (lv_at hl 2 rfl) ?_
    refine lv_iconst (v := (nI (1))) hx hb dX5_weight_13 (by decide) ?_
    refine g_icmp_lt (tgt := 24) hx hb dX5_weight_14 (by decide) rfl (n_i (by omega)) (fun c_14 => ?_) (fun c_14 => ?_)
    · skip
      refine lv_aload_n hx hb dX5_weight_24 rfl (lv_at hl 0 rfl) ?_
      refine lv_iconst (v := (nI (1))) hx hb dX5_weight_25 (by decide) ?_
      have hFc := w_free hD hS hA
      refine va_calli (va_runV (As := [.int (nI (1))]) (rest := []) ⟨hx, hb, hml, hown, hts⟩ (c_X5_fail l D cy H.size h0 ad (va_up I 0 (nI (0))) F (nI (1))) (cwV 1 hts gX5_weight_X5_fail rfl rfl rfl (by decide +kernel) ⟨Nat.le_of_ble_eq_true rfl, Nat.le_of_ble_eq_true rfl⟩) ⟨wB_blind, va_recv hK hP (ci := 5) (q0 := 0) rfl rfl, wB_pre hP hK hD⟩ rfl rfl hl.1 rfl (lv_room (Nat.le_of_ble_eq_true rfl)) dX5_weight_26 ⟨Nat.le_of_ble_eq_true rfl, Nat.le_of_ble_eq_true rfl⟩) hS (fun q _ h => hFc q h) hFc (fun r_26 u_26 t H locs ht hvm hw_26 hB _ _ hS => ?_)
      obtain ⟨I_26, F_26⟩ := u_26
      obtain ⟨hP1, hK1, hD1⟩ := hB
      rw [ht] at hP1
      dsimp only at hP1 hD1 hw_26
      obtain ⟨hw_26, hu_26⟩ := hw_26
      rw [(Prod.mk.inj hu_26).1, (Prod.mk.inj hu_26).2] at hP1 hD1
      have hP := hP1
      have hD := hD1.weaken (fun _ _ _ h => hFc _ h)
      have hP : va_P D vwCl (wM cy h0 ad (va_up I 0 (nI (1))) F) H := hP
      have hD : va_D A (wM cy h0 ad (va_up I 0 (nI (1))) F) := hD
      refine g_top (y := (nI (0))) (hw_26) ?_
      exact W.iret (v := (nI (0))) hx hb hr (fun t ht hW => ⟨⟨_, ((va_up I 0 (nI (1))), F), rfl, by rw [sp_weight, if_neg (by omega)]; exact MP_t rfl hM, by rw [ht]; exact hP, va_K.moved hW.alike hK, hD⟩, hS.F ht⟩) hS.2.2 dX5_weight_29
    · skip
      refine lv_iload_n hx hb dX5_weight_17 rfl (lv_at hl 2 rfl) ?_
      refine lv_sipush (v := (nI (5000))) hx hb dX5_weight_18 (by decide) ?_
      refine g_icmp_le (tgt := 30) hx hb dX5_weight_21 (by decide) rfl (n_i (by omega)) (fun c_21 => ?_) (fun c_21 => ?_)
      · skip
        have h_b := ix_n (a := b) (by omega)
        have hl : lv_has ls 4 [(0, .ref h0), (1, .int (nI (ix a))), (2, .int (nI (ix b)))] := by rw [← h_b]; exact hl
        refine lv_aload_n hx hb dX5_weight_30 rfl (lv_at hl 0 rfl) ?_
        refine va_get (D := D) (ci := 5) (v := .ref ((ad 21))) (C := RX5) (T := TX5) (N := 34) hx hb hts (by decide +kernel) hown hK hP 0 rfl rfl 21 (by decide) (hts (.fieldLink RX5 59 "CaskYardModel" "weights" "[I") (by decide +kernel)) (fun _ h9 => h9) rfl dX5_weight_31 ?_
        refine lv_iload_n hx hb dX5_weight_34 rfl (lv_at hl 1 rfl) ?_
        refine g_iald hx hb hK hP 17 0 rfl rfl (ix a) rfl (by omega) (by decide) dX5_weight_35 ?_
        refine g_top (y := (nI (ywt Y (ix a)))) (hmW (ix a) (by omega)) ?_
        refine lv_istore_n (lv' := [(3, .int (nI (ywt Y (ix a)))), (0, .ref h0), (1, .int (nI (ix a))), (2, .int (nI (ix b)))]) hx hb dX5_weight_36 rfl hl (by decide) rfl (fun ls hl => ?_)
        refine lv_aload_n hx hb dX5_weight_37 rfl (lv_at hl 1 rfl) ?_
        refine va_get (D := D) (ci := 5) (v := .ref ((ad 21))) (C := RX5) (T := TX5) (N := 34) hx hb hts (by decide +kernel) hown hK hP 0 rfl rfl 21 (by decide) (hts (.fieldLink RX5 59 "CaskYardModel" "weights" "[I") (by decide +kernel)) (fun _ h9 => h9) rfl dX5_weight_38 ?_
        refine lv_iload_n hx hb dX5_weight_41 rfl (lv_at hl 2 rfl) ?_
        refine lv_iload_n hx hb dX5_weight_42 rfl (lv_at hl 3 rfl) ?_
        refine g_iast hx hb hK hP hD hS 17 0 rfl rfl (ix a) rfl (by omega) (by decide) dX5_weight_43 (fun H locs hP hD hS => ?_)
        rw [wMs_21] at hP hD
        obtain ⟨F1, hF1⟩ : ∃ G, G = va_up F 21 (upd (F 21) (ix a) (nI (ix b))) := ⟨_, rfl⟩
        rw [← hF1] at hP hD
        have eF1_21 : F1 21 = upd (F 21) (ix a) (nI (ix b)) := by rw [hF1]; exact va_up_self _ _ _
        refine lv_iload_n hx hb dX5_weight_44 rfl (lv_at hl 0 rfl) ?_
        exact W.iret (v := (nI (ywt Y (ix a)))) hx hb hr (fun t ht hW => ⟨⟨_, ((va_up I 0 (nI (0))), F1), rfl, by rw [hF1]; rw [sp_weight, if_pos (by omega)]; exact ⟨rfl, fun _ => rfl, MR_weight _ _ hM⟩, by rw [ht]; exact hP, va_K.moved hW.alike hK, hD⟩, hS.F ht⟩) hS.2.2 dX5_weight_45
      · skip
        refine lv_aload_n hx hb dX5_weight_24 rfl (lv_at hl 0 rfl) ?_
        refine lv_iconst (v := (nI (1))) hx hb dX5_weight_25 (by decide) ?_
        have hFc := w_free hD hS hA
        refine va_calli (va_runV (As := [.int (nI (1))]) (rest := []) ⟨hx, hb, hml, hown, hts⟩ (c_X5_fail l D cy H.size h0 ad (va_up I 0 (nI (0))) F (nI (1))) (cwV 1 hts gX5_weight_X5_fail rfl rfl rfl (by decide +kernel) ⟨Nat.le_of_ble_eq_true rfl, Nat.le_of_ble_eq_true rfl⟩) ⟨wB_blind, va_recv hK hP (ci := 5) (q0 := 0) rfl rfl, wB_pre hP hK hD⟩ rfl rfl hl.1 rfl (lv_room (Nat.le_of_ble_eq_true rfl)) dX5_weight_26 ⟨Nat.le_of_ble_eq_true rfl, Nat.le_of_ble_eq_true rfl⟩) hS (fun q _ h => hFc q h) hFc (fun r_26 u_26 t H locs ht hvm hw_26 hB _ _ hS => ?_)
        obtain ⟨I_26, F_26⟩ := u_26
        obtain ⟨hP1, hK1, hD1⟩ := hB
        rw [ht] at hP1
        dsimp only at hP1 hD1 hw_26
        obtain ⟨hw_26, hu_26⟩ := hw_26
        rw [(Prod.mk.inj hu_26).1, (Prod.mk.inj hu_26).2] at hP1 hD1
        have hP := hP1
        have hD := hD1.weaken (fun _ _ _ h => hFc _ h)
        have hP : va_P D vwCl (wM cy h0 ad (va_up I 0 (nI (1))) F) H := hP
        have hD : va_D A (wM cy h0 ad (va_up I 0 (nI (1))) F) := hD
        refine g_top (y := (nI (0))) (hw_26) ?_
        exact W.iret (v := (nI (0))) hx hb hr (fun t ht hW => ⟨⟨_, ((va_up I 0 (nI (1))), F), rfl, by rw [sp_weight, if_neg (by omega)]; exact MP_t rfl hM, by rw [ht]; exact hP, va_K.moved hW.alike hK, hD⟩, hS.F ht⟩) hS.2.2 dX5_weight_29
set_option maxHeartbeats 4000000 in
set_option maxRecDepth 100000 in
theorem c_X5_count (l : Launch) (D : va_G) (cy : Nat → ClassId) (sz : Nat) (h0 : Nat) (ad : Nat → Nat) (I : Nat → Int32) (F : Nat → Nat → Int32) (Y : YT) (hM : MR I F Y) (hY : WF Y) (a : Int32) : Met l yX5_count wsX5_count ({ frames := 1, cells := 0, slots := 0, locals := 21 } : Room) (va_Pc [.ref h0, .int (a)] (wB D cy sz (wM cy h0 ad I F))) (va_Qi (fun (r : Int32) (u : (Nat → Int32) × (Nat → Nat → Int32)) => MP r u (sp_count Y a)) (fun u t => wE D cy (va_A (wM cy h0 ad I F) sz) (wM cy h0 ad u.1 u.2) t) (va_A (wM cy h0 ad I F) sz)) 0 0 (va_A (wM cy h0 ad I F) sz) := by
  refine Met.ofW (cc := cX5_count) (maxL := 2) (ret := (some .int)) (by decide) rfl ?_
  intro p e s m args below meth c s₁ B hml hv
  obtain ⟨rfl, hsz, hP, hK, hD0⟩ := hv
  have hx := B.exec
  have hb := B.bytes
  have hr := B.returns
  have hts := atoms_spec (ws := wsX5_count) B.pre
  have hown : s.vm.findClass RX5 = some m.cls := findClass_of_methodNamed B.named
  have hlocks := B.notSynchronized
  subst hsz
  have hD := hD0.self (sz := s.heap.size)
  generalize hAe : va_A (wM cy h0 ad I F) s.heap.size = A at hD ⊢
  have hA : ∀ q : Nat, s.heap.size ≤ q → A q := w_A hAe
  have hS : va_S A s.heap s.heap [] := va_S.rf
  have hl := lv_entry ([.ref h0, .int (a)]) (n := 2) (Nat.le_of_ble_eq_true rfl)
  rw [lg_entry_eq]
  generalize (lg_sl ([.ref h0, .int (a)]) ++ List.replicate (2 - (lg_sl ([.ref h0, .int (a)])).length) Slot.unset).toArray = ls at hl ⊢
  have hl : lv_has ls 2 [(0, .ref h0), (1, .int (a))] := hl
  obtain ⟨hm1, hm2, hm3, hm4, hmF, hmB, hmC, hmR, hmW⟩ := id hM
  obtain ⟨hy0, hyF, hyB, hyC, hyf, hyb, hyc, hyr, hyw⟩ := id hY
  have hxa := ix_m a
  refine lv_aload_n hx hb dX5_count_0 rfl (lv_at hl 0 rfl) ?_
  refine lv_iconst (v := (nI (0))) hx hb dX5_count_1 (by decide) ?_
  refine va_put (D := D) (ci := 5) (v := .int (nI (0))) (ty := .int) (C := RX5) (T := TX5) (N := 34) hx hb hts (by decide +kernel) tyX5 tyX5_ok nmX5 hown hK hP hD hS 0 rfl rfl 0 (by decide) (hts (.fieldLink RX5 83 "CaskYardModel" "code" "I") (by decide +kernel)) (fun _ h9 => h9) rfl (by decide +kernel) rfl rfl (Nat.le_of_ble_eq_true rfl) dX5_count_2 (fun H locs hP hD hS => ?_)
  have hP : va_P D vwCl (wM cy h0 ad (va_up I 0 (nI (0))) F) H := hP
  have hD : va_D A (wM cy h0 ad (va_up I 0 (nI (0))) F) := hD
  refine lv_iload_n hx hb dX5_count_5 rfl (lv_at hl 1 rfl) ?_
  by_cases hsw : isIx a 4
  · rcases (show a.toInt = 0 ∨ a.toInt = 1 ∨ a.toInt = 2 ∨ a.toInt = 3 by omega) with hq | hq | hq | hq
    · skip
      refine lv_tableIn (tgt := 36) hx hb dX5_count_6 (by omega) (by omega) (by rw [hq]; rfl) (by decide) ?_
      refine lv_aload_n hx hb dX5_count_36 rfl (lv_at hl 0 rfl) ?_
      refine va_get (D := D) (ci := 5) (v := .int (I 4)) (C := RX5) (T := TX5) (N := 34) hx hb hts (by decide +kernel) hown hK hP 0 rfl rfl 4 (by decide) (hts (.fieldLink RX5 117 "CaskYardModel" "now" "I") (by decide +kernel)) (fun _ h9 => h9) rfl dX5_count_37 ?_
      refine g_top (y := (nI (yNow Y))) hm4 ?_
      exact W.iret (v := (nI (yNow Y))) hx hb hr (fun t ht hW => ⟨⟨_, ((va_up I 0 (nI (0))), F), rfl, by rw [sp_count, if_pos (by omega)]; exact ⟨rfl, fun _ => by rw [show ix a = 0 by omega]; rfl, hM⟩, by rw [ht]; exact hP, va_K.moved hW.alike hK, hD⟩, hS.F ht⟩) hS.2.2 dX5_count_40
    · skip
      refine lv_tableIn (tgt := 41) hx hb dX5_count_6 (by omega) (by omega) (by rw [hq]; rfl) (by decide) ?_
      refine lv_aload_n hx hb dX5_count_41 rfl (lv_at hl 0 rfl) ?_
      refine va_get (D := D) (ci := 5) (v := .int (I 1)) (C := RX5) (T := TX5) (N := 34) hx hb hts (by decide +kernel) hown hK hP 0 rfl rfl 1 (by decide) (hts (.fieldLink RX5 87 "CaskYardModel" "forms" "I") (by decide +kernel)) (fun _ h9 => h9) rfl dX5_count_42 ?_
      refine g_top (y := (nI (yF Y))) hm1 ?_
      exact W.iret (v := (nI (yF Y))) hx hb hr (fun t ht hW => ⟨⟨_, ((va_up I 0 (nI (0))), F), rfl, by rw [sp_count, if_pos (by omega)]; exact ⟨rfl, fun _ => by rw [show ix a = 1 by omega]; rfl, hM⟩, by rw [ht]; exact hP, va_K.moved hW.alike hK, hD⟩, hS.F ht⟩) hS.2.2 dX5_count_45
    · skip
      refine lv_tableIn (tgt := 46) hx hb dX5_count_6 (by omega) (by omega) (by rw [hq]; rfl) (by decide) ?_
      refine lv_aload_n hx hb dX5_count_46 rfl (lv_at hl 0 rfl) ?_
      refine va_get (D := D) (ci := 5) (v := .int (I 2)) (C := RX5) (T := TX5) (N := 34) hx hb hts (by decide +kernel) hown hK hP 0 rfl rfl 2 (by decide) (hts (.fieldLink RX5 122 "CaskYardModel" "bolts" "I") (by decide +kernel)) (fun _ h9 => h9) rfl dX5_count_47 ?_
      refine g_top (y := (nI (yB Y))) hm2 ?_
      exact W.iret (v := (nI (yB Y))) hx hb hr (fun t ht hW => ⟨⟨_, ((va_up I 0 (nI (0))), F), rfl, by rw [sp_count, if_pos (by omega)]; exact ⟨rfl, fun _ => by rw [show ix a = 2 by omega]; rfl, hM⟩, by rw [ht]; exact hP, va_K.moved hW.alike hK, hD⟩, hS.F ht⟩) hS.2.2 dX5_count_50
    · skip
      refine lv_tableIn (tgt := 51) hx hb dX5_count_6 (by omega) (by omega) (by rw [hq]; rfl) (by decide) ?_
      refine lv_aload_n hx hb dX5_count_51 rfl (lv_at hl 0 rfl) ?_
      refine va_get (D := D) (ci := 5) (v := .int (I 3)) (C := RX5) (T := TX5) (N := 34) hx hb hts (by decide +kernel) hown hK hP 0 rfl rfl 3 (by decide) (hts (.fieldLink RX5 184 "CaskYardModel" "casks" "I") (by decide +kernel)) (fun _ h9 => h9) rfl dX5_count_52 ?_
      refine g_top (y := (nI (yC Y))) hm3 ?_
      exact W.iret (v := (nI (yC Y))) hx hb hr (fun t ht hW => ⟨⟨_, ((va_up I 0 (nI (0))), F), rfl, by rw [sp_count, if_pos (by omega)]; exact ⟨rfl, fun _ => by rw [show ix a = 3 by omega]; rfl, hM⟩, by rw [ht]; exact hP, va_K.moved hW.alike hK, hD⟩, hS.F ht⟩) hS.2.2 dX5_count_55
  · skip
    refine lv_tableOut (tgt := 56) hx hb dX5_count_6 (by omega) (by decide) ?_
    refine lv_aload_n hx hb dX5_count_56 rfl (lv_at hl 0 rfl) ?_
    refine lv_iconst (v := (nI (1))) hx hb dX5_count_57 (by decide) ?_
    have hFc := w_free hD hS hA
    refine va_calli (va_runV (As := [.int (nI (1))]) (rest := []) ⟨hx, hb, hml, hown, hts⟩ (c_X5_fail l D cy H.size h0 ad (va_up I 0 (nI (0))) F (nI (1))) (cwV 1 hts gX5_count_X5_fail rfl rfl rfl (by decide +kernel) ⟨Nat.le_of_ble_eq_true rfl, Nat.le_of_ble_eq_true rfl⟩) ⟨wB_blind, va_recv hK hP (ci := 5) (q0 := 0) rfl rfl, wB_pre hP hK hD⟩ rfl rfl hl.1 rfl (lv_room (Nat.le_of_ble_eq_true rfl)) dX5_count_58 ⟨Nat.le_of_ble_eq_true rfl, Nat.le_of_ble_eq_true rfl⟩) hS (fun q _ h => hFc q h) hFc (fun r_58 u_58 t H locs ht hvm hw_58 hB _ _ hS => ?_)
    obtain ⟨I_58, F_58⟩ := u_58
    obtain ⟨hP1, hK1, hD1⟩ := hB
    rw [ht] at hP1
    dsimp only at hP1 hD1 hw_58
    obtain ⟨hw_58, hu_58⟩ := hw_58
    rw [(Prod.mk.inj hu_58).1, (Prod.mk.inj hu_58).2] at hP1 hD1
    have hP := hP1
    have hD := hD1.weaken (fun _ _ _ h => hFc _ h)
    have hP : va_P D vwCl (wM cy h0 ad (va_up I 0 (nI (1))) F) H := hP
    have hD : va_D A (wM cy h0 ad (va_up I 0 (nI (1))) F) := hD
    refine g_top (y := (nI (0))) (hw_58) ?_
    exact W.iret (v := (nI (0))) hx hb hr (fun t ht hW => ⟨⟨_, ((va_up I 0 (nI (1))), F), rfl, by rw [sp_count, if_neg (by omega)]; exact MP_t rfl hM, by rw [ht]; exact hP, va_K.moved hW.alike hK, hD⟩, hS.F ht⟩) hS.2.2 dX5_count_61
