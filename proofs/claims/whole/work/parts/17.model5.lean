set_option maxHeartbeats 4000000 in
set_option maxRecDepth 100000 in
theorem c_X5_weighs (l : Launch) (D : va_G) (cy : Nat → ClassId) (sz : Nat) (h0 : Nat) (ad : Nat → Nat) (I : Nat → Int32) (F : Nat → Nat → Int32) (Y : YT) (hM : MR I F Y) (hY : WF Y) (a b : Int32) : Met l yX5_weighs wsX5_weighs ({ frames := 2, cells := 0, slots := 0, locals := 48 } : Room) (va_Pc [.ref h0, .int (a), .int (b)] (wB D cy sz (wM cy h0 ad I F))) (va_Ql (fun (r : Int64) (u : (Nat → Int32) × (Nat → Nat → Int32)) => MPl r u (sp_weighs Y a b)) (fun u t => wE D cy (va_A (wM cy h0 ad I F) sz) (wM cy h0 ad u.1 u.2) t) (va_A (wM cy h0 ad I F) sz)) 0 0 (va_A (wM cy h0 ad I F) sz) := by
  refine Met.ofW (cc := cX5_weighs) (maxL := 4) (ret := (some .long)) (by decide) rfl ?_
  intro p e s m args below meth c s₁ B hml hv
  obtain ⟨rfl, hsz, hP, hK, hD0⟩ := hv
  have hx := B.exec
  have hb := B.bytes
  have hr := B.returns
  have hts := atoms_spec (ws := wsX5_weighs) B.pre
  have hown : s.vm.findClass RX5 = some m.cls := findClass_of_methodNamed B.named
  have hlocks := B.notSynchronized
  subst hsz
  have hD := hD0.self (sz := s.heap.size)
  generalize hAe : va_A (wM cy h0 ad I F) s.heap.size = A at hD ⊢
  have hA : ∀ q : Nat, s.heap.size ≤ q → A q := w_A hAe
  have hS : va_S A s.heap s.heap [] := va_S.rf
  have hl := lv_entry ([.ref h0, .int (a), .int (b)]) (n := 4) (Nat.le_of_ble_eq_true rfl)
  rw [lg_entry_eq]
  generalize (lg_sl ([.ref h0, .int (a), .int (b)]) ++ List.replicate (4 - (lg_sl ([.ref h0, .int (a), .int (b)])).length) Slot.unset).toArray = ls at hl ⊢
  have hl : lv_has ls 4 [(0, .ref h0), (1, .int (a)), (2, .int (b))] := hl
  obtain ⟨hm1, hm2, hm3, hm4, hmF, hmB, hmC, hmR, hmW⟩ := id hM
  obtain ⟨hy0, hyF, hyB, hyC, hyf, hyb, hyc, hyr, hyw⟩ := id hY
  have hxa := ix_m a
  have hxb := ix_m b
  refine lv_aload_n hx hb dX5_weighs_0 rfl (lv_at hl 0 rfl) ?_
  refine lv_iconst (v := (nI (0))) hx hb dX5_weighs_1 (by decide) ?_
  refine va_put (D := D) (ci := 5) (v := .int (nI (0))) (ty := .int) (C := RX5) (T := TX5) (N := 34) hx hb hts (by decide +kernel) tyX5 tyX5_ok nmX5 hown hK hP hD hS 0 rfl rfl 0 (by decide) (hts (.fieldLink RX5 83 "CaskYardModel" "code" "I") (by decide +kernel)) (fun _ h9 => h9) rfl (by decide +kernel) rfl rfl (Nat.le_of_ble_eq_true rfl) dX5_weighs_2 (fun H locs hP hD hS => ?_)
  have hP : va_P D vwCl (wM cy h0 ad (va_up I 0 (nI (0))) F) H := hP
  have hD : va_D A (wM cy h0 ad (va_up I 0 (nI (0))) F) := hD
  refine lv_aload_n hx hb dX5_weighs_5 rfl (lv_at hl 0 rfl) ?_
  refine lv_iload_n hx hb dX5_weighs_6 rfl (lv_at hl 1 rfl) ?_
  refine vp_callSi (va_Run.run (va_runV (As := [.int (a)]) (rest := []) ⟨hx, hb, hml, hown, hts⟩ (c_X5_isCask l D cy h0 ad (va_up I 0 (nI (0))) F (a) (yC Y) (hm3) (by omega)) (cwV 1 hts gX5_weighs_X5_isCask rfl rfl rfl (by decide +kernel) ⟨Nat.le_of_ble_eq_true rfl, Nat.le_of_ble_eq_true rfl⟩) ⟨rB_blind, va_recv hK hP (ci := 5) (q0 := 0) rfl rfl, (rB_pre hP hK)⟩ rfl rfl hl.1 rfl (lv_room (Nat.le_of_ble_eq_true rfl)) dX5_weighs_7 ⟨Nat.le_of_ble_eq_true rfl, Nat.le_of_ble_eq_true rfl⟩)) (fun r_7 hr_7 => ?_)
  subst hr_7
  refine g_ifne_b (tgt := 20) hx hb dX5_weighs_10 (by decide) (fun c_10 => ?_) (fun c_10 => ?_)
  · skip
    have h_a := ix_n (a := a) (by omega)
    have hic : ix a < yC Y := by omega
    have hcf := (hyc (ix a) hic).1
    have hcs := hyf (ycf Y (ix a)) hcf
    have hk16 : ∀ q ∈ yE Y (ix a), q.2.2 ≤ 16 := fun q h => ((hyc (ix a) hic).2.2.1 q h).2.2
    have hl : lv_has ls 4 [(0, .ref h0), (1, .int (nI (ix a))), (2, .int (b))] := by rw [← h_a]; exact hl
    refine lv_aload_n hx hb dX5_weighs_20 rfl (lv_at hl 0 rfl) ?_
    refine lv_aload_n hx hb dX5_weighs_21 rfl (lv_at hl 0 rfl) ?_
    refine va_get (D := D) (ci := 5) (v := .ref ((ad 13))) (C := RX5) (T := TX5) (N := 34) hx hb hts (by decide +kernel) hown hK hP 0 rfl rfl 13 (by decide) (hts (.fieldLink RX5 34 "CaskYardModel" "caskForm" "[I") (by decide +kernel)) (fun _ h9 => h9) rfl dX5_weighs_22 ?_
    refine lv_iload_n hx hb dX5_weighs_25 rfl (lv_at hl 1 rfl) ?_
    refine g_iald hx hb hK hP 9 0 rfl rfl (ix a) rfl (by omega) (by decide) dX5_weighs_26 ?_
    refine g_top (y := (nI (ycf Y (ix a)))) (hmC (ix a) (by omega)).1 ?_
    refine lv_iload_n hx hb dX5_weighs_27 rfl (lv_at hl 2 rfl) ?_
    refine vp_callSi (va_Run.run (va_runV (As := [.int (nI (ycf Y (ix a))), .int (b)]) (rest := []) ⟨hx, hb, hml, hown, hts⟩ (c_X5_isHeight l D cy h0 ad (va_up I 0 (nI (0))) F (ycf Y (ix a)) (Nat.lt_of_lt_of_le hcf hyF) (b) (yh Y (ycf Y (ix a))) ((hmF (ycf Y (ix a)) hcf).1) (hcs.2.1)) (cwV 2 hts gX5_weighs_X5_isHeight rfl rfl rfl (by decide +kernel) ⟨Nat.le_of_ble_eq_true rfl, Nat.le_of_ble_eq_true rfl⟩) ⟨rB_blind, va_recv hK hP (ci := 5) (q0 := 0) rfl rfl, (rB_pre hP hK)⟩ rfl rfl hl.1 rfl (lv_room (Nat.le_of_ble_eq_true rfl)) dX5_weighs_28 ⟨Nat.le_of_ble_eq_true rfl, Nat.le_of_ble_eq_true rfl⟩)) (fun r_28 hr_28 => ?_)
    subst hr_28
    refine g_ifne_b (tgt := 41) hx hb dX5_weighs_31 (by decide) (fun c_31 => ?_) (fun c_31 => ?_)
    · skip
      have h_b := ix_n (a := b) (by omega)
      have hl : lv_has ls 4 [(0, .ref h0), (1, .int (nI (ix a))), (2, .int (nI (ix b)))] := by rw [← h_b]; exact hl
      refine lv_aload_n hx hb dX5_weighs_41 rfl (lv_at hl 0 rfl) ?_
      refine lv_iload_n hx hb dX5_weighs_42 rfl (lv_at hl 1 rfl) ?_
      refine lv_aload_n hx hb dX5_weighs_43 rfl (lv_at hl 0 rfl) ?_
      refine va_get (D := D) (ci := 5) (v := .int (I 4)) (C := RX5) (T := TX5) (N := 34) hx hb hts (by decide +kernel) hown hK hP 0 rfl rfl 4 (by decide) (hts (.fieldLink RX5 117 "CaskYardModel" "now" "I") (by decide +kernel)) (fun _ h9 => h9) rfl dX5_weighs_44 ?_
      refine g_top (y := (nI (yNow Y))) hm4 ?_
      refine lv_aload_n hx hb dX5_weighs_47 rfl (lv_at hl 0 rfl) ?_
      refine va_get (D := D) (ci := 5) (v := .int (I 4)) (C := RX5) (T := TX5) (N := 34) hx hb hts (by decide +kernel) hown hK hP 0 rfl rfl 4 (by decide) (hts (.fieldLink RX5 117 "CaskYardModel" "now" "I") (by decide +kernel)) (fun _ h9 => h9) rfl dX5_weighs_48 ?_
      refine g_top (y := (nI (yNow Y))) hm4 ?_
      refine vp_callSi (va_Run.run (va_runV (As := [.int (nI (ix a)), .int (nI (yNow Y)), .int (nI (yNow Y))]) (rest := []) ⟨hx, hb, hml, hown, hts⟩ (c_X5_heldOn l D cy h0 ad (va_up I 0 (nI (0))) F (ix a) (Nat.lt_of_lt_of_le hic hyC) (yE Y (ix a)) (nI (yNow Y)) (nI (yNow Y)) ((hmC (ix a) hic).2.1) ((hmC (ix a) hic).2.2.1) ((hyc (ix a) hic).2.1) (fun q h => by have := (hyc (ix a) hic).2.2.1 q h; omega)) (cwV 3 hts gX5_weighs_X5_heldOn rfl rfl rfl (by decide +kernel) ⟨Nat.le_of_ble_eq_true rfl, Nat.le_of_ble_eq_true rfl⟩) ⟨rB_blind, va_recv hK hP (ci := 5) (q0 := 0) rfl rfl, (rB_pre hP hK)⟩ rfl rfl hl.1 rfl (lv_room (Nat.le_of_ble_eq_true rfl)) dX5_weighs_51 ⟨Nat.le_of_ble_eq_true rfl, Nat.le_of_ble_eq_true rfl⟩)) (fun r_51 hr_51 => ?_)
      refine g_top (y := (zI ((heldS (yE Y (ix a)) (yNow Y : Int) (yNow Y : Int)).2))) (by rw [hr_51, n_i (by omega)]) ?_
      have hhb := heldS_bd hk16 (yNow Y : Int) (yNow Y : Int)
      have hzi := zI_toInt (z := (heldS (yE Y (ix a)) (yNow Y : Int) (yNow Y : Int)).2) (by omega) (by omega)
      refine lv_istore_n (lv' := [(3, .int (zI ((heldS (yE Y (ix a)) (yNow Y : Int) (yNow Y : Int)).2))), (0, .ref h0), (1, .int (nI (ix a))), (2, .int (nI (ix b)))]) hx hb dX5_weighs_54 rfl hl (by decide) rfl (fun ls hl => ?_)
      refine lv_iload_n hx hb dX5_weighs_55 rfl (lv_at hl 0 rfl) ?_
      refine lv_iconst (v := (zI ((-1)))) hx hb dX5_weighs_56 (by decide) ?_
      refine g_icmp_eq (tgt := 66) hx hb dX5_weighs_57 (by decide) (zI_toInt (by omega) (by omega)) (zI_toInt (by omega) (by omega)) (fun c_57 => ?_) (fun c_57 => ?_)
      · skip
        refine lv_ldc2 hx hb hown (hts (.constantLong RX5 213 (-1)) (by decide +kernel)) dX5_weighs_66 ?_
        refine lv_goto (tgt := 96) hx hb dX5_weighs_69 (by decide) ?_
        exact W.lret (v := ((-1))) hx hb hr (fun t ht hW => ⟨⟨_, ((va_up I 0 (nI (0))), F), rfl, by rw [sp_weighs, if_pos (by omega), if_pos (by omega)]; exact ⟨rfl, fun _ => (if_neg (by omega)).symm, hM⟩, by rw [ht]; exact hP, va_K.moved hW.alike hK, hD⟩, hS.F ht⟩) hS.2.2 dX5_weighs_96
      · skip
        refine lv_iload_n hx hb dX5_weighs_60 rfl (lv_at hl 0 rfl) ?_
        refine lv_bipush (v := (nI (16))) hx hb dX5_weighs_61 (by decide) ?_
        refine g_icmp_ne (tgt := 72) hx hb dX5_weighs_63 (by decide) (zI_toInt (by omega) (by omega)) (n_i (by omega)) (fun c_63 => ?_) (fun c_63 => ?_)
        · skip
          refine lv_aload_n hx hb dX5_weighs_72 rfl (lv_at hl 1 rfl) ?_
          refine lv_aload_n hx hb dX5_weighs_73 rfl (lv_at hl 1 rfl) ?_
          refine va_get (D := D) (ci := 5) (v := .ref ((ad 13))) (C := RX5) (T := TX5) (N := 34) hx hb hts (by decide +kernel) hown hK hP 0 rfl rfl 13 (by decide) (hts (.fieldLink RX5 34 "CaskYardModel" "caskForm" "[I") (by decide +kernel)) (fun _ h9 => h9) rfl dX5_weighs_74 ?_
          refine lv_iload_n hx hb dX5_weighs_77 rfl (lv_at hl 2 rfl) ?_
          refine g_iald hx hb hK hP 9 0 rfl rfl (ix a) rfl (by omega) (by decide) dX5_weighs_78 ?_
          refine g_top (y := (nI (ycf Y (ix a)))) (hmC (ix a) (by omega)).1 ?_
          refine lv_iload_n hx hb dX5_weighs_79 rfl (lv_at hl 3 rfl) ?_
          refine vp_callSi (va_Run.run (va_runV (As := [.int (nI (ycf Y (ix a))), .int (nI (ix b))]) (rest := []) ⟨hx, hb, hml, hown, hts⟩ (c_X5_holdsAt l D cy h0 ad (va_up I 0 (nI (0))) F (ycf Y (ix a)) (ix b) (Nat.lt_of_lt_of_le (show ycf Y (ix a) < yF Y from hcf) hyF) (yh Y (ycf Y (ix a))) (yg Y (ycf Y (ix a))) (ye Y (ycf Y (ix a))) ((hmF (ycf Y (ix a)) (show ycf Y (ix a) < yF Y from hcf)).1) ((hmF (ycf Y (ix a)) (show ycf Y (ix a) < yF Y from hcf)).2.1) ((hmF (ycf Y (ix a)) (show ycf Y (ix a) < yF Y from hcf)).2.2.1) (form_b (hyf (ycf Y (ix a)) (show ycf Y (ix a) < yF Y from hcf))) (by omega)) (cwV 2 hts gX5_weighs_X5_holdsAt rfl rfl rfl (by decide +kernel) ⟨Nat.le_of_ble_eq_true rfl, Nat.le_of_ble_eq_true rfl⟩) ⟨rB_blind, va_recv hK hP (ci := 5) (q0 := 0) rfl rfl, (rB_pre hP hK)⟩ rfl rfl hl.1 rfl (lv_room (Nat.le_of_ble_eq_true rfl)) dX5_weighs_80 ⟨Nat.le_of_ble_eq_true rfl, Nat.le_of_ble_eq_true rfl⟩)) (fun r_80 hr_80 => ?_)
          subst hr_80
          have hhl := holdsN_lt (h := yh Y (ycf Y (ix a))) (e := ye Y (ycf Y (ix a))) (l := ix b) hcs.2.2.2.2.1 (by omega)
          refine lv_i2l (v := lN (holdsN (yh Y (ycf Y (ix a))) (yg Y (ycf Y (ix a))) (ye Y (ycf Y (ix a))) (ix b))) hx hb dX5_weighs_83 (nI_l (by omega)) ?_
          refine lv_aload_n hx hb dX5_weighs_84 rfl (lv_at hl 1 rfl) ?_
          refine va_get (D := D) (ci := 5) (v := .ref ((ad 21))) (C := RX5) (T := TX5) (N := 34) hx hb hts (by decide +kernel) hown hK hP 0 rfl rfl 21 (by decide) (hts (.fieldLink RX5 59 "CaskYardModel" "weights" "[I") (by decide +kernel)) (fun _ h9 => h9) rfl dX5_weighs_85 ?_
          refine lv_iload_n hx hb dX5_weighs_88 rfl (lv_at hl 0 rfl) ?_
          refine g_iald hx hb hK hP 17 0 rfl rfl ((heldS (yE Y (ix a)) (yNow Y : Int) (yNow Y : Int)).2.toNat) (z_n (by omega)) (by omega) (by decide) dX5_weighs_89 ?_
          refine g_top (y := (nI (ywt Y ((heldS (yE Y (ix a)) (yNow Y : Int) (yNow Y : Int)).2.toNat)))) (hmW ((heldS (yE Y (ix a)) (yNow Y : Int) (yNow Y : Int)).2.toNat) (by omega)) ?_
          have hwl := (hyw (heldS (yE Y (ix a)) (yNow Y : Int) (yNow Y : Int)).2.toNat (by omega)).2
          refine lv_i2l (v := lN (ywt Y ((heldS (yE Y (ix a)) (yNow Y : Int) (yNow Y : Int)).2.toNat))) hx hb dX5_weighs_90 (nI_l (by omega)) ?_
          have hpr : holdsN (yh Y (ycf Y (ix a))) (yg Y (ycf Y (ix a))) (ye Y (ycf Y (ix a))) (ix b) * ywt Y (heldS (yE Y (ix a)) (yNow Y : Int) (yNow Y : Int)).2.toNat ≤ 2147483648 * 5000 := Nat.mul_le_mul (by omega) (by omega)
          refine lv_lmul hx hb dX5_weighs_91 ?_
          refine g_topl (y := lN ((holdsN (yh Y (ycf Y (ix a))) (yg Y (ycf Y (ix a))) (ye Y (ycf Y (ix a))) (ix b)) * (ywt Y ((heldS (yE Y (ix a)) (yNow Y : Int) (yNow Y : Int)).2.toNat)))) (lN_mul _ _) ?_
          refine lv_ldc2 hx hb hown (hts (.constantLong RX5 215 (1000)) (by decide +kernel)) dX5_weighs_92 ?_
          refine g_topl (y := lN 1000) (by decide) ?_
          refine lv_ldiv hx hb dX5_weighs_95 (by decide) ?_
          refine g_topl (y := lN (((holdsN (yh Y (ycf Y (ix a))) (yg Y (ycf Y (ix a))) (ye Y (ycf Y (ix a))) (ix b)) * (ywt Y ((heldS (yE Y (ix a)) (yNow Y : Int) (yNow Y : Int)).2.toNat))) / 1000)) (pk_lDiv (by omega) (by omega) (by omega)) ?_
          exact W.lret (v := (lN (((holdsN (yh Y (ycf Y (ix a))) (yg Y (ycf Y (ix a))) (ye Y (ycf Y (ix a))) (ix b)) * (ywt Y ((heldS (yE Y (ix a)) (yNow Y : Int) (yNow Y : Int)).2.toNat))) / 1000))) hx hb hr (fun t ht hW => ⟨⟨_, ((va_up I 0 (nI (0))), F), rfl, by rw [sp_weighs, if_pos (by omega), if_pos (by omega)]; exact ⟨rfl, fun _ => (if_pos (by omega)).symm, hM⟩, by rw [ht]; exact hP, va_K.moved hW.alike hK, hD⟩, hS.F ht⟩) hS.2.2 dX5_weighs_96
        · skip
          refine lv_ldc2 hx hb hown (hts (.constantLong RX5 213 (-1)) (by decide +kernel)) dX5_weighs_66 ?_
          refine lv_goto (tgt := 96) hx hb dX5_weighs_69 (by decide) ?_
          exact W.lret (v := ((-1))) hx hb hr (fun t ht hW => ⟨⟨_, ((va_up I 0 (nI (0))), F), rfl, by rw [sp_weighs, if_pos (by omega), if_pos (by omega)]; exact ⟨rfl, fun _ => (if_neg (by omega)).symm, hM⟩, by rw [ht]; exact hP, va_K.moved hW.alike hK, hD⟩, hS.F ht⟩) hS.2.2 dX5_weighs_96
    · skip
      refine lv_aload_n hx hb dX5_weighs_34 rfl (lv_at hl 0 rfl) ?_
      refine lv_iconst (v := (nI (2))) hx hb dX5_weighs_35 (by decide) ?_
      have hFc := w_free hD hS hA
      refine va_calli (va_runV (As := [.int (nI (2))]) (rest := []) ⟨hx, hb, hml, hown, hts⟩ (c_X5_fail l D cy H.size h0 ad (va_up I 0 (nI (0))) F (nI (2))) (cwV 1 hts gX5_weighs_X5_fail rfl rfl rfl (by decide +kernel) ⟨Nat.le_of_ble_eq_true rfl, Nat.le_of_ble_eq_true rfl⟩) ⟨wB_blind, va_recv hK hP (ci := 5) (q0 := 0) rfl rfl, wB_pre hP hK hD⟩ rfl rfl hl.1 rfl (lv_room (Nat.le_of_ble_eq_true rfl)) dX5_weighs_36 ⟨Nat.le_of_ble_eq_true rfl, Nat.le_of_ble_eq_true rfl⟩) hS (fun q _ h => hFc q h) hFc (fun r_36 u_36 t H locs ht hvm hw_36 hB _ _ hS => ?_)
      obtain ⟨I_36, F_36⟩ := u_36
      obtain ⟨hP1, hK1, hD1⟩ := hB
      rw [ht] at hP1
      dsimp only at hP1 hD1 hw_36
      obtain ⟨hw_36, hu_36⟩ := hw_36
      rw [(Prod.mk.inj hu_36).1, (Prod.mk.inj hu_36).2] at hP1 hD1
      have hP := hP1
      have hD := hD1.weaken (fun _ _ _ h => hFc _ h)
      have hP : va_P D vwCl (wM cy h0 ad (va_up I 0 (nI (2))) F) H := hP
      have hD : va_D A (wM cy h0 ad (va_up I 0 (nI (2))) F) := hD
      refine g_top (y := (nI (0))) (hw_36) ?_
      refine lv_i2l (v := lN (0)) hx hb dX5_weighs_39 (nI_l (by omega)) ?_
      exact W.lret (v := (lN (0))) hx hb hr (fun t ht hW => ⟨⟨_, ((va_up I 0 (nI (2))), F), rfl, by rw [sp_weighs, if_pos (by omega), if_neg (by omega)]; exact MPl_t rfl hM, by rw [ht]; exact hP, va_K.moved hW.alike hK, hD⟩, hS.F ht⟩) hS.2.2 dX5_weighs_40
  · skip
    refine lv_aload_n hx hb dX5_weighs_13 rfl (lv_at hl 0 rfl) ?_
    refine lv_iconst (v := (nI (1))) hx hb dX5_weighs_14 (by decide) ?_
    have hFc := w_free hD hS hA
    refine va_calli (va_runV (As := [.int (nI (1))]) (rest := []) ⟨hx, hb, hml, hown, hts⟩ (c_X5_fail l D cy H.size h0 ad (va_up I 0 (nI (0))) F (nI (1))) (cwV 1 hts gX5_weighs_X5_fail rfl rfl rfl (by decide +kernel) ⟨Nat.le_of_ble_eq_true rfl, Nat.le_of_ble_eq_true rfl⟩) ⟨wB_blind, va_recv hK hP (ci := 5) (q0 := 0) rfl rfl, wB_pre hP hK hD⟩ rfl rfl hl.1 rfl (lv_room (Nat.le_of_ble_eq_true rfl)) dX5_weighs_15 ⟨Nat.le_of_ble_eq_true rfl, Nat.le_of_ble_eq_true rfl⟩) hS (fun q _ h => hFc q h) hFc (fun r_15 u_15 t H locs ht hvm hw_15 hB _ _ hS => ?_)
    obtain ⟨I_15, F_15⟩ := u_15
    obtain ⟨hP1, hK1, hD1⟩ := hB
    rw [ht] at hP1
    dsimp only at hP1 hD1 hw_15
    obtain ⟨hw_15, hu_15⟩ := hw_15
    rw [(Prod.mk.inj hu_15).1, (Prod.mk.inj hu_15).2] at hP1 hD1
    have hP := hP1
    have hD := hD1.weaken (fun _ _ _ h => hFc _ h)
    have hP : va_P D vwCl (wM cy h0 ad (va_up I 0 (nI (1))) F) H := hP
    have hD : va_D A (wM cy h0 ad (va_up I 0 (nI (1))) F) := hD
    refine g_top (y := (nI (0))) (hw_15) ?_
    refine lv_i2l (v := lN (0)) hx hb dX5_weighs_18 (nI_l (by omega)) ?_
    exact W.lret (v := (lN (0))) hx hb hr (fun t ht hW => ⟨⟨_, ((va_up I 0 (nI (1))), F), rfl, by rw [sp_weighs, if_neg (by omega)]; exact MPl_t rfl hM, by rw [ht]; exact hP, va_K.moved hW.alike hK, hD⟩, hS.F ht⟩) hS.2.2 dX5_weighs_19
set_option maxHeartbeats 4000000 in
set_option maxRecDepth 100000 in
theorem c_X5_cut (l : Launch) (D : va_G) (cy : Nat → ClassId) (sz : Nat) (h0 : Nat) (ad : Nat → Nat) (I : Nat → Int32) (F : Nat → Nat → Int32) (b i wd x : Nat) (hb40 : b < 40) (hi5 : i < 5) (h11 : F 11 (5 * b + i) = nI x) : Met l yX5_cut wsX5_cut ({ frames := 1, cells := 0, slots := 0, locals := 21 } : Room) (va_Pc [.ref h0, .int (nI (b)), .int (nI (i)), .int (nI (wd))] (wB D cy sz (wM cy h0 ad I F))) (va_Qv (fun (u : (Nat → Int32) × (Nat → Nat → Int32)) => u = (I, va_up F 11 (upd (F 11) (5 * b + i) (nI (x + wd))))) (fun u t => wE D cy (va_A (wM cy h0 ad I F) sz) (wM cy h0 ad u.1 u.2) t) (va_A (wM cy h0 ad I F) sz)) 0 0 (va_A (wM cy h0 ad I F) sz) := by
  refine Met.ofW (cc := cX5_cut) (maxL := 4) (ret := none) (by decide) rfl ?_
  intro p e s m args below meth c s₁ B hml hv
  obtain ⟨rfl, hsz, hP, hK, hD0⟩ := hv
  have hx := B.exec
  have hb := B.bytes
  have hr := B.returns
  have hts := atoms_spec (ws := wsX5_cut) B.pre
  have hown : s.vm.findClass RX5 = some m.cls := findClass_of_methodNamed B.named
  have hlocks := B.notSynchronized
  subst hsz
  have hD := hD0.self (sz := s.heap.size)
  generalize hAe : va_A (wM cy h0 ad I F) s.heap.size = A at hD ⊢
  have hA : ∀ q : Nat, s.heap.size ≤ q → A q := w_A hAe
  have hS : va_S A s.heap s.heap [] := va_S.rf
  have hl := lv_entry ([.ref h0, .int (nI (b)), .int (nI (i)), .int (nI (wd))]) (n := 4) (Nat.le_of_ble_eq_true rfl)
  rw [lg_entry_eq]
  generalize (lg_sl ([.ref h0, .int (nI (b)), .int (nI (i)), .int (nI (wd))]) ++ List.replicate (4 - (lg_sl ([.ref h0, .int (nI (b)), .int (nI (i)), .int (nI (wd))])).length) Slot.unset).toArray = ls at hl ⊢
  have hl : lv_has ls 4 [(0, .ref h0), (1, .int (nI (b))), (2, .int (nI (i))), (3, .int (nI (wd)))] := hl
  refine lv_aload_n hx hb dX5_cut_0 rfl (lv_at hl 0 rfl) ?_
  refine va_get (D := D) (ci := 5) (v := .ref ((ad 11))) (C := RX5) (T := TX5) (N := 34) hx hb hts (by decide +kernel) hown hK hP 0 rfl rfl 11 (by decide) (hts (.fieldLink RX5 28 "CaskYardModel" "from" "[I") (by decide +kernel)) (fun _ h9 => h9) rfl dX5_cut_1 ?_
  refine lv_iload_n hx hb dX5_cut_4 rfl (lv_at hl 1 rfl) ?_
  refine lv_iload_n hx hb dX5_cut_5 rfl (lv_at hl 2 rfl) ?_
  refine vp_callSi (va_Run.run (va_runS (As := [.int (nI (b)), .int (nI (i))]) (rest := [.ref ((ad 11))]) ⟨hx, hb, hml, hown, hts⟩ (c_X5_part l  (b) (i)) (va_cwS 2 hts gX5_cut_X5_part rfl rfl rfl (by decide +kernel) ⟨Nat.le_of_ble_eq_true rfl, Nat.le_of_ble_eq_true rfl⟩) ⟨nB_blind, nB_pre⟩ rfl rfl hl.1 rfl (lv_room (Nat.le_of_ble_eq_true rfl)) dX5_cut_6 ⟨Nat.le_of_ble_eq_true rfl, Nat.le_of_ble_eq_true rfl⟩)) (fun r_6 hr_6 => ?_)
  subst hr_6
  refine lv_dup2_11 hx hb dX5_cut_9 rfl rfl ?_
  refine g_iald hx hb hK hP 7 0 rfl rfl (5 * (b) + (i)) rfl (by omega) (by decide) dX5_cut_10 ?_
  refine g_top (y := (nI (x))) h11 ?_
  refine lv_iload_n hx hb dX5_cut_11 rfl (lv_at hl 3 rfl) ?_
  refine g_iadd_n hx hb dX5_cut_12 ?_
  refine g_iast hx hb hK hP hD hS 7 0 rfl rfl (5 * (b) + (i)) rfl (by omega) (by decide) dX5_cut_13 (fun H locs hP hD hS => ?_)
  rw [wMs_11] at hP hD
  obtain ⟨F1, hF1⟩ : ∃ G, G = va_up F 11 (upd (F 11) (5 * (b) + (i)) (nI (x + wd))) := ⟨_, rfl⟩
  rw [← hF1] at hP hD
  have eF1_11 : F1 11 = upd (F 11) (5 * (b) + (i)) (nI (x + wd)) := by rw [hF1]; exact va_up_self _ _ _
  exact W.vret hx hb hr (fun t ht hW => ⟨⟨(I, F1), rfl, (by rw [hF1]), by rw [ht]; exact hP, va_K.moved hW.alike hK, hD⟩, hS.F ht⟩) hS.2.2 dX5_cut_14
set_option maxHeartbeats 4000000 in
set_option maxRecDepth 100000 in
theorem c_X5_tidy (l : Launch) (D : va_G) (cy : Nat → ClassId) (sz : Nat) (h0 : Nat) (ad : Nat → Nat) (I : Nat → Int32) (F : Nat → Nat → Int32) (b : Nat) (hb40 : b < 40) (L : List (Nat × Nat)) (hL : L.length ≤ 4) (h10 : F 10 b = nI L.length) (hAr : arrP (F 11) (F 12) (5 * b) L) (hq : ∀ q ∈ L, q.1 ≤ 600 ∧ q.2 ≤ 600) : Met l yX5_tidy wsX5_tidy ({ frames := 1, cells := 0, slots := 0, locals := 21 } : Room) (va_Pc [.ref h0, .int (nI (b))] (wB D cy sz (wM cy h0 ad I F))) (va_Qv (fun (u : (Nat → Int32) × (Nat → Nat → Int32)) => ∃ g11 g12, u = (I, va_up (va_up (va_up F 11 g11) 12 g12) 10 (upd (F 10) b (nI (filP L).length))) ∧ arrP g11 g12 (5 * b) (filP L) ∧ ∀ j, j < 5 * b ∨ 5 * b + 5 ≤ j → g11 j = F 11 j ∧ g12 j = F 12 j) (fun u t => wE D cy (va_A (wM cy h0 ad I F) sz) (wM cy h0 ad u.1 u.2) t) (va_A (wM cy h0 ad I F) sz)) 0 0 (va_A (wM cy h0 ad I F) sz) := by
  refine Met.ofW (cc := cX5_tidy) (maxL := 4) (ret := none) (by decide) rfl ?_
  intro p e s m args below meth c s₁ B hml hv
  obtain ⟨rfl, hsz, hP, hK, hD0⟩ := hv
  have hx := B.exec
  have hb := B.bytes
  have hr := B.returns
  have hts := atoms_spec (ws := wsX5_tidy) B.pre
  have hown : s.vm.findClass RX5 = some m.cls := findClass_of_methodNamed B.named
  have hlocks := B.notSynchronized
  subst hsz
  have hD := hD0.self (sz := s.heap.size)
  generalize hAe : va_A (wM cy h0 ad I F) s.heap.size = A at hD ⊢
  have hA : ∀ q : Nat, s.heap.size ≤ q → A q := w_A hAe
  have hS : va_S A s.heap s.heap [] := va_S.rf
  have hl := lv_entry ([.ref h0, .int (nI (b))]) (n := 4) (Nat.le_of_ble_eq_true rfl)
  rw [lg_entry_eq]
  generalize (lg_sl ([.ref h0, .int (nI (b))]) ++ List.replicate (4 - (lg_sl ([.ref h0, .int (nI (b))])).length) Slot.unset).toArray = ls at hl ⊢
  have hl : lv_has ls 4 [(0, .ref h0), (1, .int (nI (b)))] := hl
  refine lv_iconst (v := (nI (0))) hx hb dX5_tidy_0 (by decide) ?_
  refine lv_istore_n (lv' := [(2, .int (nI (0))), (0, .ref h0), (1, .int (nI (b)))]) hx hb dX5_tidy_1 rfl hl (by decide) rfl (fun ls hl => ?_)
  refine lv_iconst (v := (nI (0))) hx hb dX5_tidy_2 (by decide) ?_
  refine lv_istore_n (lv' := [(3, .int (nI (0))), (2, .int (nI (0))), (0, .ref h0), (1, .int (nI (b)))]) hx hb dX5_tidy_3 rfl hl (by decide) rfl (fun ls hl => ?_)
  have loop_4 : ∀ (n_ : Nat) (k : Nat) (i : Nat) (g11 : Nat → Int32) (g12 : Nat → Int32) (H : Heap) (locs : List Loc), va_P D vwCl (wM cy h0 ad I (va_up (va_up F 11 g11) 12 g12)) H → va_D A (wM cy h0 ad I (va_up (va_up F 11 g11) 12 g12)) → va_S A s.heap H locs → (i ≤ L.length) → (k = (filP (L.take i)).length) → (arrP g11 g12 (5 * b) (filP (L.take i))) → (∀ j, j < 5 * b ∨ 5 * b + k ≤ j → g11 j = F 11 j ∧ g12 j = F 12 j) → L.length - i < n_ → ∀ (ls : Array Slot), lv_has ls 4 [(0, .ref h0), (1, .int (nI (b))), (2, .int (nI (k))), (3, .int (nI (i)))] → W p l e (headSpec wsX5_tidy ({ frames := 1, cells := 0, slots := 0, locals := 21 } : Room)).room s m ([.ref h0, .int (nI (b))] : List Value).toArray below meth c H locs 0 0 (MQ below (va_Qv (fun (u : (Nat → Int32) × (Nat → Nat → Int32)) => ∃ g11 g12, u = (I, va_up (va_up (va_up F 11 g11) 12 g12) 10 (upd (F 10) b (nI (filP L).length))) ∧ arrP g11 g12 (5 * b) (filP L) ∧ ∀ j, j < 5 * b ∨ 5 * b + 5 ≤ j → g11 j = F 11 j ∧ g12 j = F 12 j) (fun u t => wE D cy A (wM cy h0 ad u.1 u.2) t) A) ([.ref h0, .int (nI (b))] : List Value).toArray s 0 0 A) (F0 m 4 ls []) := by
    intro n_
    induction n_ with
    | zero => intro k i g11 g12 H locs hP hD hS hi hk hA2 hO hm_; exact absurd hm_ (Nat.not_lt_zero _)
    | succ n_ ih_4 =>
      intro k i g11 g12 H locs hP hD hS hi hk hA2 hO hm_ ls hl
      obtain ⟨F1, hF1⟩ : ∃ G, G = va_up F 11 g11 := ⟨_, rfl⟩
      rw [← hF1] at hP hD
      have eF1_11 : F1 11 = g11 := by rw [hF1]; exact va_up_self _ _ _
      obtain ⟨F2, hF2⟩ : ∃ G, G = va_up F1 12 g12 := ⟨_, rfl⟩
      rw [← hF2] at hP hD
      have eF2_12 : F2 12 = g12 := by rw [hF2]; exact va_up_self _ _ _
      have eF2_11 : F2 11 = g11 := by rw [hF2, va_up_ne _ _ (by decide)]; exact eF1_11
      refine lv_iload_n hx hb dX5_tidy_4 rfl (lv_at hl 3 rfl) ?_
      refine lv_aload_n hx hb dX5_tidy_5 rfl (lv_at hl 0 rfl) ?_
      refine va_get (D := D) (ci := 5) (v := .ref ((ad 10))) (C := RX5) (T := TX5) (N := 34) hx hb hts (by decide +kernel) hown hK hP 0 rfl rfl 10 (by decide) (hts (.fieldLink RX5 25 "CaskYardModel" "partMany" "[I") (by decide +kernel)) (fun _ h9 => h9) rfl dX5_tidy_6 ?_
      refine lv_iload_n hx hb dX5_tidy_9 rfl (lv_at hl 1 rfl) ?_
      refine g_iald hx hb hK hP 6 0 rfl rfl (b) rfl (by omega) (by decide) dX5_tidy_10 ?_
      refine g_top (y := ((F 10) (b))) (congrFun (show F2 10 = F 10 by rw [hF2, va_up_ne _ _ (by decide), hF1, va_up_ne _ _ (by decide)]) (b)) ?_
      refine g_top (y := (nI (L.length))) h10 ?_
      refine g_icmp_ge (tgt := 89) hx hb dX5_tidy_11 (by decide) (n_i (by omega)) (n_i (by omega)) (fun c_11 => ?_) (fun c_11 => ?_)
      · skip
        have hii : i = L.length := by omega
        rw [hii, List.take_length] at hk hA2
        have hk4 := filP_len L
        refine lv_aload_n hx hb dX5_tidy_89 rfl (lv_at hl 0 rfl) ?_
        refine va_get (D := D) (ci := 5) (v := .ref ((ad 10))) (C := RX5) (T := TX5) (N := 34) hx hb hts (by decide +kernel) hown hK hP 0 rfl rfl 10 (by decide) (hts (.fieldLink RX5 25 "CaskYardModel" "partMany" "[I") (by decide +kernel)) (fun _ h9 => h9) rfl dX5_tidy_90 ?_
        refine lv_iload_n hx hb dX5_tidy_93 rfl (lv_at hl 1 rfl) ?_
        refine lv_iload_n hx hb dX5_tidy_94 rfl (lv_at hl 2 rfl) ?_
        refine g_iast hx hb hK hP hD hS 6 0 rfl rfl (b) rfl (by omega) (by decide) dX5_tidy_95 (fun H locs hP hD hS => ?_)
        rw [wMs_10] at hP hD
        rw [(show F2 10 = F 10 by rw [hF2, va_up_ne _ _ (by decide), hF1, va_up_ne _ _ (by decide)])] at hP hD
        obtain ⟨F3, hF3⟩ : ∃ G, G = va_up F2 10 (upd (F 10) (b) (nI (k))) := ⟨_, rfl⟩
        rw [← hF3] at hP hD
        have eF3_10 : F3 10 = upd (F 10) (b) (nI (k)) := by rw [hF3]; exact va_up_self _ _ _
        have eF3_11 : F3 11 = g11 := by rw [hF3, va_up_ne _ _ (by decide)]; exact eF2_11
        have eF3_12 : F3 12 = g12 := by rw [hF3, va_up_ne _ _ (by decide)]; exact eF2_12
        exact W.vret hx hb hr (fun t ht hW => ⟨⟨(I, F3), rfl, ⟨g11, g12, by rw [hF3, hF2, hF1, hk], hA2, fun j hj => hO j (by omega)⟩, by rw [ht]; exact hP, va_K.moved hW.alike hK, hD⟩, hS.F ht⟩) hS.2.2 dX5_tidy_96
      · skip
        have hki : k ≤ i := by rw [hk]; exact Nat.le_trans (filP_len _) (by simp; omega)
        have hq9 := hq _ (paD_mem (L := L) (i := i) (by omega))
        refine lv_aload_n hx hb dX5_tidy_14 rfl (lv_at hl 0 rfl) ?_
        refine va_get (D := D) (ci := 5) (v := .ref ((ad 11))) (C := RX5) (T := TX5) (N := 34) hx hb hts (by decide +kernel) hown hK hP 0 rfl rfl 11 (by decide) (hts (.fieldLink RX5 28 "CaskYardModel" "from" "[I") (by decide +kernel)) (fun _ h9 => h9) rfl dX5_tidy_15 ?_
        refine lv_iload_n hx hb dX5_tidy_18 rfl (lv_at hl 1 rfl) ?_
        refine lv_iload_n hx hb dX5_tidy_19 rfl (lv_at hl 3 rfl) ?_
        refine vp_callSi (va_Run.run (va_runS (As := [.int (nI (b)), .int (nI (i))]) (rest := [.ref ((ad 11))]) ⟨hx, hb, hml, hown, hts⟩ (c_X5_part l  (b) (i)) (va_cwS 2 hts gX5_tidy_X5_part rfl rfl rfl (by decide +kernel) ⟨Nat.le_of_ble_eq_true rfl, Nat.le_of_ble_eq_true rfl⟩) ⟨nB_blind, nB_pre⟩ rfl rfl hl.1 rfl (lv_room (Nat.le_of_ble_eq_true rfl)) dX5_tidy_20 ⟨Nat.le_of_ble_eq_true rfl, Nat.le_of_ble_eq_true rfl⟩)) (fun r_20 hr_20 => ?_)
        subst hr_20
        refine g_iald hx hb hK hP 7 0 rfl rfl (5 * (b) + (i)) rfl (by omega) (by decide) dX5_tidy_23 ?_
        refine g_top (y := ((g11) (5 * (b) + (i)))) (congrFun eF2_11 (5 * (b) + (i))) ?_
        refine g_top (y := (nI ((paD L i).1))) ((hO (5 * b + i) (by omega)).1.trans (arrP_at hAr (i := i) (by omega)).1) ?_
        refine lv_aload_n hx hb dX5_tidy_24 rfl (lv_at hl 0 rfl) ?_
        refine va_get (D := D) (ci := 5) (v := .ref ((ad 12))) (C := RX5) (T := TX5) (N := 34) hx hb hts (by decide +kernel) hown hK hP 0 rfl rfl 12 (by decide) (hts (.fieldLink RX5 31 "CaskYardModel" "to" "[I") (by decide +kernel)) (fun _ h9 => h9) rfl dX5_tidy_25 ?_
        refine lv_iload_n hx hb dX5_tidy_28 rfl (lv_at hl 1 rfl) ?_
        refine lv_iload_n hx hb dX5_tidy_29 rfl (lv_at hl 3 rfl) ?_
        refine vp_callSi (va_Run.run (va_runS (As := [.int (nI (b)), .int (nI (i))]) (rest := [.ref ((ad 12)), .int (nI ((paD L i).1))]) ⟨hx, hb, hml, hown, hts⟩ (c_X5_part l  (b) (i)) (va_cwS 2 hts gX5_tidy_X5_part rfl rfl rfl (by decide +kernel) ⟨Nat.le_of_ble_eq_true rfl, Nat.le_of_ble_eq_true rfl⟩) ⟨nB_blind, nB_pre⟩ rfl rfl hl.1 rfl (lv_room (Nat.le_of_ble_eq_true rfl)) dX5_tidy_30 ⟨Nat.le_of_ble_eq_true rfl, Nat.le_of_ble_eq_true rfl⟩)) (fun r_30 hr_30 => ?_)
        subst hr_30
        refine g_iald hx hb hK hP 8 0 rfl rfl (5 * (b) + (i)) rfl (by omega) (by decide) dX5_tidy_33 ?_
        refine g_top (y := ((g12) (5 * (b) + (i)))) (congrFun eF2_12 (5 * (b) + (i))) ?_
        refine g_top (y := (nI ((paD L i).2))) ((hO (5 * b + i) (by omega)).2.trans (arrP_at hAr (i := i) (by omega)).2) ?_
        refine g_icmp_ne (tgt := 40) hx hb dX5_tidy_34 (by decide) (n_i (by omega)) (n_i (by omega)) (fun c_34 => ?_) (fun c_34 => ?_)
        · skip
          refine lv_aload_n hx hb dX5_tidy_40 rfl (lv_at hl 0 rfl) ?_
          refine va_get (D := D) (ci := 5) (v := .ref ((ad 11))) (C := RX5) (T := TX5) (N := 34) hx hb hts (by decide +kernel) hown hK hP 0 rfl rfl 11 (by decide) (hts (.fieldLink RX5 28 "CaskYardModel" "from" "[I") (by decide +kernel)) (fun _ h9 => h9) rfl dX5_tidy_41 ?_
          refine lv_iload_n hx hb dX5_tidy_44 rfl (lv_at hl 1 rfl) ?_
          refine lv_iload_n hx hb dX5_tidy_45 rfl (lv_at hl 2 rfl) ?_
          refine vp_callSi (va_Run.run (va_runS (As := [.int (nI (b)), .int (nI (k))]) (rest := [.ref ((ad 11))]) ⟨hx, hb, hml, hown, hts⟩ (c_X5_part l  (b) (k)) (va_cwS 2 hts gX5_tidy_X5_part rfl rfl rfl (by decide +kernel) ⟨Nat.le_of_ble_eq_true rfl, Nat.le_of_ble_eq_true rfl⟩) ⟨nB_blind, nB_pre⟩ rfl rfl hl.1 rfl (lv_room (Nat.le_of_ble_eq_true rfl)) dX5_tidy_46 ⟨Nat.le_of_ble_eq_true rfl, Nat.le_of_ble_eq_true rfl⟩)) (fun r_46 hr_46 => ?_)
          subst hr_46
          refine lv_aload_n hx hb dX5_tidy_49 rfl (lv_at hl 0 rfl) ?_
          refine va_get (D := D) (ci := 5) (v := .ref ((ad 11))) (C := RX5) (T := TX5) (N := 34) hx hb hts (by decide +kernel) hown hK hP 0 rfl rfl 11 (by decide) (hts (.fieldLink RX5 28 "CaskYardModel" "from" "[I") (by decide +kernel)) (fun _ h9 => h9) rfl dX5_tidy_50 ?_
          refine lv_iload_n hx hb dX5_tidy_53 rfl (lv_at hl 1 rfl) ?_
          refine lv_iload_n hx hb dX5_tidy_54 rfl (lv_at hl 3 rfl) ?_
          refine vp_callSi (va_Run.run (va_runS (As := [.int (nI (b)), .int (nI (i))]) (rest := [.ref ((ad 11)), .int (nI (5 * (b) + (k))), .ref ((ad 11))]) ⟨hx, hb, hml, hown, hts⟩ (c_X5_part l  (b) (i)) (va_cwS 2 hts gX5_tidy_X5_part rfl rfl rfl (by decide +kernel) ⟨Nat.le_of_ble_eq_true rfl, Nat.le_of_ble_eq_true rfl⟩) ⟨nB_blind, nB_pre⟩ rfl rfl hl.1 rfl (lv_room (Nat.le_of_ble_eq_true rfl)) dX5_tidy_55 ⟨Nat.le_of_ble_eq_true rfl, Nat.le_of_ble_eq_true rfl⟩)) (fun r_55 hr_55 => ?_)
          subst hr_55
          refine g_iald hx hb hK hP 7 0 rfl rfl (5 * (b) + (i)) rfl (by omega) (by decide) dX5_tidy_58 ?_
          refine g_top (y := ((g11) (5 * (b) + (i)))) (congrFun eF2_11 (5 * (b) + (i))) ?_
          refine g_top (y := (nI ((paD L i).1))) ((hO (5 * b + i) (by omega)).1.trans (arrP_at hAr (i := i) (by omega)).1) ?_
          refine g_iast hx hb hK hP hD hS 7 0 rfl rfl (5 * (b) + (k)) rfl (by omega) (by decide) dX5_tidy_59 (fun H locs hP hD hS => ?_)
          rw [wMs_11] at hP hD
          rw [eF2_11] at hP hD
          obtain ⟨F4, hF4⟩ : ∃ G, G = va_up F2 11 (upd (g11) (5 * (b) + (k)) (nI ((paD L i).1))) := ⟨_, rfl⟩
          rw [← hF4] at hP hD
          have eF4_11 : F4 11 = upd (g11) (5 * (b) + (k)) (nI ((paD L i).1)) := by rw [hF4]; exact va_up_self _ _ _
          have eF4_12 : F4 12 = g12 := by rw [hF4, va_up_ne _ _ (by decide)]; exact eF2_12
          refine lv_aload_n hx hb dX5_tidy_60 rfl (lv_at hl 0 rfl) ?_
          refine va_get (D := D) (ci := 5) (v := .ref ((ad 12))) (C := RX5) (T := TX5) (N := 34) hx hb hts (by decide +kernel) hown hK hP 0 rfl rfl 12 (by decide) (hts (.fieldLink RX5 31 "CaskYardModel" "to" "[I") (by decide +kernel)) (fun _ h9 => h9) rfl dX5_tidy_61 ?_
          refine lv_iload_n hx hb dX5_tidy_64 rfl (lv_at hl 1 rfl) ?_
          refine lv_iload_n hx hb dX5_tidy_65 rfl (lv_at hl 2 rfl) ?_
          refine vp_callSi (va_Run.run (va_runS (As := [.int (nI (b)), .int (nI (k))]) (rest := [.ref ((ad 12))]) ⟨hx, hb, hml, hown, hts⟩ (c_X5_part l  (b) (k)) (va_cwS 2 hts gX5_tidy_X5_part rfl rfl rfl (by decide +kernel) ⟨Nat.le_of_ble_eq_true rfl, Nat.le_of_ble_eq_true rfl⟩) ⟨nB_blind, nB_pre⟩ rfl rfl hl.1 rfl (lv_room (Nat.le_of_ble_eq_true rfl)) dX5_tidy_66 ⟨Nat.le_of_ble_eq_true rfl, Nat.le_of_ble_eq_true rfl⟩)) (fun r_66 hr_66 => ?_)
          subst hr_66
          refine lv_aload_n hx hb dX5_tidy_69 rfl (lv_at hl 0 rfl) ?_
          refine va_get (D := D) (ci := 5) (v := .ref ((ad 12))) (C := RX5) (T := TX5) (N := 34) hx hb hts (by decide +kernel) hown hK hP 0 rfl rfl 12 (by decide) (hts (.fieldLink RX5 31 "CaskYardModel" "to" "[I") (by decide +kernel)) (fun _ h9 => h9) rfl dX5_tidy_70 ?_
          refine lv_iload_n hx hb dX5_tidy_73 rfl (lv_at hl 1 rfl) ?_
          refine lv_iload_n hx hb dX5_tidy_74 rfl (lv_at hl 3 rfl) ?_
          refine vp_callSi (va_Run.run (va_runS (As := [.int (nI (b)), .int (nI (i))]) (rest := [.ref ((ad 12)), .int (nI (5 * (b) + (k))), .ref ((ad 12))]) ⟨hx, hb, hml, hown, hts⟩ (c_X5_part l  (b) (i)) (va_cwS 2 hts gX5_tidy_X5_part rfl rfl rfl (by decide +kernel) ⟨Nat.le_of_ble_eq_true rfl, Nat.le_of_ble_eq_true rfl⟩) ⟨nB_blind, nB_pre⟩ rfl rfl hl.1 rfl (lv_room (Nat.le_of_ble_eq_true rfl)) dX5_tidy_75 ⟨Nat.le_of_ble_eq_true rfl, Nat.le_of_ble_eq_true rfl⟩)) (fun r_75 hr_75 => ?_)
          subst hr_75
          refine g_iald hx hb hK hP 8 0 rfl rfl (5 * (b) + (i)) rfl (by omega) (by decide) dX5_tidy_78 ?_
          refine g_top (y := ((g12) (5 * (b) + (i)))) (congrFun eF4_12 (5 * (b) + (i))) ?_
          refine g_top (y := (nI ((paD L i).2))) ((hO (5 * b + i) (by omega)).2.trans (arrP_at hAr (i := i) (by omega)).2) ?_
          refine g_iast hx hb hK hP hD hS 8 0 rfl rfl (5 * (b) + (k)) rfl (by omega) (by decide) dX5_tidy_79 (fun H locs hP hD hS => ?_)
          rw [wMs_12] at hP hD
          rw [eF4_12] at hP hD
          obtain ⟨F5, hF5⟩ : ∃ G, G = va_up F4 12 (upd (g12) (5 * (b) + (k)) (nI ((paD L i).2))) := ⟨_, rfl⟩
          rw [← hF5] at hP hD
          have eF5_12 : F5 12 = upd (g12) (5 * (b) + (k)) (nI ((paD L i).2)) := by rw [hF5]; exact va_up_self _ _ _
          have eF5_11 : F5 11 = upd (g11) (5 * (b) + (k)) (nI ((paD L i).1)) := by rw [hF5, va_up_ne _ _ (by decide)]; exact eF4_11
          refine lv_iinc (v := (nI (k + 1))) (lv' := [(2, .int (nI (k + 1))), (0, .ref h0), (1, .int (nI (b))), (3, .int (nI (i)))]) hx hb dX5_tidy_80 hl (k := 2) rfl (nI_add _ _) (by decide) rfl (fun ls hl => ?_)
          refine lv_iinc (v := (nI (i + 1))) (lv' := [(3, .int (nI (i + 1))), (2, .int (nI (k + 1))), (0, .ref h0), (1, .int (nI (b)))]) hx hb dX5_tidy_83 hl (k := 3) rfl (nI_add _ _) (by decide) rfl (fun ls hl => ?_)
          refine lv_goto (tgt := 4) hx hb dX5_tidy_86 (by decide) ?_
          have hFe : F5 = (va_up (va_up F 11 (upd (g11) (5 * (b) + (k)) (nI ((paD L i).1)))) 12 (upd (g12) (5 * (b) + (k)) (nI ((paD L i).2)))) := fe2 eF5_11 eF5_12 (fun j_ a0_ a1_ => by rw [hF5, va_up_ne _ _ (by assumption), hF4, va_up_ne _ _ (by assumption), hF2, va_up_ne _ _ (by assumption), hF1, va_up_ne _ _ (by assumption)]) (by decide)
          rw [hFe] at hP hD
          exact ih_4 (k + 1) (i + 1) (upd (g11) (5 * (b) + (k)) (nI ((paD L i).1))) (upd (g12) (5 * (b) + (k)) (nI ((paD L i).2))) H locs hP hD hS (by omega) (by rw [filP_keep (by omega) (by omega), List.length_append, ← hk]; rfl) (by rw [filP_keep (by omega) (by omega)]; exact arrP_push hA2 (by omega)) (fun j hj => by rw [upd_n (by omega), upd_n (by omega)]; exact hO j (by omega)) (by omega) ls (lv_sub hl [2, 3, 1, 0] rfl)
        · skip
          refine lv_goto (tgt := 83) hx hb dX5_tidy_37 (by decide) ?_
          refine lv_iinc (v := (nI (i + 1))) (lv' := [(3, .int (nI (i + 1))), (0, .ref h0), (1, .int (nI (b))), (2, .int (nI (k)))]) hx hb dX5_tidy_83 hl (k := 3) rfl (nI_add _ _) (by decide) rfl (fun ls hl => ?_)
          refine lv_goto (tgt := 4) hx hb dX5_tidy_86 (by decide) ?_
          have hFe : F2 = (va_up (va_up F 11 (g11)) 12 (g12)) := fe2 eF2_11 eF2_12 (fun j_ a0_ a1_ => by rw [hF2, va_up_ne _ _ (by assumption), hF1, va_up_ne _ _ (by assumption)]) (by decide)
          rw [hFe] at hP hD
          exact ih_4 (k) (i + 1) (g11) (g12) H locs hP hD hS (by omega) (by rw [filP_skip (by omega) (by omega)]; exact hk) (by rw [filP_skip (by omega) (by omega)]; exact hA2) hO (by omega) ls (lv_sub hl [1, 2, 3, 0] rfl)
  have hFe : F = (va_up (va_up F 11 (F 11)) 12 (F 12)) := fe2 rfl rfl (fun j_ a0_ a1_ => rfl) (by decide)
  rw [hFe] at hP hD
  exact loop_4 _ (0) (0) (F 11) (F 12) s.heap [] hP hD hS (by omega) rfl (arrP_nil _ _ _) (fun j _ => ⟨rfl, rfl⟩) (Nat.lt_succ_self _) ls (lv_sub hl [2, 3, 1, 0] rfl)
set_option maxHeartbeats 4000000 in
set_option maxRecDepth 100000 in
theorem c_X5_flaw (l : Launch) (D : va_G) (cy : Nat → ClassId) (sz : Nat) (h0 : Nat) (ad : Nat → Nat) (I : Nat → Int32) (F : Nat → Nat → Int32) (Y : YT) (hM : MR I F Y) (hY : WF Y) (a b v : Int32) : Met l yX5_flaw wsX5_flaw ({ frames := 1, cells := 0, slots := 0, locals := 40 } : Room) (va_Pc [.ref h0, .int (a), .int (b), .int (v)] (wB D cy sz (wM cy h0 ad I F))) (va_Qi (fun (r : Int32) (u : (Nat → Int32) × (Nat → Nat → Int32)) => MP r u (sp_flaw Y a b v)) (fun u t => wE D cy (va_A (wM cy h0 ad I F) sz) (wM cy h0 ad u.1 u.2) t) (va_A (wM cy h0 ad I F) sz)) 0 0 (va_A (wM cy h0 ad I F) sz) := by
  refine Met.ofW (cc := cX5_flaw) (maxL := 8) (ret := (some .int)) (by decide) rfl ?_
  intro p e s m args below meth c s₁ B hml hv
  obtain ⟨rfl, hsz, hP, hK, hD0⟩ := hv
  have hx := B.exec
  have hb := B.bytes
  have hr := B.returns
  have hts := atoms_spec (ws := wsX5_flaw) B.pre
  have hown : s.vm.findClass RX5 = some m.cls := findClass_of_methodNamed B.named
  have hlocks := B.notSynchronized
  subst hsz
  have hD := hD0.self (sz := s.heap.size)
  generalize hAe : va_A (wM cy h0 ad I F) s.heap.size = A at hD ⊢
  have hA : ∀ q : Nat, s.heap.size ≤ q → A q := w_A hAe
  have hS : va_S A s.heap s.heap [] := va_S.rf
  have hl := lv_entry ([.ref h0, .int (a), .int (b), .int (v)]) (n := 8) (Nat.le_of_ble_eq_true rfl)
  rw [lg_entry_eq]
  generalize (lg_sl ([.ref h0, .int (a), .int (b), .int (v)]) ++ List.replicate (8 - (lg_sl ([.ref h0, .int (a), .int (b), .int (v)])).length) Slot.unset).toArray = ls at hl ⊢
  have hl : lv_has ls 8 [(0, .ref h0), (1, .int (a)), (2, .int (b)), (3, .int (v))] := hl
  obtain ⟨hm1, hm2, hm3, hm4, hmF, hmB, hmC, hmR, hmW⟩ := id hM
  obtain ⟨hy0, hyF, hyB, hyC, hyf, hyb, hyc, hyr, hyw⟩ := id hY
  have hxa := ix_m a
  have hxb := ix_m b
  have hxv := ix_m v
  refine lv_aload_n hx hb dX5_flaw_0 rfl (lv_at hl 0 rfl) ?_
  refine lv_iconst (v := (nI (0))) hx hb dX5_flaw_1 (by decide) ?_
  refine va_put (D := D) (ci := 5) (v := .int (nI (0))) (ty := .int) (C := RX5) (T := TX5) (N := 34) hx hb hts (by decide +kernel) tyX5 tyX5_ok nmX5 hown hK hP hD hS 0 rfl rfl 0 (by decide) (hts (.fieldLink RX5 83 "CaskYardModel" "code" "I") (by decide +kernel)) (fun _ h9 => h9) rfl (by decide +kernel) rfl rfl (Nat.le_of_ble_eq_true rfl) dX5_flaw_2 (fun H locs hP hD hS => ?_)
  have hP : va_P D vwCl (wM cy h0 ad (va_up I 0 (nI (0))) F) H := hP
  have hD : va_D A (wM cy h0 ad (va_up I 0 (nI (0))) F) := hD
  refine lv_aload_n hx hb dX5_flaw_5 rfl (lv_at hl 0 rfl) ?_
  refine lv_iload_n hx hb dX5_flaw_6 rfl (lv_at hl 1 rfl) ?_
  refine vp_callSi (va_Run.run (va_runV (As := [.int (a)]) (rest := []) ⟨hx, hb, hml, hown, hts⟩ (c_X5_isBolt l D cy h0 ad (va_up I 0 (nI (0))) F (a) (yB Y) (hm2) (by omega)) (cwV 1 hts gX5_flaw_X5_isBolt rfl rfl rfl (by decide +kernel) ⟨Nat.le_of_ble_eq_true rfl, Nat.le_of_ble_eq_true rfl⟩) ⟨rB_blind, va_recv hK hP (ci := 5) (q0 := 0) rfl rfl, (rB_pre hP hK)⟩ rfl rfl hl.1 rfl (lv_room (Nat.le_of_ble_eq_true rfl)) dX5_flaw_7 ⟨Nat.le_of_ble_eq_true rfl, Nat.le_of_ble_eq_true rfl⟩)) (fun r_7 hr_7 => ?_)
  subst hr_7
  refine g_ifne_b (tgt := 19) hx hb dX5_flaw_10 (by decide) (fun c_10 => ?_) (fun c_10 => ?_)
  · skip
    have h_a := ix_n (a := a) (by omega)
    have hib : ix a < yB Y := by omega
    have hpl := (hyb (ix a) hib).2.1
    have hpq := (hyb (ix a) hib).2.2
    have hl : lv_has ls 8 [(0, .ref h0), (1, .int (nI (ix a))), (2, .int (b)), (3, .int (v))] := by rw [← h_a]; exact hl
    refine lv_iload_n hx hb dX5_flaw_19 rfl (lv_at hl 2 rfl) ?_
    refine g_if_lt (tgt := 35) hx hb dX5_flaw_20 (by decide) rfl (fun c_20 => ?_) (fun c_20 => ?_)
    · skip
      refine lv_iconst (v := (zI ((-1)))) hx hb dX5_flaw_35 (by decide) ?_
      exact W.iret (v := (zI ((-1)))) hx hb hr (fun t ht hW => ⟨⟨_, ((va_up I 0 (nI (0))), F), rfl, by rw [sp_flaw, if_pos (by omega), if_neg (by omega)]; exact ⟨rfl, fun _ => rfl, hM⟩, by rw [ht]; exact hP, va_K.moved hW.alike hK, hD⟩, hS.F ht⟩) hS.2.2 dX5_flaw_36
    · skip
      have h_b := ix_n (a := b) (by omega)
      have hi9 := i_hi b
      have hl : lv_has ls 8 [(0, .ref h0), (1, .int (nI (ix a))), (2, .int (nI (ix b))), (3, .int (v))] := by rw [← h_b]; exact hl
      refine lv_iload_n hx hb dX5_flaw_23 rfl (lv_at hl 3 rfl) ?_
      refine lv_iload_n hx hb dX5_flaw_24 rfl (lv_at hl 2 rfl) ?_
      refine g_icmp_le (tgt := 35) hx hb dX5_flaw_25 (by decide) rfl (n_i (by omega)) (fun c_25 => ?_) (fun c_25 => ?_)
      · skip
        refine lv_iconst (v := (zI ((-1)))) hx hb dX5_flaw_35 (by decide) ?_
        exact W.iret (v := (zI ((-1)))) hx hb hr (fun t ht hW => ⟨⟨_, ((va_up I 0 (nI (0))), F), rfl, by rw [sp_flaw, if_pos (by omega), if_neg (by omega)]; exact ⟨rfl, fun _ => rfl, hM⟩, by rw [ht]; exact hP, va_K.moved hW.alike hK, hD⟩, hS.F ht⟩) hS.2.2 dX5_flaw_36
      · skip
        refine lv_iload_n hx hb dX5_flaw_28 rfl (lv_at hl 3 rfl) ?_
        refine lv_sipush (v := (nI (600))) hx hb dX5_flaw_29 (by decide) ?_
        refine g_icmp_le (tgt := 37) hx hb dX5_flaw_32 (by decide) rfl (n_i (by omega)) (fun c_32 => ?_) (fun c_32 => ?_)
        · skip
          have h_v := ix_n (a := v) (by omega)
          have hl : lv_has ls 8 [(0, .ref h0), (1, .int (nI (ix a))), (2, .int (nI (ix b))), (3, .int (nI (ix v)))] := by rw [← h_v]; exact hl
          refine lv_iconst (v := (nI (0))) hx hb dX5_flaw_37 (by decide) ?_
          refine lv_istore (lv' := [(4, .int (nI (0))), (0, .ref h0), (1, .int (nI (ix a))), (2, .int (nI (ix b))), (3, .int (nI (ix v)))]) hx hb dX5_flaw_38 hl (by decide) rfl (fun ls hl => ?_)
          refine lv_iconst (v := (nI (0))) hx hb dX5_flaw_40 (by decide) ?_
          refine lv_istore (lv' := [(5, .int (nI (0))), (4, .int (nI (0))), (0, .ref h0), (1, .int (nI (ix a))), (2, .int (nI (ix b))), (3, .int (nI (ix v)))]) hx hb dX5_flaw_41 hl (by decide) rfl (fun ls hl => ?_)
          have loop_43 : ∀ (n_ : Nat) (n : Nat) (i : Nat) (g30 : Nat → Int32) (g31 : Nat → Int32) (H : Heap) (locs : List Loc), va_P D vwCl (wM cy h0 ad (va_up I 0 (nI (0))) (va_up (va_up F 30 g30) 31 g31)) H → va_D A (wM cy h0 ad (va_up I 0 (nI (0))) (va_up (va_up F 30 g30) 31 g31)) → va_S A s.heap H locs → (i ≤ (yP Y (ix a)).length) → (n = (cutL (ix b) (ix v) ((yP Y (ix a)).take i)).length) → (arrP g30 g31 0 (cutL (ix b) (ix v) ((yP Y (ix a)).take i))) → (yP Y (ix a)).length - i < n_ → ∀ (ls : Array Slot), lv_has ls 8 [(0, .ref h0), (1, .int (nI (ix a))), (2, .int (nI (ix b))), (3, .int (nI (ix v))), (4, .int (nI (n))), (5, .int (nI (i)))] → W p l e (headSpec wsX5_flaw ({ frames := 1, cells := 0, slots := 0, locals := 40 } : Room)).room s m ([.ref h0, .int (a), .int (b), .int (v)] : List Value).toArray below meth c H locs 0 0 (MQ below (va_Qi (fun (r : Int32) (u : (Nat → Int32) × (Nat → Nat → Int32)) => MP r u (sp_flaw Y a b v)) (fun u t => wE D cy A (wM cy h0 ad u.1 u.2) t) A) ([.ref h0, .int (a), .int (b), .int (v)] : List Value).toArray s 0 0 A) (F0 m 43 ls []) := by
            intro n_
            induction n_ with
            | zero => intro n i g30 g31 H locs hP hD hS hi hn hA2 hm_; exact absurd hm_ (Nat.not_lt_zero _)
            | succ n_ ih_43 =>
              intro n i g30 g31 H locs hP hD hS hi hn hA2 hm_ ls hl
              obtain ⟨F1, hF1⟩ : ∃ G, G = va_up F 30 g30 := ⟨_, rfl⟩
              rw [← hF1] at hP hD
              have eF1_30 : F1 30 = g30 := by rw [hF1]; exact va_up_self _ _ _
              obtain ⟨F2, hF2⟩ : ∃ G, G = va_up F1 31 g31 := ⟨_, rfl⟩
              rw [← hF2] at hP hD
              have eF2_31 : F2 31 = g31 := by rw [hF2]; exact va_up_self _ _ _
              have eF2_30 : F2 30 = g30 := by rw [hF2, va_up_ne _ _ (by decide)]; exact eF1_30
              refine lv_iload hx hb dX5_flaw_43 (lv_at hl 5 rfl) ?_
              refine lv_aload_n hx hb dX5_flaw_45 rfl (lv_at hl 0 rfl) ?_
              refine va_get (D := D) (ci := 5) (v := .ref ((ad 10))) (C := RX5) (T := TX5) (N := 34) hx hb hts (by decide +kernel) hown hK hP 0 rfl rfl 10 (by decide) (hts (.fieldLink RX5 25 "CaskYardModel" "partMany" "[I") (by decide +kernel)) (fun _ h9 => h9) rfl dX5_flaw_46 ?_
              refine lv_iload_n hx hb dX5_flaw_49 rfl (lv_at hl 1 rfl) ?_
              refine g_iald hx hb hK hP 6 0 rfl rfl (ix a) rfl (by omega) (by decide) dX5_flaw_50 ?_
              refine g_top (y := ((F 10) (ix a))) (congrFun (show F2 10 = F 10 by rw [hF2, va_up_ne _ _ (by decide), hF1, va_up_ne _ _ (by decide)]) (ix a)) ?_
              refine g_top (y := (nI ((yP Y (ix a)).length))) (hmB (ix a) (by omega)).2.1 ?_
              refine g_icmp_ge (tgt := 158) hx hb dX5_flaw_51 (by decide) (n_i (by omega)) (n_i (by omega)) (fun c_51 => ?_) (fun c_51 => ?_)
              · skip
                have hii : i = (yP Y (ix a)).length := by omega
                rw [hii, List.take_length] at hn hA2
                have hn2 := cutL_len (ix b) (ix v) (yP Y (ix a)) (yP Y (ix a)).length (Nat.le_refl _)
                rw [List.take_length] at hn2
                refine lv_iload hx hb dX5_flaw_158 (lv_at hl 4 rfl) ?_
                refine lv_iconst (v := (nI (4))) hx hb dX5_flaw_160 (by decide) ?_
                refine g_icmp_le (tgt := 166) hx hb dX5_flaw_161 (by decide) (n_i (by omega)) (n_i (by omega)) (fun c_161 => ?_) (fun c_161 => ?_)
                · skip
                  refine lv_iconst (v := (nI (0))) hx hb dX5_flaw_166 (by decide) ?_
                  refine lv_istore (lv' := [(5, .int (nI (0))), (0, .ref h0), (1, .int (nI (ix a))), (2, .int (nI (ix b))), (3, .int (nI (ix v))), (4, .int (nI (n)))]) hx hb dX5_flaw_167 hl (by decide) rfl (fun ls hl => ?_)
                  have loop_169 : ∀ (n_ : Nat) (i : Nat) (g11 : Nat → Int32) (g12 : Nat → Int32) (H : Heap) (locs : List Loc), va_P D vwCl (wM cy h0 ad (va_up I 0 (nI (0))) (va_up (va_up F2 11 g11) 12 g12)) H → va_D A (wM cy h0 ad (va_up I 0 (nI (0))) (va_up (va_up F2 11 g11) 12 g12)) → va_S A s.heap H locs → (i ≤ n) → (∀ j, g11 j = if 5 * ix a ≤ j ∧ j < 5 * ix a + i then g30 (j - 5 * ix a) else F 11 j) → (∀ j, g12 j = if 5 * ix a ≤ j ∧ j < 5 * ix a + i then g31 (j - 5 * ix a) else F 12 j) → n - i < n_ → ∀ (ls : Array Slot), lv_has ls 8 [(0, .ref h0), (1, .int (nI (ix a))), (2, .int (nI (ix b))), (3, .int (nI (ix v))), (4, .int (nI (n))), (5, .int (nI (i)))] → W p l e (headSpec wsX5_flaw ({ frames := 1, cells := 0, slots := 0, locals := 40 } : Room)).room s m ([.ref h0, .int (a), .int (b), .int (v)] : List Value).toArray below meth c H locs 0 0 (MQ below (va_Qi (fun (r : Int32) (u : (Nat → Int32) × (Nat → Nat → Int32)) => MP r u (sp_flaw Y a b v)) (fun u t => wE D cy A (wM cy h0 ad u.1 u.2) t) A) ([.ref h0, .int (a), .int (b), .int (v)] : List Value).toArray s 0 0 A) (F0 m 169 ls []) := by
                    intro n_
                    induction n_ with
                    | zero => intro i g11 g12 H locs hP hD hS hi2 hg1 hg2 hm_; exact absurd hm_ (Nat.not_lt_zero _)
                    | succ n_ ih_169 =>
                      intro i g11 g12 H locs hP hD hS hi2 hg1 hg2 hm_ ls hl
                      obtain ⟨F3, hF3⟩ : ∃ G, G = va_up F2 11 g11 := ⟨_, rfl⟩
                      rw [← hF3] at hP hD
                      have eF3_11 : F3 11 = g11 := by rw [hF3]; exact va_up_self _ _ _
                      have eF3_30 : F3 30 = g30 := by rw [hF3, va_up_ne _ _ (by decide)]; exact eF2_30
                      have eF3_31 : F3 31 = g31 := by rw [hF3, va_up_ne _ _ (by decide)]; exact eF2_31
                      obtain ⟨F4, hF4⟩ : ∃ G, G = va_up F3 12 g12 := ⟨_, rfl⟩
                      rw [← hF4] at hP hD
                      have eF4_12 : F4 12 = g12 := by rw [hF4]; exact va_up_self _ _ _
                      have eF4_30 : F4 30 = g30 := by rw [hF4, va_up_ne _ _ (by decide)]; exact eF3_30
                      have eF4_31 : F4 31 = g31 := by rw [hF4, va_up_ne _ _ (by decide)]; exact eF3_31
                      have eF4_11 : F4 11 = g11 := by rw [hF4, va_up_ne _ _ (by decide)]; exact eF3_11
                      refine lv_iload hx hb dX5_flaw_169 (lv_at hl 5 rfl) ?_
                      refine lv_iload hx hb dX5_flaw_171 (lv_at hl 4 rfl) ?_
                      refine g_icmp_ge (tgt := 218) hx hb dX5_flaw_173 (by decide) (n_i (by omega)) (n_i (by omega)) (fun c_173 => ?_) (fun c_173 => ?_)
                      · skip
                        have hin : n = i := by omega
                        subst hin
                        refine lv_aload_n hx hb dX5_flaw_218 rfl (lv_at hl 0 rfl) ?_
                        refine va_get (D := D) (ci := 5) (v := .ref ((ad 10))) (C := RX5) (T := TX5) (N := 34) hx hb hts (by decide +kernel) hown hK hP 0 rfl rfl 10 (by decide) (hts (.fieldLink RX5 25 "CaskYardModel" "partMany" "[I") (by decide +kernel)) (fun _ h9 => h9) rfl dX5_flaw_219 ?_
                        refine lv_iload_n hx hb dX5_flaw_222 rfl (lv_at hl 1 rfl) ?_
                        refine lv_iload hx hb dX5_flaw_223 (lv_at hl 4 rfl) ?_
                        refine g_iast hx hb hK hP hD hS 6 0 rfl rfl (ix a) rfl (by omega) (by decide) dX5_flaw_225 (fun H locs hP hD hS => ?_)
                        rw [wMs_10] at hP hD
                        rw [(show F4 10 = F 10 by rw [hF4, va_up_ne _ _ (by decide), hF3, va_up_ne _ _ (by decide), hF2, va_up_ne _ _ (by decide), hF1, va_up_ne _ _ (by decide)])] at hP hD
                        obtain ⟨F5, hF5⟩ : ∃ G, G = va_up F4 10 (upd (F 10) (ix a) (nI (n))) := ⟨_, rfl⟩
                        rw [← hF5] at hP hD
                        have eF5_10 : F5 10 = upd (F 10) (ix a) (nI (n)) := by rw [hF5]; exact va_up_self _ _ _
                        have eF5_30 : F5 30 = g30 := by rw [hF5, va_up_ne _ _ (by decide)]; exact eF4_30
                        have eF5_31 : F5 31 = g31 := by rw [hF5, va_up_ne _ _ (by decide)]; exact eF4_31
                        have eF5_11 : F5 11 = g11 := by rw [hF5, va_up_ne _ _ (by decide)]; exact eF4_11
                        have eF5_12 : F5 12 = g12 := by rw [hF5, va_up_ne _ _ (by decide)]; exact eF4_12
                        refine lv_iload hx hb dX5_flaw_226 (lv_at hl 4 rfl) ?_
                        exact W.iret (v := (nI (n))) hx hb hr (fun t ht hW => ⟨⟨_, ((va_up I 0 (nI (0))), F5), rfl, (fl_end (by omega) (by omega) (by omega) hn hM hY hib hA2 hg1 hg2 (show F5 10 = upd (F 10) (ix a) (nI n) from eF5_10) eF5_11 eF5_12 (fun k_ h1_ h2_ h3_ h4_ h5_ => by rw [hF5, va_up_ne _ _ (by omega), hF4, va_up_ne _ _ (by omega), hF3, va_up_ne _ _ (by omega), hF2, va_up_ne _ _ (by omega), hF1, va_up_ne _ _ (by omega)])), by rw [ht]; exact hP, va_K.moved hW.alike hK, hD⟩, hS.F ht⟩) hS.2.2 dX5_flaw_228
                      · skip
                        refine lv_aload_n hx hb dX5_flaw_176 rfl (lv_at hl 0 rfl) ?_
                        refine va_get (D := D) (ci := 5) (v := .ref ((ad 11))) (C := RX5) (T := TX5) (N := 34) hx hb hts (by decide +kernel) hown hK hP 0 rfl rfl 11 (by decide) (hts (.fieldLink RX5 28 "CaskYardModel" "from" "[I") (by decide +kernel)) (fun _ h9 => h9) rfl dX5_flaw_177 ?_
                        refine lv_iload_n hx hb dX5_flaw_180 rfl (lv_at hl 1 rfl) ?_
                        refine lv_iload hx hb dX5_flaw_181 (lv_at hl 5 rfl) ?_
                        refine vp_callSi (va_Run.run (va_runS (As := [.int (nI (ix a)), .int (nI (i))]) (rest := [.ref ((ad 11))]) ⟨hx, hb, hml, hown, hts⟩ (c_X5_part l  (ix a) (i)) (va_cwS 2 hts gX5_flaw_X5_part rfl rfl rfl (by decide +kernel) ⟨Nat.le_of_ble_eq_true rfl, Nat.le_of_ble_eq_true rfl⟩) ⟨nB_blind, nB_pre⟩ rfl rfl hl.1 rfl (lv_room (Nat.le_of_ble_eq_true rfl)) dX5_flaw_183 ⟨Nat.le_of_ble_eq_true rfl, Nat.le_of_ble_eq_true rfl⟩)) (fun r_183 hr_183 => ?_)
                        subst hr_183
                        refine lv_aload_n hx hb dX5_flaw_186 rfl (lv_at hl 0 rfl) ?_
                        refine va_get (D := D) (ci := 5) (v := .ref ((ad 30))) (C := RX5) (T := TX5) (N := 34) hx hb hts (by decide +kernel) hown hK hP 0 rfl rfl 30 (by decide) (hts (.fieldLink RX5 71 "CaskYardModel" "newFrom" "[I") (by decide +kernel)) (fun _ h9 => h9) rfl dX5_flaw_187 ?_
                        refine lv_iload hx hb dX5_flaw_190 (lv_at hl 5 rfl) ?_
                        refine g_iald hx hb hK hP 21 0 rfl rfl (i) rfl (by omega) (by decide) dX5_flaw_192 ?_
                        refine g_top (y := ((g30) (i))) (congrFun eF4_30 (i)) ?_
                        refine g_iast hx hb hK hP hD hS 7 0 rfl rfl (5 * (ix a) + (i)) rfl (by omega) (by decide) dX5_flaw_193 (fun H locs hP hD hS => ?_)
                        rw [wMs_11] at hP hD
                        rw [eF4_11] at hP hD
                        obtain ⟨F6, hF6⟩ : ∃ G, G = va_up F4 11 (upd (g11) (5 * (ix a) + (i)) ((g30) (i))) := ⟨_, rfl⟩
                        rw [← hF6] at hP hD
                        have eF6_11 : F6 11 = upd (g11) (5 * (ix a) + (i)) ((g30) (i)) := by rw [hF6]; exact va_up_self _ _ _
                        have eF6_30 : F6 30 = g30 := by rw [hF6, va_up_ne _ _ (by decide)]; exact eF4_30
                        have eF6_31 : F6 31 = g31 := by rw [hF6, va_up_ne _ _ (by decide)]; exact eF4_31
                        have eF6_12 : F6 12 = g12 := by rw [hF6, va_up_ne _ _ (by decide)]; exact eF4_12
                        refine lv_aload_n hx hb dX5_flaw_194 rfl (lv_at hl 0 rfl) ?_
                        refine va_get (D := D) (ci := 5) (v := .ref ((ad 12))) (C := RX5) (T := TX5) (N := 34) hx hb hts (by decide +kernel) hown hK hP 0 rfl rfl 12 (by decide) (hts (.fieldLink RX5 31 "CaskYardModel" "to" "[I") (by decide +kernel)) (fun _ h9 => h9) rfl dX5_flaw_195 ?_
                        refine lv_iload_n hx hb dX5_flaw_198 rfl (lv_at hl 1 rfl) ?_
                        refine lv_iload hx hb dX5_flaw_199 (lv_at hl 5 rfl) ?_
                        refine vp_callSi (va_Run.run (va_runS (As := [.int (nI (ix a)), .int (nI (i))]) (rest := [.ref ((ad 12))]) ⟨hx, hb, hml, hown, hts⟩ (c_X5_part l  (ix a) (i)) (va_cwS 2 hts gX5_flaw_X5_part rfl rfl rfl (by decide +kernel) ⟨Nat.le_of_ble_eq_true rfl, Nat.le_of_ble_eq_true rfl⟩) ⟨nB_blind, nB_pre⟩ rfl rfl hl.1 rfl (lv_room (Nat.le_of_ble_eq_true rfl)) dX5_flaw_201 ⟨Nat.le_of_ble_eq_true rfl, Nat.le_of_ble_eq_true rfl⟩)) (fun r_201 hr_201 => ?_)
                        subst hr_201
                        refine lv_aload_n hx hb dX5_flaw_204 rfl (lv_at hl 0 rfl) ?_
                        refine va_get (D := D) (ci := 5) (v := .ref ((ad 31))) (C := RX5) (T := TX5) (N := 34) hx hb hts (by decide +kernel) hown hK hP 0 rfl rfl 31 (by decide) (hts (.fieldLink RX5 74 "CaskYardModel" "newTo" "[I") (by decide +kernel)) (fun _ h9 => h9) rfl dX5_flaw_205 ?_
                        refine lv_iload hx hb dX5_flaw_208 (lv_at hl 5 rfl) ?_
                        refine g_iald hx hb hK hP 22 0 rfl rfl (i) rfl (by omega) (by decide) dX5_flaw_210 ?_
                        refine g_top (y := ((g31) (i))) (congrFun eF6_31 (i)) ?_
                        refine g_iast hx hb hK hP hD hS 8 0 rfl rfl (5 * (ix a) + (i)) rfl (by omega) (by decide) dX5_flaw_211 (fun H locs hP hD hS => ?_)
                        rw [wMs_12] at hP hD
                        rw [eF6_12] at hP hD
                        obtain ⟨F7, hF7⟩ : ∃ G, G = va_up F6 12 (upd (g12) (5 * (ix a) + (i)) ((g31) (i))) := ⟨_, rfl⟩
                        rw [← hF7] at hP hD
                        have eF7_12 : F7 12 = upd (g12) (5 * (ix a) + (i)) ((g31) (i)) := by rw [hF7]; exact va_up_self _ _ _
                        have eF7_30 : F7 30 = g30 := by rw [hF7, va_up_ne _ _ (by decide)]; exact eF6_30
                        have eF7_31 : F7 31 = g31 := by rw [hF7, va_up_ne _ _ (by decide)]; exact eF6_31
                        have eF7_11 : F7 11 = upd (g11) (5 * (ix a) + (i)) ((g30) (i)) := by rw [hF7, va_up_ne _ _ (by decide)]; exact eF6_11
                        refine lv_iinc (v := (nI (i + 1))) (lv' := [(5, .int (nI (i + 1))), (0, .ref h0), (1, .int (nI (ix a))), (2, .int (nI (ix b))), (3, .int (nI (ix v))), (4, .int (nI (n)))]) hx hb dX5_flaw_212 hl (k := 5) rfl (nI_add _ _) (by decide) rfl (fun ls hl => ?_)
                        refine lv_goto (tgt := 169) hx hb dX5_flaw_215 (by decide) ?_
                        have hFe : F7 = (va_up (va_up F2 11 (upd (g11) (5 * (ix a) + (i)) ((g30) (i)))) 12 (upd (g12) (5 * (ix a) + (i)) ((g31) (i)))) := fe2 eF7_11 eF7_12 (fun j_ a0_ a1_ => by rw [hF7, va_up_ne _ _ (by assumption), hF6, va_up_ne _ _ (by assumption), hF4, va_up_ne _ _ (by assumption), hF3, va_up_ne _ _ (by assumption)]) (by decide)
                        rw [hFe] at hP hD
                        exact ih_169 (i + 1) (upd (g11) (5 * (ix a) + (i)) ((g30) (i))) (upd (g12) (5 * (ix a) + (i)) ((g31) (i))) H locs hP hD hS (by omega) (cp_step hg1) (cp_step hg2) (by omega) ls (lv_sub hl [1, 2, 3, 4, 5, 0] rfl)
                  have hFe : F2 = (va_up (va_up F2 11 (F 11)) 12 (F 12)) := fe2 (show F2 11 = F 11 by rw [hF2, va_up_ne _ _ (by decide), hF1, va_up_ne _ _ (by decide)]) (show F2 12 = F 12 by rw [hF2, va_up_ne _ _ (by decide), hF1, va_up_ne _ _ (by decide)]) (fun j_ a0_ a1_ => rfl) (by decide)
                  rw [hFe] at hP hD
                  exact loop_169 _ (0) (F 11) (F 12) H locs hP hD hS (by omega) (fun j => (if_neg (by omega)).symm) (fun j => (if_neg (by omega)).symm) (Nat.lt_succ_self _) ls (lv_sub hl [1, 2, 3, 4, 5, 0] rfl)
                · skip
                  refine lv_iconst (v := (zI ((-1)))) hx hb dX5_flaw_164 (by decide) ?_
                  exact W.iret (v := (zI ((-1)))) hx hb hr (fun t ht hW => ⟨⟨_, ((va_up I 0 (nI (0))), F2), rfl, (by rw [sp_flaw, if_pos (by omega), if_pos (by omega), if_neg (by omega)]; exact ⟨rfl, fun _ => rfl, MR_congr hM (fun k_ h1_ h2_ => va_up_ne _ _ (by omega)) (fun k_ h1_ h2_ => show F2 k_ = F k_ by rw [hF2, va_up_ne _ _ (by omega), hF1, va_up_ne _ _ (by omega)])⟩), by rw [ht]; exact hP, va_K.moved hW.alike hK, hD⟩, hS.F ht⟩) hS.2.2 dX5_flaw_165
              · skip
                have hq9 := hpq _ (paD_mem (L := yP Y (ix a)) (i := i) (by omega))
                have hn2 := cutL_len (ix b) (ix v) (yP Y (ix a)) i hi
                refine lv_aload_n hx hb dX5_flaw_54 rfl (lv_at hl 0 rfl) ?_
                refine va_get (D := D) (ci := 5) (v := .ref ((ad 11))) (C := RX5) (T := TX5) (N := 34) hx hb hts (by decide +kernel) hown hK hP 0 rfl rfl 11 (by decide) (hts (.fieldLink RX5 28 "CaskYardModel" "from" "[I") (by decide +kernel)) (fun _ h9 => h9) rfl dX5_flaw_55 ?_
                refine lv_iload_n hx hb dX5_flaw_58 rfl (lv_at hl 1 rfl) ?_
                refine lv_iload hx hb dX5_flaw_59 (lv_at hl 5 rfl) ?_
                refine vp_callSi (va_Run.run (va_runS (As := [.int (nI (ix a)), .int (nI (i))]) (rest := [.ref ((ad 11))]) ⟨hx, hb, hml, hown, hts⟩ (c_X5_part l  (ix a) (i)) (va_cwS 2 hts gX5_flaw_X5_part rfl rfl rfl (by decide +kernel) ⟨Nat.le_of_ble_eq_true rfl, Nat.le_of_ble_eq_true rfl⟩) ⟨nB_blind, nB_pre⟩ rfl rfl hl.1 rfl (lv_room (Nat.le_of_ble_eq_true rfl)) dX5_flaw_61 ⟨Nat.le_of_ble_eq_true rfl, Nat.le_of_ble_eq_true rfl⟩)) (fun r_61 hr_61 => ?_)
                subst hr_61
                refine g_iald hx hb hK hP 7 0 rfl rfl (5 * (ix a) + (i)) rfl (by omega) (by decide) dX5_flaw_64 ?_
                refine g_top (y := ((F 11) (5 * (ix a) + (i)))) (congrFun (show F2 11 = F 11 by rw [hF2, va_up_ne _ _ (by decide), hF1, va_up_ne _ _ (by decide)]) (5 * (ix a) + (i))) ?_
                refine g_top (y := (nI ((paD (yP Y (ix a)) i).1))) ((arrP_at (hmB (ix a) hib).2.2 (i := i) (by omega)).1) ?_
                refine lv_istore (lv' := [(6, .int (nI ((paD (yP Y (ix a)) i).1))), (0, .ref h0), (1, .int (nI (ix a))), (2, .int (nI (ix b))), (3, .int (nI (ix v))), (4, .int (nI (n))), (5, .int (nI (i)))]) hx hb dX5_flaw_65 hl (by decide) rfl (fun ls hl => ?_)
                refine lv_aload_n hx hb dX5_flaw_67 rfl (lv_at hl 1 rfl) ?_
                refine va_get (D := D) (ci := 5) (v := .ref ((ad 12))) (C := RX5) (T := TX5) (N := 34) hx hb hts (by decide +kernel) hown hK hP 0 rfl rfl 12 (by decide) (hts (.fieldLink RX5 31 "CaskYardModel" "to" "[I") (by decide +kernel)) (fun _ h9 => h9) rfl dX5_flaw_68 ?_
                refine lv_iload_n hx hb dX5_flaw_71 rfl (lv_at hl 2 rfl) ?_
                refine lv_iload hx hb dX5_flaw_72 (lv_at hl 6 rfl) ?_
                refine vp_callSi (va_Run.run (va_runS (As := [.int (nI (ix a)), .int (nI (i))]) (rest := [.ref ((ad 12))]) ⟨hx, hb, hml, hown, hts⟩ (c_X5_part l  (ix a) (i)) (va_cwS 2 hts gX5_flaw_X5_part rfl rfl rfl (by decide +kernel) ⟨Nat.le_of_ble_eq_true rfl, Nat.le_of_ble_eq_true rfl⟩) ⟨nB_blind, nB_pre⟩ rfl rfl hl.1 rfl (lv_room (Nat.le_of_ble_eq_true rfl)) dX5_flaw_74 ⟨Nat.le_of_ble_eq_true rfl, Nat.le_of_ble_eq_true rfl⟩)) (fun r_74 hr_74 => ?_)
                subst hr_74
                refine g_iald hx hb hK hP 8 0 rfl rfl (5 * (ix a) + (i)) rfl (by omega) (by decide) dX5_flaw_77 ?_
                refine g_top (y := ((F 12) (5 * (ix a) + (i)))) (congrFun (show F2 12 = F 12 by rw [hF2, va_up_ne _ _ (by decide), hF1, va_up_ne _ _ (by decide)]) (5 * (ix a) + (i))) ?_
                refine g_top (y := (nI ((paD (yP Y (ix a)) i).2))) ((arrP_at (hmB (ix a) hib).2.2 (i := i) (by omega)).2) ?_
                refine lv_istore (lv' := [(7, .int (nI ((paD (yP Y (ix a)) i).2))), (6, .int (nI ((paD (yP Y (ix a)) i).1))), (0, .ref h0), (1, .int (nI (ix a))), (2, .int (nI (ix b))), (3, .int (nI (ix v))), (4, .int (nI (n))), (5, .int (nI (i)))]) hx hb dX5_flaw_78 hl (by decide) rfl (fun ls hl => ?_)
                refine lv_iload hx hb dX5_flaw_80 (lv_at hl 1 rfl) ?_
                refine lv_iload hx hb dX5_flaw_82 (lv_at hl 0 rfl) ?_
                refine lv_iload_n hx hb dX5_flaw_84 rfl (lv_at hl 4 rfl) ?_
                refine va_mmin hx hb (hml.trans hl.1.symm) hown (hts (.methodLink RX5 131 Lib.Math.min.name) (by decide +kernel)) (hts (.static Lib.Math.min.name) (by decide +kernel)) (hts (.initialized "java/lang/Math") (by decide +kernel)) (hts (.code Lib.Math.min.name Lib.Math.min.code 2 (some .int)) (by decide +kernel)) (Nat.le_of_ble_eq_true rfl) (Nat.le_of_ble_eq_true rfl) (Nat.le_of_ble_eq_true rfl) (Nat.le_of_ble_eq_true rfl) dX5_flaw_85 ?_
                refine g_top (y := (nI (min ((paD (yP Y (ix a)) i).2) (ix b)))) (n_min (by omega) (by omega)) ?_
                refine g_icmp_ge (tgt := 116) hx hb dX5_flaw_88 (by decide) (n_i (by omega)) (n_i (by omega)) (fun c_88 => ?_) (fun c_88 => ?_)
                · skip
                  refine lv_iload hx hb dX5_flaw_116 (lv_at hl 1 rfl) ?_
                  refine lv_iload_n hx hb dX5_flaw_118 rfl (lv_at hl 5 rfl) ?_
                  refine va_mmax hx hb (hml.trans hl.1.symm) hown (hts (.methodLink RX5 136 Lib.Math.max.name) (by decide +kernel)) (hts (.static Lib.Math.max.name) (by decide +kernel)) (hts (.initialized "java/lang/Math") (by decide +kernel)) (hts (.code Lib.Math.max.name Lib.Math.max.code 2 (some .int)) (by decide +kernel)) (Nat.le_of_ble_eq_true rfl) (Nat.le_of_ble_eq_true rfl) (Nat.le_of_ble_eq_true rfl) (Nat.le_of_ble_eq_true rfl) dX5_flaw_119 ?_
                  refine g_top (y := (nI (max ((paD (yP Y (ix a)) i).1) (ix v)))) (n_max (by omega) (by omega)) ?_
                  refine lv_iload hx hb dX5_flaw_122 (lv_at hl 0 rfl) ?_
                  refine g_icmp_ge (tgt := 152) hx hb dX5_flaw_124 (by decide) (n_i (by omega)) (n_i (by omega)) (fun c_124 => ?_) (fun c_124 => ?_)
                  · skip
                    refine lv_iinc (v := (nI (i + 1))) (lv' := [(5, .int (nI (i + 1))), (7, .int (nI ((paD (yP Y (ix a)) i).2))), (6, .int (nI ((paD (yP Y (ix a)) i).1))), (0, .ref h0), (1, .int (nI (ix a))), (2, .int (nI (ix b))), (3, .int (nI (ix v))), (4, .int (nI (n)))]) hx hb dX5_flaw_152 hl (k := 7) rfl (nI_add _ _) (by decide) rfl (fun ls hl => ?_)
                    refine lv_goto (tgt := 43) hx hb dX5_flaw_155 (by decide) ?_
                    have hFe : F2 = (va_up (va_up F 30 (g30)) 31 (g31)) := fe2 eF2_30 eF2_31 (fun j_ a0_ a1_ => by rw [hF2, va_up_ne _ _ (by assumption), hF1, va_up_ne _ _ (by assumption)]) (by decide)
                    rw [hFe] at hP hD
                    exact ih_43 (n) (i + 1) (g30) (g31) H locs hP hD hS (by omega) (by rw [cutL_s (by omega), cut1, if_neg (by omega), if_neg (by omega)]; simpa using hn) (by rw [cutL_s (by omega), cut1, if_neg (by omega), if_neg (by omega), List.append_nil, List.append_nil]; exact hA2) (by omega) ls (lv_sub hl [3, 4, 5, 6, 7, 0] rfl)
                  · skip
                    refine lv_aload_n hx hb dX5_flaw_127 rfl (lv_at hl 2 rfl) ?_
                    refine va_get (D := D) (ci := 5) (v := .ref ((ad 30))) (C := RX5) (T := TX5) (N := 34) hx hb hts (by decide +kernel) hown hK hP 0 rfl rfl 30 (by decide) (hts (.fieldLink RX5 71 "CaskYardModel" "newFrom" "[I") (by decide +kernel)) (fun _ h9 => h9) rfl dX5_flaw_128 ?_
                    refine lv_iload hx hb dX5_flaw_131 (lv_at hl 6 rfl) ?_
                    refine lv_iload hx hb dX5_flaw_133 (lv_at hl 1 rfl) ?_
                    refine lv_iload_n hx hb dX5_flaw_135 rfl (lv_at hl 5 rfl) ?_
                    refine va_mmax hx hb (hml.trans hl.1.symm) hown (hts (.methodLink RX5 136 Lib.Math.max.name) (by decide +kernel)) (hts (.static Lib.Math.max.name) (by decide +kernel)) (hts (.initialized "java/lang/Math") (by decide +kernel)) (hts (.code Lib.Math.max.name Lib.Math.max.code 2 (some .int)) (by decide +kernel)) (Nat.le_of_ble_eq_true rfl) (Nat.le_of_ble_eq_true rfl) (Nat.le_of_ble_eq_true rfl) (Nat.le_of_ble_eq_true rfl) dX5_flaw_136 ?_
                    refine g_top (y := (nI (max ((paD (yP Y (ix a)) i).1) (ix v)))) (n_max (by omega) (by omega)) ?_
                    refine g_iast hx hb hK hP hD hS 21 0 rfl rfl (n) rfl (by omega) (by decide) dX5_flaw_139 (fun H locs hP hD hS => ?_)
                    rw [wMs_30] at hP hD
                    rw [eF2_30] at hP hD
                    obtain ⟨F8, hF8⟩ : ∃ G, G = va_up F2 30 (upd (g30) (n) (nI (max ((paD (yP Y (ix a)) i).1) (ix v)))) := ⟨_, rfl⟩
                    rw [← hF8] at hP hD
                    have eF8_30 : F8 30 = upd (g30) (n) (nI (max ((paD (yP Y (ix a)) i).1) (ix v))) := by rw [hF8]; exact va_up_self _ _ _
                    have eF8_31 : F8 31 = g31 := by rw [hF8, va_up_ne _ _ (by decide)]; exact eF2_31
                    refine lv_aload_n hx hb dX5_flaw_140 rfl (lv_at hl 2 rfl) ?_
                    refine va_get (D := D) (ci := 5) (v := .ref ((ad 31))) (C := RX5) (T := TX5) (N := 34) hx hb hts (by decide +kernel) hown hK hP 0 rfl rfl 31 (by decide) (hts (.fieldLink RX5 74 "CaskYardModel" "newTo" "[I") (by decide +kernel)) (fun _ h9 => h9) rfl dX5_flaw_141 ?_
                    refine lv_iload hx hb dX5_flaw_144 (lv_at hl 6 rfl) ?_
                    refine lv_iload hx hb dX5_flaw_146 (lv_at hl 0 rfl) ?_
                    refine g_iast hx hb hK hP hD hS 22 0 rfl rfl (n) rfl (by omega) (by decide) dX5_flaw_148 (fun H locs hP hD hS => ?_)
                    rw [wMs_31] at hP hD
                    rw [eF8_31] at hP hD
                    obtain ⟨F9, hF9⟩ : ∃ G, G = va_up F8 31 (upd (g31) (n) (nI ((paD (yP Y (ix a)) i).2))) := ⟨_, rfl⟩
                    rw [← hF9] at hP hD
                    have eF9_31 : F9 31 = upd (g31) (n) (nI ((paD (yP Y (ix a)) i).2)) := by rw [hF9]; exact va_up_self _ _ _
                    have eF9_30 : F9 30 = upd (g30) (n) (nI (max ((paD (yP Y (ix a)) i).1) (ix v))) := by rw [hF9, va_up_ne _ _ (by decide)]; exact eF8_30
                    refine lv_iinc (v := (nI (n + 1))) (lv' := [(4, .int (nI (n + 1))), (7, .int (nI ((paD (yP Y (ix a)) i).2))), (6, .int (nI ((paD (yP Y (ix a)) i).1))), (0, .ref h0), (1, .int (nI (ix a))), (2, .int (nI (ix b))), (3, .int (nI (ix v))), (5, .int (nI (i)))]) hx hb dX5_flaw_149 hl (k := 6) rfl (nI_add _ _) (by decide) rfl (fun ls hl => ?_)
                    refine lv_iinc (v := (nI (i + 1))) (lv' := [(5, .int (nI (i + 1))), (4, .int (nI (n + 1))), (7, .int (nI ((paD (yP Y (ix a)) i).2))), (6, .int (nI ((paD (yP Y (ix a)) i).1))), (0, .ref h0), (1, .int (nI (ix a))), (2, .int (nI (ix b))), (3, .int (nI (ix v)))]) hx hb dX5_flaw_152 hl (k := 7) rfl (nI_add _ _) (by decide) rfl (fun ls hl => ?_)
                    refine lv_goto (tgt := 43) hx hb dX5_flaw_155 (by decide) ?_
                    have hFe : F9 = (va_up (va_up F 30 (upd (g30) (n) (nI (max ((paD (yP Y (ix a)) i).1) (ix v))))) 31 (upd (g31) (n) (nI ((paD (yP Y (ix a)) i).2)))) := fe2 eF9_30 eF9_31 (fun j_ a0_ a1_ => by rw [hF9, va_up_ne _ _ (by assumption), hF8, va_up_ne _ _ (by assumption), hF2, va_up_ne _ _ (by assumption), hF1, va_up_ne _ _ (by assumption)]) (by decide)
                    rw [hFe] at hP hD
                    exact ih_43 (n + 1) (i + 1) (upd (g30) (n) (nI (max ((paD (yP Y (ix a)) i).1) (ix v)))) (upd (g31) (n) (nI ((paD (yP Y (ix a)) i).2))) H locs hP hD hS (by omega) (by rw [cutL_s (by omega), cut1, if_neg (by omega), if_pos (by omega)]; simp; omega) (by rw [cutL_s (by omega), cut1, if_neg (by omega), if_pos (by omega), List.nil_append]; exact arrP_push hA2 (by omega)) (by omega) ls (lv_sub hl [4, 5, 6, 7, 1, 0] rfl)
                · skip
                  refine lv_aload_n hx hb dX5_flaw_91 rfl (lv_at hl 2 rfl) ?_
                  refine va_get (D := D) (ci := 5) (v := .ref ((ad 30))) (C := RX5) (T := TX5) (N := 34) hx hb hts (by decide +kernel) hown hK hP 0 rfl rfl 30 (by decide) (hts (.fieldLink RX5 71 "CaskYardModel" "newFrom" "[I") (by decide +kernel)) (fun _ h9 => h9) rfl dX5_flaw_92 ?_
                  refine lv_iload hx hb dX5_flaw_95 (lv_at hl 6 rfl) ?_
                  refine lv_iload hx hb dX5_flaw_97 (lv_at hl 1 rfl) ?_
                  refine g_iast hx hb hK hP hD hS 21 0 rfl rfl (n) rfl (by omega) (by decide) dX5_flaw_99 (fun H locs hP hD hS => ?_)
                  rw [wMs_30] at hP hD
                  rw [eF2_30] at hP hD
                  obtain ⟨F10, hF10⟩ : ∃ G, G = va_up F2 30 (upd (g30) (n) (nI ((paD (yP Y (ix a)) i).1))) := ⟨_, rfl⟩
                  rw [← hF10] at hP hD
                  have eF10_30 : F10 30 = upd (g30) (n) (nI ((paD (yP Y (ix a)) i).1)) := by rw [hF10]; exact va_up_self _ _ _
                  have eF10_31 : F10 31 = g31 := by rw [hF10, va_up_ne _ _ (by decide)]; exact eF2_31
                  refine lv_aload_n hx hb dX5_flaw_100 rfl (lv_at hl 2 rfl) ?_
                  refine va_get (D := D) (ci := 5) (v := .ref ((ad 31))) (C := RX5) (T := TX5) (N := 34) hx hb hts (by decide +kernel) hown hK hP 0 rfl rfl 31 (by decide) (hts (.fieldLink RX5 74 "CaskYardModel" "newTo" "[I") (by decide +kernel)) (fun _ h9 => h9) rfl dX5_flaw_101 ?_
                  refine lv_iload hx hb dX5_flaw_104 (lv_at hl 6 rfl) ?_
                  refine lv_iload hx hb dX5_flaw_106 (lv_at hl 0 rfl) ?_
                  refine lv_iload_n hx hb dX5_flaw_108 rfl (lv_at hl 4 rfl) ?_
                  refine va_mmin hx hb (hml.trans hl.1.symm) hown (hts (.methodLink RX5 131 Lib.Math.min.name) (by decide +kernel)) (hts (.static Lib.Math.min.name) (by decide +kernel)) (hts (.initialized "java/lang/Math") (by decide +kernel)) (hts (.code Lib.Math.min.name Lib.Math.min.code 2 (some .int)) (by decide +kernel)) (Nat.le_of_ble_eq_true rfl) (Nat.le_of_ble_eq_true rfl) (Nat.le_of_ble_eq_true rfl) (Nat.le_of_ble_eq_true rfl) dX5_flaw_109 ?_
                  refine g_top (y := (nI (min ((paD (yP Y (ix a)) i).2) (ix b)))) (n_min (by omega) (by omega)) ?_
                  refine g_iast hx hb hK hP hD hS 22 0 rfl rfl (n) rfl (by omega) (by decide) dX5_flaw_112 (fun H locs hP hD hS => ?_)
                  rw [wMs_31] at hP hD
                  rw [eF10_31] at hP hD
                  obtain ⟨F11, hF11⟩ : ∃ G, G = va_up F10 31 (upd (g31) (n) (nI (min ((paD (yP Y (ix a)) i).2) (ix b)))) := ⟨_, rfl⟩
                  rw [← hF11] at hP hD
                  have eF11_31 : F11 31 = upd (g31) (n) (nI (min ((paD (yP Y (ix a)) i).2) (ix b))) := by rw [hF11]; exact va_up_self _ _ _
                  have eF11_30 : F11 30 = upd (g30) (n) (nI ((paD (yP Y (ix a)) i).1)) := by rw [hF11, va_up_ne _ _ (by decide)]; exact eF10_30
                  refine lv_iinc (v := (nI (n + 1))) (lv' := [(4, .int (nI (n + 1))), (7, .int (nI ((paD (yP Y (ix a)) i).2))), (6, .int (nI ((paD (yP Y (ix a)) i).1))), (0, .ref h0), (1, .int (nI (ix a))), (2, .int (nI (ix b))), (3, .int (nI (ix v))), (5, .int (nI (i)))]) hx hb dX5_flaw_113 hl (k := 6) rfl (nI_add _ _) (by decide) rfl (fun ls hl => ?_)
                  refine lv_iload hx hb dX5_flaw_116 (lv_at hl 2 rfl) ?_
                  refine lv_iload_n hx hb dX5_flaw_118 rfl (lv_at hl 6 rfl) ?_
                  refine va_mmax hx hb (hml.trans hl.1.symm) hown (hts (.methodLink RX5 136 Lib.Math.max.name) (by decide +kernel)) (hts (.static Lib.Math.max.name) (by decide +kernel)) (hts (.initialized "java/lang/Math") (by decide +kernel)) (hts (.code Lib.Math.max.name Lib.Math.max.code 2 (some .int)) (by decide +kernel)) (Nat.le_of_ble_eq_true rfl) (Nat.le_of_ble_eq_true rfl) (Nat.le_of_ble_eq_true rfl) (Nat.le_of_ble_eq_true rfl) dX5_flaw_119 ?_
                  refine g_top (y := (nI (max ((paD (yP Y (ix a)) i).1) (ix v)))) (n_max (by omega) (by omega)) ?_
                  refine lv_iload hx hb dX5_flaw_122 (lv_at hl 1 rfl) ?_
                  refine g_icmp_ge (tgt := 152) hx hb dX5_flaw_124 (by decide) (n_i (by omega)) (n_i (by omega)) (fun c_124 => ?_) (fun c_124 => ?_)
                  · skip
                    refine lv_iinc (v := (nI (i + 1))) (lv' := [(5, .int (nI (i + 1))), (4, .int (nI (n + 1))), (7, .int (nI ((paD (yP Y (ix a)) i).2))), (6, .int (nI ((paD (yP Y (ix a)) i).1))), (0, .ref h0), (1, .int (nI (ix a))), (2, .int (nI (ix b))), (3, .int (nI (ix v)))]) hx hb dX5_flaw_152 hl (k := 7) rfl (nI_add _ _) (by decide) rfl (fun ls hl => ?_)
                    refine lv_goto (tgt := 43) hx hb dX5_flaw_155 (by decide) ?_
                    have hFe : F11 = (va_up (va_up F 30 (upd (g30) (n) (nI ((paD (yP Y (ix a)) i).1)))) 31 (upd (g31) (n) (nI (min ((paD (yP Y (ix a)) i).2) (ix b))))) := fe2 eF11_30 eF11_31 (fun j_ a0_ a1_ => by rw [hF11, va_up_ne _ _ (by assumption), hF10, va_up_ne _ _ (by assumption), hF2, va_up_ne _ _ (by assumption), hF1, va_up_ne _ _ (by assumption)]) (by decide)
                    rw [hFe] at hP hD
                    exact ih_43 (n + 1) (i + 1) (upd (g30) (n) (nI ((paD (yP Y (ix a)) i).1))) (upd (g31) (n) (nI (min ((paD (yP Y (ix a)) i).2) (ix b)))) H locs hP hD hS (by omega) (by rw [cutL_s (by omega), cut1, if_pos (by omega), if_neg (by omega)]; simp; omega) (by rw [cutL_s (by omega), cut1, if_pos (by omega), if_neg (by omega), List.append_nil]; exact arrP_push hA2 (by omega)) (by omega) ls (lv_sub hl [4, 5, 6, 7, 1, 0] rfl)
                  · skip
                    refine lv_aload_n hx hb dX5_flaw_127 rfl (lv_at hl 3 rfl) ?_
                    refine va_get (D := D) (ci := 5) (v := .ref ((ad 30))) (C := RX5) (T := TX5) (N := 34) hx hb hts (by decide +kernel) hown hK hP 0 rfl rfl 30 (by decide) (hts (.fieldLink RX5 71 "CaskYardModel" "newFrom" "[I") (by decide +kernel)) (fun _ h9 => h9) rfl dX5_flaw_128 ?_
                    refine lv_iload hx hb dX5_flaw_131 (lv_at hl 0 rfl) ?_
                    refine lv_iload hx hb dX5_flaw_133 (lv_at hl 2 rfl) ?_
                    refine lv_iload_n hx hb dX5_flaw_135 rfl (lv_at hl 6 rfl) ?_
                    refine va_mmax hx hb (hml.trans hl.1.symm) hown (hts (.methodLink RX5 136 Lib.Math.max.name) (by decide +kernel)) (hts (.static Lib.Math.max.name) (by decide +kernel)) (hts (.initialized "java/lang/Math") (by decide +kernel)) (hts (.code Lib.Math.max.name Lib.Math.max.code 2 (some .int)) (by decide +kernel)) (Nat.le_of_ble_eq_true rfl) (Nat.le_of_ble_eq_true rfl) (Nat.le_of_ble_eq_true rfl) (Nat.le_of_ble_eq_true rfl) dX5_flaw_136 ?_
                    refine g_top (y := (nI (max ((paD (yP Y (ix a)) i).1) (ix v)))) (n_max (by omega) (by omega)) ?_
                    refine g_iast hx hb hK hP hD hS 21 0 rfl rfl (n + 1) rfl (by omega) (by decide) dX5_flaw_139 (fun H locs hP hD hS => ?_)
                    rw [wMs_30] at hP hD
                    rw [eF11_30] at hP hD
                    obtain ⟨F12, hF12⟩ : ∃ G, G = va_up F11 30 (upd (upd (g30) (n) (nI ((paD (yP Y (ix a)) i).1))) (n + 1) (nI (max ((paD (yP Y (ix a)) i).1) (ix v)))) := ⟨_, rfl⟩
                    rw [← hF12] at hP hD
                    have eF12_30 : F12 30 = upd (upd (g30) (n) (nI ((paD (yP Y (ix a)) i).1))) (n + 1) (nI (max ((paD (yP Y (ix a)) i).1) (ix v))) := by rw [hF12]; exact va_up_self _ _ _
                    have eF12_31 : F12 31 = upd (g31) (n) (nI (min ((paD (yP Y (ix a)) i).2) (ix b))) := by rw [hF12, va_up_ne _ _ (by decide)]; exact eF11_31
                    refine lv_aload_n hx hb dX5_flaw_140 rfl (lv_at hl 3 rfl) ?_
                    refine va_get (D := D) (ci := 5) (v := .ref ((ad 31))) (C := RX5) (T := TX5) (N := 34) hx hb hts (by decide +kernel) hown hK hP 0 rfl rfl 31 (by decide) (hts (.fieldLink RX5 74 "CaskYardModel" "newTo" "[I") (by decide +kernel)) (fun _ h9 => h9) rfl dX5_flaw_141 ?_
                    refine lv_iload hx hb dX5_flaw_144 (lv_at hl 0 rfl) ?_
                    refine lv_iload hx hb dX5_flaw_146 (lv_at hl 1 rfl) ?_
                    refine g_iast hx hb hK hP hD hS 22 0 rfl rfl (n + 1) rfl (by omega) (by decide) dX5_flaw_148 (fun H locs hP hD hS => ?_)
                    rw [wMs_31] at hP hD
                    rw [eF12_31] at hP hD
                    obtain ⟨F13, hF13⟩ : ∃ G, G = va_up F12 31 (upd (upd (g31) (n) (nI (min ((paD (yP Y (ix a)) i).2) (ix b)))) (n + 1) (nI ((paD (yP Y (ix a)) i).2))) := ⟨_, rfl⟩
                    rw [← hF13] at hP hD
                    have eF13_31 : F13 31 = upd (upd (g31) (n) (nI (min ((paD (yP Y (ix a)) i).2) (ix b)))) (n + 1) (nI ((paD (yP Y (ix a)) i).2)) := by rw [hF13]; exact va_up_self _ _ _
                    have eF13_30 : F13 30 = upd (upd (g30) (n) (nI ((paD (yP Y (ix a)) i).1))) (n + 1) (nI (max ((paD (yP Y (ix a)) i).1) (ix v))) := by rw [hF13, va_up_ne _ _ (by decide)]; exact eF12_30
                    refine lv_iinc (v := (nI (n + 1 + 1))) (lv' := [(4, .int (nI (n + 1 + 1))), (7, .int (nI ((paD (yP Y (ix a)) i).2))), (6, .int (nI ((paD (yP Y (ix a)) i).1))), (0, .ref h0), (1, .int (nI (ix a))), (2, .int (nI (ix b))), (3, .int (nI (ix v))), (5, .int (nI (i)))]) hx hb dX5_flaw_149 hl (k := 0) rfl (nI_add _ _) (by decide) rfl (fun ls hl => ?_)
                    refine lv_iinc (v := (nI (i + 1))) (lv' := [(5, .int (nI (i + 1))), (4, .int (nI (n + 1 + 1))), (7, .int (nI ((paD (yP Y (ix a)) i).2))), (6, .int (nI ((paD (yP Y (ix a)) i).1))), (0, .ref h0), (1, .int (nI (ix a))), (2, .int (nI (ix b))), (3, .int (nI (ix v)))]) hx hb dX5_flaw_152 hl (k := 7) rfl (nI_add _ _) (by decide) rfl (fun ls hl => ?_)
                    refine lv_goto (tgt := 43) hx hb dX5_flaw_155 (by decide) ?_
                    have hFe : F13 = (va_up (va_up F 30 (upd (upd (g30) (n) (nI ((paD (yP Y (ix a)) i).1))) (n + 1) (nI (max ((paD (yP Y (ix a)) i).1) (ix v))))) 31 (upd (upd (g31) (n) (nI (min ((paD (yP Y (ix a)) i).2) (ix b)))) (n + 1) (nI ((paD (yP Y (ix a)) i).2)))) := fe2 eF13_30 eF13_31 (fun j_ a0_ a1_ => by rw [hF13, va_up_ne _ _ (by assumption), hF12, va_up_ne _ _ (by assumption), hF11, va_up_ne _ _ (by assumption), hF10, va_up_ne _ _ (by assumption), hF2, va_up_ne _ _ (by assumption), hF1, va_up_ne _ _ (by assumption)]) (by decide)
                    rw [hFe] at hP hD
                    exact ih_43 (n + 1 + 1) (i + 1) (upd (upd (g30) (n) (nI ((paD (yP Y (ix a)) i).1))) (n + 1) (nI (max ((paD (yP Y (ix a)) i).1) (ix v)))) (upd (upd (g31) (n) (nI (min ((paD (yP Y (ix a)) i).2) (ix b)))) (n + 1) (nI ((paD (yP Y (ix a)) i).2))) H locs hP hD hS (by omega) (by rw [cutL_s (by omega), cut1, if_pos (by omega), if_pos (by omega)]; simp; omega) (by rw [cutL_s (by omega), cut1, if_pos (by omega), if_pos (by omega), ← List.append_assoc]; exact arrP_push (arrP_push hA2 (by omega)) (by rw [List.length_append]; simp; omega)) (by omega) ls (lv_sub hl [4, 5, 6, 7, 1, 0] rfl)
          have hFe : F = (va_up (va_up F 30 (F 30)) 31 (F 31)) := fe2 rfl rfl (fun j_ a0_ a1_ => rfl) (by decide)
          rw [hFe] at hP hD
          exact loop_43 _ (0) (0) (F 30) (F 31) H locs hP hD hS (by omega) rfl (arrP_nil _ _ _) (Nat.lt_succ_self _) ls (lv_sub hl [2, 3, 4, 5, 1, 0] rfl)
        · skip
          refine lv_iconst (v := (zI ((-1)))) hx hb dX5_flaw_35 (by decide) ?_
          exact W.iret (v := (zI ((-1)))) hx hb hr (fun t ht hW => ⟨⟨_, ((va_up I 0 (nI (0))), F), rfl, by rw [sp_flaw, if_pos (by omega), if_neg (by omega)]; exact ⟨rfl, fun _ => rfl, hM⟩, by rw [ht]; exact hP, va_K.moved hW.alike hK, hD⟩, hS.F ht⟩) hS.2.2 dX5_flaw_36
  · skip
    refine lv_aload_n hx hb dX5_flaw_13 rfl (lv_at hl 0 rfl) ?_
    refine lv_iconst (v := (nI (1))) hx hb dX5_flaw_14 (by decide) ?_
    have hFc := w_free hD hS hA
    refine va_calli (va_runV (As := [.int (nI (1))]) (rest := []) ⟨hx, hb, hml, hown, hts⟩ (c_X5_fail l D cy H.size h0 ad (va_up I 0 (nI (0))) F (nI (1))) (cwV 1 hts gX5_flaw_X5_fail rfl rfl rfl (by decide +kernel) ⟨Nat.le_of_ble_eq_true rfl, Nat.le_of_ble_eq_true rfl⟩) ⟨wB_blind, va_recv hK hP (ci := 5) (q0 := 0) rfl rfl, wB_pre hP hK hD⟩ rfl rfl hl.1 rfl (lv_room (Nat.le_of_ble_eq_true rfl)) dX5_flaw_15 ⟨Nat.le_of_ble_eq_true rfl, Nat.le_of_ble_eq_true rfl⟩) hS (fun q _ h => hFc q h) hFc (fun r_15 u_15 t H locs ht hvm hw_15 hB _ _ hS => ?_)
    obtain ⟨I_15, F_15⟩ := u_15
    obtain ⟨hP1, hK1, hD1⟩ := hB
    rw [ht] at hP1
    dsimp only at hP1 hD1 hw_15
    obtain ⟨hw_15, hu_15⟩ := hw_15
    rw [(Prod.mk.inj hu_15).1, (Prod.mk.inj hu_15).2] at hP1 hD1
    have hP := hP1
    have hD := hD1.weaken (fun _ _ _ h => hFc _ h)
    have hP : va_P D vwCl (wM cy h0 ad (va_up I 0 (nI (1))) F) H := hP
    have hD : va_D A (wM cy h0 ad (va_up I 0 (nI (1))) F) := hD
    refine g_top (y := (nI (0))) (hw_15) ?_
    exact W.iret (v := (nI (0))) hx hb hr (fun t ht hW => ⟨⟨_, ((va_up I 0 (nI (1))), F), rfl, by rw [sp_flaw, if_neg (by omega)]; exact MP_t rfl hM, by rw [ht]; exact hP, va_K.moved hW.alike hK, hD⟩, hS.F ht⟩) hS.2.2 dX5_flaw_18
