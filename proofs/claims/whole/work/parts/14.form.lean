set_option maxHeartbeats 4000000 in
set_option maxRecDepth 100000 in
theorem c_X5_form (l : Launch) (D : va_G) (cy : Nat → ClassId) (sz : Nat) (h0 : Nat) (ad : Nat → Nat) (I : Nat → Int32) (F : Nat → Nat → Int32) (Y : YT) (hM : MR I F Y) (hY : WF Y) (a b v d : Int32) : Met l yX5_form wsX5_form ({ frames := 0, cells := 0, slots := 0, locals := 0 } : Room) (va_Pc [.ref h0, .int (a), .int (b), .int (v), .int (d)] (wB D cy sz (wM cy h0 ad I F))) (va_Qi (fun (r : Int32) (u : (Nat → Int32) × (Nat → Nat → Int32)) => MP r u (sp_form Y a b v d)) (fun u t => wE D cy (va_A (wM cy h0 ad I F) sz) (wM cy h0 ad u.1 u.2) t) (va_A (wM cy h0 ad I F) sz)) 0 0 (va_A (wM cy h0 ad I F) sz) := by
  refine Met.ofW (cc := cX5_form) (maxL := 5) (ret := (some .int)) (by decide) rfl ?_
  intro p e s m args below meth c s₁ B hml hv
  obtain ⟨rfl, hsz, hP, hK, hD0⟩ := hv
  have hx := B.exec
  have hb := B.bytes
  have hr := B.returns
  have hts := atoms_spec (ws := wsX5_form) B.pre
  have hown : s.vm.findClass RX5 = some m.cls := findClass_of_methodNamed B.named
  have hlocks := B.notSynchronized
  subst hsz
  have hD := hD0.self (sz := s.heap.size)
  generalize hAe : va_A (wM cy h0 ad I F) s.heap.size = A at hD ⊢
  have hA : ∀ q : Nat, s.heap.size ≤ q → A q := w_A hAe
  have hS : va_S A s.heap s.heap [] := va_S.rf
  have hl := lv_entry ([.ref h0, .int (a), .int (b), .int (v), .int (d)]) (n := 5) (Nat.le_of_ble_eq_true rfl)
  rw [lg_entry_eq]
  generalize (lg_sl ([.ref h0, .int (a), .int (b), .int (v), .int (d)]) ++ List.replicate (5 - (lg_sl ([.ref h0, .int (a), .int (b), .int (v), .int (d)])).length) Slot.unset).toArray = ls at hl ⊢
  have hl : lv_has ls 5 [(0, .ref h0), (1, .int (a)), (2, .int (b)), (3, .int (v)), (4, .int (d))] := hl
  obtain ⟨hm1, hm2, hm3, hm4, hmF, hmB, hmC, hmR, hmW⟩ := id hM
  obtain ⟨hy0, hyF, hyB, hyC, hyf, hyb, hyc, hyr, hyw⟩ := id hY
  have hxa := ix_m a
  have hxb := ix_m b
  have hxv := ix_m v
  have hxd := ix_m d
  refine lv_aload_n hx hb dX5_form_0 rfl (lv_at hl 0 rfl) ?_
  refine lv_iconst (v := (nI (0))) hx hb dX5_form_1 (by decide) ?_
  refine va_put (D := D) (ci := 5) (v := .int (nI (0))) (ty := .int) (C := RX5) (T := TX5) (N := 34) hx hb hts (by decide +kernel) tyX5 tyX5_ok nmX5 hown hK hP hD hS 0 rfl rfl 0 (by decide) (hts (.fieldLink RX5 83 "CaskYardModel" "code" "I") (by decide +kernel)) (fun _ h9 => h9) rfl (by decide +kernel) rfl rfl (Nat.le_of_ble_eq_true rfl) dX5_form_2 (fun H locs hP hD hS => ?_)
  have hP : va_P D vwCl (wM cy h0 ad (va_up I 0 (nI (0))) F) H := hP
  have hD : va_D A (wM cy h0 ad (va_up I 0 (nI (0))) F) := hD
  have join_73 :  (yF Y < 8 ∧ 0 ≤ a.toInt ∧ 0 ≤ b.toInt ∧ 0 ≤ v.toInt ∧ 0 ≤ d.toInt ∧ formOk (ix a) (ix b) (ix v) (ix d)) → ∀ (ls : Array Slot), lv_has ls 5 [(0, .ref h0), (1, .int (nI (ix a))), (2, .int (nI (ix b))), (3, .int (nI (ix v))), (4, .int (nI (ix d)))] → W p l e (headSpec wsX5_form ({ frames := 0, cells := 0, slots := 0, locals := 0 } : Room)).room s m ([.ref h0, .int (a), .int (b), .int (v), .int (d)] : List Value).toArray below meth c H locs 0 0 (MQ below (va_Qi (fun (r : Int32) (u : (Nat → Int32) × (Nat → Nat → Int32)) => MP r u (sp_form Y a b v d)) (fun u t => wE D cy A (wM cy h0 ad u.1 u.2) t) A) ([.ref h0, .int (a), .int (b), .int (v), .int (d)] : List Value).toArray s 0 0 A) (F0 m 73 ls []) := by
    intro  hco ls hl
    refine lv_aload_n hx hb dX5_form_73 rfl (lv_at hl 0 rfl) ?_
    refine va_get (D := D) (ci := 5) (v := .ref ((ad 5))) (C := RX5) (T := TX5) (N := 34) hx hb hts (by decide +kernel) hown hK hP 0 rfl rfl 5 (by decide) (hts (.fieldLink RX5 9 "CaskYardModel" "tall" "[I") (by decide +kernel)) (fun _ h9 => h9) rfl dX5_form_74 ?_
    refine lv_aload_n hx hb dX5_form_77 rfl (lv_at hl 0 rfl) ?_
    refine va_get (D := D) (ci := 5) (v := .int (I 1)) (C := RX5) (T := TX5) (N := 34) hx hb hts (by decide +kernel) hown hK hP 0 rfl rfl 1 (by decide) (hts (.fieldLink RX5 87 "CaskYardModel" "forms" "I") (by decide +kernel)) (fun _ h9 => h9) rfl dX5_form_78 ?_
    refine g_top (y := (nI (yF Y))) hm1 ?_
    refine lv_iload_n hx hb dX5_form_81 rfl (lv_at hl 1 rfl) ?_
    refine g_iast hx hb hK hP hD hS 1 0 rfl rfl (yF Y) rfl (by omega) (by decide) dX5_form_82 (fun H locs hP hD hS => ?_)
    rw [wMs_5] at hP hD
    obtain ⟨F1, hF1⟩ : ∃ G, G = va_up F 5 (upd (F 5) (yF Y) (nI (ix a))) := ⟨_, rfl⟩
    rw [← hF1] at hP hD
    have eF1_5 : F1 5 = upd (F 5) (yF Y) (nI (ix a)) := by rw [hF1]; exact va_up_self _ _ _
    refine lv_aload_n hx hb dX5_form_83 rfl (lv_at hl 0 rfl) ?_
    refine va_get (D := D) (ci := 5) (v := .ref ((ad 6))) (C := RX5) (T := TX5) (N := 34) hx hb hts (by decide +kernel) hown hK hP 0 rfl rfl 6 (by decide) (hts (.fieldLink RX5 13 "CaskYardModel" "bilge" "[I") (by decide +kernel)) (fun _ h9 => h9) rfl dX5_form_84 ?_
    refine lv_aload_n hx hb dX5_form_87 rfl (lv_at hl 0 rfl) ?_
    refine va_get (D := D) (ci := 5) (v := .int (I 1)) (C := RX5) (T := TX5) (N := 34) hx hb hts (by decide +kernel) hown hK hP 0 rfl rfl 1 (by decide) (hts (.fieldLink RX5 87 "CaskYardModel" "forms" "I") (by decide +kernel)) (fun _ h9 => h9) rfl dX5_form_88 ?_
    refine g_top (y := (nI (yF Y))) hm1 ?_
    refine lv_iload_n hx hb dX5_form_91 rfl (lv_at hl 2 rfl) ?_
    refine g_iast hx hb hK hP hD hS 2 0 rfl rfl (yF Y) rfl (by omega) (by decide) dX5_form_92 (fun H locs hP hD hS => ?_)
    rw [wMs_6] at hP hD
    rw [(show F1 6 = F 6 by rw [hF1, va_up_ne _ _ (by decide)])] at hP hD
    obtain ⟨F2, hF2⟩ : ∃ G, G = va_up F1 6 (upd (F 6) (yF Y) (nI (ix b))) := ⟨_, rfl⟩
    rw [← hF2] at hP hD
    have eF2_6 : F2 6 = upd (F 6) (yF Y) (nI (ix b)) := by rw [hF2]; exact va_up_self _ _ _
    have eF2_5 : F2 5 = upd (F 5) (yF Y) (nI (ix a)) := by rw [hF2, va_up_ne _ _ (by decide)]; exact eF1_5
    refine lv_aload_n hx hb dX5_form_93 rfl (lv_at hl 0 rfl) ?_
    refine va_get (D := D) (ci := 5) (v := .ref ((ad 7))) (C := RX5) (T := TX5) (N := 34) hx hb hts (by decide +kernel) hown hK hP 0 rfl rfl 7 (by decide) (hts (.fieldLink RX5 16 "CaskYardModel" "headGirth" "[I") (by decide +kernel)) (fun _ h9 => h9) rfl dX5_form_94 ?_
    refine lv_aload_n hx hb dX5_form_97 rfl (lv_at hl 0 rfl) ?_
    refine va_get (D := D) (ci := 5) (v := .int (I 1)) (C := RX5) (T := TX5) (N := 34) hx hb hts (by decide +kernel) hown hK hP 0 rfl rfl 1 (by decide) (hts (.fieldLink RX5 87 "CaskYardModel" "forms" "I") (by decide +kernel)) (fun _ h9 => h9) rfl dX5_form_98 ?_
    refine g_top (y := (nI (yF Y))) hm1 ?_
    refine lv_iload_n hx hb dX5_form_101 rfl (lv_at hl 3 rfl) ?_
    refine g_iast hx hb hK hP hD hS 3 0 rfl rfl (yF Y) rfl (by omega) (by decide) dX5_form_102 (fun H locs hP hD hS => ?_)
    rw [wMs_7] at hP hD
    rw [(show F2 7 = F 7 by rw [hF2, va_up_ne _ _ (by decide), hF1, va_up_ne _ _ (by decide)])] at hP hD
    obtain ⟨F3, hF3⟩ : ∃ G, G = va_up F2 7 (upd (F 7) (yF Y) (nI (ix v))) := ⟨_, rfl⟩
    rw [← hF3] at hP hD
    have eF3_7 : F3 7 = upd (F 7) (yF Y) (nI (ix v)) := by rw [hF3]; exact va_up_self _ _ _
    have eF3_5 : F3 5 = upd (F 5) (yF Y) (nI (ix a)) := by rw [hF3, va_up_ne _ _ (by decide)]; exact eF2_5
    have eF3_6 : F3 6 = upd (F 6) (yF Y) (nI (ix b)) := by rw [hF3, va_up_ne _ _ (by decide)]; exact eF2_6
    refine lv_aload_n hx hb dX5_form_103 rfl (lv_at hl 0 rfl) ?_
    refine va_get (D := D) (ci := 5) (v := .ref ((ad 8))) (C := RX5) (T := TX5) (N := 34) hx hb hts (by decide +kernel) hown hK hP 0 rfl rfl 8 (by decide) (hts (.fieldLink RX5 19 "CaskYardModel" "staves" "[I") (by decide +kernel)) (fun _ h9 => h9) rfl dX5_form_104 ?_
    refine lv_aload_n hx hb dX5_form_107 rfl (lv_at hl 0 rfl) ?_
    refine va_get (D := D) (ci := 5) (v := .int (I 1)) (C := RX5) (T := TX5) (N := 34) hx hb hts (by decide +kernel) hown hK hP 0 rfl rfl 1 (by decide) (hts (.fieldLink RX5 87 "CaskYardModel" "forms" "I") (by decide +kernel)) (fun _ h9 => h9) rfl dX5_form_108 ?_
    refine g_top (y := (nI (yF Y))) hm1 ?_
    refine lv_iload hx hb dX5_form_111 (lv_at hl 4 rfl) ?_
    refine g_iast hx hb hK hP hD hS 4 0 rfl rfl (yF Y) rfl (by omega) (by decide) dX5_form_113 (fun H locs hP hD hS => ?_)
    rw [wMs_8] at hP hD
    rw [(show F3 8 = F 8 by rw [hF3, va_up_ne _ _ (by decide), hF2, va_up_ne _ _ (by decide), hF1, va_up_ne _ _ (by decide)])] at hP hD
    obtain ⟨F4, hF4⟩ : ∃ G, G = va_up F3 8 (upd (F 8) (yF Y) (nI (ix d))) := ⟨_, rfl⟩
    rw [← hF4] at hP hD
    have eF4_8 : F4 8 = upd (F 8) (yF Y) (nI (ix d)) := by rw [hF4]; exact va_up_self _ _ _
    have eF4_5 : F4 5 = upd (F 5) (yF Y) (nI (ix a)) := by rw [hF4, va_up_ne _ _ (by decide)]; exact eF3_5
    have eF4_6 : F4 6 = upd (F 6) (yF Y) (nI (ix b)) := by rw [hF4, va_up_ne _ _ (by decide)]; exact eF3_6
    have eF4_7 : F4 7 = upd (F 7) (yF Y) (nI (ix v)) := by rw [hF4, va_up_ne _ _ (by decide)]; exact eF3_7
    refine lv_aload_n hx hb dX5_form_114 rfl (lv_at hl 0 rfl) ?_
    refine lv_dup hx hb dX5_form_115 rfl ?_
    refine va_get (D := D) (ci := 5) (v := .int (I 1)) (C := RX5) (T := TX5) (N := 34) hx hb hts (by decide +kernel) hown hK hP 0 rfl rfl 1 (by decide) (hts (.fieldLink RX5 87 "CaskYardModel" "forms" "I") (by decide +kernel)) (fun _ h9 => h9) rfl dX5_form_116 ?_
    refine g_top (y := (nI (yF Y))) hm1 ?_
    refine lv_iconst (v := (nI (1))) hx hb dX5_form_119 (by decide) ?_
    refine g_iadd_n hx hb dX5_form_120 ?_
    refine va_put (D := D) (ci := 5) (v := .int (nI ((yF Y) + 1))) (ty := .int) (C := RX5) (T := TX5) (N := 34) hx hb hts (by decide +kernel) tyX5 tyX5_ok nmX5 hown hK hP hD hS 0 rfl rfl 1 (by decide) (hts (.fieldLink RX5 87 "CaskYardModel" "forms" "I") (by decide +kernel)) (fun _ h9 => h9) rfl (by decide +kernel) rfl rfl (Nat.le_of_ble_eq_true rfl) dX5_form_121 (fun H locs hP hD hS => ?_)
    have hP : va_P D vwCl (wM cy h0 ad (va_up (va_up I 0 (nI (0))) 1 (nI ((yF Y) + 1))) F4) H := hP
    have hD : va_D A (wM cy h0 ad (va_up (va_up I 0 (nI (0))) 1 (nI ((yF Y) + 1))) F4) := hD
    refine lv_aload_n hx hb dX5_form_124 rfl (lv_at hl 0 rfl) ?_
    refine va_get (D := D) (ci := 5) (v := .int (nI ((yF Y) + 1))) (C := RX5) (T := TX5) (N := 34) hx hb hts (by decide +kernel) hown hK hP 0 rfl rfl 1 (by decide) (hts (.fieldLink RX5 87 "CaskYardModel" "forms" "I") (by decide +kernel)) (fun _ h9 => h9) rfl dX5_form_125 ?_
    refine lv_iconst (v := (nI (1))) hx hb dX5_form_128 (by decide) ?_
    refine g_isub_n hx hb dX5_form_129 (by omega) ?_
    exact W.iret (v := (nI (((yF Y) + 1) - 1))) hx hb hr (fun t ht hW => ⟨⟨_, ((va_up (va_up I 0 (nI (0))) 1 (nI ((yF Y) + 1))), F4), rfl, by rw [hF4, hF3, hF2, hF1]; rw [sp_form, if_pos hco]; exact ⟨rfl, fun _ => rfl, MR_form _ _ _ _ hM hY⟩, by rw [ht]; exact hP, va_K.moved hW.alike hK, hD⟩, hS.F ht⟩) hS.2.2 dX5_form_130
  refine lv_aload_n hx hb dX5_form_5 rfl (lv_at hl 0 rfl) ?_
  refine va_get (D := D) (ci := 5) (v := .int (I 1)) (C := RX5) (T := TX5) (N := 34) hx hb hts (by decide +kernel) hown hK hP 0 rfl rfl 1 (by decide) (hts (.fieldLink RX5 87 "CaskYardModel" "forms" "I") (by decide +kernel)) (fun _ h9 => h9) rfl dX5_form_6 ?_
  refine g_top (y := (nI (yF Y))) hm1 ?_
  refine lv_bipush (v := (nI (8))) hx hb dX5_form_9 (by decide) ?_
  refine g_icmp_eq (tgt := 71) hx hb dX5_form_11 (by decide) (n_i (by omega)) (n_i (by omega)) (fun c_11 => ?_) (fun c_11 => ?_)
  · skip
    refine lv_iconst (v := (zI ((-1)))) hx hb dX5_form_71 (by decide) ?_
    exact W.iret (v := (zI ((-1)))) hx hb hr (fun t ht hW => ⟨⟨_, ((va_up I 0 (nI (0))), F), rfl, by rw [sp_form, if_neg (fun hno => by obtain ⟨z1, z2, z3, z4, z5, z6, z7, z8, z9, z10, z11, z12, z13, z14⟩ := hno; omega)]; exact ⟨rfl, fun _ => rfl, hM⟩, by rw [ht]; exact hP, va_K.moved hW.alike hK, hD⟩, hS.F ht⟩) hS.2.2 dX5_form_72
  · skip
    refine lv_iload_n hx hb dX5_form_14 rfl (lv_at hl 1 rfl) ?_
    refine lv_bipush (v := (nI (10))) hx hb dX5_form_15 (by decide) ?_
    refine g_icmp_lt (tgt := 71) hx hb dX5_form_17 (by decide) rfl (n_i (by omega)) (fun c_17 => ?_) (fun c_17 => ?_)
    · skip
      refine lv_iconst (v := (zI ((-1)))) hx hb dX5_form_71 (by decide) ?_
      exact W.iret (v := (zI ((-1)))) hx hb hr (fun t ht hW => ⟨⟨_, ((va_up I 0 (nI (0))), F), rfl, by rw [sp_form, if_neg (fun hno => by obtain ⟨z1, z2, z3, z4, z5, z6, z7, z8, z9, z10, z11, z12, z13, z14⟩ := hno; omega)]; exact ⟨rfl, fun _ => rfl, hM⟩, by rw [ht]; exact hP, va_K.moved hW.alike hK, hD⟩, hS.F ht⟩) hS.2.2 dX5_form_72
    · skip
      refine lv_iload_n hx hb dX5_form_20 rfl (lv_at hl 1 rfl) ?_
      refine lv_sipush (v := (nI (200))) hx hb dX5_form_21 (by decide) ?_
      refine g_icmp_gt (tgt := 71) hx hb dX5_form_24 (by decide) rfl (n_i (by omega)) (fun c_24 => ?_) (fun c_24 => ?_)
      · skip
        refine lv_iconst (v := (zI ((-1)))) hx hb dX5_form_71 (by decide) ?_
        exact W.iret (v := (zI ((-1)))) hx hb hr (fun t ht hW => ⟨⟨_, ((va_up I 0 (nI (0))), F), rfl, by rw [sp_form, if_neg (fun hno => by obtain ⟨z1, z2, z3, z4, z5, z6, z7, z8, z9, z10, z11, z12, z13, z14⟩ := hno; omega)]; exact ⟨rfl, fun _ => rfl, hM⟩, by rw [ht]; exact hP, va_K.moved hW.alike hK, hD⟩, hS.F ht⟩) hS.2.2 dX5_form_72
      · skip
        have h_a := ix_n (a := a) (by omega)
        have hl : lv_has ls 5 [(0, .ref h0), (1, .int (nI (ix a))), (2, .int (b)), (3, .int (v)), (4, .int (d))] := by rw [← h_a]; exact hl
        refine lv_iload_n hx hb dX5_form_27 rfl (lv_at hl 1 rfl) ?_
        refine lv_iconst (v := (nI (2))) hx hb dX5_form_28 (by decide) ?_
        refine g_irem_n hx hb dX5_form_29 (by omega) (by omega) (by omega) ?_
        refine g_if_ne (tgt := 71) hx hb dX5_form_30 (by decide) (n_i (by omega)) (fun c_30 => ?_) (fun c_30 => ?_)
        · skip
          refine lv_iconst (v := (zI ((-1)))) hx hb dX5_form_71 (by decide) ?_
          exact W.iret (v := (zI ((-1)))) hx hb hr (fun t ht hW => ⟨⟨_, ((va_up I 0 (nI (0))), F), rfl, by rw [sp_form, if_neg (fun hno => by obtain ⟨z1, z2, z3, z4, z5, z6, z7, z8, z9, z10, z11, z12, z13, z14⟩ := hno; omega)]; exact ⟨rfl, fun _ => rfl, hM⟩, by rw [ht]; exact hP, va_K.moved hW.alike hK, hD⟩, hS.F ht⟩) hS.2.2 dX5_form_72
        · skip
          refine lv_iload_n hx hb dX5_form_33 rfl (lv_at hl 2 rfl) ?_
          refine lv_bipush (v := (nI (100))) hx hb dX5_form_34 (by decide) ?_
          refine g_icmp_lt (tgt := 71) hx hb dX5_form_36 (by decide) rfl (n_i (by omega)) (fun c_36 => ?_) (fun c_36 => ?_)
          · skip
            refine lv_iconst (v := (zI ((-1)))) hx hb dX5_form_71 (by decide) ?_
            exact W.iret (v := (zI ((-1)))) hx hb hr (fun t ht hW => ⟨⟨_, ((va_up I 0 (nI (0))), F), rfl, by rw [sp_form, if_neg (fun hno => by obtain ⟨z1, z2, z3, z4, z5, z6, z7, z8, z9, z10, z11, z12, z13, z14⟩ := hno; omega)]; exact ⟨rfl, fun _ => rfl, hM⟩, by rw [ht]; exact hP, va_K.moved hW.alike hK, hD⟩, hS.F ht⟩) hS.2.2 dX5_form_72
          · skip
            refine lv_iload_n hx hb dX5_form_39 rfl (lv_at hl 2 rfl) ?_
            refine lv_sipush (v := (nI (2000))) hx hb dX5_form_40 (by decide) ?_
            refine g_icmp_gt (tgt := 71) hx hb dX5_form_43 (by decide) rfl (n_i (by omega)) (fun c_43 => ?_) (fun c_43 => ?_)
            · skip
              refine lv_iconst (v := (zI ((-1)))) hx hb dX5_form_71 (by decide) ?_
              exact W.iret (v := (zI ((-1)))) hx hb hr (fun t ht hW => ⟨⟨_, ((va_up I 0 (nI (0))), F), rfl, by rw [sp_form, if_neg (fun hno => by obtain ⟨z1, z2, z3, z4, z5, z6, z7, z8, z9, z10, z11, z12, z13, z14⟩ := hno; omega)]; exact ⟨rfl, fun _ => rfl, hM⟩, by rw [ht]; exact hP, va_K.moved hW.alike hK, hD⟩, hS.F ht⟩) hS.2.2 dX5_form_72
            · skip
              have h_b := ix_n (a := b) (by omega)
              have hl : lv_has ls 5 [(0, .ref h0), (1, .int (nI (ix a))), (2, .int (nI (ix b))), (3, .int (v)), (4, .int (d))] := by rw [← h_b]; exact hl
              refine lv_iload_n hx hb dX5_form_46 rfl (lv_at hl 3 rfl) ?_
              refine lv_bipush (v := (nI (50))) hx hb dX5_form_47 (by decide) ?_
              refine g_icmp_lt (tgt := 71) hx hb dX5_form_49 (by decide) rfl (n_i (by omega)) (fun c_49 => ?_) (fun c_49 => ?_)
              · skip
                refine lv_iconst (v := (zI ((-1)))) hx hb dX5_form_71 (by decide) ?_
                exact W.iret (v := (zI ((-1)))) hx hb hr (fun t ht hW => ⟨⟨_, ((va_up I 0 (nI (0))), F), rfl, by rw [sp_form, if_neg (fun hno => by obtain ⟨z1, z2, z3, z4, z5, z6, z7, z8, z9, z10, z11, z12, z13, z14⟩ := hno; omega)]; exact ⟨rfl, fun _ => rfl, hM⟩, by rw [ht]; exact hP, va_K.moved hW.alike hK, hD⟩, hS.F ht⟩) hS.2.2 dX5_form_72
              · skip
                refine lv_iload_n hx hb dX5_form_52 rfl (lv_at hl 3 rfl) ?_
                refine lv_iload_n hx hb dX5_form_53 rfl (lv_at hl 2 rfl) ?_
                refine g_icmp_gt (tgt := 71) hx hb dX5_form_54 (by decide) rfl (n_i (by omega)) (fun c_54 => ?_) (fun c_54 => ?_)
                · skip
                  refine lv_iconst (v := (zI ((-1)))) hx hb dX5_form_71 (by decide) ?_
                  exact W.iret (v := (zI ((-1)))) hx hb hr (fun t ht hW => ⟨⟨_, ((va_up I 0 (nI (0))), F), rfl, by rw [sp_form, if_neg (fun hno => by obtain ⟨z1, z2, z3, z4, z5, z6, z7, z8, z9, z10, z11, z12, z13, z14⟩ := hno; omega)]; exact ⟨rfl, fun _ => rfl, hM⟩, by rw [ht]; exact hP, va_K.moved hW.alike hK, hD⟩, hS.F ht⟩) hS.2.2 dX5_form_72
                · skip
                  have h_v := ix_n (a := v) (by omega)
                  have hl : lv_has ls 5 [(0, .ref h0), (1, .int (nI (ix a))), (2, .int (nI (ix b))), (3, .int (nI (ix v))), (4, .int (d))] := by rw [← h_v]; exact hl
                  refine lv_iload hx hb dX5_form_57 (lv_at hl 4 rfl) ?_
                  refine lv_bipush (v := (nI (8))) hx hb dX5_form_59 (by decide) ?_
                  refine g_icmp_lt (tgt := 71) hx hb dX5_form_61 (by decide) rfl (n_i (by omega)) (fun c_61 => ?_) (fun c_61 => ?_)
                  · skip
                    refine lv_iconst (v := (zI ((-1)))) hx hb dX5_form_71 (by decide) ?_
                    exact W.iret (v := (zI ((-1)))) hx hb hr (fun t ht hW => ⟨⟨_, ((va_up I 0 (nI (0))), F), rfl, by rw [sp_form, if_neg (fun hno => by obtain ⟨z1, z2, z3, z4, z5, z6, z7, z8, z9, z10, z11, z12, z13, z14⟩ := hno; omega)]; exact ⟨rfl, fun _ => rfl, hM⟩, by rw [ht]; exact hP, va_K.moved hW.alike hK, hD⟩, hS.F ht⟩) hS.2.2 dX5_form_72
                  · skip
                    refine lv_iload hx hb dX5_form_64 (lv_at hl 4 rfl) ?_
                    refine lv_bipush (v := (nI (40))) hx hb dX5_form_66 (by decide) ?_
                    refine g_icmp_le (tgt := 73) hx hb dX5_form_68 (by decide) rfl (n_i (by omega)) (fun c_68 => ?_) (fun c_68 => ?_)
                    · skip
                      have h_d := ix_n (a := d) (by omega)
                      have hl : lv_has ls 5 [(0, .ref h0), (1, .int (nI (ix a))), (2, .int (nI (ix b))), (3, .int (nI (ix v))), (4, .int (nI (ix d)))] := by rw [← h_d]; exact hl
                      exact join_73   (by omega) ls (lv_sub hl [0, 1, 2, 3, 4] rfl)
                    · skip
                      refine lv_iconst (v := (zI ((-1)))) hx hb dX5_form_71 (by decide) ?_
                      exact W.iret (v := (zI ((-1)))) hx hb hr (fun t ht hW => ⟨⟨_, ((va_up I 0 (nI (0))), F), rfl, by rw [sp_form, if_neg (fun hno => by obtain ⟨z1, z2, z3, z4, z5, z6, z7, z8, z9, z10, z11, z12, z13, z14⟩ := hno; omega)]; exact ⟨rfl, fun _ => rfl, hM⟩, by rw [ht]; exact hP, va_K.moved hW.alike hK, hD⟩, hS.F ht⟩) hS.2.2 dX5_form_72
