set_option maxHeartbeats 4000000 in
set_option maxRecDepth 100000 in
theorem c_X5_tell (l : Launch) (D : va_G) (cy : Nat → ClassId) (sz : Nat) (h0 : Nat) (ad : Nat → Nat) (I : Nat → Int32) (F : Nat → Nat → Int32) (Y : YT) (hM : MR I F Y) (hY : WF Y) (a b v : Int32) : Met l yX5_tell wsX5_tell ({ frames := 1, cells := 0, slots := 0, locals := 25 } : Room) (va_Pc [.ref h0, .int (a), .int (b), .int (v)] (wB D cy sz (wM cy h0 ad I F))) (va_Qi (fun (r : Int32) (u : (Nat → Int32) × (Nat → Nat → Int32)) => MP r u (sp_tell Y a b v)) (fun u t => wE D cy (va_A (wM cy h0 ad I F) sz) (wM cy h0 ad u.1 u.2) t) (va_A (wM cy h0 ad I F) sz)) 0 0 (va_A (wM cy h0 ad I F) sz) := by
  refine Met.ofW (cc := cX5_tell) (maxL := 6) (ret := (some .int)) (by decide) rfl ?_
  intro p e s m args below meth c s₁ B hml hv
  obtain ⟨rfl, hsz, hP, hK, hD0⟩ := hv
  have hx := B.exec
  have hb := B.bytes
  have hr := B.returns
  have hts := atoms_spec (ws := wsX5_tell) B.pre
  have hown : s.vm.findClass RX5 = some m.cls := findClass_of_methodNamed B.named
  have hlocks := B.notSynchronized
  subst hsz
  have hD := hD0.self (sz := s.heap.size)
  generalize hAe : va_A (wM cy h0 ad I F) s.heap.size = A at hD ⊢
  have hA : ∀ q : Nat, s.heap.size ≤ q → A q := w_A hAe
  have hS : va_S A s.heap s.heap [] := va_S.rf
  have hl := lv_entry ([.ref h0, .int (a), .int (b), .int (v)]) (n := 6) (Nat.le_of_ble_eq_true rfl)
  rw [lg_entry_eq]
  generalize (lg_sl ([.ref h0, .int (a), .int (b), .int (v)]) ++ List.replicate (6 - (lg_sl ([.ref h0, .int (a), .int (b), .int (v)])).length) Slot.unset).toArray = ls at hl ⊢
  have hl : lv_has ls 6 [(0, .ref h0), (1, .int (a)), (2, .int (b)), (3, .int (v))] := hl
  obtain ⟨hm1, hm2, hm3, hm4, hmF, hmB, hmC, hmR, hmW⟩ := id hM
  obtain ⟨hy0, hyF, hyB, hyC, hyf, hyb, hyc, hyr, hyw⟩ := id hY
  have hxa := ix_m a
  have hxb := ix_m b
  have hxv := ix_m v
  refine lv_aload_n hx hb dX5_tell_0 rfl (lv_at hl 0 rfl) ?_
  refine lv_iconst (v := (nI (0))) hx hb dX5_tell_1 (by decide) ?_
  refine va_put (D := D) (ci := 5) (v := .int (nI (0))) (ty := .int) (C := RX5) (T := TX5) (N := 34) hx hb hts (by decide +kernel) tyX5 tyX5_ok nmX5 hown hK hP hD hS 0 rfl rfl 0 (by decide) (hts (.fieldLink RX5 83 "CaskYardModel" "code" "I") (by decide +kernel)) (fun _ h9 => h9) rfl (by decide +kernel) rfl rfl (Nat.le_of_ble_eq_true rfl) dX5_tell_2 (fun H locs hP hD hS => ?_)
  have hP : va_P D vwCl (wM cy h0 ad (va_up I 0 (nI (0))) F) H := hP
  have hD : va_D A (wM cy h0 ad (va_up I 0 (nI (0))) F) := hD
  refine lv_aload_n hx hb dX5_tell_5 rfl (lv_at hl 0 rfl) ?_
  refine lv_iload_n hx hb dX5_tell_6 rfl (lv_at hl 1 rfl) ?_
  refine vp_callSi (va_Run.run (va_runV (As := [.int (a)]) (rest := []) ⟨hx, hb, hml, hown, hts⟩ (c_X5_isCask l D cy h0 ad (va_up I 0 (nI (0))) F (a) (yC Y) (hm3) (by omega)) (cwV 1 hts gX5_tell_X5_isCask rfl rfl rfl (by decide +kernel) ⟨Nat.le_of_ble_eq_true rfl, Nat.le_of_ble_eq_true rfl⟩) ⟨rB_blind, va_recv hK hP (ci := 5) (q0 := 0) rfl rfl, (rB_pre hP hK)⟩ rfl rfl hl.1 rfl (lv_room (Nat.le_of_ble_eq_true rfl)) dX5_tell_7 ⟨Nat.le_of_ble_eq_true rfl, Nat.le_of_ble_eq_true rfl⟩)) (fun r_7 hr_7 => ?_)
  subst hr_7
  refine g_ifne_b (tgt := 19) hx hb dX5_tell_10 (by decide) (fun c_10 => ?_) (fun c_10 => ?_)
  · skip
    have h_a := ix_n (a := a) (by omega)
    have hic : ix a < yC Y := by omega
    have hcf := (hyc (ix a) hic).1
    have hcs := hyf (ycf Y (ix a)) hcf
    have hlen := (hyc (ix a) hic).2.1
    have hl : lv_has ls 6 [(0, .ref h0), (1, .int (nI (ix a))), (2, .int (b)), (3, .int (v))] := by rw [← h_a]; exact hl
    refine lv_iload_n hx hb dX5_tell_19 rfl (lv_at hl 3 rfl) ?_
    refine g_if_lt (tgt := 29) hx hb dX5_tell_20 (by decide) rfl (fun c_20 => ?_) (fun c_20 => ?_)
    · skip
      refine lv_aload_n hx hb dX5_tell_29 rfl (lv_at hl 0 rfl) ?_
      refine lv_iconst (v := (nI (2))) hx hb dX5_tell_30 (by decide) ?_
      have hFc := w_free hD hS hA
      refine va_calli (va_runV (As := [.int (nI (2))]) (rest := []) ⟨hx, hb, hml, hown, hts⟩ (c_X5_fail l D cy H.size h0 ad (va_up I 0 (nI (0))) F (nI (2))) (cwV 1 hts gX5_tell_X5_fail rfl rfl rfl (by decide +kernel) ⟨Nat.le_of_ble_eq_true rfl, Nat.le_of_ble_eq_true rfl⟩) ⟨wB_blind, va_recv hK hP (ci := 5) (q0 := 0) rfl rfl, wB_pre hP hK hD⟩ rfl rfl hl.1 rfl (lv_room (Nat.le_of_ble_eq_true rfl)) dX5_tell_31 ⟨Nat.le_of_ble_eq_true rfl, Nat.le_of_ble_eq_true rfl⟩) hS (fun q _ h => hFc q h) hFc (fun r_31 u_31 t H locs ht hvm hw_31 hB _ _ hS => ?_)
      obtain ⟨I_31, F_31⟩ := u_31
      obtain ⟨hP1, hK1, hD1⟩ := hB
      rw [ht] at hP1
      dsimp only at hP1 hD1 hw_31
      obtain ⟨hw_31, hu_31⟩ := hw_31
      rw [(Prod.mk.inj hu_31).1, (Prod.mk.inj hu_31).2] at hP1 hD1
      have hP := hP1
      have hD := hD1.weaken (fun _ _ _ h => hFc _ h)
      have hP : va_P D vwCl (wM cy h0 ad (va_up I 0 (nI (2))) F) H := hP
      have hD : va_D A (wM cy h0 ad (va_up I 0 (nI (2))) F) := hD
      refine g_top (y := (nI (0))) (hw_31) ?_
      exact W.iret (v := (nI (0))) hx hb hr (fun t ht hW => ⟨⟨_, ((va_up I 0 (nI (2))), F), rfl, by rw [sp_tell, if_pos (by omega), if_neg (by omega)]; exact MP_t rfl hM, by rw [ht]; exact hP, va_K.moved hW.alike hK, hD⟩, hS.F ht⟩) hS.2.2 dX5_tell_34
    · skip
      refine lv_iload_n hx hb dX5_tell_23 rfl (lv_at hl 3 rfl) ?_
      refine lv_bipush (v := (nI (16))) hx hb dX5_tell_24 (by decide) ?_
      refine g_icmp_le (tgt := 35) hx hb dX5_tell_26 (by decide) rfl (n_i (by omega)) (fun c_26 => ?_) (fun c_26 => ?_)
      · skip
        have h_v := ix_n (a := v) (by omega)
        have hl : lv_has ls 6 [(0, .ref h0), (1, .int (nI (ix a))), (2, .int (b)), (3, .int (nI (ix v)))] := by rw [← h_v]; exact hl
        have join_75 :  (16 ≤ ix v ∨ mayY Y (ix a) (ix v)) → (isIx b (yNow Y + 1)) → ((yE Y (ix a)).length < 40) → ∀ (ls : Array Slot), lv_has ls 6 [(0, .ref h0), (1, .int (nI (ix a))), (2, .int (nI (ix b))), (3, .int (nI (ix v)))] → W p l e (headSpec wsX5_tell ({ frames := 1, cells := 0, slots := 0, locals := 25 } : Room)).room s m ([.ref h0, .int (a), .int (b), .int (v)] : List Value).toArray below meth c H locs 0 0 (MQ below (va_Qi (fun (r : Int32) (u : (Nat → Int32) × (Nat → Nat → Int32)) => MP r u (sp_tell Y a b v)) (fun u t => wE D cy A (wM cy h0 ad u.1 u.2) t) A) ([.ref h0, .int (a), .int (b), .int (v)] : List Value).toArray s 0 0 A) (F0 m 75 ls []) := by
          intro  hmy hb1 hl4 ls hl
          refine lv_bipush (v := (nI (40))) hx hb dX5_tell_75 (by decide) ?_
          refine lv_iload_n hx hb dX5_tell_77 rfl (lv_at hl 1 rfl) ?_
          refine g_imul_n hx hb dX5_tell_78 ?_
          refine lv_aload_n hx hb dX5_tell_79 rfl (lv_at hl 0 rfl) ?_
          refine va_get (D := D) (ci := 5) (v := .ref ((ad 16))) (C := RX5) (T := TX5) (N := 34) hx hb hts (by decide +kernel) hown hK hP 0 rfl rfl 16 (by decide) (hts (.fieldLink RX5 43 "CaskYardModel" "entries" "[I") (by decide +kernel)) (fun _ h9 => h9) rfl dX5_tell_80 ?_
          refine lv_iload_n hx hb dX5_tell_83 rfl (lv_at hl 1 rfl) ?_
          refine g_iald hx hb hK hP 12 0 rfl rfl (ix a) rfl (by omega) (by decide) dX5_tell_84 ?_
          refine g_top (y := (nI ((yE Y (ix a)).length))) (hmC (ix a) (by omega)).2.1 ?_
          refine g_iadd_n hx hb dX5_tell_85 ?_
          refine lv_istore (lv' := [(4, .int (nI ((40 * (ix a)) + ((yE Y (ix a)).length)))), (0, .ref h0), (1, .int (nI (ix a))), (2, .int (nI (ix b))), (3, .int (nI (ix v)))]) hx hb dX5_tell_86 hl (by decide) rfl (fun ls hl => ?_)
          refine lv_aload_n hx hb dX5_tell_88 rfl (lv_at hl 1 rfl) ?_
          refine va_get (D := D) (ci := 5) (v := .ref ((ad 17))) (C := RX5) (T := TX5) (N := 34) hx hb hts (by decide +kernel) hown hK hP 0 rfl rfl 17 (by decide) (hts (.fieldLink RX5 46 "CaskYardModel" "entryDay" "[I") (by decide +kernel)) (fun _ h9 => h9) rfl dX5_tell_89 ?_
          refine lv_iload hx hb dX5_tell_92 (lv_at hl 0 rfl) ?_
          refine lv_iload_n hx hb dX5_tell_94 rfl (lv_at hl 3 rfl) ?_
          refine g_iast hx hb hK hP hD hS 13 0 rfl rfl ((40 * (ix a)) + ((yE Y (ix a)).length)) rfl (by omega) (by decide) dX5_tell_95 (fun H locs hP hD hS => ?_)
          rw [wMs_17] at hP hD
          obtain ⟨F1, hF1⟩ : ∃ G, G = va_up F 17 (upd (F 17) ((40 * (ix a)) + ((yE Y (ix a)).length)) (nI (ix b))) := ⟨_, rfl⟩
          rw [← hF1] at hP hD
          have eF1_17 : F1 17 = upd (F 17) ((40 * (ix a)) + ((yE Y (ix a)).length)) (nI (ix b)) := by rw [hF1]; exact va_up_self _ _ _
          refine lv_aload_n hx hb dX5_tell_96 rfl (lv_at hl 1 rfl) ?_
          refine va_get (D := D) (ci := 5) (v := .ref ((ad 18))) (C := RX5) (T := TX5) (N := 34) hx hb hts (by decide +kernel) hown hK hP 0 rfl rfl 18 (by decide) (hts (.fieldLink RX5 49 "CaskYardModel" "entryKind" "[I") (by decide +kernel)) (fun _ h9 => h9) rfl dX5_tell_97 ?_
          refine lv_iload hx hb dX5_tell_100 (lv_at hl 0 rfl) ?_
          refine lv_iload_n hx hb dX5_tell_102 rfl (lv_at hl 4 rfl) ?_
          refine g_iast hx hb hK hP hD hS 14 0 rfl rfl ((40 * (ix a)) + ((yE Y (ix a)).length)) rfl (by omega) (by decide) dX5_tell_103 (fun H locs hP hD hS => ?_)
          rw [wMs_18] at hP hD
          rw [(show F1 18 = F 18 by rw [hF1, va_up_ne _ _ (by decide)])] at hP hD
          obtain ⟨F2, hF2⟩ : ∃ G, G = va_up F1 18 (upd (F 18) ((40 * (ix a)) + ((yE Y (ix a)).length)) (nI (ix v))) := ⟨_, rfl⟩
          rw [← hF2] at hP hD
          have eF2_18 : F2 18 = upd (F 18) ((40 * (ix a)) + ((yE Y (ix a)).length)) (nI (ix v)) := by rw [hF2]; exact va_up_self _ _ _
          have eF2_17 : F2 17 = upd (F 17) ((40 * (ix a)) + ((yE Y (ix a)).length)) (nI (ix b)) := by rw [hF2, va_up_ne _ _ (by decide)]; exact eF1_17
          refine lv_aload_n hx hb dX5_tell_104 rfl (lv_at hl 1 rfl) ?_
          refine va_get (D := D) (ci := 5) (v := .ref ((ad 19))) (C := RX5) (T := TX5) (N := 34) hx hb hts (by decide +kernel) hown hK hP 0 rfl rfl 19 (by decide) (hts (.fieldLink RX5 52 "CaskYardModel" "entryTold" "[I") (by decide +kernel)) (fun _ h9 => h9) rfl dX5_tell_105 ?_
          refine lv_iload hx hb dX5_tell_108 (lv_at hl 0 rfl) ?_
          refine lv_aload_n hx hb dX5_tell_110 rfl (lv_at hl 1 rfl) ?_
          refine va_get (D := D) (ci := 5) (v := .int (I 4)) (C := RX5) (T := TX5) (N := 34) hx hb hts (by decide +kernel) hown hK hP 0 rfl rfl 4 (by decide) (hts (.fieldLink RX5 117 "CaskYardModel" "now" "I") (by decide +kernel)) (fun _ h9 => h9) rfl dX5_tell_111 ?_
          refine g_top (y := (nI (yNow Y))) hm4 ?_
          refine g_iast hx hb hK hP hD hS 15 0 rfl rfl ((40 * (ix a)) + ((yE Y (ix a)).length)) rfl (by omega) (by decide) dX5_tell_114 (fun H locs hP hD hS => ?_)
          rw [wMs_19] at hP hD
          rw [(show F2 19 = F 19 by rw [hF2, va_up_ne _ _ (by decide), hF1, va_up_ne _ _ (by decide)])] at hP hD
          obtain ⟨F3, hF3⟩ : ∃ G, G = va_up F2 19 (upd (F 19) ((40 * (ix a)) + ((yE Y (ix a)).length)) (nI (yNow Y))) := ⟨_, rfl⟩
          rw [← hF3] at hP hD
          have eF3_19 : F3 19 = upd (F 19) ((40 * (ix a)) + ((yE Y (ix a)).length)) (nI (yNow Y)) := by rw [hF3]; exact va_up_self _ _ _
          have eF3_17 : F3 17 = upd (F 17) ((40 * (ix a)) + ((yE Y (ix a)).length)) (nI (ix b)) := by rw [hF3, va_up_ne _ _ (by decide)]; exact eF2_17
          have eF3_18 : F3 18 = upd (F 18) ((40 * (ix a)) + ((yE Y (ix a)).length)) (nI (ix v)) := by rw [hF3, va_up_ne _ _ (by decide)]; exact eF2_18
          refine lv_aload_n hx hb dX5_tell_115 rfl (lv_at hl 1 rfl) ?_
          refine va_get (D := D) (ci := 5) (v := .ref ((ad 16))) (C := RX5) (T := TX5) (N := 34) hx hb hts (by decide +kernel) hown hK hP 0 rfl rfl 16 (by decide) (hts (.fieldLink RX5 43 "CaskYardModel" "entries" "[I") (by decide +kernel)) (fun _ h9 => h9) rfl dX5_tell_116 ?_
          refine lv_iload_n hx hb dX5_tell_119 rfl (lv_at hl 2 rfl) ?_
          refine lv_dup2_11 hx hb dX5_tell_120 rfl rfl ?_
          refine g_iald hx hb hK hP 12 0 rfl rfl (ix a) rfl (by omega) (by decide) dX5_tell_121 ?_
          refine g_top (y := ((F 16) (ix a))) (congrFun (show F3 16 = F 16 by rw [hF3, va_up_ne _ _ (by decide), hF2, va_up_ne _ _ (by decide), hF1, va_up_ne _ _ (by decide)]) (ix a)) ?_
          refine g_top (y := (nI ((yE Y (ix a)).length))) (hmC (ix a) (by omega)).2.1 ?_
          refine lv_iconst (v := (nI (1))) hx hb dX5_tell_122 (by decide) ?_
          refine g_iadd_n hx hb dX5_tell_123 ?_
          refine g_iast hx hb hK hP hD hS 12 0 rfl rfl (ix a) rfl (by omega) (by decide) dX5_tell_124 (fun H locs hP hD hS => ?_)
          rw [wMs_16] at hP hD
          rw [(show F3 16 = F 16 by rw [hF3, va_up_ne _ _ (by decide), hF2, va_up_ne _ _ (by decide), hF1, va_up_ne _ _ (by decide)])] at hP hD
          obtain ⟨F4, hF4⟩ : ∃ G, G = va_up F3 16 (upd (F 16) (ix a) (nI (((yE Y (ix a)).length) + 1))) := ⟨_, rfl⟩
          rw [← hF4] at hP hD
          have eF4_16 : F4 16 = upd (F 16) (ix a) (nI (((yE Y (ix a)).length) + 1)) := by rw [hF4]; exact va_up_self _ _ _
          have eF4_17 : F4 17 = upd (F 17) ((40 * (ix a)) + ((yE Y (ix a)).length)) (nI (ix b)) := by rw [hF4, va_up_ne _ _ (by decide)]; exact eF3_17
          have eF4_18 : F4 18 = upd (F 18) ((40 * (ix a)) + ((yE Y (ix a)).length)) (nI (ix v)) := by rw [hF4, va_up_ne _ _ (by decide)]; exact eF3_18
          have eF4_19 : F4 19 = upd (F 19) ((40 * (ix a)) + ((yE Y (ix a)).length)) (nI (yNow Y)) := by rw [hF4, va_up_ne _ _ (by decide)]; exact eF3_19
          refine lv_iconst (v := (nI (0))) hx hb dX5_tell_125 (by decide) ?_
          refine lv_istore (lv' := [(5, .int (nI (0))), (4, .int (nI ((40 * (ix a)) + ((yE Y (ix a)).length)))), (0, .ref h0), (1, .int (nI (ix a))), (2, .int (nI (ix b))), (3, .int (nI (ix v)))]) hx hb dX5_tell_126 hl (by decide) rfl (fun ls hl => ?_)
          have loop_128 : ∀ (n_ : Nat) (i : Nat) (g15 : Nat → Int32) (H : Heap) (locs : List Loc), va_P D vwCl (wM cy h0 ad (va_up I 0 (nI (0))) (va_up F4 15 g15)) H → va_D A (wM cy h0 ad (va_up I 0 (nI (0))) (va_up F4 15 g15)) → va_S A s.heap H locs → (i ≤ ys Y (ycf Y (ix a))) → (∀ j, g15 j = if 40 * ix a ≤ j ∧ j < 40 * ix a + i ∧ ix v < 16 then nI (ypa Y (ix a) (j - 40 * ix a) ||| 2 ^ ix v) else F 15 j) → ys Y (ycf Y (ix a)) - i < n_ → ∀ (ls : Array Slot), lv_has ls 6 [(0, .ref h0), (1, .int (nI (ix a))), (2, .int (nI (ix b))), (3, .int (nI (ix v))), (5, .int (nI (i)))] → W p l e (headSpec wsX5_tell ({ frames := 1, cells := 0, slots := 0, locals := 25 } : Room)).room s m ([.ref h0, .int (a), .int (b), .int (v)] : List Value).toArray below meth c H locs 0 0 (MQ below (va_Qi (fun (r : Int32) (u : (Nat → Int32) × (Nat → Nat → Int32)) => MP r u (sp_tell Y a b v)) (fun u t => wE D cy A (wM cy h0 ad u.1 u.2) t) A) ([.ref h0, .int (a), .int (b), .int (v)] : List Value).toArray s 0 0 A) (F0 m 128 ls []) := by
            intro n_
            induction n_ with
            | zero => intro i g15 H locs hP hD hS hi hg hm_; exact absurd hm_ (Nat.not_lt_zero _)
            | succ n_ ih_128 =>
              intro i g15 H locs hP hD hS hi hg hm_ ls hl
              obtain ⟨F5, hF5⟩ : ∃ G, G = va_up F4 15 g15 := ⟨_, rfl⟩
              rw [← hF5] at hP hD
              have eF5_15 : F5 15 = g15 := by rw [hF5]; exact va_up_self _ _ _
              have eF5_17 : F5 17 = upd (F 17) ((40 * (ix a)) + ((yE Y (ix a)).length)) (nI (ix b)) := by rw [hF5, va_up_ne _ _ (by decide)]; exact eF4_17
              have eF5_18 : F5 18 = upd (F 18) ((40 * (ix a)) + ((yE Y (ix a)).length)) (nI (ix v)) := by rw [hF5, va_up_ne _ _ (by decide)]; exact eF4_18
              have eF5_19 : F5 19 = upd (F 19) ((40 * (ix a)) + ((yE Y (ix a)).length)) (nI (yNow Y)) := by rw [hF5, va_up_ne _ _ (by decide)]; exact eF4_19
              have eF5_16 : F5 16 = upd (F 16) (ix a) (nI (((yE Y (ix a)).length) + 1)) := by rw [hF5, va_up_ne _ _ (by decide)]; exact eF4_16
              refine lv_iload hx hb dX5_tell_128 (lv_at hl 4 rfl) ?_
              refine lv_aload_n hx hb dX5_tell_130 rfl (lv_at hl 0 rfl) ?_
              refine va_get (D := D) (ci := 5) (v := .ref ((ad 8))) (C := RX5) (T := TX5) (N := 34) hx hb hts (by decide +kernel) hown hK hP 0 rfl rfl 8 (by decide) (hts (.fieldLink RX5 19 "CaskYardModel" "staves" "[I") (by decide +kernel)) (fun _ h9 => h9) rfl dX5_tell_131 ?_
              refine lv_aload_n hx hb dX5_tell_134 rfl (lv_at hl 0 rfl) ?_
              refine va_get (D := D) (ci := 5) (v := .ref ((ad 13))) (C := RX5) (T := TX5) (N := 34) hx hb hts (by decide +kernel) hown hK hP 0 rfl rfl 13 (by decide) (hts (.fieldLink RX5 34 "CaskYardModel" "caskForm" "[I") (by decide +kernel)) (fun _ h9 => h9) rfl dX5_tell_135 ?_
              refine lv_iload_n hx hb dX5_tell_138 rfl (lv_at hl 1 rfl) ?_
              refine g_iald hx hb hK hP 9 0 rfl rfl (ix a) rfl (by omega) (by decide) dX5_tell_139 ?_
              refine g_top (y := ((F 13) (ix a))) (congrFun (show F5 13 = F 13 by rw [hF5, va_up_ne _ _ (by decide), hF4, va_up_ne _ _ (by decide), hF3, va_up_ne _ _ (by decide), hF2, va_up_ne _ _ (by decide), hF1, va_up_ne _ _ (by decide)]) (ix a)) ?_
              refine g_top (y := (nI (ycf Y (ix a)))) (hmC (ix a) (by omega)).1 ?_
              refine g_iald hx hb hK hP 4 0 rfl rfl (ycf Y (ix a)) rfl (by omega) (by decide) dX5_tell_140 ?_
              refine g_top (y := ((F 8) (ycf Y (ix a)))) (congrFun (show F5 8 = F 8 by rw [hF5, va_up_ne _ _ (by decide), hF4, va_up_ne _ _ (by decide), hF3, va_up_ne _ _ (by decide), hF2, va_up_ne _ _ (by decide), hF1, va_up_ne _ _ (by decide)]) (ycf Y (ix a))) ?_
              refine g_top (y := (nI (ys Y (ycf Y (ix a))))) (hmF (ycf Y (ix a)) (by omega)).2.2.2 ?_
              refine g_icmp_ge (tgt := 174) hx hb dX5_tell_141 (by decide) (n_i (by omega)) (n_i (by omega)) (fun c_141 => ?_) (fun c_141 => ?_)
              · skip
                have hg2 : ∀ j, g15 j = if 40 * ix a ≤ j ∧ j < 40 * ix a + ys Y (ycf Y (ix a)) ∧ ix v < 16 then nI (ypa Y (ix a) (j - 40 * ix a) ||| 2 ^ ix v) else F 15 j := by rw [← show i = ys Y (ycf Y (ix a)) by omega]; exact hg
                refine lv_aload_n hx hb dX5_tell_174 rfl (lv_at hl 0 rfl) ?_
                refine va_get (D := D) (ci := 5) (v := .ref ((ad 16))) (C := RX5) (T := TX5) (N := 34) hx hb hts (by decide +kernel) hown hK hP 0 rfl rfl 16 (by decide) (hts (.fieldLink RX5 43 "CaskYardModel" "entries" "[I") (by decide +kernel)) (fun _ h9 => h9) rfl dX5_tell_175 ?_
                refine lv_iload_n hx hb dX5_tell_178 rfl (lv_at hl 1 rfl) ?_
                refine g_iald hx hb hK hP 12 0 rfl rfl (ix a) rfl (by omega) (by decide) dX5_tell_179 ?_
                refine g_top (y := ((upd (F 16) (ix a) (nI (((yE Y (ix a)).length) + 1))) (ix a))) (congrFun eF5_16 (ix a)) ?_
                refine g_top (y := (nI ((yE Y (ix a)).length + 1))) (upd_s _ _ _) ?_
                exact W.iret (v := (nI ((yE Y (ix a)).length + 1))) hx hb hr (fun t ht hW => ⟨⟨_, ((va_up I 0 (nI (0))), F5), rfl, by rw [hF5, hF4, hF3, hF2, hF1]; rw [sp_tell, if_pos (by omega), if_pos (by omega), if_pos ⟨hb1, by omega, hmy⟩]; exact ⟨rfl, fun _ => rfl, MR_tell hM hY hic hl4 hg2⟩, by rw [ht]; exact hP, va_K.moved hW.alike hK, hD⟩, hS.F ht⟩) hS.2.2 dX5_tell_180
              · skip
                refine lv_iload_n hx hb dX5_tell_144 rfl (lv_at hl 3 rfl) ?_
                refine lv_bipush (v := (nI (16))) hx hb dX5_tell_145 (by decide) ?_
                refine g_icmp_ge (tgt := 174) hx hb dX5_tell_147 (by decide) (n_i (by omega)) (n_i (by omega)) (fun c_147 => ?_) (fun c_147 => ?_)
                · skip
                  have hg2 : ∀ j, g15 j = if 40 * ix a ≤ j ∧ j < 40 * ix a + ys Y (ycf Y (ix a)) ∧ ix v < 16 then nI (ypa Y (ix a) (j - 40 * ix a) ||| 2 ^ ix v) else F 15 j := fun j => (hg j).trans ((if_neg (by omega)).trans (if_neg (by omega)).symm)
                  refine lv_aload_n hx hb dX5_tell_174 rfl (lv_at hl 0 rfl) ?_
                  refine va_get (D := D) (ci := 5) (v := .ref ((ad 16))) (C := RX5) (T := TX5) (N := 34) hx hb hts (by decide +kernel) hown hK hP 0 rfl rfl 16 (by decide) (hts (.fieldLink RX5 43 "CaskYardModel" "entries" "[I") (by decide +kernel)) (fun _ h9 => h9) rfl dX5_tell_175 ?_
                  refine lv_iload_n hx hb dX5_tell_178 rfl (lv_at hl 1 rfl) ?_
                  refine g_iald hx hb hK hP 12 0 rfl rfl (ix a) rfl (by omega) (by decide) dX5_tell_179 ?_
                  refine g_top (y := ((upd (F 16) (ix a) (nI (((yE Y (ix a)).length) + 1))) (ix a))) (congrFun eF5_16 (ix a)) ?_
                  refine g_top (y := (nI ((yE Y (ix a)).length + 1))) (upd_s _ _ _) ?_
                  exact W.iret (v := (nI ((yE Y (ix a)).length + 1))) hx hb hr (fun t ht hW => ⟨⟨_, ((va_up I 0 (nI (0))), F5), rfl, by rw [hF5, hF4, hF3, hF2, hF1]; rw [sp_tell, if_pos (by omega), if_pos (by omega), if_pos ⟨hb1, by omega, hmy⟩]; exact ⟨rfl, fun _ => rfl, MR_tell hM hY hic hl4 hg2⟩, by rw [ht]; exact hP, va_K.moved hW.alike hK, hD⟩, hS.F ht⟩) hS.2.2 dX5_tell_180
                · skip
                  refine lv_aload_n hx hb dX5_tell_150 rfl (lv_at hl 0 rfl) ?_
                  refine va_get (D := D) (ci := 5) (v := .ref ((ad 15))) (C := RX5) (T := TX5) (N := 34) hx hb hts (by decide +kernel) hown hK hP 0 rfl rfl 15 (by decide) (hts (.fieldLink RX5 40 "CaskYardModel" "past" "[I") (by decide +kernel)) (fun _ h9 => h9) rfl dX5_tell_151 ?_
                  refine lv_bipush (v := (nI (40))) hx hb dX5_tell_154 (by decide) ?_
                  refine lv_iload_n hx hb dX5_tell_156 rfl (lv_at hl 1 rfl) ?_
                  refine g_imul_n hx hb dX5_tell_157 ?_
                  refine lv_iload hx hb dX5_tell_158 (lv_at hl 4 rfl) ?_
                  refine g_iadd_n hx hb dX5_tell_160 ?_
                  refine lv_dup2_11 hx hb dX5_tell_161 rfl rfl ?_
                  refine g_iald hx hb hK hP 11 0 rfl rfl ((40 * (ix a)) + i) rfl (by omega) (by decide) dX5_tell_162 ?_
                  refine g_top (y := ((g15) ((40 * (ix a)) + i))) (congrFun eF5_15 ((40 * (ix a)) + i)) ?_
                  refine g_top (y := (nI (ypa Y (ix a) i))) ((hg _).trans ((if_neg (by omega)).trans ((hmC (ix a) hic).2.2.2 i (by omega)).2)) ?_
                  refine lv_iconst (v := (nI (1))) hx hb dX5_tell_163 (by decide) ?_
                  refine lv_iload_n hx hb dX5_tell_164 rfl (lv_at hl 3 rfl) ?_
                  refine lv_ishl hx hb dX5_tell_165 ?_
                  refine g_top (y := (nI (2 ^ ix v))) (n_shl1 (by omega)) ?_
                  refine lv_ior hx hb dX5_tell_166 ?_
                  refine g_top (y := (nI (ypa Y (ix a) i ||| 2 ^ ix v))) (n_or _ _) ?_
                  refine g_iast hx hb hK hP hD hS 11 0 rfl rfl ((40 * (ix a)) + i) rfl (by omega) (by decide) dX5_tell_167 (fun H locs hP hD hS => ?_)
                  rw [wMs_15] at hP hD
                  rw [eF5_15] at hP hD
                  obtain ⟨F6, hF6⟩ : ∃ G, G = va_up F5 15 (upd (g15) ((40 * (ix a)) + i) (nI (ypa Y (ix a) i ||| 2 ^ ix v))) := ⟨_, rfl⟩
                  rw [← hF6] at hP hD
                  have eF6_15 : F6 15 = upd (g15) ((40 * (ix a)) + i) (nI (ypa Y (ix a) i ||| 2 ^ ix v)) := by rw [hF6]; exact va_up_self _ _ _
                  have eF6_17 : F6 17 = upd (F 17) ((40 * (ix a)) + ((yE Y (ix a)).length)) (nI (ix b)) := by rw [hF6, va_up_ne _ _ (by decide)]; exact eF5_17
                  have eF6_18 : F6 18 = upd (F 18) ((40 * (ix a)) + ((yE Y (ix a)).length)) (nI (ix v)) := by rw [hF6, va_up_ne _ _ (by decide)]; exact eF5_18
                  have eF6_19 : F6 19 = upd (F 19) ((40 * (ix a)) + ((yE Y (ix a)).length)) (nI (yNow Y)) := by rw [hF6, va_up_ne _ _ (by decide)]; exact eF5_19
                  have eF6_16 : F6 16 = upd (F 16) (ix a) (nI (((yE Y (ix a)).length) + 1)) := by rw [hF6, va_up_ne _ _ (by decide)]; exact eF5_16
                  refine lv_iinc (v := (nI (i + 1))) (lv' := [(5, .int (nI (i + 1))), (0, .ref h0), (1, .int (nI (ix a))), (2, .int (nI (ix b))), (3, .int (nI (ix v)))]) hx hb dX5_tell_168 hl (k := 4) rfl (nI_add _ _) (by decide) rfl (fun ls hl => ?_)
                  refine lv_goto (tgt := 128) hx hb dX5_tell_171 (by decide) ?_
                  have hFe : F6 = (va_up F4 15 (upd (g15) ((40 * (ix a)) + i) (nI (ypa Y (ix a) i ||| 2 ^ ix v)))) := fe1 eF6_15 (fun j_ a0_ => by rw [hF6, va_up_ne _ _ (by assumption), hF5, va_up_ne _ _ (by assumption)])
                  rw [hFe] at hP hD
                  exact ih_128 (i + 1) (upd (g15) ((40 * (ix a)) + i) (nI (ypa Y (ix a) i ||| 2 ^ ix v))) H locs hP hD hS (by omega) (tell_step hg (by omega)) (by omega) ls (lv_sub hl [1, 2, 3, 4, 0] rfl)
          have hFe : F4 = (va_up F4 15 (F 15)) := fe1 (show F4 15 = F 15 by rw [hF4, va_up_ne _ _ (by decide), hF3, va_up_ne _ _ (by decide), hF2, va_up_ne _ _ (by decide), hF1, va_up_ne _ _ (by decide)]) (fun j_ a0_ => rfl)
          rw [hFe] at hP hD
          exact loop_128 _ (0) (F 15) H locs hP hD hS (by omega) (fun j => (if_neg (by omega)).symm) (Nat.lt_succ_self _) ls (lv_sub hl [2, 3, 4, 5, 0] rfl)
        refine lv_iload_n hx hb dX5_tell_35 rfl (lv_at hl 2 rfl) ?_
        refine g_if_lt (tgt := 73) hx hb dX5_tell_36 (by decide) rfl (fun c_36 => ?_) (fun c_36 => ?_)
        · skip
          refine lv_iconst (v := (zI ((-1)))) hx hb dX5_tell_73 (by decide) ?_
          exact W.iret (v := (zI ((-1)))) hx hb hr (fun t ht hW => ⟨⟨_, ((va_up I 0 (nI (0))), F), rfl, by rw [sp_tell, if_pos (by omega), if_pos (by omega), if_neg (fun h => by first | exact hmn h.2.2 | (obtain ⟨z1, z2, z3⟩ := h; omega))]; exact ⟨rfl, fun _ => rfl, hM⟩, by rw [ht]; exact hP, va_K.moved hW.alike hK, hD⟩, hS.F ht⟩) hS.2.2 dX5_tell_74
        · skip
          refine lv_iload_n hx hb dX5_tell_39 rfl (lv_at hl 2 rfl) ?_
          refine lv_aload_n hx hb dX5_tell_40 rfl (lv_at hl 0 rfl) ?_
          refine va_get (D := D) (ci := 5) (v := .int (I 4)) (C := RX5) (T := TX5) (N := 34) hx hb hts (by decide +kernel) hown hK hP 0 rfl rfl 4 (by decide) (hts (.fieldLink RX5 117 "CaskYardModel" "now" "I") (by decide +kernel)) (fun _ h9 => h9) rfl dX5_tell_41 ?_
          refine g_top (y := (nI (yNow Y))) hm4 ?_
          refine g_icmp_gt (tgt := 73) hx hb dX5_tell_44 (by decide) rfl (n_i (by omega)) (fun c_44 => ?_) (fun c_44 => ?_)
          · skip
            refine lv_iconst (v := (zI ((-1)))) hx hb dX5_tell_73 (by decide) ?_
            exact W.iret (v := (zI ((-1)))) hx hb hr (fun t ht hW => ⟨⟨_, ((va_up I 0 (nI (0))), F), rfl, by rw [sp_tell, if_pos (by omega), if_pos (by omega), if_neg (fun h => by first | exact hmn h.2.2 | (obtain ⟨z1, z2, z3⟩ := h; omega))]; exact ⟨rfl, fun _ => rfl, hM⟩, by rw [ht]; exact hP, va_K.moved hW.alike hK, hD⟩, hS.F ht⟩) hS.2.2 dX5_tell_74
          · skip
            have h_b := ix_n (a := b) (by omega)
            have hl : lv_has ls 6 [(0, .ref h0), (1, .int (nI (ix a))), (2, .int (nI (ix b))), (3, .int (nI (ix v)))] := by rw [← h_b]; exact hl
            refine lv_aload_n hx hb dX5_tell_47 rfl (lv_at hl 0 rfl) ?_
            refine va_get (D := D) (ci := 5) (v := .ref ((ad 16))) (C := RX5) (T := TX5) (N := 34) hx hb hts (by decide +kernel) hown hK hP 0 rfl rfl 16 (by decide) (hts (.fieldLink RX5 43 "CaskYardModel" "entries" "[I") (by decide +kernel)) (fun _ h9 => h9) rfl dX5_tell_48 ?_
            refine lv_iload_n hx hb dX5_tell_51 rfl (lv_at hl 1 rfl) ?_
            refine g_iald hx hb hK hP 12 0 rfl rfl (ix a) rfl (by omega) (by decide) dX5_tell_52 ?_
            refine g_top (y := (nI ((yE Y (ix a)).length))) (hmC (ix a) (by omega)).2.1 ?_
            refine lv_bipush (v := (nI (40))) hx hb dX5_tell_53 (by decide) ?_
            refine g_icmp_eq (tgt := 73) hx hb dX5_tell_55 (by decide) (n_i (by omega)) (n_i (by omega)) (fun c_55 => ?_) (fun c_55 => ?_)
            · skip
              refine lv_iconst (v := (zI ((-1)))) hx hb dX5_tell_73 (by decide) ?_
              exact W.iret (v := (zI ((-1)))) hx hb hr (fun t ht hW => ⟨⟨_, ((va_up I 0 (nI (0))), F), rfl, by rw [sp_tell, if_pos (by omega), if_pos (by omega), if_neg (fun h => by first | exact hmn h.2.2 | (obtain ⟨z1, z2, z3⟩ := h; omega))]; exact ⟨rfl, fun _ => rfl, hM⟩, by rw [ht]; exact hP, va_K.moved hW.alike hK, hD⟩, hS.F ht⟩) hS.2.2 dX5_tell_74
            · skip
              refine lv_iload_n hx hb dX5_tell_58 rfl (lv_at hl 3 rfl) ?_
              refine lv_bipush (v := (nI (16))) hx hb dX5_tell_59 (by decide) ?_
              refine g_icmp_ge (tgt := 75) hx hb dX5_tell_61 (by decide) (n_i (by omega)) (n_i (by omega)) (fun c_61 => ?_) (fun c_61 => ?_)
              · skip
                have hmy : 16 ≤ ix v ∨ mayY Y (ix a) (ix v) := Or.inl (by omega)
                exact join_75   hmy (by omega) (by omega) ls (lv_sub hl [0, 1, 2, 3] rfl)
              · skip
                refine lv_aload_n hx hb dX5_tell_64 rfl (lv_at hl 0 rfl) ?_
                refine lv_iload_n hx hb dX5_tell_65 rfl (lv_at hl 1 rfl) ?_
                refine lv_iload_n hx hb dX5_tell_66 rfl (lv_at hl 3 rfl) ?_
                refine vp_callSi (va_Run.run (va_runV (As := [.int (nI (ix a)), .int (nI (ix v))]) (rest := []) ⟨hx, hb, hml, hown, hts⟩ (c_X5_mayIn l D cy h0 ad (va_up I 0 (nI (0))) F (Y) (hM) (hY) (ix a) (ix v) (hic) (by omega)) (cwV 2 hts gX5_tell_X5_mayIn rfl rfl rfl (by decide +kernel) ⟨Nat.le_of_ble_eq_true rfl, Nat.le_of_ble_eq_true rfl⟩) ⟨rB_blind, va_recv hK hP (ci := 5) (q0 := 0) rfl rfl, (rB_pre hP hK)⟩ rfl rfl hl.1 rfl (lv_room (Nat.le_of_ble_eq_true rfl)) dX5_tell_67 ⟨Nat.le_of_ble_eq_true rfl, Nat.le_of_ble_eq_true rfl⟩)) (fun r_67 hr_67 => ?_)
                subst hr_67
                refine g_ifne_b (tgt := 75) hx hb dX5_tell_70 (by decide) (fun c_70 => ?_) (fun c_70 => ?_)
                · skip
                  have hmy : 16 ≤ ix v ∨ mayY Y (ix a) (ix v) := Or.inr c_70
                  exact join_75   hmy (by omega) (by omega) ls (lv_sub hl [0, 1, 2, 3] rfl)
                · skip
                  have hmn : ¬ (16 ≤ ix v ∨ mayY Y (ix a) (ix v)) := fun h => h.elim (fun h => by omega) c_70
                  refine lv_iconst (v := (zI ((-1)))) hx hb dX5_tell_73 (by decide) ?_
                  exact W.iret (v := (zI ((-1)))) hx hb hr (fun t ht hW => ⟨⟨_, ((va_up I 0 (nI (0))), F), rfl, by rw [sp_tell, if_pos (by omega), if_pos (by omega), if_neg (fun h => by first | exact hmn h.2.2 | (obtain ⟨z1, z2, z3⟩ := h; omega))]; exact ⟨rfl, fun _ => rfl, hM⟩, by rw [ht]; exact hP, va_K.moved hW.alike hK, hD⟩, hS.F ht⟩) hS.2.2 dX5_tell_74
      · skip
        refine lv_aload_n hx hb dX5_tell_29 rfl (lv_at hl 0 rfl) ?_
        refine lv_iconst (v := (nI (2))) hx hb dX5_tell_30 (by decide) ?_
        have hFc := w_free hD hS hA
        refine va_calli (va_runV (As := [.int (nI (2))]) (rest := []) ⟨hx, hb, hml, hown, hts⟩ (c_X5_fail l D cy H.size h0 ad (va_up I 0 (nI (0))) F (nI (2))) (cwV 1 hts gX5_tell_X5_fail rfl rfl rfl (by decide +kernel) ⟨Nat.le_of_ble_eq_true rfl, Nat.le_of_ble_eq_true rfl⟩) ⟨wB_blind, va_recv hK hP (ci := 5) (q0 := 0) rfl rfl, wB_pre hP hK hD⟩ rfl rfl hl.1 rfl (lv_room (Nat.le_of_ble_eq_true rfl)) dX5_tell_31 ⟨Nat.le_of_ble_eq_true rfl, Nat.le_of_ble_eq_true rfl⟩) hS (fun q _ h => hFc q h) hFc (fun r_31 u_31 t H locs ht hvm hw_31 hB _ _ hS => ?_)
        obtain ⟨I_31, F_31⟩ := u_31
        obtain ⟨hP1, hK1, hD1⟩ := hB
        rw [ht] at hP1
        dsimp only at hP1 hD1 hw_31
        obtain ⟨hw_31, hu_31⟩ := hw_31
        rw [(Prod.mk.inj hu_31).1, (Prod.mk.inj hu_31).2] at hP1 hD1
        have hP := hP1
        have hD := hD1.weaken (fun _ _ _ h => hFc _ h)
        have hP : va_P D vwCl (wM cy h0 ad (va_up I 0 (nI (2))) F) H := hP
        have hD : va_D A (wM cy h0 ad (va_up I 0 (nI (2))) F) := hD
        refine g_top (y := (nI (0))) (hw_31) ?_
        exact W.iret (v := (nI (0))) hx hb hr (fun t ht hW => ⟨⟨_, ((va_up I 0 (nI (2))), F), rfl, by rw [sp_tell, if_pos (by omega), if_neg (by omega)]; exact MP_t rfl hM, by rw [ht]; exact hP, va_K.moved hW.alike hK, hD⟩, hS.F ht⟩) hS.2.2 dX5_tell_34
  · skip
    refine lv_aload_n hx hb dX5_tell_13 rfl (lv_at hl 0 rfl) ?_
    refine lv_iconst (v := (nI (1))) hx hb dX5_tell_14 (by decide) ?_
    have hFc := w_free hD hS hA
    refine va_calli (va_runV (As := [.int (nI (1))]) (rest := []) ⟨hx, hb, hml, hown, hts⟩ (c_X5_fail l D cy H.size h0 ad (va_up I 0 (nI (0))) F (nI (1))) (cwV 1 hts gX5_tell_X5_fail rfl rfl rfl (by decide +kernel) ⟨Nat.le_of_ble_eq_true rfl, Nat.le_of_ble_eq_true rfl⟩) ⟨wB_blind, va_recv hK hP (ci := 5) (q0 := 0) rfl rfl, wB_pre hP hK hD⟩ rfl rfl hl.1 rfl (lv_room (Nat.le_of_ble_eq_true rfl)) dX5_tell_15 ⟨Nat.le_of_ble_eq_true rfl, Nat.le_of_ble_eq_true rfl⟩) hS (fun q _ h => hFc q h) hFc (fun r_15 u_15 t H locs ht hvm hw_15 hB _ _ hS => ?_)
    obtain ⟨I_15, F_15⟩ := u_15
    obtain ⟨hP1, hK1, hD1⟩ := hB
    rw [ht] at hP1
    dsimp only at hP1 hD1 hw_15
    obtain ⟨hw_15, hu_15⟩ := hw_15
    rw [(Prod.mk.inj hu_15).1, (Prod.mk.inj hu_15).2] at hP1 hD1
    have hP := hP1
    have hD := hD1.weaken (fun _ _ _ h => hFc _ h)
    have hP : va_P D vwCl (wM cy h0 ad (va_up I 0 (nI (1))) F) H := hP
    have hD : va_D A (wM cy h0 ad (va_up I 0 (nI (1))) F) := hD
    refine g_top (y := (nI (0))) (hw_15) ?_
    exact W.iret (v := (nI (0))) hx hb hr (fun t ht hW => ⟨⟨_, ((va_up I 0 (nI (1))), F), rfl, by rw [sp_tell, if_neg (by omega)]; exact MP_t rfl hM, by rw [ht]; exact hP, va_K.moved hW.alike hK, hD⟩, hS.F ht⟩) hS.2.2 dX5_tell_18
set_option maxHeartbeats 4000000 in
set_option maxRecDepth 100000 in
theorem c_X5_swap (l : Launch) (D : va_G) (cy : Nat → ClassId) (sz : Nat) (h0 : Nat) (ad : Nat → Nat) (I : Nat → Int32) (F : Nat → Nat → Int32) (Y : YT) (hM : MR I F Y) (hY : WF Y) (a b v d : Int32) : Met l yX5_swap wsX5_swap ({ frames := 3, cells := 0, slots := 0, locals := 69 } : Room) (va_Pc [.ref h0, .int (a), .int (b), .int (v), .int (d)] (wB D cy sz (wM cy h0 ad I F))) (va_Qi (fun (r : Int32) (u : (Nat → Int32) × (Nat → Nat → Int32)) => MP r u (sp_swap Y a b v d)) (fun u t => wE D cy (va_A (wM cy h0 ad I F) sz) (wM cy h0 ad u.1 u.2) t) (va_A (wM cy h0 ad I F) sz)) 0 0 (va_A (wM cy h0 ad I F) sz) := by
  refine Met.ofW (cc := cX5_swap) (maxL := 9) (ret := (some .boolean)) (by decide) rfl ?_
  intro p e s m args below meth c s₁ B hml hv
  obtain ⟨rfl, hsz, hP, hK, hD0⟩ := hv
  have hx := B.exec
  have hb := B.bytes
  have hr := B.returns
  have hts := atoms_spec (ws := wsX5_swap) B.pre
  have hown : s.vm.findClass RX5 = some m.cls := findClass_of_methodNamed B.named
  have hlocks := B.notSynchronized
  subst hsz
  have hD := hD0.self (sz := s.heap.size)
  generalize hAe : va_A (wM cy h0 ad I F) s.heap.size = A at hD ⊢
  have hA : ∀ q : Nat, s.heap.size ≤ q → A q := w_A hAe
  have hS : va_S A s.heap s.heap [] := va_S.rf
  have hl := lv_entry ([.ref h0, .int (a), .int (b), .int (v), .int (d)]) (n := 9) (Nat.le_of_ble_eq_true rfl)
  rw [lg_entry_eq]
  generalize (lg_sl ([.ref h0, .int (a), .int (b), .int (v), .int (d)]) ++ List.replicate (9 - (lg_sl ([.ref h0, .int (a), .int (b), .int (v), .int (d)])).length) Slot.unset).toArray = ls at hl ⊢
  have hl : lv_has ls 9 [(0, .ref h0), (1, .int (a)), (2, .int (b)), (3, .int (v)), (4, .int (d))] := hl
  obtain ⟨hm1, hm2, hm3, hm4, hmF, hmB, hmC, hmR, hmW⟩ := id hM
  obtain ⟨hy0, hyF, hyB, hyC, hyf, hyb, hyc, hyr, hyw⟩ := id hY
  have hxa := ix_m a
  have hxb := ix_m b
  have hxv := ix_m v
  have hxd := ix_m d
  refine lv_aload_n hx hb dX5_swap_0 rfl (lv_at hl 0 rfl) ?_
  refine lv_iconst (v := (nI (0))) hx hb dX5_swap_1 (by decide) ?_
  refine va_put (D := D) (ci := 5) (v := .int (nI (0))) (ty := .int) (C := RX5) (T := TX5) (N := 34) hx hb hts (by decide +kernel) tyX5 tyX5_ok nmX5 hown hK hP hD hS 0 rfl rfl 0 (by decide) (hts (.fieldLink RX5 83 "CaskYardModel" "code" "I") (by decide +kernel)) (fun _ h9 => h9) rfl (by decide +kernel) rfl rfl (Nat.le_of_ble_eq_true rfl) dX5_swap_2 (fun H locs hP hD hS => ?_)
  have hP : va_P D vwCl (wM cy h0 ad (va_up I 0 (nI (0))) F) H := hP
  have hD : va_D A (wM cy h0 ad (va_up I 0 (nI (0))) F) := hD
  refine lv_aload_n hx hb dX5_swap_5 rfl (lv_at hl 0 rfl) ?_
  refine lv_iload_n hx hb dX5_swap_6 rfl (lv_at hl 1 rfl) ?_
  refine lv_iload_n hx hb dX5_swap_7 rfl (lv_at hl 2 rfl) ?_
  refine vp_callSi (va_Run.run (va_runV (As := [.int (a), .int (b)]) (rest := []) ⟨hx, hb, hml, hown, hts⟩ (c_X5_isStave l D cy h0 ad (va_up I 0 (nI (0))) F (Y) (hM) (hY) (a) (b)) (cwV 2 hts gX5_swap_X5_isStave rfl rfl rfl (by decide +kernel) ⟨Nat.le_of_ble_eq_true rfl, Nat.le_of_ble_eq_true rfl⟩) ⟨rB_blind, va_recv hK hP (ci := 5) (q0 := 0) rfl rfl, (rB_pre hP hK)⟩ rfl rfl hl.1 rfl (lv_room (Nat.le_of_ble_eq_true rfl)) dX5_swap_8 ⟨Nat.le_of_ble_eq_true rfl, Nat.le_of_ble_eq_true rfl⟩)) (fun r_8 hr_8 => ?_)
  subst hr_8
  refine g_ifeq_b (tgt := 24) hx hb dX5_swap_11 (by decide) (fun c_11 => ?_) (fun c_11 => ?_)
  · skip
    refine lv_aload_n hx hb dX5_swap_24 rfl (lv_at hl 0 rfl) ?_
    refine lv_iconst (v := (nI (1))) hx hb dX5_swap_25 (by decide) ?_
    have hFc := w_free hD hS hA
    refine va_calli (va_runV (As := [.int (nI (1))]) (rest := []) ⟨hx, hb, hml, hown, hts⟩ (c_X5_fail l D cy H.size h0 ad (va_up I 0 (nI (0))) F (nI (1))) (cwV 1 hts gX5_swap_X5_fail rfl rfl rfl (by decide +kernel) ⟨Nat.le_of_ble_eq_true rfl, Nat.le_of_ble_eq_true rfl⟩) ⟨wB_blind, va_recv hK hP (ci := 5) (q0 := 0) rfl rfl, wB_pre hP hK hD⟩ rfl rfl hl.1 rfl (lv_room (Nat.le_of_ble_eq_true rfl)) dX5_swap_26 ⟨Nat.le_of_ble_eq_true rfl, Nat.le_of_ble_eq_true rfl⟩) hS (fun q _ h => hFc q h) hFc (fun r_26 u_26 t H locs ht hvm hw_26 hB _ _ hS => ?_)
    obtain ⟨I_26, F_26⟩ := u_26
    obtain ⟨hP1, hK1, hD1⟩ := hB
    rw [ht] at hP1
    dsimp only at hP1 hD1 hw_26
    obtain ⟨hw_26, hu_26⟩ := hw_26
    rw [(Prod.mk.inj hu_26).1, (Prod.mk.inj hu_26).2] at hP1 hD1
    have hP := hP1
    have hD := hD1.weaken (fun _ _ _ h => hFc _ h)
    have hP : va_P D vwCl (wM cy h0 ad (va_up I 0 (nI (1))) F) H := hP
    have hD : va_D A (wM cy h0 ad (va_up I 0 (nI (1))) F) := hD
    refine g_top (y := (nI (0))) (hw_26) ?_
    refine lv_pop hx hb dX5_swap_29 rfl ?_
    refine lv_iconst (v := (nI (0))) hx hb dX5_swap_30 (by decide) ?_
    exact W.zret (v := (nI (0))) hx hb hr (by decide) (fun t ht hW => ⟨⟨_, ((va_up I 0 (nI (1))), F), rfl, by rw [sp_swap, if_neg (by omega)]; exact MP_t rfl hM, by rw [ht]; exact hP, va_K.moved hW.alike hK, hD⟩, hS.F ht⟩) hS.2.2 dX5_swap_31
  · skip
    refine lv_aload_n hx hb dX5_swap_14 rfl (lv_at hl 0 rfl) ?_
    refine lv_iload_n hx hb dX5_swap_15 rfl (lv_at hl 3 rfl) ?_
    refine lv_iload hx hb dX5_swap_16 (lv_at hl 4 rfl) ?_
    refine vp_callSi (va_Run.run (va_runV (As := [.int (v), .int (d)]) (rest := []) ⟨hx, hb, hml, hown, hts⟩ (c_X5_isStave l D cy h0 ad (va_up I 0 (nI (0))) F (Y) (hM) (hY) (v) (d)) (cwV 2 hts gX5_swap_X5_isStave rfl rfl rfl (by decide +kernel) ⟨Nat.le_of_ble_eq_true rfl, Nat.le_of_ble_eq_true rfl⟩) ⟨rB_blind, va_recv hK hP (ci := 5) (q0 := 0) rfl rfl, (rB_pre hP hK)⟩ rfl rfl hl.1 rfl (lv_room (Nat.le_of_ble_eq_true rfl)) dX5_swap_18 ⟨Nat.le_of_ble_eq_true rfl, Nat.le_of_ble_eq_true rfl⟩)) (fun r_18 hr_18 => ?_)
    subst hr_18
    refine g_ifne_b (tgt := 32) hx hb dX5_swap_21 (by decide) (fun c_21 => ?_) (fun c_21 => ?_)
    · skip
      have c21a := c_11.1
      have c21b := c_11.2
      have c21c := c_21.1
      have c21d := c_21.2
      have h_a := ix_n (a := a) (by omega)
      have hic : ix a < yC Y := by omega
      have hcf := (hyc (ix a) hic).1
      have hcs := hyf (ycf Y (ix a)) hcf
      have hl : lv_has ls 9 [(0, .ref h0), (1, .int (nI (ix a))), (2, .int (b)), (3, .int (v)), (4, .int (d))] := by rw [← h_a]; exact hl
      have h_v := ix_n (a := v) (by omega)
      have hid : ix v < yC Y := by omega
      have hdf := (hyc (ix v) hid).1
      have hds := hyf (ycf Y (ix v)) hdf
      have hl : lv_has ls 9 [(0, .ref h0), (1, .int (nI (ix a))), (2, .int (b)), (3, .int (nI (ix v))), (4, .int (d))] := by rw [← h_v]; exact hl
      have h_b := ix_n (a := b) (by omega)
      have hl : lv_has ls 9 [(0, .ref h0), (1, .int (nI (ix a))), (2, .int (nI (ix b))), (3, .int (nI (ix v))), (4, .int (d))] := by rw [← h_b]; exact hl
      have h_d := ix_n (a := d) (by omega)
      have hl : lv_has ls 9 [(0, .ref h0), (1, .int (nI (ix a))), (2, .int (nI (ix b))), (3, .int (nI (ix v))), (4, .int (nI (ix d)))] := by rw [← h_d]; exact hl
      refine lv_iload_n hx hb dX5_swap_32 rfl (lv_at hl 1 rfl) ?_
      refine lv_iload_n hx hb dX5_swap_33 rfl (lv_at hl 3 rfl) ?_
      refine g_icmp_eq (tgt := 53) hx hb dX5_swap_34 (by decide) (n_i (by omega)) (n_i (by omega)) (fun c_34 => ?_) (fun c_34 => ?_)
      · skip
        have hacz : ix a = ix v := by omega
        refine lv_iconst (v := (nI (0))) hx hb dX5_swap_53 (by decide) ?_
        exact W.zret (v := (nI (0))) hx hb hr (by decide) (fun t ht hW => ⟨⟨_, ((va_up I 0 (nI (0))), F), rfl, by rw [sp_swap, if_pos (by omega), if_neg (fun h => by obtain ⟨z1, z2⟩ := h; omega)]; exact ⟨rfl, fun _ => rfl, hM⟩, by rw [ht]; exact hP, va_K.moved hW.alike hK, hD⟩, hS.F ht⟩) hS.2.2 dX5_swap_54
      · skip
        refine lv_aload_n hx hb dX5_swap_37 rfl (lv_at hl 0 rfl) ?_
        refine lv_iload_n hx hb dX5_swap_38 rfl (lv_at hl 1 rfl) ?_
        refine lv_iload_n hx hb dX5_swap_39 rfl (lv_at hl 2 rfl) ?_
        refine vp_callSi (va_Run.run (va_runV (As := [.int (nI (ix a)), .int (nI (ix b))]) (rest := []) ⟨hx, hb, hml, hown, hts⟩ (c_X5_middle l D cy h0 ad (va_up I 0 (nI (0))) F (Y) (hM) (hY) (ix a) (ix b) (hic) (by omega)) (cwV 2 hts gX5_swap_X5_middle rfl rfl rfl (by decide +kernel) ⟨Nat.le_of_ble_eq_true rfl, Nat.le_of_ble_eq_true rfl⟩) ⟨rB_blind, va_recv hK hP (ci := 5) (q0 := 0) rfl rfl, (rB_pre hP hK)⟩ rfl rfl hl.1 rfl (lv_room (Nat.le_of_ble_eq_true rfl)) dX5_swap_40 ⟨Nat.le_of_ble_eq_true rfl, Nat.le_of_ble_eq_true rfl⟩)) (fun r_40 hr_40 => ?_)
        subst hr_40
        have hmb1 := mid_lt (Y := Y) (x := ix a) (k := ix b) hcs
        refine lv_aload_n hx hb dX5_swap_43 rfl (lv_at hl 0 rfl) ?_
        refine lv_iload_n hx hb dX5_swap_44 rfl (lv_at hl 3 rfl) ?_
        refine lv_iload hx hb dX5_swap_45 (lv_at hl 4 rfl) ?_
        refine vp_callSi (va_Run.run (va_runV (As := [.int (nI (ix v)), .int (nI (ix d))]) (rest := [.int (nI (midN Y (ix a) (ix b)))]) ⟨hx, hb, hml, hown, hts⟩ (c_X5_middle l D cy h0 ad (va_up I 0 (nI (0))) F (Y) (hM) (hY) (ix v) (ix d) (hid) (by omega)) (cwV 2 hts gX5_swap_X5_middle rfl rfl rfl (by decide +kernel) ⟨Nat.le_of_ble_eq_true rfl, Nat.le_of_ble_eq_true rfl⟩) ⟨rB_blind, va_recv hK hP (ci := 5) (q0 := 0) rfl rfl, (rB_pre hP hK)⟩ rfl rfl hl.1 rfl (lv_room (Nat.le_of_ble_eq_true rfl)) dX5_swap_47 ⟨Nat.le_of_ble_eq_true rfl, Nat.le_of_ble_eq_true rfl⟩)) (fun r_47 hr_47 => ?_)
        subst hr_47
        have hmb2 := mid_lt (Y := Y) (x := ix v) (k := ix d) hds
        refine g_icmp_eq (tgt := 55) hx hb dX5_swap_50 (by decide) (n_i (by omega)) (n_i (by omega)) (fun c_50 => ?_) (fun c_50 => ?_)
        · skip
          refine lv_bipush (v := (nI (40))) hx hb dX5_swap_55 (by decide) ?_
          refine lv_iload_n hx hb dX5_swap_57 rfl (lv_at hl 1 rfl) ?_
          refine g_imul_n hx hb dX5_swap_58 ?_
          refine lv_iload_n hx hb dX5_swap_59 rfl (lv_at hl 2 rfl) ?_
          refine g_iadd_n hx hb dX5_swap_60 ?_
          refine lv_istore (lv' := [(5, .int (nI ((40 * (ix a)) + (ix b)))), (0, .ref h0), (1, .int (nI (ix a))), (2, .int (nI (ix b))), (3, .int (nI (ix v))), (4, .int (nI (ix d)))]) hx hb dX5_swap_61 hl (by decide) rfl (fun ls hl => ?_)
          refine lv_bipush (v := (nI (40))) hx hb dX5_swap_63 (by decide) ?_
          refine lv_iload_n hx hb dX5_swap_65 rfl (lv_at hl 4 rfl) ?_
          refine g_imul_n hx hb dX5_swap_66 ?_
          refine lv_iload hx hb dX5_swap_67 (lv_at hl 5 rfl) ?_
          refine g_iadd_n hx hb dX5_swap_69 ?_
          refine lv_istore (lv' := [(6, .int (nI ((40 * (ix v)) + (ix d)))), (5, .int (nI ((40 * (ix a)) + (ix b)))), (0, .ref h0), (1, .int (nI (ix a))), (2, .int (nI (ix b))), (3, .int (nI (ix v))), (4, .int (nI (ix d)))]) hx hb dX5_swap_70 hl (by decide) rfl (fun ls hl => ?_)
          refine lv_aload_n hx hb dX5_swap_72 rfl (lv_at hl 2 rfl) ?_
          refine va_get (D := D) (ci := 5) (v := .ref ((ad 14))) (C := RX5) (T := TX5) (N := 34) hx hb hts (by decide +kernel) hown hK hP 0 rfl rfl 14 (by decide) (hts (.fieldLink RX5 37 "CaskYardModel" "boltOf" "[I") (by decide +kernel)) (fun _ h9 => h9) rfl dX5_swap_73 ?_
          refine lv_iload hx hb dX5_swap_76 (lv_at hl 1 rfl) ?_
          refine g_iald hx hb hK hP 10 0 rfl rfl ((40 * (ix a)) + (ix b)) rfl (by omega) (by decide) dX5_swap_78 ?_
          refine g_top (y := (nI (ybo Y (ix a) (ix b)))) (((hmC (ix a) hic).2.2.2 (ix b) (by omega)).1) ?_
          refine lv_istore (lv' := [(7, .int (nI (ybo Y (ix a) (ix b)))), (6, .int (nI ((40 * (ix v)) + (ix d)))), (5, .int (nI ((40 * (ix a)) + (ix b)))), (0, .ref h0), (1, .int (nI (ix a))), (2, .int (nI (ix b))), (3, .int (nI (ix v))), (4, .int (nI (ix d)))]) hx hb dX5_swap_79 hl (by decide) rfl (fun ls hl => ?_)
          refine lv_aload_n hx hb dX5_swap_81 rfl (lv_at hl 3 rfl) ?_
          refine va_get (D := D) (ci := 5) (v := .ref ((ad 14))) (C := RX5) (T := TX5) (N := 34) hx hb hts (by decide +kernel) hown hK hP 0 rfl rfl 14 (by decide) (hts (.fieldLink RX5 37 "CaskYardModel" "boltOf" "[I") (by decide +kernel)) (fun _ h9 => h9) rfl dX5_swap_82 ?_
          refine lv_iload hx hb dX5_swap_85 (lv_at hl 2 rfl) ?_
          refine lv_aload_n hx hb dX5_swap_87 rfl (lv_at hl 3 rfl) ?_
          refine va_get (D := D) (ci := 5) (v := .ref ((ad 14))) (C := RX5) (T := TX5) (N := 34) hx hb hts (by decide +kernel) hown hK hP 0 rfl rfl 14 (by decide) (hts (.fieldLink RX5 37 "CaskYardModel" "boltOf" "[I") (by decide +kernel)) (fun _ h9 => h9) rfl dX5_swap_88 ?_
          refine lv_iload hx hb dX5_swap_91 (lv_at hl 1 rfl) ?_
          refine g_iald hx hb hK hP 10 0 rfl rfl ((40 * (ix v)) + (ix d)) rfl (by omega) (by decide) dX5_swap_93 ?_
          refine g_top (y := (nI (ybo Y (ix v) (ix d)))) (((hmC (ix v) hid).2.2.2 (ix d) (by omega)).1) ?_
          refine g_iast hx hb hK hP hD hS 10 0 rfl rfl ((40 * (ix a)) + (ix b)) rfl (by omega) (by decide) dX5_swap_94 (fun H locs hP hD hS => ?_)
          rw [wMs_14] at hP hD
          obtain ⟨F1, hF1⟩ : ∃ G, G = va_up F 14 (upd (F 14) ((40 * (ix a)) + (ix b)) (nI (ybo Y (ix v) (ix d)))) := ⟨_, rfl⟩
          rw [← hF1] at hP hD
          have eF1_14 : F1 14 = upd (F 14) ((40 * (ix a)) + (ix b)) (nI (ybo Y (ix v) (ix d))) := by rw [hF1]; exact va_up_self _ _ _
          refine lv_aload_n hx hb dX5_swap_95 rfl (lv_at hl 3 rfl) ?_
          refine va_get (D := D) (ci := 5) (v := .ref ((ad 14))) (C := RX5) (T := TX5) (N := 34) hx hb hts (by decide +kernel) hown hK hP 0 rfl rfl 14 (by decide) (hts (.fieldLink RX5 37 "CaskYardModel" "boltOf" "[I") (by decide +kernel)) (fun _ h9 => h9) rfl dX5_swap_96 ?_
          refine lv_iload hx hb dX5_swap_99 (lv_at hl 1 rfl) ?_
          refine lv_iload hx hb dX5_swap_101 (lv_at hl 0 rfl) ?_
          refine g_iast hx hb hK hP hD hS 10 0 rfl rfl ((40 * (ix v)) + (ix d)) rfl (by omega) (by decide) dX5_swap_103 (fun H locs hP hD hS => ?_)
          rw [wMs_14] at hP hD
          rw [eF1_14] at hP hD
          obtain ⟨F2, hF2⟩ : ∃ G, G = va_up F1 14 (upd (upd (F 14) ((40 * (ix a)) + (ix b)) (nI (ybo Y (ix v) (ix d)))) ((40 * (ix v)) + (ix d)) (nI (ybo Y (ix a) (ix b)))) := ⟨_, rfl⟩
          rw [← hF2] at hP hD
          have eF2_14 : F2 14 = upd (upd (F 14) ((40 * (ix a)) + (ix b)) (nI (ybo Y (ix v) (ix d)))) ((40 * (ix v)) + (ix d)) (nI (ybo Y (ix a) (ix b))) := by rw [hF2]; exact va_up_self _ _ _
          refine lv_aload_n hx hb dX5_swap_104 rfl (lv_at hl 3 rfl) ?_
          refine va_get (D := D) (ci := 5) (v := .ref ((ad 15))) (C := RX5) (T := TX5) (N := 34) hx hb hts (by decide +kernel) hown hK hP 0 rfl rfl 15 (by decide) (hts (.fieldLink RX5 40 "CaskYardModel" "past" "[I") (by decide +kernel)) (fun _ h9 => h9) rfl dX5_swap_105 ?_
          refine lv_iload hx hb dX5_swap_108 (lv_at hl 2 rfl) ?_
          refine g_iald hx hb hK hP 11 0 rfl rfl ((40 * (ix a)) + (ix b)) rfl (by omega) (by decide) dX5_swap_110 ?_
          refine g_top (y := ((F 15) ((40 * (ix a)) + (ix b)))) (congrFun (show F2 15 = F 15 by rw [hF2, va_up_ne _ _ (by decide), hF1, va_up_ne _ _ (by decide)]) ((40 * (ix a)) + (ix b))) ?_
          refine g_top (y := (nI (ypa Y (ix a) (ix b)))) (((hmC (ix a) hic).2.2.2 (ix b) (by omega)).2) ?_
          refine lv_istore (lv' := [(8, .int (nI (ypa Y (ix a) (ix b)))), (7, .int (nI (ybo Y (ix a) (ix b)))), (6, .int (nI ((40 * (ix v)) + (ix d)))), (5, .int (nI ((40 * (ix a)) + (ix b)))), (0, .ref h0), (1, .int (nI (ix a))), (2, .int (nI (ix b))), (3, .int (nI (ix v))), (4, .int (nI (ix d)))]) hx hb dX5_swap_111 hl (by decide) rfl (fun ls hl => ?_)
          refine lv_aload_n hx hb dX5_swap_113 rfl (lv_at hl 4 rfl) ?_
          refine va_get (D := D) (ci := 5) (v := .ref ((ad 15))) (C := RX5) (T := TX5) (N := 34) hx hb hts (by decide +kernel) hown hK hP 0 rfl rfl 15 (by decide) (hts (.fieldLink RX5 40 "CaskYardModel" "past" "[I") (by decide +kernel)) (fun _ h9 => h9) rfl dX5_swap_114 ?_
          refine lv_iload hx hb dX5_swap_117 (lv_at hl 3 rfl) ?_
          refine lv_aload_n hx hb dX5_swap_119 rfl (lv_at hl 4 rfl) ?_
          refine va_get (D := D) (ci := 5) (v := .ref ((ad 15))) (C := RX5) (T := TX5) (N := 34) hx hb hts (by decide +kernel) hown hK hP 0 rfl rfl 15 (by decide) (hts (.fieldLink RX5 40 "CaskYardModel" "past" "[I") (by decide +kernel)) (fun _ h9 => h9) rfl dX5_swap_120 ?_
          refine lv_iload hx hb dX5_swap_123 (lv_at hl 2 rfl) ?_
          refine g_iald hx hb hK hP 11 0 rfl rfl ((40 * (ix v)) + (ix d)) rfl (by omega) (by decide) dX5_swap_125 ?_
          refine g_top (y := ((F 15) ((40 * (ix v)) + (ix d)))) (congrFun (show F2 15 = F 15 by rw [hF2, va_up_ne _ _ (by decide), hF1, va_up_ne _ _ (by decide)]) ((40 * (ix v)) + (ix d))) ?_
          refine g_top (y := (nI (ypa Y (ix v) (ix d)))) (((hmC (ix v) hid).2.2.2 (ix d) (by omega)).2) ?_
          refine g_iast hx hb hK hP hD hS 11 0 rfl rfl ((40 * (ix a)) + (ix b)) rfl (by omega) (by decide) dX5_swap_126 (fun H locs hP hD hS => ?_)
          rw [wMs_15] at hP hD
          rw [(show F2 15 = F 15 by rw [hF2, va_up_ne _ _ (by decide), hF1, va_up_ne _ _ (by decide)])] at hP hD
          obtain ⟨F3, hF3⟩ : ∃ G, G = va_up F2 15 (upd (F 15) ((40 * (ix a)) + (ix b)) (nI (ypa Y (ix v) (ix d)))) := ⟨_, rfl⟩
          rw [← hF3] at hP hD
          have eF3_15 : F3 15 = upd (F 15) ((40 * (ix a)) + (ix b)) (nI (ypa Y (ix v) (ix d))) := by rw [hF3]; exact va_up_self _ _ _
          have eF3_14 : F3 14 = upd (upd (F 14) ((40 * (ix a)) + (ix b)) (nI (ybo Y (ix v) (ix d)))) ((40 * (ix v)) + (ix d)) (nI (ybo Y (ix a) (ix b))) := by rw [hF3, va_up_ne _ _ (by decide)]; exact eF2_14
          refine lv_aload_n hx hb dX5_swap_127 rfl (lv_at hl 4 rfl) ?_
          refine va_get (D := D) (ci := 5) (v := .ref ((ad 15))) (C := RX5) (T := TX5) (N := 34) hx hb hts (by decide +kernel) hown hK hP 0 rfl rfl 15 (by decide) (hts (.fieldLink RX5 40 "CaskYardModel" "past" "[I") (by decide +kernel)) (fun _ h9 => h9) rfl dX5_swap_128 ?_
          refine lv_iload hx hb dX5_swap_131 (lv_at hl 2 rfl) ?_
          refine lv_iload hx hb dX5_swap_133 (lv_at hl 0 rfl) ?_
          refine g_iast hx hb hK hP hD hS 11 0 rfl rfl ((40 * (ix v)) + (ix d)) rfl (by omega) (by decide) dX5_swap_135 (fun H locs hP hD hS => ?_)
          rw [wMs_15] at hP hD
          rw [eF3_15] at hP hD
          obtain ⟨F4, hF4⟩ : ∃ G, G = va_up F3 15 (upd (upd (F 15) ((40 * (ix a)) + (ix b)) (nI (ypa Y (ix v) (ix d)))) ((40 * (ix v)) + (ix d)) (nI (ypa Y (ix a) (ix b)))) := ⟨_, rfl⟩
          rw [← hF4] at hP hD
          have eF4_15 : F4 15 = upd (upd (F 15) ((40 * (ix a)) + (ix b)) (nI (ypa Y (ix v) (ix d)))) ((40 * (ix v)) + (ix d)) (nI (ypa Y (ix a) (ix b))) := by rw [hF4]; exact va_up_self _ _ _
          have eF4_14 : F4 14 = upd (upd (F 14) ((40 * (ix a)) + (ix b)) (nI (ybo Y (ix v) (ix d)))) ((40 * (ix v)) + (ix d)) (nI (ybo Y (ix a) (ix b))) := by rw [hF4, va_up_ne _ _ (by decide)]; exact eF3_14
          refine lv_iconst (v := (nI (1))) hx hb dX5_swap_136 (by decide) ?_
          exact W.zret (v := (nI (1))) hx hb hr (by decide) (fun t ht hW => ⟨⟨_, ((va_up I 0 (nI (0))), F4), rfl, by rw [hF4, hF3, hF2, hF1, bx_uu, bx_uu]; rw [sp_swap, if_pos (by omega), if_pos ⟨by omega, by omega⟩]; exact ⟨rfl, fun _ => rfl, MR_swap hM hY hic hid (by omega) (by omega) (by omega)⟩, by rw [ht]; exact hP, va_K.moved hW.alike hK, hD⟩, hS.F ht⟩) hS.2.2 dX5_swap_137
        · skip
          refine lv_iconst (v := (nI (0))) hx hb dX5_swap_53 (by decide) ?_
          exact W.zret (v := (nI (0))) hx hb hr (by decide) (fun t ht hW => ⟨⟨_, ((va_up I 0 (nI (0))), F), rfl, by rw [sp_swap, if_pos (by omega), if_neg (fun h => by obtain ⟨z1, z2⟩ := h; omega)]; exact ⟨rfl, fun _ => rfl, hM⟩, by rw [ht]; exact hP, va_K.moved hW.alike hK, hD⟩, hS.F ht⟩) hS.2.2 dX5_swap_54
    · skip
      refine lv_aload_n hx hb dX5_swap_24 rfl (lv_at hl 0 rfl) ?_
      refine lv_iconst (v := (nI (1))) hx hb dX5_swap_25 (by decide) ?_
      have hFc := w_free hD hS hA
      refine va_calli (va_runV (As := [.int (nI (1))]) (rest := []) ⟨hx, hb, hml, hown, hts⟩ (c_X5_fail l D cy H.size h0 ad (va_up I 0 (nI (0))) F (nI (1))) (cwV 1 hts gX5_swap_X5_fail rfl rfl rfl (by decide +kernel) ⟨Nat.le_of_ble_eq_true rfl, Nat.le_of_ble_eq_true rfl⟩) ⟨wB_blind, va_recv hK hP (ci := 5) (q0 := 0) rfl rfl, wB_pre hP hK hD⟩ rfl rfl hl.1 rfl (lv_room (Nat.le_of_ble_eq_true rfl)) dX5_swap_26 ⟨Nat.le_of_ble_eq_true rfl, Nat.le_of_ble_eq_true rfl⟩) hS (fun q _ h => hFc q h) hFc (fun r_26 u_26 t H locs ht hvm hw_26 hB _ _ hS => ?_)
      obtain ⟨I_26, F_26⟩ := u_26
      obtain ⟨hP1, hK1, hD1⟩ := hB
      rw [ht] at hP1
      dsimp only at hP1 hD1 hw_26
      obtain ⟨hw_26, hu_26⟩ := hw_26
      rw [(Prod.mk.inj hu_26).1, (Prod.mk.inj hu_26).2] at hP1 hD1
      have hP := hP1
      have hD := hD1.weaken (fun _ _ _ h => hFc _ h)
      have hP : va_P D vwCl (wM cy h0 ad (va_up I 0 (nI (1))) F) H := hP
      have hD : va_D A (wM cy h0 ad (va_up I 0 (nI (1))) F) := hD
      refine g_top (y := (nI (0))) (hw_26) ?_
      refine lv_pop hx hb dX5_swap_29 rfl ?_
      refine lv_iconst (v := (nI (0))) hx hb dX5_swap_30 (by decide) ?_
      exact W.zret (v := (nI (0))) hx hb hr (by decide) (fun t ht hW => ⟨⟨_, ((va_up I 0 (nI (1))), F), rfl, by rw [sp_swap, if_neg (by omega)]; exact MP_t rfl hM, by rw [ht]; exact hP, va_K.moved hW.alike hK, hD⟩, hS.F ht⟩) hS.2.2 dX5_swap_31
