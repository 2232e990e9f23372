set_option maxHeartbeats 4000000 in
set_option maxRecDepth 100000 in
theorem c_X4_form (l : Launch) (D : va_G) (cy : Nat → ClassId) (sz : Nat) (K : List Nat) (ad : Nat → Nat) (E : Nat → va_E) (Y : YT) (hKR : KR K Y) (hR : YR cy ad E Y) (hY : WF Y) (a b v w : Int32) : Met l yX4_form wsX4_form ({ frames := 2, cells := 1, slots := 4, locals := 36 } : Room) (va_Pc [.ref ((ad (0))), .int (a), .int (b), .int (v), .int (w)] (wB2 D cy sz (kW K ad E))) (va_Qi (fun (r : Int32) (u : List Nat × (Nat → Nat) × (Nat → va_E)) => YPn cy ad (sp_form Y a b v w) r u) (fun u t => wE D cy (va_A (kW K ad E) sz) (kW u.1 u.2.1 u.2.2) t) (va_A (kW K ad E) sz)) 1 4 (va_A (kW K ad E) sz) := by
  refine Met.ofW (cc := cX4_form) (maxL := 7) (ret := (some .int)) (by decide) rfl ?_
  intro p e s m args below meth c s₁ B hml hv
  obtain ⟨rfl, ⟨hsz, hP, hK, hD0⟩, hN⟩ := hv
  have hx := B.exec
  have hb := B.bytes
  have hr := B.returns
  have hts := atoms_spec (ws := wsX4_form) B.pre
  have hown : s.vm.findClass RX4 = some m.cls := findClass_of_methodNamed B.named
  have hlocks := B.notSynchronized
  subst hsz
  have hD := hD0.self (sz := s.heap.size)
  generalize hAe : va_A (kW K ad E) s.heap.size = A at hD ⊢
  have hA : ∀ q : Nat, s.heap.size ≤ q → A q := w_A hAe
  have hS : va_S A s.heap s.heap [] := va_S.rf
  have hnd := kW_nd hD
  have hl := lv_entry ([.ref ((ad (0))), .int (a), .int (b), .int (v), .int (w)]) (n := 7) (Nat.le_of_ble_eq_true rfl)
  rw [lg_entry_eq]
  generalize (lg_sl ([.ref ((ad (0))), .int (a), .int (b), .int (v), .int (w)]) ++ List.replicate (7 - (lg_sl ([.ref ((ad (0))), .int (a), .int (b), .int (v), .int (w)])).length) Slot.unset).toArray = ls at hl ⊢
  have hl : lv_has ls 7 [(0, .ref ((ad (0)))), (1, .int (a)), (2, .int (b)), (3, .int (v)), (4, .int (w))] := hl
  obtain ⟨⟨hE0, f1, f2, f3, hE1, hE2, hE3, hr1, hr2, hr3⟩, ⟨f4, f5, hE4, hE5, hbr, hwt⟩, hsaw, hspa, hYf, hYb, hYc⟩ := id hR
  obtain ⟨hy0, hyF, hyB, hyC, hyf, hyb, hyc, hyr, hyw⟩ := id hY
  have join_24 : ∀ (hg : Nat), (hg = if 10 ≤ a.toInt ∧ a.toInt ≤ 200 ∧ a.toInt % 2 = 0 then 1 else 0) → ∀ (ls : Array Slot), lv_has ls 7 [(0, .ref ((ad (0)))), (1, .int (a)), (2, .int (b)), (3, .int (v)), (4, .int (w))] → W p l e (headSpec wsX4_form ({ frames := 2, cells := 1, slots := 4, locals := 36 } : Room)).room s m ([.ref ((ad (0))), .int (a), .int (b), .int (v), .int (w)] : List Value).toArray below meth c s.heap [] 0 0 (MQ below (va_Qi (fun (r : Int32) (u : List Nat × (Nat → Nat) × (Nat → va_E)) => YPn cy ad (sp_form Y a b v w) r u) (fun u t => wE D cy A (kW u.1 u.2.1 u.2.2) t) A) ([.ref ((ad (0))), .int (a), .int (b), .int (v), .int (w)] : List Value).toArray s 1 4 A) (F0 m 24 ls [.int (nI (hg))]) := by
    intro hg hhg ls hl
    have hhi := ite01 hhg
    refine lv_istore (lv' := [(5, .int (nI (hg))), (0, .ref ((ad (0)))), (1, .int (a)), (2, .int (b)), (3, .int (v)), (4, .int (w))]) hx hb dX4_form_24 hl (by decide) rfl (fun ls hl => ?_)
    have join_55 : ∀ (rd : Nat), (rd = if 100 ≤ b.toInt ∧ b.toInt ≤ 2000 ∧ 50 ≤ v.toInt ∧ v.toInt ≤ b.toInt then 1 else 0) → ∀ (ls : Array Slot), lv_has ls 7 [(0, .ref ((ad (0)))), (1, .int (a)), (2, .int (b)), (3, .int (v)), (4, .int (w)), (5, .int (nI (hg)))] → W p l e (headSpec wsX4_form ({ frames := 2, cells := 1, slots := 4, locals := 36 } : Room)).room s m ([.ref ((ad (0))), .int (a), .int (b), .int (v), .int (w)] : List Value).toArray below meth c s.heap [] 0 0 (MQ below (va_Qi (fun (r : Int32) (u : List Nat × (Nat → Nat) × (Nat → va_E)) => YPn cy ad (sp_form Y a b v w) r u) (fun u t => wE D cy A (kW u.1 u.2.1 u.2.2) t) A) ([.ref ((ad (0))), .int (a), .int (b), .int (v), .int (w)] : List Value).toArray s 1 4 A) (F0 m 55 ls [.int (nI (rd))]) := by
      intro rd hrd ls hl
      have hro := ite01 hrd
      refine lv_istore (lv' := [(6, .int (nI (rd))), (0, .ref ((ad (0)))), (1, .int (a)), (2, .int (b)), (3, .int (v)), (4, .int (w)), (5, .int (nI (hg)))]) hx hb dX4_form_55 hl (by decide) rfl (fun ls hl => ?_)
      refine lv_aload_n hx hb dX4_form_57 rfl (lv_at hl 1 rfl) ?_
      obtain ⟨p1, hp1⟩ := kW_pos (hKR.m (show keyOk Y (0) by unfold keyOk; omega))
      refine va_get (D := D) (ci := 4) (v := .int (nI (yF Y))) (C := RX4) (T := TX4) (N := 11) hx hb hts (by decide +kernel) hown hK hP p1 (kW_get hp1 hE0) rfl 7 (by decide) (hts (.fieldLink RX4 48 "CaskYard" "formCount" "I") (by decide +kernel)) (fun _ h9 => h9) rfl dX4_form_58 ?_
      refine lv_bipush (v := (nI (8))) hx hb dX4_form_61 (by decide) ?_
      refine g_icmp_ge (tgt := 90) hx hb dX4_form_63 (by decide) (n_i (by omega)) (n_i (by omega)) (fun c_63 => ?_) (fun c_63 => ?_)
      · skip
        refine lv_iconst (v := (zI ((-1)))) hx hb dX4_form_90 (by decide) ?_
        refine W.widen (k := 1) (n := 4) (by omega) (by omega) ?_
        exact W.iret (v := (zI ((-1)))) hx hb hr (fun t ht hW => ⟨⟨_, (K, ad, E), rfl, (by rw [sp_form, if_neg (fun q9 => by obtain ⟨g1, g2, g3, g4, g5, g6, g7, g8, g9, ga, gb, gc, gd, ge⟩ := q9; have e1 := ix_c g2; have e2 := ix_c g3; have e3 := ix_c g4; have e4 := ix_c g5; omega)]; exact ⟨rfl, rfl, hKR, hR, rfl⟩), by rw [ht]; exact hP, va_K.moved hW.alike hK, hD⟩, hS.F ht⟩) hS.2.2 dX4_form_91
      · skip
        refine lv_iload hx hb dX4_form_66 (lv_at hl 6 rfl) ?_
        refine g_if_eq (tgt := 90) hx hb dX4_form_68 (by decide) (n_i (by omega)) (fun c_68 => ?_) (fun c_68 => ?_)
        · skip
          refine lv_iconst (v := (zI ((-1)))) hx hb dX4_form_90 (by decide) ?_
          refine W.widen (k := 1) (n := 4) (by omega) (by omega) ?_
          exact W.iret (v := (zI ((-1)))) hx hb hr (fun t ht hW => ⟨⟨_, (K, ad, E), rfl, (by rw [sp_form, if_neg (fun q9 => by obtain ⟨g1, g2, g3, g4, g5, g6, g7, g8, g9, ga, gb, gc, gd, ge⟩ := q9; have e1 := ix_c g2; have e2 := ix_c g3; have e3 := ix_c g4; have e4 := ix_c g5; omega)]; exact ⟨rfl, rfl, hKR, hR, rfl⟩), by rw [ht]; exact hP, va_K.moved hW.alike hK, hD⟩, hS.F ht⟩) hS.2.2 dX4_form_91
        · skip
          refine lv_iload hx hb dX4_form_71 (lv_at hl 0 rfl) ?_
          refine g_if_eq (tgt := 90) hx hb dX4_form_73 (by decide) (n_i (by omega)) (fun c_73 => ?_) (fun c_73 => ?_)
          · skip
            refine lv_iconst (v := (zI ((-1)))) hx hb dX4_form_90 (by decide) ?_
            refine W.widen (k := 1) (n := 4) (by omega) (by omega) ?_
            exact W.iret (v := (zI ((-1)))) hx hb hr (fun t ht hW => ⟨⟨_, (K, ad, E), rfl, (by rw [sp_form, if_neg (fun q9 => by obtain ⟨g1, g2, g3, g4, g5, g6, g7, g8, g9, ga, gb, gc, gd, ge⟩ := q9; have e1 := ix_c g2; have e2 := ix_c g3; have e3 := ix_c g4; have e4 := ix_c g5; omega)]; exact ⟨rfl, rfl, hKR, hR, rfl⟩), by rw [ht]; exact hP, va_K.moved hW.alike hK, hD⟩, hS.F ht⟩) hS.2.2 dX4_form_91
          · skip
            refine lv_iload hx hb dX4_form_76 (lv_at hl 5 rfl) ?_
            refine lv_bipush (v := (nI (8))) hx hb dX4_form_78 (by decide) ?_
            refine g_icmp_lt (tgt := 90) hx hb dX4_form_80 (by decide) rfl (n_i (by omega)) (fun c_80 => ?_) (fun c_80 => ?_)
            · skip
              refine lv_iconst (v := (zI ((-1)))) hx hb dX4_form_90 (by decide) ?_
              refine W.widen (k := 1) (n := 4) (by omega) (by omega) ?_
              exact W.iret (v := (zI ((-1)))) hx hb hr (fun t ht hW => ⟨⟨_, (K, ad, E), rfl, (by rw [sp_form, if_neg (fun q9 => by obtain ⟨g1, g2, g3, g4, g5, g6, g7, g8, g9, ga, gb, gc, gd, ge⟩ := q9; have e1 := ix_c g2; have e2 := ix_c g3; have e3 := ix_c g4; have e4 := ix_c g5; omega)]; exact ⟨rfl, rfl, hKR, hR, rfl⟩), by rw [ht]; exact hP, va_K.moved hW.alike hK, hD⟩, hS.F ht⟩) hS.2.2 dX4_form_91
            · skip
              refine lv_iload hx hb dX4_form_83 (lv_at hl 5 rfl) ?_
              refine lv_bipush (v := (nI (40))) hx hb dX4_form_85 (by decide) ?_
              refine g_icmp_le (tgt := 92) hx hb dX4_form_87 (by decide) rfl (n_i (by omega)) (fun c_87 => ?_) (fun c_87 => ?_)
              · skip
                refine lv_aload_n hx hb dX4_form_92 rfl (lv_at hl 1 rfl) ?_
                obtain ⟨p2, hp2⟩ := kW_pos (hKR.m (show keyOk Y (0) by unfold keyOk; omega))
                refine va_get (D := D) (ci := 4) (v := .ref ((ad (1)))) (C := RX4) (T := TX4) (N := 11) hx hb hts (by decide +kernel) hown hK hP p2 (kW_get hp2 hE0) rfl 0 (by decide) (hts (.fieldLink RX4 11 "CaskYard" "forms" "[LCaskYard$Form;") (by decide +kernel)) (fun _ h9 => h9) rfl dX4_form_93 ?_
                refine lv_aload_n hx hb dX4_form_96 rfl (lv_at hl 1 rfl) ?_
                obtain ⟨p3, hp3⟩ := kW_pos (hKR.m (show keyOk Y (0) by unfold keyOk; omega))
                refine va_get (D := D) (ci := 4) (v := .int (nI (yF Y))) (C := RX4) (T := TX4) (N := 11) hx hb hts (by decide +kernel) hown hK hP p3 (kW_get hp3 hE0) rfl 7 (by decide) (hts (.fieldLink RX4 48 "CaskYard" "formCount" "I") (by decide +kernel)) (fun _ h9 => h9) rfl dX4_form_97 ?_
                refine gk_new (ci := 2) (fs := [.int (nI (0)), .int (nI (0)), .int (nI (0)), .int (nI (0))]) (C := RX2) (T := TX2) (N := 4) (1000 + yF Y) (hKR.n (show ¬ keyOk Y (1000 + yF Y) by unfold keyOk; omega)) hx hb hts (by decide +kernel) tyX2 tyX2_ok hown (hts (.classLink RX4 9 RX2) (by decide +kernel)) (hts (.instantiable RX2 4) (by decide +kernel)) (hts (.initialized RX2) (by decide +kernel)) hK hP hD hS hA rfl (fun j hj => by rcases (show j = 0 ∨ j = 1 ∨ j = 2 ∨ j = 3 by omega) with rfl | rfl | rfl | rfl <;> rfl) (Nat.le_of_ble_eq_true rfl) (Nat.le_of_ble_eq_true rfl) dX4_form_100 (fun ad4 Ew4 H had4 hEw4 hP hD hS => ?_)
                have eEw4_57 : Ew4 (1000 + yF Y) = .inr (2, [.int (nI (0)), .int (nI (0)), .int (nI (0)), .int (nI (0))]) := by rw [hEw4]; exact va_up_self _ _ _
                have hnd := kW_nd hD
                refine lv_dup hx hb dX4_form_103 rfl ?_
                refine lv_iload_n hx hb dX4_form_104 rfl (lv_at hl 2 rfl) ?_
                refine lv_iload_n hx hb dX4_form_105 rfl (lv_at hl 3 rfl) ?_
                refine lv_iload_n hx hb dX4_form_106 rfl (lv_at hl 4 rfl) ?_
                refine lv_iload hx hb dX4_form_107 (lv_at hl 5 rfl) ?_
                have hFc := w_free hD hS hA
                refine va_callv (va_runI (As := [.int (a), .int (b), .int (v), .int (w)]) (rest := [.ref ((ad4 (1000 + yF Y))), .int (nI (yF Y)), .ref ((ad (1)))]) ⟨hx, hb, hml, hown, hts⟩ (c_X2_init l D cy H.size (K ++ [1000 + yF Y]) ad4 Ew4 (1000 + yF Y) (mem_new _ _) (eEw4_57) (a) (b) (v) (w)) (cwI 4 hts gX4_form_X2_init rfl rfl rfl (hts (.initialized RX2) (by decide +kernel)) (hts (.methodLink RX4 52 yX2_init) (by decide +kernel)) (hts (.instanceMethod yX2_init) (by decide +kernel)) rfl (by decide +kernel) ⟨Nat.le_of_ble_eq_true rfl, Nat.le_of_ble_eq_true rfl⟩) ⟨wB2_blind, wB2_pre hP hK hD hN⟩ rfl rfl hl.1 rfl (lv_room (Nat.le_of_ble_eq_true rfl)) dX4_form_109 ⟨Nat.le_of_ble_eq_true rfl, Nat.le_of_ble_eq_true rfl⟩) hS (fun q _ h => hFc q h) hFc (fun u_109 t_ H locs ht hvm hw_109 hB _ _ hS => ?_)
                obtain ⟨hP1, hK1, hD1⟩ := hB
                rw [ht] at hP1
                have hP := hP1
                have hD := hD1.weaken (fun _ _ _ h => hFc _ h)
                obtain ⟨k109_0, hO109⟩ := hw_109
                have fC109_25 : u_109 (0) = .inr (4, [.ref ((ad (1))), .ref ((ad (2))), .ref ((ad (3))), .ref ((ad (4))), .ref ((ad (5))), .ref ((ad (6))), .ref ((ad (18))), .int (nI (yF Y)), .int (nI (yB Y)), .int (nI (yC Y)), .int (nI (yNow Y))]) := (hO109 (0) (by omega)).trans (show Ew4 (0) = .inr (4, [.ref ((ad (1))), .ref ((ad (2))), .ref ((ad (3))), .ref ((ad (4))), .ref ((ad (5))), .ref ((ad (6))), .ref ((ad (18))), .int (nI (yF Y)), .int (nI (yB Y)), .int (nI (yC Y)), .int (nI (yNow Y))]) by rw [hEw4, va_up_ne _ _ (by omega)]; exact hE0)
                have fC109_49 : u_109 (1) = .inl (cy 3, 8, .inr (.inr (.inr (.inr (f1))))) := (hO109 (1) (by omega)).trans (show Ew4 (1) = .inl (cy 3, 8, .inr (.inr (.inr (.inr (f1))))) by rw [hEw4, va_up_ne _ _ (by omega)]; exact hE1)
                have hnd := kW_nd hD
                obtain ⟨p5, hp5⟩ := kW_pos (List.mem_append_left _ (hKR.m (show keyOk Y (1) by unfold keyOk; omega)))
                obtain ⟨p6, hp6⟩ := kW_pos (mem_new _ _)
                refine g_aast hx hb hK hP hD hS p5 3 p6 2 (kW_getA hp5 fC109_49 (had4 (1) (by omega))) rfl (kW_get hp6 k109_0) rfl (yF Y) rfl (by omega) (by decide) dX4_form_112 (fun H locs hP hD hS => ?_)
                rw [kW_setA hnd hp5 (had4 (1) (by omega))] at hP hD
                obtain ⟨Ew7, hEw7⟩ : ∃ G, G = va_up u_109 (1) (.inl (cy 3, 8, .inr (.inr (.inr (.inr (va_up (f1) (yF Y) (some (ad4 (1000 + yF Y))))))))) := ⟨_, rfl⟩
                have eEw7_49 : Ew7 (1) = .inl (cy 3, 8, .inr (.inr (.inr (.inr (va_up (f1) (yF Y) (some (ad4 (1000 + yF Y)))))))) := by rw [hEw7]; exact va_up_self _ _ _
                rw [← hEw7] at hP hD
                refine lv_aload_n hx hb dX4_form_113 rfl (lv_at hl 1 rfl) ?_
                refine lv_dup hx hb dX4_form_114 rfl ?_
                obtain ⟨p8, hp8⟩ := kW_pos (List.mem_append_left _ (hKR.m (show keyOk Y (0) by unfold keyOk; omega)))
                refine va_get (D := D) (ci := 4) (v := .int (nI (yF Y))) (C := RX4) (T := TX4) (N := 11) hx hb hts (by decide +kernel) hown hK hP p8 (kW_getA hp8 (show Ew7 (0) = .inr (4, [.ref ((ad (1))), .ref ((ad (2))), .ref ((ad (3))), .ref ((ad (4))), .ref ((ad (5))), .ref ((ad (6))), .ref ((ad (18))), .int (nI (yF Y)), .int (nI (yB Y)), .int (nI (yC Y)), .int (nI (yNow Y))]) by rw [hEw7, va_up_ne _ _ (by omega)]; exact fC109_25) (had4 (0) (by omega))) rfl 7 (by decide) (hts (.fieldLink RX4 48 "CaskYard" "formCount" "I") (by decide +kernel)) (fun _ h9 => h9) rfl dX4_form_115 ?_
                refine lv_iconst (v := (nI (1))) hx hb dX4_form_118 (by decide) ?_
                refine g_iadd_n hx hb dX4_form_119 ?_
                obtain ⟨p9, hp9⟩ := kW_pos (List.mem_append_left _ (hKR.m (show keyOk Y (0) by unfold keyOk; omega)))
                refine va_put (D := D) (ci := 4) (v := .int (nI ((yF Y) + 1))) (ty := .int) (C := RX4) (T := TX4) (N := 11) hx hb hts (by decide +kernel) tyX4 tyX4_ok nmX4 hown hK hP hD hS p9 (kW_getA hp9 (show Ew7 (0) = .inr (4, [.ref ((ad (1))), .ref ((ad (2))), .ref ((ad (3))), .ref ((ad (4))), .ref ((ad (5))), .ref ((ad (6))), .ref ((ad (18))), .int (nI (yF Y)), .int (nI (yB Y)), .int (nI (yC Y)), .int (nI (yNow Y))]) by rw [hEw7, va_up_ne _ _ (by omega)]; exact fC109_25) (had4 (0) (by omega))) rfl 7 (by decide) (hts (.fieldLink RX4 48 "CaskYard" "formCount" "I") (by decide +kernel)) (fun _ h9 => h9) rfl (by decide +kernel) rfl rfl (Nat.le_of_ble_eq_true rfl) dX4_form_120 (fun H locs hP hD hS => ?_)
                rw [show ([.ref ((ad (1))), .ref ((ad (2))), .ref ((ad (3))), .ref ((ad (4))), .ref ((ad (5))), .ref ((ad (6))), .ref ((ad (18))), .int (nI (yF Y)), .int (nI (yB Y)), .int (nI (yC Y)), .int (nI (yNow Y))] : List Value).set 7 (.int (nI ((yF Y) + 1))) = [.ref ((ad (1))), .ref ((ad (2))), .ref ((ad (3))), .ref ((ad (4))), .ref ((ad (5))), .ref ((ad (6))), .ref ((ad (18))), .int (nI ((yF Y) + 1)), .int (nI (yB Y)), .int (nI (yC Y)), .int (nI (yNow Y))] from rfl] at hP hD
                rw [kW_setA hnd hp9 (had4 (0) (by omega))] at hP hD
                obtain ⟨Ew10, hEw10⟩ : ∃ G, G = va_up Ew7 (0) (.inr (4, [.ref ((ad (1))), .ref ((ad (2))), .ref ((ad (3))), .ref ((ad (4))), .ref ((ad (5))), .ref ((ad (6))), .ref ((ad (18))), .int (nI ((yF Y) + 1)), .int (nI (yB Y)), .int (nI (yC Y)), .int (nI (yNow Y))])) := ⟨_, rfl⟩
                have eEw10_25 : Ew10 (0) = .inr (4, [.ref ((ad (1))), .ref ((ad (2))), .ref ((ad (3))), .ref ((ad (4))), .ref ((ad (5))), .ref ((ad (6))), .ref ((ad (18))), .int (nI ((yF Y) + 1)), .int (nI (yB Y)), .int (nI (yC Y)), .int (nI (yNow Y))]) := by rw [hEw10]; exact va_up_self _ _ _
                have eEw10_49 : Ew10 (1) = .inl (cy 3, 8, .inr (.inr (.inr (.inr (va_up (f1) (yF Y) (some (ad4 (1000 + yF Y)))))))) := by rw [hEw10, va_up_ne _ _ (by omega)]; exact eEw7_49
                rw [← hEw10] at hP hD
                refine lv_aload_n hx hb dX4_form_123 rfl (lv_at hl 1 rfl) ?_
                obtain ⟨p11, hp11⟩ := kW_pos (List.mem_append_left _ (hKR.m (show keyOk Y (0) by unfold keyOk; omega)))
                refine va_get (D := D) (ci := 4) (v := .int (nI ((yF Y) + 1))) (C := RX4) (T := TX4) (N := 11) hx hb hts (by decide +kernel) hown hK hP p11 (kW_getA hp11 eEw10_25 (had4 (0) (by omega))) rfl 7 (by decide) (hts (.fieldLink RX4 48 "CaskYard" "formCount" "I") (by decide +kernel)) (fun _ h9 => h9) rfl dX4_form_124 ?_
                refine lv_iconst (v := (nI (1))) hx hb dX4_form_127 (by decide) ?_
                refine g_isub_n hx hb dX4_form_128 (by omega) ?_
                exact W.iret (v := (nI (((yF Y) + 1) - 1))) hx hb hr (fun t ht hW => ⟨⟨_, ((K ++ [1000 + yF Y]), ad4, Ew10), rfl, (by
    have hna := ix_n (a := a) (by omega)
    have hnb := ix_n (a := b) (by omega)
    have hnv := ix_n (a := v) (by omega)
    have hnw := ix_n (a := w) (by omega)
    have hxa := ix_c (a := a) (by omega)
    have hxb := ix_c (a := b) (by omega)
    have hxv := ix_c (a := v) (by omega)
    have hxw := ix_c (a := w) (by omega)
    rw [sp_form, if_pos ⟨by omega, by omega, by omega, by omega, by omega, ⟨by omega, by omega, by omega, by omega, by omega, by omega, by omega, by omega, by omega⟩⟩]
    have hR1 : YR cy ad4 E Y := YR_ad hR hY (fun k hk => had4 k (by unfold keyOk at hk; omega)) (fun _ _ => rfl)
    have hr1' : refR ad4 1000 (yF Y) f1 := fun i => by rw [hr1 i]; by_cases q9 : i < yF Y <;> first | rw [if_pos q9, if_pos q9, had4 _ (by omega)] | rw [if_neg q9, if_neg q9]
    exact ⟨rfl, congrArg nI (by omega), KR_form hKR rfl rfl rfl, YR_form (u := Ew10) (ad := ad4) hR1 hY hE1 hr1' (by show _ = yardO ad4 _ _ _ _; rw [yardO, had4 1 (by omega), had4 2 (by omega), had4 3 (by omega), had4 4 (by omega), had4 5 (by omega), had4 6 (by omega), had4 18 (by omega)]; exact eEw10_25) eEw10_49 (by rw [cellF, ← hna, ← hnb, ← hnv, ← hnw]; exact (show Ew10 (1000 + yF Y) = .inr (2, [.int (a), .int (b), .int (v), .int (w)]) by rw [hEw10, va_up_ne _ _ (by omega), hEw7, va_up_ne _ _ (by omega)]; exact k109_0)) (fun j_ h0_ h1_ h2_ => by rw [hEw10, va_up_ne _ _ h0_, hEw7, va_up_ne _ _ h1_, hO109 j_ h2_, hEw4, va_up_ne _ _ h2_]), had4 0 (by omega)⟩), by rw [ht]; exact hP, va_K.moved hW.alike hK, hD⟩, hS.F ht⟩) hS.2.2 dX4_form_129
              · skip
                refine lv_iconst (v := (zI ((-1)))) hx hb dX4_form_90 (by decide) ?_
                refine W.widen (k := 1) (n := 4) (by omega) (by omega) ?_
                exact W.iret (v := (zI ((-1)))) hx hb hr (fun t ht hW => ⟨⟨_, (K, ad, E), rfl, (by rw [sp_form, if_neg (fun q9 => by obtain ⟨g1, g2, g3, g4, g5, g6, g7, g8, g9, ga, gb, gc, gd, ge⟩ := q9; have e1 := ix_c g2; have e2 := ix_c g3; have e3 := ix_c g4; have e4 := ix_c g5; omega)]; exact ⟨rfl, rfl, hKR, hR, rfl⟩), by rw [ht]; exact hP, va_K.moved hW.alike hK, hD⟩, hS.F ht⟩) hS.2.2 dX4_form_91
    refine lv_iload_n hx hb dX4_form_26 rfl (lv_at hl 3 rfl) ?_
    refine lv_bipush (v := (nI (100))) hx hb dX4_form_27 (by decide) ?_
    refine g_icmp_lt (tgt := 54) hx hb dX4_form_29 (by decide) rfl (n_i (by omega)) (fun c_29 => ?_) (fun c_29 => ?_)
    · skip
      refine lv_iconst (v := (nI (0))) hx hb dX4_form_54 (by decide) ?_
      exact join_55 (0)  (if_neg (fun q9 => by have h91 := q9.1; have h92 := q9.2.1; have h93 := q9.2.2.1; have h94 := q9.2.2.2; omega)).symm ls (lv_sub hl [1, 2, 3, 4, 5, 0] rfl)
    · skip
      refine lv_iload_n hx hb dX4_form_32 rfl (lv_at hl 3 rfl) ?_
      refine lv_sipush (v := (nI (2000))) hx hb dX4_form_33 (by decide) ?_
      refine g_icmp_gt (tgt := 54) hx hb dX4_form_36 (by decide) rfl (n_i (by omega)) (fun c_36 => ?_) (fun c_36 => ?_)
      · skip
        refine lv_iconst (v := (nI (0))) hx hb dX4_form_54 (by decide) ?_
        exact join_55 (0)  (if_neg (fun q9 => by have h91 := q9.1; have h92 := q9.2.1; have h93 := q9.2.2.1; have h94 := q9.2.2.2; omega)).symm ls (lv_sub hl [1, 2, 3, 4, 5, 0] rfl)
      · skip
        refine lv_iload_n hx hb dX4_form_39 rfl (lv_at hl 4 rfl) ?_
        refine lv_bipush (v := (nI (50))) hx hb dX4_form_40 (by decide) ?_
        refine g_icmp_lt (tgt := 54) hx hb dX4_form_42 (by decide) rfl (n_i (by omega)) (fun c_42 => ?_) (fun c_42 => ?_)
        · skip
          refine lv_iconst (v := (nI (0))) hx hb dX4_form_54 (by decide) ?_
          exact join_55 (0)  (if_neg (fun q9 => by have h91 := q9.1; have h92 := q9.2.1; have h93 := q9.2.2.1; have h94 := q9.2.2.2; omega)).symm ls (lv_sub hl [1, 2, 3, 4, 5, 0] rfl)
        · skip
          refine lv_iload_n hx hb dX4_form_45 rfl (lv_at hl 4 rfl) ?_
          refine lv_iload_n hx hb dX4_form_46 rfl (lv_at hl 3 rfl) ?_
          refine g_icmp_gt (tgt := 54) hx hb dX4_form_47 (by decide) rfl rfl (fun c_47 => ?_) (fun c_47 => ?_)
          · skip
            refine lv_iconst (v := (nI (0))) hx hb dX4_form_54 (by decide) ?_
            exact join_55 (0)  (if_neg (fun q9 => by have h91 := q9.1; have h92 := q9.2.1; have h93 := q9.2.2.1; have h94 := q9.2.2.2; omega)).symm ls (lv_sub hl [1, 2, 3, 4, 5, 0] rfl)
          · skip
            refine lv_iconst (v := (nI (1))) hx hb dX4_form_50 (by decide) ?_
            refine lv_goto (tgt := 55) hx hb dX4_form_51 (by decide) ?_
            exact join_55 (1)  (if_pos ⟨by omega, by omega, by omega, by omega⟩).symm ls (lv_sub hl [1, 2, 3, 4, 5, 0] rfl)
  refine lv_iload_n hx hb dX4_form_0 rfl (lv_at hl 1 rfl) ?_
  refine lv_bipush (v := (nI (10))) hx hb dX4_form_1 (by decide) ?_
  refine g_icmp_lt (tgt := 23) hx hb dX4_form_3 (by decide) rfl (n_i (by omega)) (fun c_3 => ?_) (fun c_3 => ?_)
  · skip
    refine lv_iconst (v := (nI (0))) hx hb dX4_form_23 (by decide) ?_
    exact join_24 (0)  (if_neg (fun q9 => by have h91 := q9.1; have h92 := q9.2.1; have h93 := q9.2.2; omega)).symm ls (lv_sub hl [0, 1, 2, 3, 4] rfl)
  · skip
    refine lv_iload_n hx hb dX4_form_6 rfl (lv_at hl 1 rfl) ?_
    refine lv_sipush (v := (nI (200))) hx hb dX4_form_7 (by decide) ?_
    refine g_icmp_gt (tgt := 23) hx hb dX4_form_10 (by decide) rfl (n_i (by omega)) (fun c_10 => ?_) (fun c_10 => ?_)
    · skip
      refine lv_iconst (v := (nI (0))) hx hb dX4_form_23 (by decide) ?_
      exact join_24 (0)  (if_neg (fun q9 => by have h91 := q9.1; have h92 := q9.2.1; have h93 := q9.2.2; omega)).symm ls (lv_sub hl [0, 1, 2, 3, 4] rfl)
    · skip
      refine lv_iload_n hx hb dX4_form_13 rfl (lv_at hl 1 rfl) ?_
      have hxa0 := ix_c (a := a) (by omega)
      refine g_top (y := nI (ix a)) (ix_n (by omega)) ?_
      refine lv_iconst (v := (nI (2))) hx hb dX4_form_14 (by decide) ?_
      refine g_irem_n hx hb dX4_form_15 (by omega) (by omega) (by omega) ?_
      refine g_if_ne (tgt := 23) hx hb dX4_form_16 (by decide) (n_i (by omega)) (fun c_16 => ?_) (fun c_16 => ?_)
      · skip
        refine lv_iconst (v := (nI (0))) hx hb dX4_form_23 (by decide) ?_
        exact join_24 (0)  (if_neg (fun q9 => by have h91 := q9.1; have h92 := q9.2.1; have h93 := q9.2.2; omega)).symm ls (lv_sub hl [0, 1, 2, 3, 4] rfl)
      · skip
        refine lv_iconst (v := (nI (1))) hx hb dX4_form_19 (by decide) ?_
        refine lv_goto (tgt := 24) hx hb dX4_form_20 (by decide) ?_
        exact join_24 (1)  (if_pos ⟨by omega, by omega, by omega⟩).symm ls (lv_sub hl [0, 1, 2, 3, 4] rfl)
set_option maxHeartbeats 4000000 in
set_option maxRecDepth 100000 in
theorem c_X4_bolt (l : Launch) (D : va_G) (cy : Nat → ClassId) (sz : Nat) (K : List Nat) (ad : Nat → Nat) (E : Nat → va_E) (Y : YT) (hKR : KR K Y) (hR : YR cy ad E Y) (hY : WF Y) (a : Int32) : Met l yX4_bolt wsX4_bolt ({ frames := 2, cells := 3, slots := 12, locals := 34 } : Room) (va_Pc [.ref ((ad (0))), .int (a)] (wB2 D cy sz (kW K ad E))) (va_Qi (fun (r : Int32) (u : List Nat × (Nat → Nat) × (Nat → va_E)) => YPn cy ad (sp_bolt Y a) r u) (fun u t => wE D cy (va_A (kW K ad E) sz) (kW u.1 u.2.1 u.2.2) t) (va_A (kW K ad E) sz)) 3 12 (va_A (kW K ad E) sz) := by
  refine Met.ofW (cc := cX4_bolt) (maxL := 2) (ret := (some .int)) (by decide) rfl ?_
  intro p e s m args below meth c s₁ B hml hv
  obtain ⟨rfl, ⟨hsz, hP, hK, hD0⟩, hN⟩ := hv
  have hx := B.exec
  have hb := B.bytes
  have hr := B.returns
  have hts := atoms_spec (ws := wsX4_bolt) B.pre
  have hown : s.vm.findClass RX4 = some m.cls := findClass_of_methodNamed B.named
  have hlocks := B.notSynchronized
  subst hsz
  have hD := hD0.self (sz := s.heap.size)
  generalize hAe : va_A (kW K ad E) s.heap.size = A at hD ⊢
  have hA : ∀ q : Nat, s.heap.size ≤ q → A q := w_A hAe
  have hS : va_S A s.heap s.heap [] := va_S.rf
  have hnd := kW_nd hD
  have hl := lv_entry ([.ref ((ad (0))), .int (a)]) (n := 2) (Nat.le_of_ble_eq_true rfl)
  rw [lg_entry_eq]
  generalize (lg_sl ([.ref ((ad (0))), .int (a)]) ++ List.replicate (2 - (lg_sl ([.ref ((ad (0))), .int (a)])).length) Slot.unset).toArray = ls at hl ⊢
  have hl : lv_has ls 2 [(0, .ref ((ad (0)))), (1, .int (a))] := hl
  obtain ⟨⟨hE0, f1, f2, f3, hE1, hE2, hE3, hr1, hr2, hr3⟩, ⟨f4, f5, hE4, hE5, hbr, hwt⟩, hsaw, hspa, hYf, hYb, hYc⟩ := id hR
  obtain ⟨hy0, hyF, hyB, hyC, hyf, hyb, hyc, hyr, hyw⟩ := id hY
  refine lv_aload_n hx hb dX4_bolt_0 rfl (lv_at hl 0 rfl) ?_
  obtain ⟨p1, hp1⟩ := kW_pos (hKR.m (show keyOk Y (0) by unfold keyOk; omega))
  refine va_get (D := D) (ci := 4) (v := .int (nI (yB Y))) (C := RX4) (T := TX4) (N := 11) hx hb hts (by decide +kernel) hown hK hP p1 (kW_get hp1 hE0) rfl 8 (by decide) (hts (.fieldLink RX4 93 "CaskYard" "boltCount" "I") (by decide +kernel)) (fun _ h9 => h9) rfl dX4_bolt_1 ?_
  refine lv_bipush (v := (nI (40))) hx hb dX4_bolt_4 (by decide) ?_
  refine g_icmp_ge (tgt := 21) hx hb dX4_bolt_6 (by decide) (n_i (by omega)) (n_i (by omega)) (fun c_6 => ?_) (fun c_6 => ?_)
  · skip
    refine lv_iconst (v := (zI ((-1)))) hx hb dX4_bolt_21 (by decide) ?_
    refine W.widen (k := 3) (n := 12) (by omega) (by omega) ?_
    exact W.iret (v := (zI ((-1)))) hx hb hr (fun t ht hW => ⟨⟨_, (K, ad, E), rfl, (by rw [sp_bolt, if_neg (fun q9 => by omega)]; exact ⟨rfl, rfl, hKR, hR, rfl⟩), by rw [ht]; exact hP, va_K.moved hW.alike hK, hD⟩, hS.F ht⟩) hS.2.2 dX4_bolt_22
  · skip
    refine lv_iload_n hx hb dX4_bolt_9 rfl (lv_at hl 1 rfl) ?_
    refine lv_iconst (v := (nI (1))) hx hb dX4_bolt_10 (by decide) ?_
    refine g_icmp_lt (tgt := 21) hx hb dX4_bolt_11 (by decide) rfl (n_i (by omega)) (fun c_11 => ?_) (fun c_11 => ?_)
    · skip
      refine lv_iconst (v := (zI ((-1)))) hx hb dX4_bolt_21 (by decide) ?_
      refine W.widen (k := 3) (n := 12) (by omega) (by omega) ?_
      exact W.iret (v := (zI ((-1)))) hx hb hr (fun t ht hW => ⟨⟨_, (K, ad, E), rfl, (by rw [sp_bolt, if_neg (fun q9 => by omega)]; exact ⟨rfl, rfl, hKR, hR, rfl⟩), by rw [ht]; exact hP, va_K.moved hW.alike hK, hD⟩, hS.F ht⟩) hS.2.2 dX4_bolt_22
    · skip
      refine lv_iload_n hx hb dX4_bolt_14 rfl (lv_at hl 1 rfl) ?_
      refine lv_sipush (v := (nI (600))) hx hb dX4_bolt_15 (by decide) ?_
      refine g_icmp_le (tgt := 23) hx hb dX4_bolt_18 (by decide) rfl (n_i (by omega)) (fun c_18 => ?_) (fun c_18 => ?_)
      · skip
        refine lv_aload_n hx hb dX4_bolt_23 rfl (lv_at hl 0 rfl) ?_
        obtain ⟨p2, hp2⟩ := kW_pos (hKR.m (show keyOk Y (0) by unfold keyOk; omega))
        refine va_get (D := D) (ci := 4) (v := .ref ((ad (2)))) (C := RX4) (T := TX4) (N := 11) hx hb hts (by decide +kernel) hown hK hP p2 (kW_get hp2 hE0) rfl 1 (by decide) (hts (.fieldLink RX4 17 "CaskYard" "bolts" "[LCaskYard$Bolt;") (by decide +kernel)) (fun _ h9 => h9) rfl dX4_bolt_24 ?_
        refine lv_aload_n hx hb dX4_bolt_27 rfl (lv_at hl 0 rfl) ?_
        obtain ⟨p3, hp3⟩ := kW_pos (hKR.m (show keyOk Y (0) by unfold keyOk; omega))
        refine va_get (D := D) (ci := 4) (v := .int (nI (yB Y))) (C := RX4) (T := TX4) (N := 11) hx hb hts (by decide +kernel) hown hK hP p3 (kW_get hp3 hE0) rfl 8 (by decide) (hts (.fieldLink RX4 93 "CaskYard" "boltCount" "I") (by decide +kernel)) (fun _ h9 => h9) rfl dX4_bolt_28 ?_
        refine gk_new (ci := 0) (fs := [.int (nI (0)), .null, .null, .int (nI (0))]) (C := RX0) (T := TX0) (N := 4) (2000 + yB Y) (hKR.n (show ¬ keyOk Y (2000 + yB Y) by unfold keyOk; omega)) hx hb hts (by decide +kernel) tyX0 tyX0_ok hown (hts (.classLink RX4 15 RX0) (by decide +kernel)) (hts (.instantiable RX0 4) (by decide +kernel)) (hts (.initialized RX0) (by decide +kernel)) hK hP hD hS hA rfl (fun j hj => by rcases (show j = 0 ∨ j = 1 ∨ j = 2 ∨ j = 3 by omega) with rfl | rfl | rfl | rfl <;> rfl) (Nat.le_of_ble_eq_true rfl) (Nat.le_of_ble_eq_true rfl) dX4_bolt_31 (fun ad4 Ew4 H had4 hEw4 hP hD hS => ?_)
        have eEw4_58 : Ew4 (2000 + yB Y) = .inr (0, [.int (nI (0)), .null, .null, .int (nI (0))]) := by rw [hEw4]; exact va_up_self _ _ _
        have hnd := kW_nd hD
        refine lv_dup hx hb dX4_bolt_34 rfl ?_
        refine lv_iload_n hx hb dX4_bolt_35 rfl (lv_at hl 1 rfl) ?_
        refine lv_aload_n hx hb dX4_bolt_36 rfl (lv_at hl 0 rfl) ?_
        obtain ⟨p5, hp5⟩ := kW_pos (List.mem_append_left _ (hKR.m (show keyOk Y (0) by unfold keyOk; omega)))
        refine va_get (D := D) (ci := 4) (v := .int (nI (yNow Y))) (C := RX4) (T := TX4) (N := 11) hx hb hts (by decide +kernel) hown hK hP p5 (kW_getA hp5 (show Ew4 (0) = .inr (4, [.ref ((ad (1))), .ref ((ad (2))), .ref ((ad (3))), .ref ((ad (4))), .ref ((ad (5))), .ref ((ad (6))), .ref ((ad (18))), .int (nI (yF Y)), .int (nI (yB Y)), .int (nI (yC Y)), .int (nI (yNow Y))]) by rw [hEw4, va_up_ne _ _ (by omega)]; exact hE0) (had4 (0) (by omega))) rfl 10 (by decide) (hts (.fieldLink RX4 88 "CaskYard" "now" "I") (by decide +kernel)) (fun _ h9 => h9) rfl dX4_bolt_37 ?_
        have hFc := w_free hD hS hA
        refine va_callv (va_runI (As := [.int (a), .int (nI (yNow Y))]) (rest := [.ref ((ad4 (2000 + yB Y))), .int (nI (yB Y)), .ref ((ad (2)))]) ⟨hx, hb, hml, hown, hts⟩ (c_X0_init l D cy H.size (K ++ [2000 + yB Y]) ad4 Ew4 (2000 + yB Y) (3000 + yB Y) (4000 + yB Y) (mem_new _ _) (nin_app (hKR.n (show ¬ keyOk Y (3000 + yB Y) by unfold keyOk; omega)) (by omega)) (nin_app (hKR.n (show ¬ keyOk Y (4000 + yB Y) by unfold keyOk; omega)) (by omega)) (⟨by omega, by omega, by omega⟩) (eEw4_58) (a) (nI (yNow Y))) (cwI 2 hts gX4_bolt_X0_init rfl rfl rfl (hts (.initialized RX0) (by decide +kernel)) (hts (.methodLink RX4 41 yX0_init) (by decide +kernel)) (hts (.instanceMethod yX0_init) (by decide +kernel)) rfl (by decide +kernel) ⟨Nat.le_of_ble_eq_true rfl, Nat.le_of_ble_eq_true rfl⟩) ⟨wB2_blind, wB2_pre hP hK hD hN⟩ rfl rfl hl.1 rfl (lv_room (Nat.le_of_ble_eq_true rfl)) dX4_bolt_40 ⟨Nat.le_of_ble_eq_true rfl, Nat.le_of_ble_eq_true rfl⟩) hS (fun q _ h => hFc q h) hFc (fun u_40 t_ H locs ht hvm hw_40 hB _ _ hS => ?_)
        obtain ⟨hP1, hK1, hD1⟩ := hB
        rw [ht] at hP1
        have hP := hP1
        have hD := hD1.weaken (fun _ _ _ h => hFc _ h)
        obtain ⟨ad40, E40⟩ := u_40
        obtain ⟨hadc, kc0, kc1, kc2, hOc⟩ := hw_40
        dsimp only at hadc kc0 kc1 kc2 hOc hP hD
        have fC_25 : E40 (0) = .inr (4, [.ref ((ad (1))), .ref ((ad (2))), .ref ((ad (3))), .ref ((ad (4))), .ref ((ad (5))), .ref ((ad (6))), .ref ((ad (18))), .int (nI (yF Y)), .int (nI (yB Y)), .int (nI (yC Y)), .int (nI (yNow Y))]) := (hOc (0) (by omega) (by omega) (by omega)).trans (show Ew4 (0) = .inr (4, [.ref ((ad (1))), .ref ((ad (2))), .ref ((ad (3))), .ref ((ad (4))), .ref ((ad (5))), .ref ((ad (6))), .ref ((ad (18))), .int (nI (yF Y)), .int (nI (yB Y)), .int (nI (yC Y)), .int (nI (yNow Y))]) by rw [hEw4, va_up_ne _ _ (by omega)]; exact hE0)
        have fC_38 : E40 (2) = .inl (cy 4, 40, .inr (.inr (.inr (.inr (f2))))) := (hOc (2) (by omega) (by omega) (by omega)).trans (show Ew4 (2) = .inl (cy 4, 40, .inr (.inr (.inr (.inr (f2))))) by rw [hEw4, va_up_ne _ _ (by omega)]; exact hE2)
        have hnd := kW_nd hD
        obtain ⟨p6, hp6⟩ := kW_pos (List.mem_append_left _ (List.mem_append_left _ (List.mem_append_left _ (hKR.m (show keyOk Y (2) by unfold keyOk; omega)))))
        obtain ⟨p7, hp7⟩ := kW_pos (List.mem_append_left _ (List.mem_append_left _ (mem_new _ _)))
        refine g_aast hx hb hK hP hD hS p6 4 p7 0 (kW_getA hp6 fC_38 ((hadc (2) (by omega) (by omega)).trans (had4 (2) (by omega)))) rfl (kW_getA hp7 kc0 (hadc (2000 + yB Y) (by omega) (by omega))) rfl (yB Y) rfl (by omega) (by decide) dX4_bolt_43 (fun H locs hP hD hS => ?_)
        rw [kW_setA hnd hp6 ((hadc (2) (by omega) (by omega)).trans (had4 (2) (by omega)))] at hP hD
        obtain ⟨Ew8, hEw8⟩ : ∃ G, G = va_up E40 (2) (.inl (cy 4, 40, .inr (.inr (.inr (.inr (va_up (f2) (yB Y) (some (ad4 (2000 + yB Y))))))))) := ⟨_, rfl⟩
        have eEw8_38 : Ew8 (2) = .inl (cy 4, 40, .inr (.inr (.inr (.inr (va_up (f2) (yB Y) (some (ad4 (2000 + yB Y)))))))) := by rw [hEw8]; exact va_up_self _ _ _
        rw [← hEw8] at hP hD
        refine lv_aload_n hx hb dX4_bolt_44 rfl (lv_at hl 0 rfl) ?_
        refine lv_dup hx hb dX4_bolt_45 rfl ?_
        obtain ⟨p9, hp9⟩ := kW_pos (List.mem_append_left _ (List.mem_append_left _ (List.mem_append_left _ (hKR.m (show keyOk Y (0) by unfold keyOk; omega)))))
        refine va_get (D := D) (ci := 4) (v := .int (nI (yB Y))) (C := RX4) (T := TX4) (N := 11) hx hb hts (by decide +kernel) hown hK hP p9 (kW_getA hp9 (show Ew8 (0) = .inr (4, [.ref ((ad (1))), .ref ((ad (2))), .ref ((ad (3))), .ref ((ad (4))), .ref ((ad (5))), .ref ((ad (6))), .ref ((ad (18))), .int (nI (yF Y)), .int (nI (yB Y)), .int (nI (yC Y)), .int (nI (yNow Y))]) by rw [hEw8, va_up_ne _ _ (by omega)]; exact fC_25) ((hadc (0) (by omega) (by omega)).trans (had4 (0) (by omega)))) rfl 8 (by decide) (hts (.fieldLink RX4 93 "CaskYard" "boltCount" "I") (by decide +kernel)) (fun _ h9 => h9) rfl dX4_bolt_46 ?_
        refine lv_iconst (v := (nI (1))) hx hb dX4_bolt_49 (by decide) ?_
        refine g_iadd_n hx hb dX4_bolt_50 ?_
        obtain ⟨p10, hp10⟩ := kW_pos (List.mem_append_left _ (List.mem_append_left _ (List.mem_append_left _ (hKR.m (show keyOk Y (0) by unfold keyOk; omega)))))
        refine va_put (D := D) (ci := 4) (v := .int (nI ((yB Y) + 1))) (ty := .int) (C := RX4) (T := TX4) (N := 11) hx hb hts (by decide +kernel) tyX4 tyX4_ok nmX4 hown hK hP hD hS p10 (kW_getA hp10 (show Ew8 (0) = .inr (4, [.ref ((ad (1))), .ref ((ad (2))), .ref ((ad (3))), .ref ((ad (4))), .ref ((ad (5))), .ref ((ad (6))), .ref ((ad (18))), .int (nI (yF Y)), .int (nI (yB Y)), .int (nI (yC Y)), .int (nI (yNow Y))]) by rw [hEw8, va_up_ne _ _ (by omega)]; exact fC_25) ((hadc (0) (by omega) (by omega)).trans (had4 (0) (by omega)))) rfl 8 (by decide) (hts (.fieldLink RX4 93 "CaskYard" "boltCount" "I") (by decide +kernel)) (fun _ h9 => h9) rfl (by decide +kernel) rfl rfl (Nat.le_of_ble_eq_true rfl) dX4_bolt_51 (fun H locs hP hD hS => ?_)
        rw [show ([.ref ((ad (1))), .ref ((ad (2))), .ref ((ad (3))), .ref ((ad (4))), .ref ((ad (5))), .ref ((ad (6))), .ref ((ad (18))), .int (nI (yF Y)), .int (nI (yB Y)), .int (nI (yC Y)), .int (nI (yNow Y))] : List Value).set 8 (.int (nI ((yB Y) + 1))) = [.ref ((ad (1))), .ref ((ad (2))), .ref ((ad (3))), .ref ((ad (4))), .ref ((ad (5))), .ref ((ad (6))), .ref ((ad (18))), .int (nI (yF Y)), .int (nI ((yB Y) + 1)), .int (nI (yC Y)), .int (nI (yNow Y))] from rfl] at hP hD
        rw [kW_setA hnd hp10 ((hadc (0) (by omega) (by omega)).trans (had4 (0) (by omega)))] at hP hD
        obtain ⟨Ew11, hEw11⟩ : ∃ G, G = va_up Ew8 (0) (.inr (4, [.ref ((ad (1))), .ref ((ad (2))), .ref ((ad (3))), .ref ((ad (4))), .ref ((ad (5))), .ref ((ad (6))), .ref ((ad (18))), .int (nI (yF Y)), .int (nI ((yB Y) + 1)), .int (nI (yC Y)), .int (nI (yNow Y))])) := ⟨_, rfl⟩
        have eEw11_25 : Ew11 (0) = .inr (4, [.ref ((ad (1))), .ref ((ad (2))), .ref ((ad (3))), .ref ((ad (4))), .ref ((ad (5))), .ref ((ad (6))), .ref ((ad (18))), .int (nI (yF Y)), .int (nI ((yB Y) + 1)), .int (nI (yC Y)), .int (nI (yNow Y))]) := by rw [hEw11]; exact va_up_self _ _ _
        have eEw11_38 : Ew11 (2) = .inl (cy 4, 40, .inr (.inr (.inr (.inr (va_up (f2) (yB Y) (some (ad4 (2000 + yB Y)))))))) := by rw [hEw11, va_up_ne _ _ (by omega)]; exact eEw8_38
        rw [← hEw11] at hP hD
        refine lv_aload_n hx hb dX4_bolt_54 rfl (lv_at hl 0 rfl) ?_
        obtain ⟨p12, hp12⟩ := kW_pos (List.mem_append_left _ (List.mem_append_left _ (List.mem_append_left _ (hKR.m (show keyOk Y (0) by unfold keyOk; omega)))))
        refine va_get (D := D) (ci := 4) (v := .int (nI ((yB Y) + 1))) (C := RX4) (T := TX4) (N := 11) hx hb hts (by decide +kernel) hown hK hP p12 (kW_getA hp12 eEw11_25 ((hadc (0) (by omega) (by omega)).trans (had4 (0) (by omega)))) rfl 8 (by decide) (hts (.fieldLink RX4 93 "CaskYard" "boltCount" "I") (by decide +kernel)) (fun _ h9 => h9) rfl dX4_bolt_55 ?_
        refine lv_iconst (v := (nI (1))) hx hb dX4_bolt_58 (by decide) ?_
        refine g_isub_n hx hb dX4_bolt_59 (by omega) ?_
        exact W.iret (v := (nI (((yB Y) + 1) - 1))) hx hb hr (fun t ht hW => ⟨⟨_, ((((K ++ [2000 + yB Y]) ++ [3000 + yB Y]) ++ [4000 + yB Y]), ad40, Ew11), rfl, (by
    have hxa := ix_c (a := a) (by omega)
    rw [sp_bolt, if_pos ⟨by omega, by omega, by omega⟩]
    have hR1 : YR cy ad40 E Y := YR_ad hR hY (fun k hk => (hadc k (by unfold keyOk at hk; omega) (by unfold keyOk at hk; omega)).trans (had4 k (by unfold keyOk at hk; omega))) (fun _ _ => rfl)
    have hr2' : refR ad40 2000 (yB Y) f2 := fun i => by rw [hr2 i]; by_cases q9 : i < yB Y <;> first | rw [if_pos q9, if_pos q9, show ad40 (2000 + i) = ad (2000 + i) from (hadc (2000 + i) (by omega) (by omega)).trans (had4 (2000 + i) (by omega))] | rw [if_neg q9, if_neg q9]
    exact ⟨rfl, congrArg nI (by omega), KR_bolt hKR rfl rfl rfl, YR_bolt (u := Ew11) (ad := ad40) hR1 hY hE2 hr2' (by show _ = yardO ad40 _ _ _ _; rw [yardO, (show ad40 1 = ad 1 from (hadc (1) (by omega) (by omega)).trans (had4 (1) (by omega))), (show ad40 2 = ad 2 from (hadc (2) (by omega) (by omega)).trans (had4 (2) (by omega))), (show ad40 3 = ad 3 from (hadc (3) (by omega) (by omega)).trans (had4 (3) (by omega))), (show ad40 4 = ad 4 from (hadc (4) (by omega) (by omega)).trans (had4 (4) (by omega))), (show ad40 5 = ad 5 from (hadc (5) (by omega) (by omega)).trans (had4 (5) (by omega))), (show ad40 6 = ad 6 from (hadc (6) (by omega) (by omega)).trans (had4 (6) (by omega))), (show ad40 18 = ad 18 from (hadc (18) (by omega) (by omega)).trans (had4 (18) (by omega)))]; exact eEw11_25) (by rw [show ad40 (2000 + yB Y) = ad4 (2000 + yB Y) from hadc _ (by omega) (by omega)]; exact eEw11_38) ⟨_, _, (show Ew11 (2000 + yB Y) = .inr (0, [.int (nI (yNow Y)), .ref ((ad40 (3000 + yB Y))), .ref ((ad40 (4000 + yB Y))), .int (nI (1))]) by rw [hEw11, va_up_ne _ _ (by omega), hEw8, va_up_ne _ _ (by omega)]; exact kc0), (show Ew11 (3000 + yB Y) = .inl (cy 0, 4, .inl (fun _ => 0)) by rw [hEw11, va_up_ne _ _ (by omega), hEw8, va_up_ne _ _ (by omega)]; exact kc1), (show Ew11 (4000 + yB Y) = .inl (cy 0, 4, .inl (upd (fun _ => 0) (0) (a))) by rw [hEw11, va_up_ne _ _ (by omega), hEw8, va_up_ne _ _ (by omega)]; exact kc2), arr_one (by omega)⟩ (fun j_ h0_ h1_ h2_ h3_ h4_ => by rw [hEw11, va_up_ne _ _ h0_, hEw8, va_up_ne _ _ h1_, hOc j_ h2_ h3_ h4_, hEw4, va_up_ne _ _ h2_]), (hadc (0) (by omega) (by omega)).trans (had4 (0) (by omega))⟩), by rw [ht]; exact hP, va_K.moved hW.alike hK, hD⟩, hS.F ht⟩) hS.2.2 dX4_bolt_60
      · skip
        refine lv_iconst (v := (zI ((-1)))) hx hb dX4_bolt_21 (by decide) ?_
        refine W.widen (k := 3) (n := 12) (by omega) (by omega) ?_
        exact W.iret (v := (zI ((-1)))) hx hb hr (fun t ht hW => ⟨⟨_, (K, ad, E), rfl, (by rw [sp_bolt, if_neg (fun q9 => by omega)]; exact ⟨rfl, rfl, hKR, hR, rfl⟩), by rw [ht]; exact hP, va_K.moved hW.alike hK, hD⟩, hS.F ht⟩) hS.2.2 dX4_bolt_22
