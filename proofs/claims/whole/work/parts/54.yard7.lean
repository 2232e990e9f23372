set_option maxHeartbeats 4000000 in
set_option maxRecDepth 100000 in
theorem c_X4_tell (l : Launch) (hlt : l.stackTraces = false) (D : va_G) (cy : Nat → ClassId) (sz : Nat) (sa : Nat → Nat) (K : List Nat) (ad : Nat → Nat) (E : Nat → va_E) (Y : YT) (hKR : KR K Y) (hR : YR cy ad E Y) (hY : WF Y) (a : Int32) (b : Int32) (v : Int32) : vx_Met l yX4_tell wsX4_tell ({ frames := 7, cells := 2, slots := 12, locals := 104 } : Room) (va_Pc [.ref ((ad (0))), .int (a), .int (b), .int (v)] (wX D cy sz sa (kW K ad E))) (va_Qi (fun (r : Int32) (u : Nat → va_E) => YP cy ad (sp_tell Y a b v) r u) (fun u t => wE D cy (va_A (kW K ad E) sz) (kW K ad u) t) (va_A (kW K ad E) sz)) (vx_X (fun _ : Unit => True) (fun (En : String) _ t => (xOk En (sp_tell Y a b v).1 1 2) ∧ wE D cy (va_A (kW K ad E) sz) (kW K ad E) t) (va_A (kW K ad E) sz)) 2 12 (va_A (kW K ad E) sz) := by
  refine vx_ofW (cc := cX4_tell) (maxL := 5) (ret := (some .int)) (by decide) rfl ?_
  intro p e s m args below meth c s₁ B hml htb hv
  obtain ⟨rfl, ⟨⟨hsz, hP, hK, hD0⟩, hN⟩, hX, hZ⟩ := hv
  have hx := B.exec
  have hb := B.bytes
  have hr := B.returns
  have hts := atoms_spec (ws := wsX4_tell) B.pre
  have hown : s.vm.findClass RX4 = some m.cls := findClass_of_methodNamed B.named
  have hlocks := B.notSynchronized
  subst hsz
  have hD := hD0.self (sz := s.heap.size)
  generalize hAe : va_A (kW K ad E) s.heap.size = A at hD hZ ⊢
  have hA : ∀ q : Nat, s.heap.size ≤ q → A q := w_A hAe
  have hS : va_S A s.heap s.heap [] := va_S.rf
  have hnd := kW_nd hD
  have hl := lv_entry ([.ref ((ad (0))), .int (a), .int (b), .int (v)]) (n := 5) (Nat.le_of_ble_eq_true rfl)
  rw [lg_entry_eq]
  generalize (lg_sl ([.ref ((ad (0))), .int (a), .int (b), .int (v)]) ++ List.replicate (5 - (lg_sl ([.ref ((ad (0))), .int (a), .int (b), .int (v)])).length) Slot.unset).toArray = ls at hl ⊢
  have hl : lv_has ls 5 [(0, .ref ((ad (0)))), (1, .int (a)), (2, .int (b)), (3, .int (v))] := hl
  obtain ⟨⟨hE0, f1, f2, f3, hE1, hE2, hE3, hr1, hr2, hr3⟩, ⟨f4, f5, hE4, hE5, hbr, hwt⟩, hsaw, hspa, hYf, hYb, hYc⟩ := id hR
  obtain ⟨hy0, hyF, hyB, hyC, hyf, hyb, hyc, hyr, hyw⟩ := id hY
  refine lv_aload_n hx hb dX4_tell_0 rfl (lv_at hl 0 rfl) ?_
  refine lv_iload_n hx hb dX4_tell_1 rfl (lv_at hl 1 rfl) ?_
  have hFc := w_free hD hS hA
  obtain ⟨p1, hp1⟩ := kW_pos (hKR.m (show keyOk Y (0) by unfold keyOk; omega))
  refine vx_callr (vx_runV (As := [.int (a)]) (rest := []) ⟨hx, hb, hml, hown, hts⟩ (c_X4_caskAt l hlt D cy s.heap.size sa K ad E (hKR.m (show keyOk Y (0) by unfold keyOk; omega)) (yF Y) (yB Y) (yC Y) (yNow Y) (hE0) (hKR.m (show keyOk Y (3) by unfold keyOk; omega)) (f3) (hE3) (hr3) (hyC) (a)) (cwV 1 hts gX4_tell_X4_caskAt rfl rfl rfl (by decide +kernel) ⟨Nat.le_of_ble_eq_true rfl, Nat.le_of_ble_eq_true rfl⟩) ⟨wX_blind, va_recv hK hP (ci := 4) (q0 := p1) rfl (kW_get hp1 hE0), wX_pre hP hK hD hN hX hZ hS hA⟩ rfl rfl hl.1 rfl (lv_room (Nat.le_of_ble_eq_true rfl)) dX4_tell_2 ⟨Nat.le_of_ble_eq_true rfl, Nat.le_of_ble_eq_true rfl⟩) hS (fun q _ h => hFc q h) hFc (fun q _ h => hFc q h) (fun En ce q9 u9 t9 H locs ht hvm hpx hBX _ _ hS hce hcv hcl => ?_) (fun u_2 ra_2 t9 H locs ht hvm hw_2 hB _ _ hS => ?_)
  · exact vx_out (fun x hx => (htb x hx).elim) hlocks hce hcv hcl (fun t ht2 hal => ⟨(), trivial, ⟨Or.inl ⟨hBX.1.1, by rw [sp_tell, if_neg hBX.1.2]⟩, by rw [ht2, ← ht]; exact hBX.2.1, va_K.moved hal hK, hBX.2.2.2.weaken (fun _ _ _ h => hFc _ h)⟩, hS.F ht2⟩) hS.2.2 (by decide) (by decide)
  obtain ⟨hra_2, hP1, hK1, hD1⟩ := hB
  subst hra_2
  rw [ht] at hP1
  have hP := hP1
  have hD := hD1.weaken (fun _ _ _ h => hFc _ h)
  have hiaa := ix_lt hw_2
  obtain ⟨fb, fp, fd, ft, fk, hc0, hc1, hc2, hc3, hc4, hc5, hcbp, hcE⟩ := hYc (ix a) (by omega)
  have hcwhc := hyc (ix a) (by omega)
  have hfhc := hYf (ycf Y (ix a)) hcwhc.1
  have hfohc := hyf (ycf Y (ix a)) hcwhc.1
  have hcfhc := hcwhc.1
  have hmfhc : 1000 + ycf Y (ix a) ∈ K := (hKR.m (show keyOk Y (1000 + ycf Y (ix a)) by unfold keyOk; omega))
  have hqhc : ∀ q ∈ yE Y (ix a), q.1 ≤ 100000 ∧ q.2.1 ≤ 100000 ∧ q.2.2 ≤ 16 := fun q hq => by have h9 := hcwhc.2.2.1 q hq; exact ⟨by omega, by omega, h9.2.2⟩
  refine lv_astore (lv' := [(4, .ref ((ad (5000 + ix a)))), (0, .ref ((ad (0)))), (1, .int (a)), (2, .int (b)), (3, .int (v))]) hx hb dX4_tell_5 hl (by decide) rfl (fun ls hl => ?_)
  refine lv_iload_n hx hb dX4_tell_7 rfl (lv_at hl 4 rfl) ?_
  refine lv_bipush (v := (nI (16))) hx hb dX4_tell_8 (by decide) ?_
  refine g_icmp_eq (tgt := 17) hx hb dX4_tell_10 (by decide) rfl (n_i (by omega)) (fun c_10 => ?_) (fun c_10 => ?_)
  · skip
    have hxv := ix_c (a := v) (by omega)
    have hnv := ix_n (a := v) (by omega)
    have hk17 : isIx v 17 := ⟨by omega, by omega⟩
    have hlen4 := hcwhc.2.1
    have hl : lv_has ls 5 [(4, .ref ((ad (5000 + ix a)))), (0, .ref ((ad (0)))), (1, .int (a)), (2, .int (b)), (3, .int (nI (ix v)))] := by rw [← hnv]; exact hl
    refine lv_iload_n hx hb dX4_tell_17 rfl (lv_at hl 3 rfl) ?_
    refine g_if_lt (tgt := 39) hx hb dX4_tell_18 (by decide) rfl (fun c_18 => ?_) (fun c_18 => ?_)
    · skip
      refine lv_iconst (v := (zI ((-1)))) hx hb dX4_tell_39 (by decide) ?_
      refine vx_ret ?_
      refine W.widen (k := 2) (n := 12) (by omega) (by omega) ?_
      exact W.iret (v := (zI ((-1)))) hx hb hr (fun t ht hW => ⟨⟨_, E, rfl, by rw [sp_tell, if_pos hw_2, if_pos hk17, if_neg (fun q9 => by have h91 := q9.1.1; have h92 := q9.1.2; have h93 := q9.2.1; omega)]; exact ⟨rfl, rfl, hR⟩, by rw [ht]; exact hP, va_K.moved hW.alike hK, hD⟩, hS.F ht⟩) hS.2.2 dX4_tell_40
    · skip
      refine lv_iload_n hx hb dX4_tell_21 rfl (lv_at hl 3 rfl) ?_
      refine lv_aload_n hx hb dX4_tell_22 rfl (lv_at hl 1 rfl) ?_
      obtain ⟨p2, hp2⟩ := kW_pos (hKR.m (show keyOk Y (0) by unfold keyOk; omega))
      refine va_get (D := D) (ci := 4) (v := .int (nI (yNow Y))) (C := RX4) (T := TX4) (N := 11) hx hb hts (by decide +kernel) hown hK hP p2 (kW_get hp2 hE0) rfl 10 (by decide) (hts (.fieldLink RX4 88 "CaskYard" "now" "I") (by decide +kernel)) (fun _ h9 => h9) rfl dX4_tell_23 ?_
      refine g_icmp_gt (tgt := 39) hx hb dX4_tell_26 (by decide) rfl (n_i (by omega)) (fun c_26 => ?_) (fun c_26 => ?_)
      · skip
        refine lv_iconst (v := (zI ((-1)))) hx hb dX4_tell_39 (by decide) ?_
        refine vx_ret ?_
        refine W.widen (k := 2) (n := 12) (by omega) (by omega) ?_
        exact W.iret (v := (zI ((-1)))) hx hb hr (fun t ht hW => ⟨⟨_, E, rfl, by rw [sp_tell, if_pos hw_2, if_pos hk17, if_neg (fun q9 => by have h91 := q9.1.1; have h92 := q9.1.2; have h93 := q9.2.1; omega)]; exact ⟨rfl, rfl, hR⟩, by rw [ht]; exact hP, va_K.moved hW.alike hK, hD⟩, hS.F ht⟩) hS.2.2 dX4_tell_40
      · skip
        have hxb := ix_c (a := b) (by omega)
        have hnb := ix_n (a := b) (by omega)
        have hl : lv_has ls 5 [(4, .ref ((ad (5000 + ix a)))), (0, .ref ((ad (0)))), (1, .int (a)), (2, .int (nI (ix b))), (3, .int (nI (ix v)))] := by rw [← hnb]; exact hl
        refine lv_aload hx hb dX4_tell_29 (lv_at hl 0 rfl) ?_
        obtain ⟨p3, hp3⟩ := kW_pos (hKR.m (show keyOk Y (5000 + ix a) by unfold keyOk; omega))
        refine va_get (D := D) (ci := 1) (v := .int (nI ((yE Y (ix a)).length))) (C := RX1) (T := TX1) (N := 8) hx hb hts (by decide +kernel) hown hK hP p3 (kW_get hp3 hc0) rfl 7 (by decide) (hts (.fieldLink RX4 194 "CaskYard$Cask" "entries" "I") (by decide +kernel)) (fun _ h9 => h9) rfl dX4_tell_31 ?_
        refine lv_bipush (v := (nI (40))) hx hb dX4_tell_34 (by decide) ?_
        refine g_icmp_lt (tgt := 41) hx hb dX4_tell_36 (by decide) (n_i (by omega)) (n_i (by omega)) (fun c_36 => ?_) (fun c_36 => ?_)
        · skip
          refine lv_iload_n hx hb dX4_tell_41 rfl (lv_at hl 4 rfl) ?_
          refine lv_bipush (v := (nI (16))) hx hb dX4_tell_42 (by decide) ?_
          refine g_icmp_eq (tgt := 65) hx hb dX4_tell_44 (by decide) (n_i (by omega)) (n_i (by omega)) (fun c_44 => ?_) (fun c_44 => ?_)
          · skip
            refine lv_aload hx hb dX4_tell_65 (lv_at hl 0 rfl) ?_
            refine lv_iload_n hx hb dX4_tell_67 rfl (lv_at hl 3 rfl) ?_
            refine lv_aload_n hx hb dX4_tell_68 rfl (lv_at hl 1 rfl) ?_
            obtain ⟨p4, hp4⟩ := kW_pos (hKR.m (show keyOk Y (0) by unfold keyOk; omega))
            refine va_get (D := D) (ci := 4) (v := .int (nI (yNow Y))) (C := RX4) (T := TX4) (N := 11) hx hb hts (by decide +kernel) hown hK hP p4 (kW_get hp4 hE0) rfl 10 (by decide) (hts (.fieldLink RX4 88 "CaskYard" "now" "I") (by decide +kernel)) (fun _ h9 => h9) rfl dX4_tell_69 ?_
            refine lv_iload_n hx hb dX4_tell_72 rfl (lv_at hl 4 rfl) ?_
            have hFc := w_free hD hS hA
            obtain ⟨p5, hp5⟩ := kW_pos (hKR.m (show keyOk Y (5000 + ix a) by unfold keyOk; omega))
            refine va_callv (va_runV (As := [.int (nI (ix b)), .int (nI (yNow Y)), .int (nI (ix v))]) (rest := []) ⟨hx, hb, hml, hown, hts⟩ (c_X1_addEntry l D cy H.size K ad E (5000 + ix a) (6000 + ix a) (7000 + ix a) (8000 + ix a) (9000 + ix a) (10000 + ix a) (1000 + ycf Y (ix a)) (hKR.m (show keyOk Y (5000 + ix a) by unfold keyOk; omega)) (nI (ycf Y (ix a))) ((yE Y (ix a)).length) (hc0) (hKR.m (show keyOk Y (8000 + ix a) by unfold keyOk; omega)) (fd) (hc3) (hKR.m (show keyOk Y (9000 + ix a) by unfold keyOk; omega)) (ft) (hc4) (hKR.m (show keyOk Y (10000 + ix a) by unfold keyOk; omega)) (fk) (hc5) (⟨by omega, by omega, by omega, by omega, by omega, by omega⟩) (by omega) (ix b) (yNow Y) (ix v)) (cwV 3 hts gX4_tell_X1_addEntry rfl rfl rfl (by decide +kernel) ⟨Nat.le_of_ble_eq_true rfl, Nat.le_of_ble_eq_true rfl⟩) ⟨wB2_blind, va_recv hK hP (ci := 1) (q0 := p5) rfl (kW_get hp5 hc0), wB2_pre hP hK hD hN⟩ rfl rfl hl.1 rfl (lv_room (Nat.le_of_ble_eq_true rfl)) dX4_tell_73 ⟨Nat.le_of_ble_eq_true rfl, Nat.le_of_ble_eq_true rfl⟩) hS (fun q _ h => hFc q h) hFc (fun E_73 t_ H locs ht hvm hw_73 hB _ _ hS => ?_)
            obtain ⟨hP1, hK1, hD1⟩ := hB
            rw [ht] at hP1
            have hP := hP1
            have hD := hD1.weaken (fun _ _ _ h => hFc _ h)
            obtain ⟨k73_0, k73_1, k73_2, k73_3, hO73⟩ := hw_73
            have fC73_25 : E_73 (0) = .inr (4, [.ref ((ad (1))), .ref ((ad (2))), .ref ((ad (3))), .ref ((ad (4))), .ref ((ad (5))), .ref ((ad (6))), .ref ((ad (18))), .int (nI (yF Y)), .int (nI (yB Y)), .int (nI (yC Y)), .int (nI (yNow Y))]) := (hO73 (0) (by omega) (by omega) (by omega) (by omega)).trans hE0
            have fC73_28 : E_73 (3) = .inl (cy 5, 30, .inr (.inr (.inr (.inr (f3))))) := (hO73 (3) (by omega) (by omega) (by omega) (by omega)).trans hE3
            have fC73_27 : E_73 (4) = .inl (cy 0, 16, .inl (f4)) := (hO73 (4) (by omega) (by omega) (by omega) (by omega)).trans hE4
            have fC73_29 : E_73 (6000 + ix a) = .inl (cy 0, 40, .inl (fb)) := (hO73 (6000 + ix a) (by omega) (by omega) (by omega) (by omega)).trans hc1
            have fC73_30 : E_73 (7000 + ix a) = .inl (cy 0, 40, .inl (fp)) := (hO73 (7000 + ix a) (by omega) (by omega) (by omega) (by omega)).trans hc2
            have fC73_31 : E_73 (1000 + ycf Y (ix a)) = .inr (2, [.int (nI (yh Y (ycf Y (ix a)))), .int (nI (yg Y (ycf Y (ix a)))), .int (nI (ye Y (ycf Y (ix a)))), .int (nI (ys Y (ycf Y (ix a))))]) := (hO73 (1000 + ycf Y (ix a)) (by omega) (by omega) (by omega) (by omega)).trans hfhc
            refine lv_aload hx hb dX4_tell_76 (lv_at hl 0 rfl) ?_
            obtain ⟨p6, hp6⟩ := kW_pos (hKR.m (show keyOk Y (5000 + ix a) by unfold keyOk; omega))
            refine va_get (D := D) (ci := 1) (v := .int (nI (((yE Y (ix a)).length) + 1))) (C := RX1) (T := TX1) (N := 8) hx hb hts (by decide +kernel) hown hK hP p6 (kW_get hp6 k73_0) rfl 7 (by decide) (hts (.fieldLink RX4 194 "CaskYard$Cask" "entries" "I") (by decide +kernel)) (fun _ h9 => h9) rfl dX4_tell_78 ?_
            refine vx_ret ?_
            refine W.widen (k := 2) (n := 12) (by omega) (by omega) ?_
            exact W.iret (v := (nI (((yE Y (ix a)).length) + 1))) hx hb hr (fun t ht hW => ⟨⟨_, E_73, rfl, (by
    have hO9 : ∀ j_ : Nat, j_ ≠ 5000 + ix a → j_ ≠ 7000 + ix a → j_ ≠ 8000 + ix a → j_ ≠ 9000 + ix a → j_ ≠ 10000 + ix a → E_73 j_ = E j_ := (fun j_ h0_ h1_ h2_ h3_ h4_ => by rw [hO73 j_ h0_ h2_ h3_ h4_])
    have hcN : caskAt cy ad E_73 (ix a) (ycf Y (ix a)) (ys Y (ycf Y (ix a))) (ybo Y (ix a)) (fun k => if ix v < 16 then ypa Y (ix a) k ||| 2 ^ ix v else ypa Y (ix a) k) (yE Y (ix a) ++ [(ix b, yNow Y, ix v)]) := ⟨fb, _, _, _, _, (by rw [List.length_append]; exact k73_0), fC73_29, fC73_30, k73_1, k73_2, k73_3, (fun k hk => ⟨(hcbp k hk).1, by show fp k = nI (if ix v < 16 then ypa Y (ix a) k ||| 2 ^ ix v else ypa Y (ix a) k); rw [if_neg (by omega)]; exact (hcbp k hk).2⟩), arrE_push hcE rfl⟩
    rw [sp_tell, if_pos hw_2, if_pos hk17, if_pos ⟨⟨by omega, by omega⟩, by omega, Or.inl (by omega)⟩]
    refine ⟨rfl, rfl, YR_bc hR (saw_congr hsaw (fun k _ _ => hO9 k (by omega) (by omega) (by omega) (by omega) (by omega))) (spare_congr hspa (fun k _ _ => hO9 k (by omega) (by omega) (by omega) (by omega) (by omega))) (fun k _ => hO9 k (by omega) (by omega) (by omega) (by omega) (by omega)) hyF (fun b9 hb9 => boltAt_congr (hYb b9 hb9) (hO9 _ (by omega) (by omega) (by omega) (by omega) (by omega)) (hO9 _ (by omega) (by omega) (by omega) (by omega) (by omega)) (hO9 _ (by omega) (by omega) (by omega) (by omega) (by omega))) rfl (fun c9 hc9 => ?_)⟩
    by_cases e9 : c9 = ix a
    · rw [e9, va_up_ne _ _ (show 0 ≠ 1 by decide), va_up_self, va_up_self, va_up_self]
      exact hcN
    · have := caskAt_congr (u := E_73) (hYc c9 hc9) (fun o9 ho9 => hO9 _ (by omega) (by omega) (by omega) (by omega) (by omega))
      rw [va_up_ne _ _ (show 0 ≠ 1 by decide), va_up_self, va_up_ne _ _ e9, va_up_ne _ _ e9]
      exact this), by rw [ht]; exact hP, va_K.moved hW.alike hK, hD⟩, hS.F ht⟩) hS.2.2 dX4_tell_81
          · skip
            exfalso; omega
        · skip
          refine lv_iconst (v := (zI ((-1)))) hx hb dX4_tell_39 (by decide) ?_
          refine vx_ret ?_
          refine W.widen (k := 2) (n := 12) (by omega) (by omega) ?_
          exact W.iret (v := (zI ((-1)))) hx hb hr (fun t ht hW => ⟨⟨_, E, rfl, by rw [sp_tell, if_pos hw_2, if_pos hk17, if_neg (fun q9 => by have h91 := q9.1.1; have h92 := q9.1.2; have h93 := q9.2.1; omega)]; exact ⟨rfl, rfl, hR⟩, by rw [ht]; exact hP, va_K.moved hW.alike hK, hD⟩, hS.F ht⟩) hS.2.2 dX4_tell_40
  · skip
    refine lv_iload_n hx hb dX4_tell_13 rfl (lv_at hl 4 rfl) ?_
    have hFc := w_free hD hS hA
    refine vx_callv (vx_runS (As := [.int (v)]) (rest := []) ⟨hx, hb, hml, hown, hts⟩ (c_X4_checkKind l hlt D cy H.size sa K ad E (v)) (va_cwS 1 hts gX4_tell_X4_checkKind rfl rfl rfl (by decide +kernel) ⟨Nat.le_of_ble_eq_true rfl, Nat.le_of_ble_eq_true rfl⟩) ⟨wX_blind, wX_pre hP hK hD hN hX hZ hS hA⟩ rfl rfl hl.1 rfl (lv_room (Nat.le_of_ble_eq_true rfl)) dX4_tell_14 ⟨Nat.le_of_ble_eq_true rfl, Nat.le_of_ble_eq_true rfl⟩) hS (fun q _ h => hFc q h) hFc (fun q _ h => hFc q h) (fun En ce q9 u9 t9 H locs ht hvm hpx hBX _ _ hS hce hcv hcl => ?_) (fun u_14 t9 H locs ht hvm hw_14 hB _ _ hS => ?_)
    · exact vx_out (fun x hx => (htb x hx).elim) hlocks hce hcv hcl (fun t ht2 hal => ⟨(), trivial, ⟨Or.inr ⟨hBX.1.1, by rw [sp_tell, if_pos hw_2, if_neg (fun q9 => hBX.1.2 ⟨q9.1, by have := q9.2; omega⟩)]⟩, by rw [ht2, ← ht]; exact hBX.2.1, va_K.moved hal hK, hBX.2.2.2.weaken (fun _ _ _ h => hFc _ h)⟩, hS.F ht2⟩) hS.2.2 (by decide) (by decide)
    obtain ⟨hP1, hK1, hD1⟩ := hB
    rw [ht] at hP1
    have hP := hP1
    have hD := hD1.weaken (fun _ _ _ h => hFc _ h)
    obtain ⟨hue_14, hok_14⟩ := hw_14
    rw [hue_14] at hP hD
    have hxv := ix_c hok_14.1
    have hltv := ix_lt hok_14
    have hnv := ix_n hok_14.1
    have hk17 : isIx v 17 := ⟨by omega, by omega⟩
    have hlen4 := hcwhc.2.1
    have hl : lv_has ls 5 [(4, .ref ((ad (5000 + ix a)))), (0, .ref ((ad (0)))), (1, .int (a)), (2, .int (b)), (3, .int (nI (ix v)))] := by rw [← hnv]; exact hl
    refine lv_iload_n hx hb dX4_tell_17 rfl (lv_at hl 3 rfl) ?_
    refine g_if_lt (tgt := 39) hx hb dX4_tell_18 (by decide) rfl (fun c_18 => ?_) (fun c_18 => ?_)
    · skip
      refine lv_iconst (v := (zI ((-1)))) hx hb dX4_tell_39 (by decide) ?_
      refine vx_ret ?_
      exact W.iret (v := (zI ((-1)))) hx hb hr (fun t ht hW => ⟨⟨_, E, rfl, by rw [sp_tell, if_pos hw_2, if_pos hk17, if_neg (fun q9 => by have h91 := q9.1.1; have h92 := q9.1.2; have h93 := q9.2.1; omega)]; exact ⟨rfl, rfl, hR⟩, by rw [ht]; exact hP, va_K.moved hW.alike hK, hD⟩, hS.F ht⟩) hS.2.2 dX4_tell_40
    · skip
      refine lv_iload_n hx hb dX4_tell_21 rfl (lv_at hl 3 rfl) ?_
      refine lv_aload_n hx hb dX4_tell_22 rfl (lv_at hl 1 rfl) ?_
      obtain ⟨p7, hp7⟩ := kW_pos (hKR.m (show keyOk Y (0) by unfold keyOk; omega))
      refine va_get (D := D) (ci := 4) (v := .int (nI (yNow Y))) (C := RX4) (T := TX4) (N := 11) hx hb hts (by decide +kernel) hown hK hP p7 (kW_get hp7 hE0) rfl 10 (by decide) (hts (.fieldLink RX4 88 "CaskYard" "now" "I") (by decide +kernel)) (fun _ h9 => h9) rfl dX4_tell_23 ?_
      refine g_icmp_gt (tgt := 39) hx hb dX4_tell_26 (by decide) rfl (n_i (by omega)) (fun c_26 => ?_) (fun c_26 => ?_)
      · skip
        refine lv_iconst (v := (zI ((-1)))) hx hb dX4_tell_39 (by decide) ?_
        refine vx_ret ?_
        exact W.iret (v := (zI ((-1)))) hx hb hr (fun t ht hW => ⟨⟨_, E, rfl, by rw [sp_tell, if_pos hw_2, if_pos hk17, if_neg (fun q9 => by have h91 := q9.1.1; have h92 := q9.1.2; have h93 := q9.2.1; omega)]; exact ⟨rfl, rfl, hR⟩, by rw [ht]; exact hP, va_K.moved hW.alike hK, hD⟩, hS.F ht⟩) hS.2.2 dX4_tell_40
      · skip
        have hxb := ix_c (a := b) (by omega)
        have hnb := ix_n (a := b) (by omega)
        have hl : lv_has ls 5 [(4, .ref ((ad (5000 + ix a)))), (0, .ref ((ad (0)))), (1, .int (a)), (2, .int (nI (ix b))), (3, .int (nI (ix v)))] := by rw [← hnb]; exact hl
        refine lv_aload hx hb dX4_tell_29 (lv_at hl 0 rfl) ?_
        obtain ⟨p8, hp8⟩ := kW_pos (hKR.m (show keyOk Y (5000 + ix a) by unfold keyOk; omega))
        refine va_get (D := D) (ci := 1) (v := .int (nI ((yE Y (ix a)).length))) (C := RX1) (T := TX1) (N := 8) hx hb hts (by decide +kernel) hown hK hP p8 (kW_get hp8 hc0) rfl 7 (by decide) (hts (.fieldLink RX4 194 "CaskYard$Cask" "entries" "I") (by decide +kernel)) (fun _ h9 => h9) rfl dX4_tell_31 ?_
        refine lv_bipush (v := (nI (40))) hx hb dX4_tell_34 (by decide) ?_
        refine g_icmp_lt (tgt := 41) hx hb dX4_tell_36 (by decide) (n_i (by omega)) (n_i (by omega)) (fun c_36 => ?_) (fun c_36 => ?_)
        · skip
          refine lv_iload_n hx hb dX4_tell_41 rfl (lv_at hl 4 rfl) ?_
          refine lv_bipush (v := (nI (16))) hx hb dX4_tell_42 (by decide) ?_
          refine g_icmp_eq (tgt := 65) hx hb dX4_tell_44 (by decide) (n_i (by omega)) (n_i (by omega)) (fun c_44 => ?_) (fun c_44 => ?_)
          · skip
            exfalso; omega
          · skip
            refine lv_aload_n hx hb dX4_tell_47 rfl (lv_at hl 1 rfl) ?_
            refine lv_aload hx hb dX4_tell_48 (lv_at hl 0 rfl) ?_
            refine lv_iload_n hx hb dX4_tell_50 rfl (lv_at hl 4 rfl) ?_
            obtain ⟨p9, hp9⟩ := kW_pos (hKR.m (show keyOk Y (0) by unfold keyOk; omega))
            refine vp_callSi (va_Run.run (va_runV (As := [.ref ((ad (5000 + ix a))), .int (nI (ix v))]) (rest := []) ⟨hx, hb, hml, hown, hts⟩ (c_X4_isLet l D cy K ad E (hKR.m (show keyOk Y (0) by unfold keyOk; omega)) (yF Y) (yB Y) (yC Y) (yNow Y) (hE0) (hKR.m (show keyOk Y (4) by unfold keyOk; omega)) (f4) (hE4) (5000 + ix a) (6000 + ix a) (7000 + ix a) (8000 + ix a) (9000 + ix a) (10000 + ix a) (1000 + ycf Y (ix a)) (hKR.m (show keyOk Y (5000 + ix a) by unfold keyOk; omega)) (nI (ycf Y (ix a))) ((yE Y (ix a)).length) (hc0) (hKR.m (show keyOk Y (7000 + ix a) by unfold keyOk; omega)) (fp) (hc2) (hmfhc) (yh Y (ycf Y (ix a))) (yg Y (ycf Y (ix a))) (ye Y (ycf Y (ix a))) (ys Y (ycf Y (ix a))) (hfhc) (hfohc) (ypa Y (ix a)) (fun k hk => (hcbp k hk).2) (fun k hk => (hcwhc.2.2.2 k hk).2) (fun p => ybr Y p (ix v)) (ix v) (by omega) (fun a9 ha9 => by obtain ⟨v9, h91, h92, h93⟩ := hbr a9 ha9; exact ⟨v9, h91, h92, h93 _ (by omega)⟩)) (cwV 2 hts gX4_tell_X4_isLet rfl rfl rfl (by decide +kernel) ⟨Nat.le_of_ble_eq_true rfl, Nat.le_of_ble_eq_true rfl⟩) ⟨rB2_blind, va_recv hK hP (ci := 4) (q0 := p9) rfl (kW_get hp9 hE0), (rB2_pre hP hK hN)⟩ rfl rfl hl.1 rfl (lv_room (Nat.le_of_ble_eq_true rfl)) dX4_tell_51 ⟨Nat.le_of_ble_eq_true rfl, Nat.le_of_ble_eq_true rfl⟩)) (fun r_51 hr_51 => ?_)
            subst hr_51
            refine g_ifne_b (tgt := 59) hx hb dX4_tell_54 (by decide) (fun c_54 => ?_) (fun c_54 => ?_)
            · skip
              refine lv_aload hx hb dX4_tell_59 (lv_at hl 0 rfl) ?_
              refine lv_iload_n hx hb dX4_tell_61 rfl (lv_at hl 4 rfl) ?_
              have hFc := w_free hD hS hA
              obtain ⟨p10, hp10⟩ := kW_pos (hKR.m (show keyOk Y (5000 + ix a) by unfold keyOk; omega))
              refine va_callv (va_runV (As := [.int (nI (ix v))]) (rest := []) ⟨hx, hb, hml, hown, hts⟩ (c_X1_meet l D cy H.size K ad E (5000 + ix a) (6000 + ix a) (7000 + ix a) (8000 + ix a) (9000 + ix a) (10000 + ix a) (1000 + ycf Y (ix a)) (hKR.m (show keyOk Y (5000 + ix a) by unfold keyOk; omega)) (nI (ycf Y (ix a))) ((yE Y (ix a)).length) (hc0) (hKR.m (show keyOk Y (7000 + ix a) by unfold keyOk; omega)) (fp) (hc2) (hmfhc) (yh Y (ycf Y (ix a))) (yg Y (ycf Y (ix a))) (ye Y (ycf Y (ix a))) (ys Y (ycf Y (ix a))) (hfhc) (hfohc) (⟨by omega, by omega⟩) (ypa Y (ix a)) (fun k hk => (hcbp k hk).2) (ix v) (by omega)) (cwV 1 hts gX4_tell_X1_meet rfl rfl rfl (by decide +kernel) ⟨Nat.le_of_ble_eq_true rfl, Nat.le_of_ble_eq_true rfl⟩) ⟨wB2_blind, va_recv hK hP (ci := 1) (q0 := p10) rfl (kW_get hp10 hc0), wB2_pre hP hK hD hN⟩ rfl rfl hl.1 rfl (lv_room (Nat.le_of_ble_eq_true rfl)) dX4_tell_62 ⟨Nat.le_of_ble_eq_true rfl, Nat.le_of_ble_eq_true rfl⟩) hS (fun q _ h => hFc q h) hFc (fun E_62 t_ H locs ht hvm hw_62 hB _ _ hS => ?_)
              obtain ⟨hP1, hK1, hD1⟩ := hB
              rw [ht] at hP1
              have hP := hP1
              have hD := hD1.weaken (fun _ _ _ h => hFc _ h)
              obtain ⟨f62, k62_0, hO62, ha62⟩ := hw_62
              have fC62_25 : E_62 (0) = .inr (4, [.ref ((ad (1))), .ref ((ad (2))), .ref ((ad (3))), .ref ((ad (4))), .ref ((ad (5))), .ref ((ad (6))), .ref ((ad (18))), .int (nI (yF Y)), .int (nI (yB Y)), .int (nI (yC Y)), .int (nI (yNow Y))]) := (hO62 (0) (by omega)).trans hE0
              have fC62_28 : E_62 (3) = .inl (cy 5, 30, .inr (.inr (.inr (.inr (f3))))) := (hO62 (3) (by omega)).trans hE3
              have fC62_27 : E_62 (4) = .inl (cy 0, 16, .inl (f4)) := (hO62 (4) (by omega)).trans hE4
              have fC62_32 : E_62 (5000 + ix a) = .inr (1, [.int (nI (ycf Y (ix a))), .ref ((ad (1000 + ycf Y (ix a)))), .ref ((ad (6000 + ix a))), .ref ((ad (7000 + ix a))), .ref ((ad (8000 + ix a))), .ref ((ad (9000 + ix a))), .ref ((ad (10000 + ix a))), .int (nI ((yE Y (ix a)).length))]) := (hO62 (5000 + ix a) (by omega)).trans hc0
              have fC62_29 : E_62 (6000 + ix a) = .inl (cy 0, 40, .inl (fb)) := (hO62 (6000 + ix a) (by omega)).trans hc1
              have fC62_33 : E_62 (8000 + ix a) = .inl (cy 0, 40, .inl (fd)) := (hO62 (8000 + ix a) (by omega)).trans hc3
              have fC62_34 : E_62 (9000 + ix a) = .inl (cy 0, 40, .inl (ft)) := (hO62 (9000 + ix a) (by omega)).trans hc4
              have fC62_35 : E_62 (10000 + ix a) = .inl (cy 0, 40, .inl (fk)) := (hO62 (10000 + ix a) (by omega)).trans hc5
              have fC62_31 : E_62 (1000 + ycf Y (ix a)) = .inr (2, [.int (nI (yh Y (ycf Y (ix a)))), .int (nI (yg Y (ycf Y (ix a)))), .int (nI (ye Y (ycf Y (ix a)))), .int (nI (ys Y (ycf Y (ix a))))]) := (hO62 (1000 + ycf Y (ix a)) (by omega)).trans hfhc
              refine lv_aload hx hb dX4_tell_65 (lv_at hl 0 rfl) ?_
              refine lv_iload_n hx hb dX4_tell_67 rfl (lv_at hl 3 rfl) ?_
              refine lv_aload_n hx hb dX4_tell_68 rfl (lv_at hl 1 rfl) ?_
              obtain ⟨p11, hp11⟩ := kW_pos (hKR.m (show keyOk Y (0) by unfold keyOk; omega))
              refine va_get (D := D) (ci := 4) (v := .int (nI (yNow Y))) (C := RX4) (T := TX4) (N := 11) hx hb hts (by decide +kernel) hown hK hP p11 (kW_get hp11 fC62_25) rfl 10 (by decide) (hts (.fieldLink RX4 88 "CaskYard" "now" "I") (by decide +kernel)) (fun _ h9 => h9) rfl dX4_tell_69 ?_
              refine lv_iload_n hx hb dX4_tell_72 rfl (lv_at hl 4 rfl) ?_
              have hFc := w_free hD hS hA
              obtain ⟨p12, hp12⟩ := kW_pos (hKR.m (show keyOk Y (5000 + ix a) by unfold keyOk; omega))
              refine va_callv (va_runV (As := [.int (nI (ix b)), .int (nI (yNow Y)), .int (nI (ix v))]) (rest := []) ⟨hx, hb, hml, hown, hts⟩ (c_X1_addEntry l D cy H.size K ad E_62 (5000 + ix a) (6000 + ix a) (7000 + ix a) (8000 + ix a) (9000 + ix a) (10000 + ix a) (1000 + ycf Y (ix a)) (hKR.m (show keyOk Y (5000 + ix a) by unfold keyOk; omega)) (nI (ycf Y (ix a))) ((yE Y (ix a)).length) (fC62_32) (hKR.m (show keyOk Y (8000 + ix a) by unfold keyOk; omega)) (fd) (fC62_33) (hKR.m (show keyOk Y (9000 + ix a) by unfold keyOk; omega)) (ft) (fC62_34) (hKR.m (show keyOk Y (10000 + ix a) by unfold keyOk; omega)) (fk) (fC62_35) (⟨by omega, by omega, by omega, by omega, by omega, by omega⟩) (by omega) (ix b) (yNow Y) (ix v)) (cwV 3 hts gX4_tell_X1_addEntry rfl rfl rfl (by decide +kernel) ⟨Nat.le_of_ble_eq_true rfl, Nat.le_of_ble_eq_true rfl⟩) ⟨wB2_blind, va_recv hK hP (ci := 1) (q0 := p12) rfl (kW_get hp12 fC62_32), wB2_pre hP hK hD hN⟩ rfl rfl hl.1 rfl (lv_room (Nat.le_of_ble_eq_true rfl)) dX4_tell_73 ⟨Nat.le_of_ble_eq_true rfl, Nat.le_of_ble_eq_true rfl⟩) hS (fun q _ h => hFc q h) hFc (fun E_73 t_ H locs ht hvm hw_73 hB _ _ hS => ?_)
              obtain ⟨hP1, hK1, hD1⟩ := hB
              rw [ht] at hP1
              have hP := hP1
              have hD := hD1.weaken (fun _ _ _ h => hFc _ h)
              obtain ⟨k73_0, k73_1, k73_2, k73_3, hO73⟩ := hw_73
              have fC73_25 : E_73 (0) = .inr (4, [.ref ((ad (1))), .ref ((ad (2))), .ref ((ad (3))), .ref ((ad (4))), .ref ((ad (5))), .ref ((ad (6))), .ref ((ad (18))), .int (nI (yF Y)), .int (nI (yB Y)), .int (nI (yC Y)), .int (nI (yNow Y))]) := (hO73 (0) (by omega) (by omega) (by omega) (by omega)).trans fC62_25
              have fC73_28 : E_73 (3) = .inl (cy 5, 30, .inr (.inr (.inr (.inr (f3))))) := (hO73 (3) (by omega) (by omega) (by omega) (by omega)).trans fC62_28
              have fC73_27 : E_73 (4) = .inl (cy 0, 16, .inl (f4)) := (hO73 (4) (by omega) (by omega) (by omega) (by omega)).trans fC62_27
              have fC73_29 : E_73 (6000 + ix a) = .inl (cy 0, 40, .inl (fb)) := (hO73 (6000 + ix a) (by omega) (by omega) (by omega) (by omega)).trans fC62_29
              have fC73_31 : E_73 (1000 + ycf Y (ix a)) = .inr (2, [.int (nI (yh Y (ycf Y (ix a)))), .int (nI (yg Y (ycf Y (ix a)))), .int (nI (ye Y (ycf Y (ix a)))), .int (nI (ys Y (ycf Y (ix a))))]) := (hO73 (1000 + ycf Y (ix a)) (by omega) (by omega) (by omega) (by omega)).trans fC62_31
              have fC73_30 : E_73 (7000 + ix a) = .inl (cy 0, 40, .inl (f62)) := (hO73 (7000 + ix a) (by omega) (by omega) (by omega) (by omega)).trans k62_0
              refine lv_aload hx hb dX4_tell_76 (lv_at hl 0 rfl) ?_
              obtain ⟨p13, hp13⟩ := kW_pos (hKR.m (show keyOk Y (5000 + ix a) by unfold keyOk; omega))
              refine va_get (D := D) (ci := 1) (v := .int (nI (((yE Y (ix a)).length) + 1))) (C := RX1) (T := TX1) (N := 8) hx hb hts (by decide +kernel) hown hK hP p13 (kW_get hp13 k73_0) rfl 7 (by decide) (hts (.fieldLink RX4 194 "CaskYard$Cask" "entries" "I") (by decide +kernel)) (fun _ h9 => h9) rfl dX4_tell_78 ?_
              refine vx_ret ?_
              exact W.iret (v := (nI (((yE Y (ix a)).length) + 1))) hx hb hr (fun t ht hW => ⟨⟨_, E_73, rfl, (by
    have hO9 : ∀ j_ : Nat, j_ ≠ 5000 + ix a → j_ ≠ 7000 + ix a → j_ ≠ 8000 + ix a → j_ ≠ 9000 + ix a → j_ ≠ 10000 + ix a → E_73 j_ = E j_ := (fun j_ h0_ h1_ h2_ h3_ h4_ => by rw [hO73 j_ h0_ h2_ h3_ h4_, hO62 j_ h1_])
    have hcN : caskAt cy ad E_73 (ix a) (ycf Y (ix a)) (ys Y (ycf Y (ix a))) (ybo Y (ix a)) (fun k => if ix v < 16 then ypa Y (ix a) k ||| 2 ^ ix v else ypa Y (ix a) k) (yE Y (ix a) ++ [(ix b, yNow Y, ix v)]) := ⟨fb, _, _, _, _, (by rw [List.length_append]; exact k73_0), fC73_29, fC73_30, k73_1, k73_2, k73_3, (fun k hk => ⟨(hcbp k hk).1, by show f62 k = nI (if ix v < 16 then ypa Y (ix a) k ||| 2 ^ ix v else ypa Y (ix a) k); rw [ha62, if_pos hk, if_pos (by omega)]⟩), arrE_push hcE rfl⟩
    rw [sp_tell, if_pos hw_2, if_pos hk17, if_pos ⟨⟨by omega, by omega⟩, by omega, Or.inr c_54⟩]
    refine ⟨rfl, rfl, YR_bc hR (saw_congr hsaw (fun k _ _ => hO9 k (by omega) (by omega) (by omega) (by omega) (by omega))) (spare_congr hspa (fun k _ _ => hO9 k (by omega) (by omega) (by omega) (by omega) (by omega))) (fun k _ => hO9 k (by omega) (by omega) (by omega) (by omega) (by omega)) hyF (fun b9 hb9 => boltAt_congr (hYb b9 hb9) (hO9 _ (by omega) (by omega) (by omega) (by omega) (by omega)) (hO9 _ (by omega) (by omega) (by omega) (by omega) (by omega)) (hO9 _ (by omega) (by omega) (by omega) (by omega) (by omega))) rfl (fun c9 hc9 => ?_)⟩
    by_cases e9 : c9 = ix a
    · rw [e9, va_up_ne _ _ (show 0 ≠ 1 by decide), va_up_self, va_up_self, va_up_self]
      exact hcN
    · have := caskAt_congr (u := E_73) (hYc c9 hc9) (fun o9 ho9 => hO9 _ (by omega) (by omega) (by omega) (by omega) (by omega))
      rw [va_up_ne _ _ (show 0 ≠ 1 by decide), va_up_self, va_up_ne _ _ e9, va_up_ne _ _ e9]
      exact this), by rw [ht]; exact hP, va_K.moved hW.alike hK, hD⟩, hS.F ht⟩) hS.2.2 dX4_tell_81
            · skip
              refine lv_iconst (v := (zI ((-1)))) hx hb dX4_tell_57 (by decide) ?_
              refine vx_ret ?_
              exact W.iret (v := (zI ((-1)))) hx hb hr (fun t ht hW => ⟨⟨_, E, rfl, by rw [sp_tell, if_pos hw_2, if_pos hk17, if_neg (fun q9 => by rcases q9.2.2 with h91 | h91 <;> first | omega | exact c_54 h91)]; exact ⟨rfl, rfl, hR⟩, by rw [ht]; exact hP, va_K.moved hW.alike hK, hD⟩, hS.F ht⟩) hS.2.2 dX4_tell_58
        · skip
          refine lv_iconst (v := (zI ((-1)))) hx hb dX4_tell_39 (by decide) ?_
          refine vx_ret ?_
          exact W.iret (v := (zI ((-1)))) hx hb hr (fun t ht hW => ⟨⟨_, E, rfl, by rw [sp_tell, if_pos hw_2, if_pos hk17, if_neg (fun q9 => by have h91 := q9.1.1; have h92 := q9.1.2; have h93 := q9.2.1; omega)]; exact ⟨rfl, rfl, hR⟩, by rw [ht]; exact hP, va_K.moved hW.alike hK, hD⟩, hS.F ht⟩) hS.2.2 dX4_tell_40
set_option maxHeartbeats 4000000 in
set_option maxRecDepth 100000 in
theorem c_X4_swap (l : Launch) (hlt : l.stackTraces = false) (D : va_G) (cy : Nat → ClassId) (sz : Nat) (sa : Nat → Nat) (K : List Nat) (ad : Nat → Nat) (E : Nat → va_E) (Y : YT) (hKR : KR K Y) (hR : YR cy ad E Y) (hY : WF Y) (a : Int32) (b : Int32) (v : Int32) (w : Int32) : vx_Met l yX4_swap wsX4_swap ({ frames := 7, cells := 4, slots := 24, locals := 104 } : Room) (va_Pc [.ref ((ad (0))), .int (a), .int (b), .int (v), .int (w)] (wX D cy sz sa (kW K ad E))) (va_Qi (fun (r : Int32) (u : Nat → va_E) => YP cy ad (sp_swap Y a b v w) r u) (fun u t => wE D cy (va_A (kW K ad E) sz) (kW K ad u) t) (va_A (kW K ad E) sz)) (vx_X (fun _ : Unit => True) (fun (En : String) _ t => (xOk En (sp_swap Y a b v w).1 1 2) ∧ wE D cy (va_A (kW K ad E) sz) (kW K ad E) t) (va_A (kW K ad E) sz)) 4 24 (va_A (kW K ad E) sz) := by
  refine vx_ofW (cc := cX4_swap) (maxL := 9) (ret := (some .boolean)) (by decide) rfl ?_
  intro p e s m args below meth c s₁ B hml htb hv
  obtain ⟨rfl, ⟨⟨hsz, hP, hK, hD0⟩, hN⟩, hX, hZ⟩ := hv
  have hx := B.exec
  have hb := B.bytes
  have hr := B.returns
  have hts := atoms_spec (ws := wsX4_swap) B.pre
  have hown : s.vm.findClass RX4 = some m.cls := findClass_of_methodNamed B.named
  have hlocks := B.notSynchronized
  subst hsz
  have hD := hD0.self (sz := s.heap.size)
  generalize hAe : va_A (kW K ad E) s.heap.size = A at hD hZ ⊢
  have hA : ∀ q : Nat, s.heap.size ≤ q → A q := w_A hAe
  have hS : va_S A s.heap s.heap [] := va_S.rf
  have hnd := kW_nd hD
  have hl := lv_entry ([.ref ((ad (0))), .int (a), .int (b), .int (v), .int (w)]) (n := 9) (Nat.le_of_ble_eq_true rfl)
  rw [lg_entry_eq]
  generalize (lg_sl ([.ref ((ad (0))), .int (a), .int (b), .int (v), .int (w)]) ++ List.replicate (9 - (lg_sl ([.ref ((ad (0))), .int (a), .int (b), .int (v), .int (w)])).length) Slot.unset).toArray = ls at hl ⊢
  have hl : lv_has ls 9 [(0, .ref ((ad (0)))), (1, .int (a)), (2, .int (b)), (3, .int (v)), (4, .int (w))] := hl
  obtain ⟨⟨hE0, f1, f2, f3, hE1, hE2, hE3, hr1, hr2, hr3⟩, ⟨f4, f5, hE4, hE5, hbr, hwt⟩, hsaw, hspa, hYf, hYb, hYc⟩ := id hR
  obtain ⟨hy0, hyF, hyB, hyC, hyf, hyb, hyc, hyr, hyw⟩ := id hY
  refine lv_aload_n hx hb dX4_swap_0 rfl (lv_at hl 0 rfl) ?_
  refine lv_iload_n hx hb dX4_swap_1 rfl (lv_at hl 1 rfl) ?_
  have hFc := w_free hD hS hA
  obtain ⟨p1, hp1⟩ := kW_pos (hKR.m (show keyOk Y (0) by unfold keyOk; omega))
  refine vx_callr (vx_runV (As := [.int (a)]) (rest := []) ⟨hx, hb, hml, hown, hts⟩ (c_X4_caskAt l hlt D cy s.heap.size sa K ad E (hKR.m (show keyOk Y (0) by unfold keyOk; omega)) (yF Y) (yB Y) (yC Y) (yNow Y) (hE0) (hKR.m (show keyOk Y (3) by unfold keyOk; omega)) (f3) (hE3) (hr3) (hyC) (a)) (cwV 1 hts gX4_swap_X4_caskAt rfl rfl rfl (by decide +kernel) ⟨Nat.le_of_ble_eq_true rfl, Nat.le_of_ble_eq_true rfl⟩) ⟨wX_blind, va_recv hK hP (ci := 4) (q0 := p1) rfl (kW_get hp1 hE0), wX_pre hP hK hD hN hX hZ hS hA⟩ rfl rfl hl.1 rfl (lv_room (Nat.le_of_ble_eq_true rfl)) dX4_swap_2 ⟨Nat.le_of_ble_eq_true rfl, Nat.le_of_ble_eq_true rfl⟩) hS (fun q _ h => hFc q h) hFc (fun q _ h => hFc q h) (fun En ce q9 u9 t9 H locs ht hvm hpx hBX _ _ hS hce hcv hcl => ?_) (fun u_2 ra_2 t9 H locs ht hvm hw_2 hB _ _ hS => ?_)
  · exact vx_out (fun x hx => (htb x hx).elim) hlocks hce hcv hcl (fun t ht2 hal => ⟨(), trivial, ⟨Or.inl ⟨hBX.1.1, by rw [sp_swap, if_neg (fun q9 => hBX.1.2 q9.1.1)]⟩, by rw [ht2, ← ht]; exact hBX.2.1, va_K.moved hal hK, hBX.2.2.2.weaken (fun _ _ _ h => hFc _ h)⟩, hS.F ht2⟩) hS.2.2 (by decide) (by decide)
  obtain ⟨hra_2, hP1, hK1, hD1⟩ := hB
  subst hra_2
  rw [ht] at hP1
  have hP := hP1
  have hD := hD1.weaken (fun _ _ _ h => hFc _ h)
  have hiaa := ix_lt hw_2
  obtain ⟨fb, fp, fd, ft, fk, hc0, hc1, hc2, hc3, hc4, hc5, hcbp, hcE⟩ := hYc (ix a) (by omega)
  have hcwhc := hyc (ix a) (by omega)
  have hfhc := hYf (ycf Y (ix a)) hcwhc.1
  have hfohc := hyf (ycf Y (ix a)) hcwhc.1
  have hcfhc := hcwhc.1
  have hmfhc : 1000 + ycf Y (ix a) ∈ K := (hKR.m (show keyOk Y (1000 + ycf Y (ix a)) by unfold keyOk; omega))
  have hqhc : ∀ q ∈ yE Y (ix a), q.1 ≤ 100000 ∧ q.2.1 ≤ 100000 ∧ q.2.2 ≤ 16 := fun q hq => by have h9 := hcwhc.2.2.1 q hq; exact ⟨by omega, by omega, h9.2.2⟩
  refine lv_astore (lv' := [(5, .ref ((ad (5000 + ix a)))), (0, .ref ((ad (0)))), (1, .int (a)), (2, .int (b)), (3, .int (v)), (4, .int (w))]) hx hb dX4_swap_5 hl (by decide) rfl (fun ls hl => ?_)
  refine lv_aload_n hx hb dX4_swap_7 rfl (lv_at hl 1 rfl) ?_
  refine lv_iload_n hx hb dX4_swap_8 rfl (lv_at hl 4 rfl) ?_
  have hFc := w_free hD hS hA
  obtain ⟨p2, hp2⟩ := kW_pos (hKR.m (show keyOk Y (0) by unfold keyOk; omega))
  refine vx_callr (vx_runV (As := [.int (v)]) (rest := []) ⟨hx, hb, hml, hown, hts⟩ (c_X4_caskAt l hlt D cy H.size sa K ad E (hKR.m (show keyOk Y (0) by unfold keyOk; omega)) (yF Y) (yB Y) (yC Y) (yNow Y) (hE0) (hKR.m (show keyOk Y (3) by unfold keyOk; omega)) (f3) (hE3) (hr3) (hyC) (v)) (cwV 1 hts gX4_swap_X4_caskAt rfl rfl rfl (by decide +kernel) ⟨Nat.le_of_ble_eq_true rfl, Nat.le_of_ble_eq_true rfl⟩) ⟨wX_blind, va_recv hK hP (ci := 4) (q0 := p2) rfl (kW_get hp2 hE0), wX_pre hP hK hD hN hX hZ hS hA⟩ rfl rfl hl.1 rfl (lv_room (Nat.le_of_ble_eq_true rfl)) dX4_swap_9 ⟨Nat.le_of_ble_eq_true rfl, Nat.le_of_ble_eq_true rfl⟩) hS (fun q _ h => hFc q h) hFc (fun q _ h => hFc q h) (fun En ce q9 u9 t9 H locs ht hvm hpx hBX _ _ hS hce hcv hcl => ?_) (fun u_9 ra_9 t9 H locs ht hvm hw_9 hB _ _ hS => ?_)
  · exact vx_out (fun x hx => (htb x hx).elim) hlocks hce hcv hcl (fun t ht2 hal => ⟨(), trivial, ⟨Or.inl ⟨hBX.1.1, by rw [sp_swap, if_neg (fun q9 => hBX.1.2 q9.2.1)]⟩, by rw [ht2, ← ht]; exact hBX.2.1, va_K.moved hal hK, hBX.2.2.2.weaken (fun _ _ _ h => hFc _ h)⟩, hS.F ht2⟩) hS.2.2 (by decide) (by decide)
  obtain ⟨hra_9, hP1, hK1, hD1⟩ := hB
  subst hra_9
  rw [ht] at hP1
  have hP := hP1
  have hD := hD1.weaken (fun _ _ _ h => hFc _ h)
  have hiav := ix_lt hw_9
  obtain ⟨fb2, fp2, fd2, ft2, fk2, hd0, hd1, hd2, hd3, hd4, hd5, hdbp, hdE⟩ := hYc (ix v) (by omega)
  have hcwhd := hyc (ix v) (by omega)
  have hfhd := hYf (ycf Y (ix v)) hcwhd.1
  have hfohd := hyf (ycf Y (ix v)) hcwhd.1
  have hcfhd := hcwhd.1
  have hmfhd : 1000 + ycf Y (ix v) ∈ K := (hKR.m (show keyOk Y (1000 + ycf Y (ix v)) by unfold keyOk; omega))
  have hqhd : ∀ q ∈ yE Y (ix v), q.1 ≤ 100000 ∧ q.2.1 ≤ 100000 ∧ q.2.2 ≤ 16 := fun q hq => by have h9 := hcwhd.2.2.1 q hq; exact ⟨by omega, by omega, h9.2.2⟩
  refine lv_astore (lv' := [(6, .ref ((ad (5000 + ix v)))), (5, .ref ((ad (5000 + ix a)))), (0, .ref ((ad (0)))), (1, .int (a)), (2, .int (b)), (3, .int (v)), (4, .int (w))]) hx hb dX4_swap_12 hl (by decide) rfl (fun ls hl => ?_)
  refine lv_aload hx hb dX4_swap_14 (lv_at hl 1 rfl) ?_
  obtain ⟨p3, hp3⟩ := kW_pos (hKR.m (show keyOk Y (5000 + ix a) by unfold keyOk; omega))
  refine va_get (D := D) (ci := 1) (v := .ref ((ad (1000 + ycf Y (ix a))))) (C := RX1) (T := TX1) (N := 8) hx hb hts (by decide +kernel) hown hK hP p3 (kW_get hp3 hc0) rfl 1 (by decide) (hts (.fieldLink RX4 168 "CaskYard$Cask" "shape" "LCaskYard$Form;") (by decide +kernel)) (fun _ h9 => h9) rfl dX4_swap_16 ?_
  refine lv_iload_n hx hb dX4_swap_19 rfl (lv_at hl 4 rfl) ?_
  have hFc := w_free hD hS hA
  refine vx_callv (vx_runS (As := [.ref ((ad (1000 + ycf Y (ix a)))), .int (b)]) (rest := []) ⟨hx, hb, hml, hown, hts⟩ (c_X4_checkStave l hlt D cy H.size sa K ad E (1000 + ycf Y (ix a)) (hmfhc) (yh Y (ycf Y (ix a))) (yg Y (ycf Y (ix a))) (ye Y (ycf Y (ix a))) (ys Y (ycf Y (ix a))) (hfhc) (hfohc) (b)) (va_cwS 2 hts gX4_swap_X4_checkStave rfl rfl rfl (by decide +kernel) ⟨Nat.le_of_ble_eq_true rfl, Nat.le_of_ble_eq_true rfl⟩) ⟨wX_blind, wX_pre hP hK hD hN hX hZ hS hA⟩ rfl rfl hl.1 rfl (lv_room (Nat.le_of_ble_eq_true rfl)) dX4_swap_20 ⟨Nat.le_of_ble_eq_true rfl, Nat.le_of_ble_eq_true rfl⟩) hS (fun q _ h => hFc q h) hFc (fun q _ h => hFc q h) (fun En ce q9 u9 t9 H locs ht hvm hpx hBX _ _ hS hce hcv hcl => ?_) (fun u_20 t9 H locs ht hvm hw_20 hB _ _ hS => ?_)
  · exact vx_out (fun x hx => (htb x hx).elim) hlocks hce hcv hcl (fun t ht2 hal => ⟨(), trivial, ⟨Or.inl ⟨hBX.1.1, by rw [sp_swap, if_neg (fun q9 => hBX.1.2 q9.1.2)]⟩, by rw [ht2, ← ht]; exact hBX.2.1, va_K.moved hal hK, hBX.2.2.2.weaken (fun _ _ _ h => hFc _ h)⟩, hS.F ht2⟩) hS.2.2 (by decide) (by decide)
  obtain ⟨hP1, hK1, hD1⟩ := hB
  rw [ht] at hP1
  have hP := hP1
  have hD := hD1.weaken (fun _ _ _ h => hFc _ h)
  obtain ⟨hue_20, hok_20⟩ := hw_20
  rw [hue_20] at hP hD
  have hxb := ix_c hok_20.1
  have hltb := ix_lt hok_20
  have hnb := ix_n hok_20.1
  have hl : lv_has ls 9 [(6, .ref ((ad (5000 + ix v)))), (5, .ref ((ad (5000 + ix a)))), (0, .ref ((ad (0)))), (1, .int (a)), (2, .int (nI (ix b))), (3, .int (v)), (4, .int (w))] := by rw [← hnb]; exact hl
  refine lv_aload hx hb dX4_swap_23 (lv_at hl 0 rfl) ?_
  obtain ⟨p4, hp4⟩ := kW_pos (hKR.m (show keyOk Y (5000 + ix v) by unfold keyOk; omega))
  refine va_get (D := D) (ci := 1) (v := .ref ((ad (1000 + ycf Y (ix v))))) (C := RX1) (T := TX1) (N := 8) hx hb hts (by decide +kernel) hown hK hP p4 (kW_get hp4 hd0) rfl 1 (by decide) (hts (.fieldLink RX4 168 "CaskYard$Cask" "shape" "LCaskYard$Form;") (by decide +kernel)) (fun _ h9 => h9) rfl dX4_swap_25 ?_
  refine lv_iload hx hb dX4_swap_28 (lv_at hl 6 rfl) ?_
  have hFc := w_free hD hS hA
  refine vx_callv (vx_runS (As := [.ref ((ad (1000 + ycf Y (ix v)))), .int (w)]) (rest := []) ⟨hx, hb, hml, hown, hts⟩ (c_X4_checkStave l hlt D cy H.size sa K ad E (1000 + ycf Y (ix v)) (hmfhd) (yh Y (ycf Y (ix v))) (yg Y (ycf Y (ix v))) (ye Y (ycf Y (ix v))) (ys Y (ycf Y (ix v))) (hfhd) (hfohd) (w)) (va_cwS 2 hts gX4_swap_X4_checkStave rfl rfl rfl (by decide +kernel) ⟨Nat.le_of_ble_eq_true rfl, Nat.le_of_ble_eq_true rfl⟩) ⟨wX_blind, wX_pre hP hK hD hN hX hZ hS hA⟩ rfl rfl hl.1 rfl (lv_room (Nat.le_of_ble_eq_true rfl)) dX4_swap_30 ⟨Nat.le_of_ble_eq_true rfl, Nat.le_of_ble_eq_true rfl⟩) hS (fun q _ h => hFc q h) hFc (fun q _ h => hFc q h) (fun En ce q9 u9 t9 H locs ht hvm hpx hBX _ _ hS hce hcv hcl => ?_) (fun u_30 t9 H locs ht hvm hw_30 hB _ _ hS => ?_)
  · exact vx_out (fun x hx => (htb x hx).elim) hlocks hce hcv hcl (fun t ht2 hal => ⟨(), trivial, ⟨Or.inl ⟨hBX.1.1, by rw [sp_swap, if_neg (fun q9 => hBX.1.2 q9.2.2)]⟩, by rw [ht2, ← ht]; exact hBX.2.1, va_K.moved hal hK, hBX.2.2.2.weaken (fun _ _ _ h => hFc _ h)⟩, hS.F ht2⟩) hS.2.2 (by decide) (by decide)
  obtain ⟨hP1, hK1, hD1⟩ := hB
  rw [ht] at hP1
  have hP := hP1
  have hD := hD1.weaken (fun _ _ _ h => hFc _ h)
  obtain ⟨hue_30, hok_30⟩ := hw_30
  rw [hue_30] at hP hD
  have hxw := ix_c hok_30.1
  have hltw := ix_lt hok_30
  have hnw := ix_n hok_30.1
  have hl : lv_has ls 9 [(6, .ref ((ad (5000 + ix v)))), (5, .ref ((ad (5000 + ix a)))), (0, .ref ((ad (0)))), (1, .int (a)), (2, .int (nI (ix b))), (3, .int (v)), (4, .int (nI (ix w)))] := by rw [← hnw]; exact hl
  refine lv_iload_n hx hb dX4_swap_33 rfl (lv_at hl 3 rfl) ?_
  refine lv_iload_n hx hb dX4_swap_34 rfl (lv_at hl 5 rfl) ?_
  refine g_icmp_eq (tgt := 60) hx hb dX4_swap_35 (by decide) rfl rfl (fun c_35 => ?_) (fun c_35 => ?_)
  · skip
    have hxa := ix_c hw_2.1
    have hxv := ix_c hw_9.1
    have heq9 : ix a = ix v := by omega
    refine lv_iconst (v := (nI (0))) hx hb dX4_swap_60 (by decide) ?_
    refine vx_ret ?_
    exact W.zret (v := (nI (0))) hx hb hr (by decide) (fun t ht hW => ⟨⟨_, E, rfl, by rw [sp_swap, if_pos ⟨⟨hw_2, hok_20⟩, hw_9, hok_30⟩, if_neg (fun q9 => by have h91 := q9.1; have h92 := q9.2; rw [mid_w hfohc, mid_w hfohd] at h92; omega)]; exact ⟨rfl, rfl, hR⟩, by rw [ht]; exact hP, va_K.moved hW.alike hK, hD⟩, hS.F ht⟩) hS.2.2 dX4_swap_61
  · skip
    have hxa := ix_c hw_2.1
    have hxv := ix_c hw_9.1
    have hne9 : ix a ≠ ix v := by omega
    refine lv_aload hx hb dX4_swap_38 (lv_at hl 1 rfl) ?_
    obtain ⟨p5, hp5⟩ := kW_pos (hKR.m (show keyOk Y (5000 + ix a) by unfold keyOk; omega))
    refine va_get (D := D) (ci := 1) (v := .ref ((ad (1000 + ycf Y (ix a))))) (C := RX1) (T := TX1) (N := 8) hx hb hts (by decide +kernel) hown hK hP p5 (kW_get hp5 hc0) rfl 1 (by decide) (hts (.fieldLink RX4 168 "CaskYard$Cask" "shape" "LCaskYard$Form;") (by decide +kernel)) (fun _ h9 => h9) rfl dX4_swap_40 ?_
    refine lv_iload_n hx hb dX4_swap_43 rfl (lv_at hl 4 rfl) ?_
    obtain ⟨p6, hp6⟩ := kW_pos hmfhc
    refine vp_callSi (va_Run.run (va_runV (As := [.int (nI (ix b))]) (rest := []) ⟨hx, hb, hml, hown, hts⟩ (c_X2_bilgeWidth l D cy K ad E (1000 + ycf Y (ix a)) (hmfhc) (yh Y (ycf Y (ix a))) (yg Y (ycf Y (ix a))) (ye Y (ycf Y (ix a))) (ys Y (ycf Y (ix a))) (hfhc) (hfohc) (ix b) (by omega)) (cwV 1 hts gX4_swap_X2_bilgeWidth rfl rfl rfl (by decide +kernel) ⟨Nat.le_of_ble_eq_true rfl, Nat.le_of_ble_eq_true rfl⟩) ⟨rB2_blind, va_recv hK hP (ci := 2) (q0 := p6) rfl (kW_get hp6 hfhc), (rB2_pre hP hK hN)⟩ rfl rfl hl.1 rfl (lv_room (Nat.le_of_ble_eq_true rfl)) dX4_swap_44 ⟨Nat.le_of_ble_eq_true rfl, Nat.le_of_ble_eq_true rfl⟩)) (fun r_44 hr_44 => ?_)
    subst hr_44
    have hwla := width_le (k := ix b) (g := yg Y (ycf Y (ix a))) (n := ys Y (ycf Y (ix a))) (by omega)
    have hqla := Nat.div_le_self (yg Y (ycf Y (ix a))) (ys Y (ycf Y (ix a)))
    refine lv_aload hx hb dX4_swap_47 (lv_at hl 0 rfl) ?_
    obtain ⟨p7, hp7⟩ := kW_pos (hKR.m (show keyOk Y (5000 + ix v) by unfold keyOk; omega))
    refine va_get (D := D) (ci := 1) (v := .ref ((ad (1000 + ycf Y (ix v))))) (C := RX1) (T := TX1) (N := 8) hx hb hts (by decide +kernel) hown hK hP p7 (kW_get hp7 hd0) rfl 1 (by decide) (hts (.fieldLink RX4 168 "CaskYard$Cask" "shape" "LCaskYard$Form;") (by decide +kernel)) (fun _ h9 => h9) rfl dX4_swap_49 ?_
    refine lv_iload hx hb dX4_swap_52 (lv_at hl 6 rfl) ?_
    obtain ⟨p8, hp8⟩ := kW_pos hmfhd
    refine vp_callSi (va_Run.run (va_runV (As := [.int (nI (ix w))]) (rest := [.int (nI (widthN (ys Y (ycf Y (ix a))) (ix b) (yg Y (ycf Y (ix a)))))]) ⟨hx, hb, hml, hown, hts⟩ (c_X2_bilgeWidth l D cy K ad E (1000 + ycf Y (ix v)) (hmfhd) (yh Y (ycf Y (ix v))) (yg Y (ycf Y (ix v))) (ye Y (ycf Y (ix v))) (ys Y (ycf Y (ix v))) (hfhd) (hfohd) (ix w) (by omega)) (cwV 1 hts gX4_swap_X2_bilgeWidth rfl rfl rfl (by decide +kernel) ⟨Nat.le_of_ble_eq_true rfl, Nat.le_of_ble_eq_true rfl⟩) ⟨rB2_blind, va_recv hK hP (ci := 2) (q0 := p8) rfl (kW_get hp8 hfhd), (rB2_pre hP hK hN)⟩ rfl rfl hl.1 rfl (lv_room (Nat.le_of_ble_eq_true rfl)) dX4_swap_54 ⟨Nat.le_of_ble_eq_true rfl, Nat.le_of_ble_eq_true rfl⟩)) (fun r_54 hr_54 => ?_)
    subst hr_54
    have hwlv := width_le (k := ix w) (g := yg Y (ycf Y (ix v))) (n := ys Y (ycf Y (ix v))) (by omega)
    have hqlv := Nat.div_le_self (yg Y (ycf Y (ix v))) (ys Y (ycf Y (ix v)))
    refine g_icmp_eq (tgt := 62) hx hb dX4_swap_57 (by decide) (n_i (by omega)) (n_i (by omega)) (fun c_57 => ?_) (fun c_57 => ?_)
    · skip
      refine lv_aload hx hb dX4_swap_62 (lv_at hl 1 rfl) ?_
      obtain ⟨p9, hp9⟩ := kW_pos (hKR.m (show keyOk Y (5000 + ix a) by unfold keyOk; omega))
      refine va_get (D := D) (ci := 1) (v := .ref ((ad (6000 + ix a)))) (C := RX1) (T := TX1) (N := 8) hx hb hts (by decide +kernel) hown hK hP p9 (kW_get hp9 hc0) rfl 2 (by decide) (hts (.fieldLink RX4 177 "CaskYard$Cask" "boltOf" "[I") (by decide +kernel)) (fun _ h9 => h9) rfl dX4_swap_64 ?_
      refine lv_iload_n hx hb dX4_swap_67 rfl (lv_at hl 4 rfl) ?_
      obtain ⟨p10, hp10⟩ := kW_pos (hKR.m (show keyOk Y (6000 + ix a) by unfold keyOk; omega))
      refine g_iald hx hb hK hP p10 0 (kW_get hp10 hc1) rfl (ix b) rfl (by omega) (by decide) dX4_swap_68 ?_
      refine g_top (y := (nI (ybo Y (ix a) (ix b)))) ((hcbp (ix b) (by omega)).1) ?_
      refine lv_istore (lv' := [(7, .int (nI (ybo Y (ix a) (ix b)))), (6, .ref ((ad (5000 + ix v)))), (5, .ref ((ad (5000 + ix a)))), (0, .ref ((ad (0)))), (1, .int (a)), (2, .int (nI (ix b))), (3, .int (v)), (4, .int (nI (ix w)))]) hx hb dX4_swap_69 hl (by decide) rfl (fun ls hl => ?_)
      refine lv_aload hx hb dX4_swap_71 (lv_at hl 2 rfl) ?_
      obtain ⟨p11, hp11⟩ := kW_pos (hKR.m (show keyOk Y (5000 + ix a) by unfold keyOk; omega))
      refine va_get (D := D) (ci := 1) (v := .ref ((ad (7000 + ix a)))) (C := RX1) (T := TX1) (N := 8) hx hb hts (by decide +kernel) hown hK hP p11 (kW_get hp11 hc0) rfl 3 (by decide) (hts (.fieldLink RX4 180 "CaskYard$Cask" "past" "[I") (by decide +kernel)) (fun _ h9 => h9) rfl dX4_swap_73 ?_
      refine lv_iload_n hx hb dX4_swap_76 rfl (lv_at hl 5 rfl) ?_
      obtain ⟨p12, hp12⟩ := kW_pos (hKR.m (show keyOk Y (7000 + ix a) by unfold keyOk; omega))
      refine g_iald hx hb hK hP p12 0 (kW_get hp12 hc2) rfl (ix b) rfl (by omega) (by decide) dX4_swap_77 ?_
      refine g_top (y := (nI (ypa Y (ix a) (ix b)))) ((hcbp (ix b) (by omega)).2) ?_
      refine lv_istore (lv' := [(8, .int (nI (ypa Y (ix a) (ix b)))), (7, .int (nI (ybo Y (ix a) (ix b)))), (6, .ref ((ad (5000 + ix v)))), (5, .ref ((ad (5000 + ix a)))), (0, .ref ((ad (0)))), (1, .int (a)), (2, .int (nI (ix b))), (3, .int (v)), (4, .int (nI (ix w)))]) hx hb dX4_swap_78 hl (by decide) rfl (fun ls hl => ?_)
      refine lv_aload hx hb dX4_swap_80 (lv_at hl 3 rfl) ?_
      obtain ⟨p13, hp13⟩ := kW_pos (hKR.m (show keyOk Y (5000 + ix a) by unfold keyOk; omega))
      refine va_get (D := D) (ci := 1) (v := .ref ((ad (6000 + ix a)))) (C := RX1) (T := TX1) (N := 8) hx hb hts (by decide +kernel) hown hK hP p13 (kW_get hp13 hc0) rfl 2 (by decide) (hts (.fieldLink RX4 177 "CaskYard$Cask" "boltOf" "[I") (by decide +kernel)) (fun _ h9 => h9) rfl dX4_swap_82 ?_
      refine lv_iload_n hx hb dX4_swap_85 rfl (lv_at hl 6 rfl) ?_
      refine lv_aload hx hb dX4_swap_86 (lv_at hl 2 rfl) ?_
      obtain ⟨p14, hp14⟩ := kW_pos (hKR.m (show keyOk Y (5000 + ix v) by unfold keyOk; omega))
      refine va_get (D := D) (ci := 1) (v := .ref ((ad (6000 + ix v)))) (C := RX1) (T := TX1) (N := 8) hx hb hts (by decide +kernel) hown hK hP p14 (kW_get hp14 hd0) rfl 2 (by decide) (hts (.fieldLink RX4 177 "CaskYard$Cask" "boltOf" "[I") (by decide +kernel)) (fun _ h9 => h9) rfl dX4_swap_88 ?_
      refine lv_iload hx hb dX4_swap_91 (lv_at hl 8 rfl) ?_
      obtain ⟨p15, hp15⟩ := kW_pos (hKR.m (show keyOk Y (6000 + ix v) by unfold keyOk; omega))
      refine g_iald hx hb hK hP p15 0 (kW_get hp15 hd1) rfl (ix w) rfl (by omega) (by decide) dX4_swap_93 ?_
      refine g_top (y := (nI (ybo Y (ix v) (ix w)))) ((hdbp (ix w) (by omega)).1) ?_
      obtain ⟨p16, hp16⟩ := kW_pos (hKR.m (show keyOk Y (6000 + ix a) by unfold keyOk; omega))
      refine g_iast hx hb hK hP hD hS p16 0 (kW_get hp16 hc1) rfl (ix b) rfl (by omega) (by decide) dX4_swap_94 (fun H locs hP hD hS => ?_)
      rw [kW_set hnd hp16] at hP hD
      obtain ⟨Ew17, hEw17⟩ : ∃ G, G = va_up E (6000 + ix a) (.inl (cy 0, 40, .inl (upd (fb) (ix b) (nI (ybo Y (ix v) (ix w)))))) := ⟨_, rfl⟩
      have eEw17_29 : Ew17 (6000 + ix a) = .inl (cy 0, 40, .inl (upd (fb) (ix b) (nI (ybo Y (ix v) (ix w))))) := by rw [hEw17]; exact va_up_self _ _ _
      rw [← hEw17] at hP hD
      refine lv_aload hx hb dX4_swap_95 (lv_at hl 3 rfl) ?_
      obtain ⟨p18, hp18⟩ := kW_pos (hKR.m (show keyOk Y (5000 + ix a) by unfold keyOk; omega))
      refine va_get (D := D) (ci := 1) (v := .ref ((ad (7000 + ix a)))) (C := RX1) (T := TX1) (N := 8) hx hb hts (by decide +kernel) hown hK hP p18 (kW_get hp18 (show Ew17 (5000 + ix a) = .inr (1, [.int (nI (ycf Y (ix a))), .ref ((ad (1000 + ycf Y (ix a)))), .ref ((ad (6000 + ix a))), .ref ((ad (7000 + ix a))), .ref ((ad (8000 + ix a))), .ref ((ad (9000 + ix a))), .ref ((ad (10000 + ix a))), .int (nI ((yE Y (ix a)).length))]) by rw [hEw17, va_up_ne _ _ (by omega)]; exact hc0)) rfl 3 (by decide) (hts (.fieldLink RX4 180 "CaskYard$Cask" "past" "[I") (by decide +kernel)) (fun _ h9 => h9) rfl dX4_swap_97 ?_
      refine lv_iload_n hx hb dX4_swap_100 rfl (lv_at hl 6 rfl) ?_
      refine lv_aload hx hb dX4_swap_101 (lv_at hl 2 rfl) ?_
      obtain ⟨p19, hp19⟩ := kW_pos (hKR.m (show keyOk Y (5000 + ix v) by unfold keyOk; omega))
      refine va_get (D := D) (ci := 1) (v := .ref ((ad (7000 + ix v)))) (C := RX1) (T := TX1) (N := 8) hx hb hts (by decide +kernel) hown hK hP p19 (kW_get hp19 (show Ew17 (5000 + ix v) = .inr (1, [.int (nI (ycf Y (ix v))), .ref ((ad (1000 + ycf Y (ix v)))), .ref ((ad (6000 + ix v))), .ref ((ad (7000 + ix v))), .ref ((ad (8000 + ix v))), .ref ((ad (9000 + ix v))), .ref ((ad (10000 + ix v))), .int (nI ((yE Y (ix v)).length))]) by rw [hEw17, va_up_ne _ _ (by omega)]; exact hd0)) rfl 3 (by decide) (hts (.fieldLink RX4 180 "CaskYard$Cask" "past" "[I") (by decide +kernel)) (fun _ h9 => h9) rfl dX4_swap_103 ?_
      refine lv_iload hx hb dX4_swap_106 (lv_at hl 8 rfl) ?_
      obtain ⟨p20, hp20⟩ := kW_pos (hKR.m (show keyOk Y (7000 + ix v) by unfold keyOk; omega))
      refine g_iald hx hb hK hP p20 0 (kW_get hp20 (show Ew17 (7000 + ix v) = .inl (cy 0, 40, .inl (fp2)) by rw [hEw17, va_up_ne _ _ (by omega)]; exact hd2)) rfl (ix w) rfl (by omega) (by decide) dX4_swap_108 ?_
      refine g_top (y := (nI (ypa Y (ix v) (ix w)))) ((hdbp (ix w) (by omega)).2) ?_
      obtain ⟨p21, hp21⟩ := kW_pos (hKR.m (show keyOk Y (7000 + ix a) by unfold keyOk; omega))
      refine g_iast hx hb hK hP hD hS p21 0 (kW_get hp21 (show Ew17 (7000 + ix a) = .inl (cy 0, 40, .inl (fp)) by rw [hEw17, va_up_ne _ _ (by omega)]; exact hc2)) rfl (ix b) rfl (by omega) (by decide) dX4_swap_109 (fun H locs hP hD hS => ?_)
      rw [kW_set hnd hp21] at hP hD
      obtain ⟨Ew22, hEw22⟩ : ∃ G, G = va_up Ew17 (7000 + ix a) (.inl (cy 0, 40, .inl (upd (fp) (ix b) (nI (ypa Y (ix v) (ix w)))))) := ⟨_, rfl⟩
      have eEw22_30 : Ew22 (7000 + ix a) = .inl (cy 0, 40, .inl (upd (fp) (ix b) (nI (ypa Y (ix v) (ix w))))) := by rw [hEw22]; exact va_up_self _ _ _
      have eEw22_29 : Ew22 (6000 + ix a) = .inl (cy 0, 40, .inl (upd (fb) (ix b) (nI (ybo Y (ix v) (ix w))))) := by rw [hEw22, va_up_ne _ _ (by omega)]; exact eEw17_29
      rw [← hEw22] at hP hD
      refine lv_aload hx hb dX4_swap_110 (lv_at hl 2 rfl) ?_
      obtain ⟨p23, hp23⟩ := kW_pos (hKR.m (show keyOk Y (5000 + ix v) by unfold keyOk; omega))
      refine va_get (D := D) (ci := 1) (v := .ref ((ad (6000 + ix v)))) (C := RX1) (T := TX1) (N := 8) hx hb hts (by decide +kernel) hown hK hP p23 (kW_get hp23 (show Ew22 (5000 + ix v) = .inr (1, [.int (nI (ycf Y (ix v))), .ref ((ad (1000 + ycf Y (ix v)))), .ref ((ad (6000 + ix v))), .ref ((ad (7000 + ix v))), .ref ((ad (8000 + ix v))), .ref ((ad (9000 + ix v))), .ref ((ad (10000 + ix v))), .int (nI ((yE Y (ix v)).length))]) by rw [hEw22, va_up_ne _ _ (by omega), hEw17, va_up_ne _ _ (by omega)]; exact hd0)) rfl 2 (by decide) (hts (.fieldLink RX4 177 "CaskYard$Cask" "boltOf" "[I") (by decide +kernel)) (fun _ h9 => h9) rfl dX4_swap_112 ?_
      refine lv_iload hx hb dX4_swap_115 (lv_at hl 8 rfl) ?_
      refine lv_iload hx hb dX4_swap_117 (lv_at hl 1 rfl) ?_
      obtain ⟨p24, hp24⟩ := kW_pos (hKR.m (show keyOk Y (6000 + ix v) by unfold keyOk; omega))
      refine g_iast hx hb hK hP hD hS p24 0 (kW_get hp24 (show Ew22 (6000 + ix v) = .inl (cy 0, 40, .inl (fb2)) by rw [hEw22, va_up_ne _ _ (by omega), hEw17, va_up_ne _ _ (by omega)]; exact hd1)) rfl (ix w) rfl (by omega) (by decide) dX4_swap_119 (fun H locs hP hD hS => ?_)
      rw [kW_set hnd hp24] at hP hD
      obtain ⟨Ew25, hEw25⟩ : ∃ G, G = va_up Ew22 (6000 + ix v) (.inl (cy 0, 40, .inl (upd (fb2) (ix w) (nI (ybo Y (ix a) (ix b)))))) := ⟨_, rfl⟩
      have eEw25_36 : Ew25 (6000 + ix v) = .inl (cy 0, 40, .inl (upd (fb2) (ix w) (nI (ybo Y (ix a) (ix b))))) := by rw [hEw25]; exact va_up_self _ _ _
      have eEw25_29 : Ew25 (6000 + ix a) = .inl (cy 0, 40, .inl (upd (fb) (ix b) (nI (ybo Y (ix v) (ix w))))) := by rw [hEw25, va_up_ne _ _ (by omega)]; exact eEw22_29
      have eEw25_30 : Ew25 (7000 + ix a) = .inl (cy 0, 40, .inl (upd (fp) (ix b) (nI (ypa Y (ix v) (ix w))))) := by rw [hEw25, va_up_ne _ _ (by omega)]; exact eEw22_30
      rw [← hEw25] at hP hD
      refine lv_aload hx hb dX4_swap_120 (lv_at hl 2 rfl) ?_
      obtain ⟨p26, hp26⟩ := kW_pos (hKR.m (show keyOk Y (5000 + ix v) by unfold keyOk; omega))
      refine va_get (D := D) (ci := 1) (v := .ref ((ad (7000 + ix v)))) (C := RX1) (T := TX1) (N := 8) hx hb hts (by decide +kernel) hown hK hP p26 (kW_get hp26 (show Ew25 (5000 + ix v) = .inr (1, [.int (nI (ycf Y (ix v))), .ref ((ad (1000 + ycf Y (ix v)))), .ref ((ad (6000 + ix v))), .ref ((ad (7000 + ix v))), .ref ((ad (8000 + ix v))), .ref ((ad (9000 + ix v))), .ref ((ad (10000 + ix v))), .int (nI ((yE Y (ix v)).length))]) by rw [hEw25, va_up_ne _ _ (by omega), hEw22, va_up_ne _ _ (by omega), hEw17, va_up_ne _ _ (by omega)]; exact hd0)) rfl 3 (by decide) (hts (.fieldLink RX4 180 "CaskYard$Cask" "past" "[I") (by decide +kernel)) (fun _ h9 => h9) rfl dX4_swap_122 ?_
      refine lv_iload hx hb dX4_swap_125 (lv_at hl 8 rfl) ?_
      refine lv_iload hx hb dX4_swap_127 (lv_at hl 0 rfl) ?_
      obtain ⟨p27, hp27⟩ := kW_pos (hKR.m (show keyOk Y (7000 + ix v) by unfold keyOk; omega))
      refine g_iast hx hb hK hP hD hS p27 0 (kW_get hp27 (show Ew25 (7000 + ix v) = .inl (cy 0, 40, .inl (fp2)) by rw [hEw25, va_up_ne _ _ (by omega), hEw22, va_up_ne _ _ (by omega), hEw17, va_up_ne _ _ (by omega)]; exact hd2)) rfl (ix w) rfl (by omega) (by decide) dX4_swap_129 (fun H locs hP hD hS => ?_)
      rw [kW_set hnd hp27] at hP hD
      obtain ⟨Ew28, hEw28⟩ : ∃ G, G = va_up Ew25 (7000 + ix v) (.inl (cy 0, 40, .inl (upd (fp2) (ix w) (nI (ypa Y (ix a) (ix b)))))) := ⟨_, rfl⟩
      have eEw28_37 : Ew28 (7000 + ix v) = .inl (cy 0, 40, .inl (upd (fp2) (ix w) (nI (ypa Y (ix a) (ix b))))) := by rw [hEw28]; exact va_up_self _ _ _
      have eEw28_29 : Ew28 (6000 + ix a) = .inl (cy 0, 40, .inl (upd (fb) (ix b) (nI (ybo Y (ix v) (ix w))))) := by rw [hEw28, va_up_ne _ _ (by omega)]; exact eEw25_29
      have eEw28_30 : Ew28 (7000 + ix a) = .inl (cy 0, 40, .inl (upd (fp) (ix b) (nI (ypa Y (ix v) (ix w))))) := by rw [hEw28, va_up_ne _ _ (by omega)]; exact eEw25_30
      have eEw28_36 : Ew28 (6000 + ix v) = .inl (cy 0, 40, .inl (upd (fb2) (ix w) (nI (ybo Y (ix a) (ix b))))) := by rw [hEw28, va_up_ne _ _ (by omega)]; exact eEw25_36
      rw [← hEw28] at hP hD
      refine lv_iconst (v := (nI (1))) hx hb dX4_swap_130 (by decide) ?_
      refine vx_ret ?_
      exact W.zret (v := (nI (1))) hx hb hr (by decide) (fun t ht hW => ⟨⟨_, Ew28, rfl, (by
    have hO9 : ∀ j_ : Nat, j_ ≠ 6000 + ix a → j_ ≠ 7000 + ix a → j_ ≠ 6000 + ix v → j_ ≠ 7000 + ix v → Ew28 j_ = E j_ := (fun j_ h0_ h1_ h2_ h3_ => by rw [hEw28, va_up_ne _ _ h3_, hEw25, va_up_ne _ _ h2_, hEw22, va_up_ne _ _ h1_, hEw17, va_up_ne _ _ h0_])
    rw [sp_swap, if_pos ⟨⟨hw_2, hok_20⟩, hw_9, hok_30⟩, if_pos ⟨hne9, by rw [mid_w hfohc, mid_w hfohd]; omega⟩]
    refine ⟨rfl, rfl, YR_bc hR (saw_congr hsaw (fun k _ _ => hO9 k (by omega) (by omega) (by omega) (by omega))) (spare_congr hspa (fun k _ _ => hO9 k (by omega) (by omega) (by omega) (by omega))) (fun k _ => hO9 k (by omega) (by omega) (by omega) (by omega)) hyF (fun b9 hb9 => boltAt_congr (hYb b9 hb9) (hO9 _ (by omega) (by omega) (by omega) (by omega)) (hO9 _ (by omega) (by omega) (by omega) (by omega)) (hO9 _ (by omega) (by omega) (by omega) (by omega))) rfl (fun c9 hc9 => ?_)⟩
    show caskAt cy ad Ew28 c9 (ycf Y c9) (ys Y (ycf Y c9)) (swapF (ybo Y) (ix a) (ix b) (ix v) (ix w) c9) (swapF (ypa Y) (ix a) (ix b) (ix v) (ix w) c9) (yE Y c9)
    by_cases e9 : c9 = ix a
    · rw [e9, swF_a _ hne9, swF_a _ hne9]
      exact ⟨_, _, _, _, _, (show Ew28 (5000 + ix a) = .inr (1, [.int (nI (ycf Y (ix a))), .ref ((ad (1000 + ycf Y (ix a)))), .ref ((ad (6000 + ix a))), .ref ((ad (7000 + ix a))), .ref ((ad (8000 + ix a))), .ref ((ad (9000 + ix a))), .ref ((ad (10000 + ix a))), .int (nI ((yE Y (ix a)).length))]) by rw [hEw28, va_up_ne _ _ (by omega), hEw25, va_up_ne _ _ (by omega), hEw22, va_up_ne _ _ (by omega), hEw17, va_up_ne _ _ (by omega)]; exact hc0), eEw28_29, eEw28_30, (show Ew28 (8000 + ix a) = .inl (cy 0, 40, .inl (fd)) by rw [hEw28, va_up_ne _ _ (by omega), hEw25, va_up_ne _ _ (by omega), hEw22, va_up_ne _ _ (by omega), hEw17, va_up_ne _ _ (by omega)]; exact hc3), (show Ew28 (9000 + ix a) = .inl (cy 0, 40, .inl (ft)) by rw [hEw28, va_up_ne _ _ (by omega), hEw25, va_up_ne _ _ (by omega), hEw22, va_up_ne _ _ (by omega), hEw17, va_up_ne _ _ (by omega)]; exact hc4), (show Ew28 (10000 + ix a) = .inl (cy 0, 40, .inl (fk)) by rw [hEw28, va_up_ne _ _ (by omega), hEw25, va_up_ne _ _ (by omega), hEw22, va_up_ne _ _ (by omega), hEw17, va_up_ne _ _ (by omega)]; exact hc5), sw_row hcbp, hcE⟩
    · by_cases e8 : c9 = ix v
      · rw [e8, swF_c _ hne9, swF_c _ hne9]
        exact ⟨_, _, _, _, _, (show Ew28 (5000 + ix v) = .inr (1, [.int (nI (ycf Y (ix v))), .ref ((ad (1000 + ycf Y (ix v)))), .ref ((ad (6000 + ix v))), .ref ((ad (7000 + ix v))), .ref ((ad (8000 + ix v))), .ref ((ad (9000 + ix v))), .ref ((ad (10000 + ix v))), .int (nI ((yE Y (ix v)).length))]) by rw [hEw28, va_up_ne _ _ (by omega), hEw25, va_up_ne _ _ (by omega), hEw22, va_up_ne _ _ (by omega), hEw17, va_up_ne _ _ (by omega)]; exact hd0), eEw28_36, eEw28_37, (show Ew28 (8000 + ix v) = .inl (cy 0, 40, .inl (fd2)) by rw [hEw28, va_up_ne _ _ (by omega), hEw25, va_up_ne _ _ (by omega), hEw22, va_up_ne _ _ (by omega), hEw17, va_up_ne _ _ (by omega)]; exact hd3), (show Ew28 (9000 + ix v) = .inl (cy 0, 40, .inl (ft2)) by rw [hEw28, va_up_ne _ _ (by omega), hEw25, va_up_ne _ _ (by omega), hEw22, va_up_ne _ _ (by omega), hEw17, va_up_ne _ _ (by omega)]; exact hd4), (show Ew28 (10000 + ix v) = .inl (cy 0, 40, .inl (fk2)) by rw [hEw28, va_up_ne _ _ (by omega), hEw25, va_up_ne _ _ (by omega), hEw22, va_up_ne _ _ (by omega), hEw17, va_up_ne _ _ (by omega)]; exact hd5), sw_row hdbp, hdE⟩
      · rw [swF_o _ hne9 e9 e8, swF_o _ hne9 e9 e8]
        exact caskAt_congr (u := Ew28) (hYc c9 hc9) (fun o9 ho9 => hO9 _ (by omega) (by omega) (by omega) (by omega))), by rw [ht]; exact hP, va_K.moved hW.alike hK, hD⟩, hS.F ht⟩) hS.2.2 dX4_swap_131
    · skip
      refine lv_iconst (v := (nI (0))) hx hb dX4_swap_60 (by decide) ?_
      refine vx_ret ?_
      exact W.zret (v := (nI (0))) hx hb hr (by decide) (fun t ht hW => ⟨⟨_, E, rfl, by rw [sp_swap, if_pos ⟨⟨hw_2, hok_20⟩, hw_9, hok_30⟩, if_neg (fun q9 => by have h91 := q9.1; have h92 := q9.2; rw [mid_w hfohc, mid_w hfohd] at h92; omega)]; exact ⟨rfl, rfl, hR⟩, by rw [ht]; exact hP, va_K.moved hW.alike hK, hD⟩, hS.F ht⟩) hS.2.2 dX4_swap_61
