set_option maxHeartbeats 4000000 in
set_option maxRecDepth 100000 in
theorem c_X4_renew (l : Launch) (hlt : l.stackTraces = false) (D : va_G) (cy : Nat → ClassId) (sz : Nat) (sa : Nat → Nat) (K : List Nat) (ad : Nat → Nat) (E : Nat → va_E) (Y : YT) (hKR : KR K Y) (hR : YR cy ad E Y) (hY : WF Y) (a : Int32) (b : Int32) : vx_Met l yX4_renew wsX4_renew ({ frames := 7, cells := 2, slots := 12, locals := 104 } : Room) (va_Pc [.ref ((ad (0))), .int (a), .int (b)] (wX D cy sz sa (kW K ad E))) (va_Qi (fun (r : Int32) (u : Nat → va_E) => YP cy ad (sp_renew Y a b) r u) (fun u t => wE D cy (va_A (kW K ad E) sz) (kW K ad u) t) (va_A (kW K ad E) sz)) (vx_X (fun _ : Unit => True) (fun (En : String) _ t => (xOk En (sp_renew Y a b).1 1 2) ∧ wE D cy (va_A (kW K ad E) sz) (kW K ad E) t) (va_A (kW K ad E) sz)) 2 12 (va_A (kW K ad E) sz) := by
  refine vx_ofW (cc := cX4_renew) (maxL := 7) (ret := (some .int)) (by decide) rfl ?_
  intro p e s m args below meth c s₁ B hml htb hv
  obtain ⟨rfl, ⟨⟨hsz, hP, hK, hD0⟩, hN⟩, hX, hZ⟩ := hv
  have hx := B.exec
  have hb := B.bytes
  have hr := B.returns
  have hts := atoms_spec (ws := wsX4_renew) B.pre
  have hown : s.vm.findClass RX4 = some m.cls := findClass_of_methodNamed B.named
  have hlocks := B.notSynchronized
  subst hsz
  have hD := hD0.self (sz := s.heap.size)
  generalize hAe : va_A (kW K ad E) s.heap.size = A at hD hZ ⊢
  have hA : ∀ q : Nat, s.heap.size ≤ q → A q := w_A hAe
  have hS : va_S A s.heap s.heap [] := va_S.rf
  have hnd := kW_nd hD
  have hl := lv_entry ([.ref ((ad (0))), .int (a), .int (b)]) (n := 7) (Nat.le_of_ble_eq_true rfl)
  rw [lg_entry_eq]
  generalize (lg_sl ([.ref ((ad (0))), .int (a), .int (b)]) ++ List.replicate (7 - (lg_sl ([.ref ((ad (0))), .int (a), .int (b)])).length) Slot.unset).toArray = ls at hl ⊢
  have hl : lv_has ls 7 [(0, .ref ((ad (0)))), (1, .int (a)), (2, .int (b))] := hl
  obtain ⟨⟨hE0, f1, f2, f3, hE1, hE2, hE3, hr1, hr2, hr3⟩, ⟨f4, f5, hE4, hE5, hbr, hwt⟩, hsaw, hspa, hYf, hYb, hYc⟩ := id hR
  obtain ⟨hy0, hyF, hyB, hyC, hyf, hyb, hyc, hyr, hyw⟩ := id hY
  refine lv_aload_n hx hb dX4_renew_0 rfl (lv_at hl 0 rfl) ?_
  refine lv_iload_n hx hb dX4_renew_1 rfl (lv_at hl 1 rfl) ?_
  have hFc := w_free hD hS hA
  obtain ⟨p1, hp1⟩ := kW_pos (hKR.m (show keyOk Y (0) by unfold keyOk; omega))
  refine vx_callr (vx_runV (As := [.int (a)]) (rest := []) ⟨hx, hb, hml, hown, hts⟩ (c_X4_caskAt l hlt D cy s.heap.size sa K ad E (hKR.m (show keyOk Y (0) by unfold keyOk; omega)) (yF Y) (yB Y) (yC Y) (yNow Y) (hE0) (hKR.m (show keyOk Y (3) by unfold keyOk; omega)) (f3) (hE3) (hr3) (hyC) (a)) (cwV 1 hts gX4_renew_X4_caskAt rfl rfl rfl (by decide +kernel) ⟨Nat.le_of_ble_eq_true rfl, Nat.le_of_ble_eq_true rfl⟩) ⟨wX_blind, va_recv hK hP (ci := 4) (q0 := p1) rfl (kW_get hp1 hE0), wX_pre hP hK hD hN hX hZ hS hA⟩ rfl rfl hl.1 rfl (lv_room (Nat.le_of_ble_eq_true rfl)) dX4_renew_2 ⟨Nat.le_of_ble_eq_true rfl, Nat.le_of_ble_eq_true rfl⟩) hS (fun q _ h => hFc q h) hFc (fun q _ h => hFc q h) (fun En ce q9 u9 t9 H locs ht hvm hpx hBX _ _ hS hce hcv hcl => ?_) (fun u_2 ra_2 t9 H locs ht hvm hw_2 hB _ _ hS => ?_)
  · exact vx_out (fun x hx => (htb x hx).elim) hlocks hce hcv hcl (fun t ht2 hal => ⟨(), trivial, ⟨Or.inl ⟨hBX.1.1, by rw [sp_renew, if_neg (fun q9 => hBX.1.2 q9.1)]⟩, by rw [ht2, ← ht]; exact hBX.2.1, va_K.moved hal hK, hBX.2.2.2.weaken (fun _ _ _ h => hFc _ h)⟩, hS.F ht2⟩) hS.2.2 (by decide) (by decide)
  obtain ⟨hra_2, hP1, hK1, hD1⟩ := hB
  subst hra_2
  rw [ht] at hP1
  have hP := hP1
  have hD := hD1.weaken (fun _ _ _ h => hFc _ h)
  have hiaa := ix_lt hw_2
  obtain ⟨fb, fp, fd, ft, fk, hc0, hc1, hc2, hc3, hc4, hc5, hcbp, hcE⟩ := hYc (ix a) (by omega)
  have hcwhc := hyc (ix a) (by omega)
  have hfhc := hYf (ycf Y (ix a)) hcwhc.1
  have hfohc := hyf (ycf Y (ix a)) hcwhc.1
  have hcfhc := hcwhc.1
  have hmfhc : 1000 + ycf Y (ix a) ∈ K := (hKR.m (show keyOk Y (1000 + ycf Y (ix a)) by unfold keyOk; omega))
  have hqhc : ∀ q ∈ yE Y (ix a), q.1 ≤ 100000 ∧ q.2.1 ≤ 100000 ∧ q.2.2 ≤ 16 := fun q hq => by have h9 := hcwhc.2.2.1 q hq; exact ⟨by omega, by omega, h9.2.2⟩
  refine lv_astore_n (lv' := [(3, .ref ((ad (5000 + ix a)))), (0, .ref ((ad (0)))), (1, .int (a)), (2, .int (b))]) hx hb dX4_renew_5 rfl hl (by decide) rfl (fun ls hl => ?_)
  refine lv_aload_n hx hb dX4_renew_6 rfl (lv_at hl 0 rfl) ?_
  obtain ⟨p2, hp2⟩ := kW_pos (hKR.m (show keyOk Y (5000 + ix a) by unfold keyOk; omega))
  refine va_get (D := D) (ci := 1) (v := .ref ((ad (1000 + ycf Y (ix a))))) (C := RX1) (T := TX1) (N := 8) hx hb hts (by decide +kernel) hown hK hP p2 (kW_get hp2 hc0) rfl 1 (by decide) (hts (.fieldLink RX4 168 "CaskYard$Cask" "shape" "LCaskYard$Form;") (by decide +kernel)) (fun _ h9 => h9) rfl dX4_renew_7 ?_
  refine lv_iload_n hx hb dX4_renew_10 rfl (lv_at hl 3 rfl) ?_
  have hFc := w_free hD hS hA
  refine vx_callv (vx_runS (As := [.ref ((ad (1000 + ycf Y (ix a)))), .int (b)]) (rest := []) ⟨hx, hb, hml, hown, hts⟩ (c_X4_checkStave l hlt D cy H.size sa K ad E (1000 + ycf Y (ix a)) (hmfhc) (yh Y (ycf Y (ix a))) (yg Y (ycf Y (ix a))) (ye Y (ycf Y (ix a))) (ys Y (ycf Y (ix a))) (hfhc) (hfohc) (b)) (va_cwS 2 hts gX4_renew_X4_checkStave rfl rfl rfl (by decide +kernel) ⟨Nat.le_of_ble_eq_true rfl, Nat.le_of_ble_eq_true rfl⟩) ⟨wX_blind, wX_pre hP hK hD hN hX hZ hS hA⟩ rfl rfl hl.1 rfl (lv_room (Nat.le_of_ble_eq_true rfl)) dX4_renew_11 ⟨Nat.le_of_ble_eq_true rfl, Nat.le_of_ble_eq_true rfl⟩) hS (fun q _ h => hFc q h) hFc (fun q _ h => hFc q h) (fun En ce q9 u9 t9 H locs ht hvm hpx hBX _ _ hS hce hcv hcl => ?_) (fun u_11 t9 H locs ht hvm hw_11 hB _ _ hS => ?_)
  · exact vx_out (fun x hx => (htb x hx).elim) hlocks hce hcv hcl (fun t ht2 hal => ⟨(), trivial, ⟨Or.inl ⟨hBX.1.1, by rw [sp_renew, if_neg (fun q9 => hBX.1.2 q9.2)]⟩, by rw [ht2, ← ht]; exact hBX.2.1, va_K.moved hal hK, hBX.2.2.2.weaken (fun _ _ _ h => hFc _ h)⟩, hS.F ht2⟩) hS.2.2 (by decide) (by decide)
  obtain ⟨hP1, hK1, hD1⟩ := hB
  rw [ht] at hP1
  have hP := hP1
  have hD := hD1.weaken (fun _ _ _ h => hFc _ h)
  obtain ⟨hue_11, hok_11⟩ := hw_11
  rw [hue_11] at hP hD
  have hxb := ix_c hok_11.1
  have hltb := ix_lt hok_11
  have hnb := ix_n hok_11.1
  have hl : lv_has ls 7 [(3, .ref ((ad (5000 + ix a)))), (0, .ref ((ad (0)))), (1, .int (a)), (2, .int (nI (ix b)))] := by rw [← hnb]; exact hl
  refine lv_aload_n hx hb dX4_renew_14 rfl (lv_at hl 0 rfl) ?_
  obtain ⟨p3, hp3⟩ := kW_pos (hKR.m (show keyOk Y (5000 + ix a) by unfold keyOk; omega))
  refine va_get (D := D) (ci := 1) (v := .ref ((ad (1000 + ycf Y (ix a))))) (C := RX1) (T := TX1) (N := 8) hx hb hts (by decide +kernel) hown hK hP p3 (kW_get hp3 hc0) rfl 1 (by decide) (hts (.fieldLink RX4 168 "CaskYard$Cask" "shape" "LCaskYard$Form;") (by decide +kernel)) (fun _ h9 => h9) rfl dX4_renew_15 ?_
  refine lv_iload_n hx hb dX4_renew_18 rfl (lv_at hl 3 rfl) ?_
  obtain ⟨p4, hp4⟩ := kW_pos hmfhc
  refine vp_callSi (va_Run.run (va_runV (As := [.int (nI (ix b))]) (rest := []) ⟨hx, hb, hml, hown, hts⟩ (c_X2_bilgeWidth l D cy K ad E (1000 + ycf Y (ix a)) (hmfhc) (yh Y (ycf Y (ix a))) (yg Y (ycf Y (ix a))) (ye Y (ycf Y (ix a))) (ys Y (ycf Y (ix a))) (hfhc) (hfohc) (ix b) (by omega)) (cwV 1 hts gX4_renew_X2_bilgeWidth rfl rfl rfl (by decide +kernel) ⟨Nat.le_of_ble_eq_true rfl, Nat.le_of_ble_eq_true rfl⟩) ⟨rB2_blind, va_recv hK hP (ci := 2) (q0 := p4) rfl (kW_get hp4 hfhc), (rB2_pre hP hK hN)⟩ rfl rfl hl.1 rfl (lv_room (Nat.le_of_ble_eq_true rfl)) dX4_renew_19 ⟨Nat.le_of_ble_eq_true rfl, Nat.le_of_ble_eq_true rfl⟩)) (fun r_19 hr_19 => ?_)
  subst hr_19
  have hwla := width_le (k := ix b) (g := yg Y (ycf Y (ix a))) (n := ys Y (ycf Y (ix a))) (by omega)
  have hqla := Nat.div_le_self (yg Y (ycf Y (ix a))) (ys Y (ycf Y (ix a)))
  refine lv_iconst (v := (nI (2))) hx hb dX4_renew_22 (by decide) ?_
  refine g_iadd_n hx hb dX4_renew_23 ?_
  refine lv_istore (lv' := [(4, .int (nI ((widthN (ys Y (ycf Y (ix a))) (ix b) (yg Y (ycf Y (ix a)))) + 2))), (3, .ref ((ad (5000 + ix a)))), (0, .ref ((ad (0)))), (1, .int (a)), (2, .int (nI (ix b)))]) hx hb dX4_renew_24 hl (by decide) rfl (fun ls hl => ?_)
  refine lv_iconst (v := (nI (0))) hx hb dX4_renew_26 (by decide) ?_
  refine lv_istore (lv' := [(5, .int (nI (0))), (4, .int (nI ((widthN (ys Y (ycf Y (ix a))) (ix b) (yg Y (ycf Y (ix a)))) + 2))), (3, .ref ((ad (5000 + ix a)))), (0, .ref ((ad (0)))), (1, .int (a)), (2, .int (nI (ix b)))]) hx hb dX4_renew_27 hl (by decide) rfl (fun ls hl => ?_)
  have loop_29 : ∀ (n_ : Nat) (i : Nat) (H : Heap) (locs : List Loc), va_P D vwCl (kW K ad E) H → va_D A (kW K ad E) → va_S A s.heap H locs → (i ≤ yB Y) → (renB Y (widthN (ys Y (ycf Y (ix a))) (ix b) (yg Y (ycf Y (ix a))) + 2) 0 (yB Y) = renB Y (widthN (ys Y (ycf Y (ix a))) (ix b) (yg Y (ycf Y (ix a))) + 2) i (yB Y - i)) → yB Y - i < n_ → ∀ (ls : Array Slot), lv_has ls 7 [(0, .ref ((ad (0)))), (2, .int (nI (ix b))), (3, .ref ((ad (5000 + ix a)))), (4, .int (nI (widthN (ys Y (ycf Y (ix a))) (ix b) (yg Y (ycf Y (ix a))) + 2))), (5, .int (nI (i)))] → W p l e (headSpec wsX4_renew ({ frames := 7, cells := 2, slots := 12, locals := 104 } : Room)).room s m ([.ref ((ad (0))), .int (a), .int (b)] : List Value).toArray below meth c H locs 2 12 (vx_MQ below (va_Qi (fun (r : Int32) (u : Nat → va_E) => YP cy ad (sp_renew Y a b) r u) (fun u t => wE D cy A (kW K ad u) t) A) (vx_X (fun _ : Unit => True) (fun (En : String) _ t => (xOk En (sp_renew Y a b).1 1 2) ∧ wE D cy A (kW K ad E) t) A) ([.ref ((ad (0))), .int (a), .int (b)] : List Value).toArray s 2 12 A) (F0 m 29 ls []) := by
    intro n_
    induction n_ with
    | zero => intro i H locs hP hD hS hi hrb hm_; exact absurd hm_ (Nat.not_lt_zero _)
    | succ n_ ih_29 =>
      intro i H locs hP hD hS hi hrb hm_ ls hl
      refine lv_iload hx hb dX4_renew_29 (lv_at hl 4 rfl) ?_
      refine lv_aload_n hx hb dX4_renew_31 rfl (lv_at hl 0 rfl) ?_
      obtain ⟨p5, hp5⟩ := kW_pos (hKR.m (show keyOk Y (0) by unfold keyOk; omega))
      refine va_get (D := D) (ci := 4) (v := .int (nI (yB Y))) (C := RX4) (T := TX4) (N := 11) hx hb hts (by decide +kernel) hown hK hP p5 (kW_get hp5 hE0) rfl 8 (by decide) (hts (.fieldLink RX4 93 "CaskYard" "boltCount" "I") (by decide +kernel)) (fun _ h9 => h9) rfl dX4_renew_32 ?_
      refine g_icmp_ge (tgt := 95) hx hb dX4_renew_35 (by decide) (n_i (by omega)) (n_i (by omega)) (fun c_35 => ?_) (fun c_35 => ?_)
      · skip
        refine lv_iconst (v := (zI ((-1)))) hx hb dX4_renew_95 (by decide) ?_
        refine vx_ret ?_
        exact W.iret (v := (zI ((-1)))) hx hb hr (fun t ht hW => ⟨⟨_, E, rfl, (by rw [sp_renew, if_pos ⟨hw_2, hok_11⟩, mid_w hfohc, hrb, show yB Y - i = 0 by omega, renB]; exact ⟨rfl, rfl, hR⟩), by rw [ht]; exact hP, va_K.moved hW.alike hK, hD⟩, hS.F ht⟩) hS.2.2 dX4_renew_96
      · skip
        refine lv_aload_n hx hb dX4_renew_38 rfl (lv_at hl 0 rfl) ?_
        obtain ⟨p6, hp6⟩ := kW_pos (hKR.m (show keyOk Y (0) by unfold keyOk; omega))
        refine va_get (D := D) (ci := 4) (v := .ref ((ad (2)))) (C := RX4) (T := TX4) (N := 11) hx hb hts (by decide +kernel) hown hK hP p6 (kW_get hp6 hE0) rfl 1 (by decide) (hts (.fieldLink RX4 17 "CaskYard" "bolts" "[LCaskYard$Bolt;") (by decide +kernel)) (fun _ h9 => h9) rfl dX4_renew_39 ?_
        refine lv_iload hx hb dX4_renew_42 (lv_at hl 4 rfl) ?_
        obtain ⟨p7, hp7⟩ := kW_pos (hKR.m (show keyOk Y (2) by unfold keyOk; omega))
        refine g_aald hx hb hK hP p7 4 (kW_get hp7 hE2) rfl (i) rfl (by omega) (by decide) dX4_renew_44 ?_
        refine g_topr (y := .ref ((ad (2000 + i)))) (ref_t hr2 (by omega)) ?_
        refine lv_astore (lv' := [(6, .ref ((ad (2000 + i)))), (0, .ref ((ad (0)))), (2, .int (nI (ix b))), (3, .ref ((ad (5000 + ix a)))), (4, .int (nI (widthN (ys Y (ycf Y (ix a))) (ix b) (yg Y (ycf Y (ix a))) + 2))), (5, .int (nI (i)))]) hx hb dX4_renew_45 hl (by decide) rfl (fun ls hl => ?_)
        obtain ⟨fB, gB, hb0, hb1, hb2, hbA⟩ := hYb i (by omega)
        have hbw := hyb i (by omega)
        have hbl4 := hbw.2.1
        refine lv_aload hx hb dX4_renew_47 (lv_at hl 0 rfl) ?_
        refine lv_ifnull hx hb dX4_renew_49 ?_
        refine lv_aload_n hx hb dX4_renew_52 rfl (lv_at hl 1 rfl) ?_
        refine lv_aload hx hb dX4_renew_53 (lv_at hl 0 rfl) ?_
        obtain ⟨p8, hp8⟩ := kW_pos (hKR.m (show keyOk Y (0) by unfold keyOk; omega))
        refine vp_callSi (va_Run.run (va_runV (As := [.ref ((ad (2000 + i)))]) (rest := []) ⟨hx, hb, hml, hown, hts⟩ (c_X4_isRipe l D cy K ad E (hKR.m (show keyOk Y (0) by unfold keyOk; omega)) (yF Y) (yB Y) (yC Y) (yNow Y) (hE0) (2000 + i) (hKR.m (show keyOk Y (2000 + i) by unfold keyOk; omega)) (ad (3000 + i)) (ad (4000 + i)) (ysp Y (i)) (nI ((yP Y (i)).length)) (hb0) (⟨(hyb (i) (by omega)).1, hy0⟩)) (cwV 1 hts gX4_renew_X4_isRipe rfl rfl rfl (by decide +kernel) ⟨Nat.le_of_ble_eq_true rfl, Nat.le_of_ble_eq_true rfl⟩) ⟨rB2_blind, va_recv hK hP (ci := 4) (q0 := p8) rfl (kW_get hp8 hE0), (rB2_pre hP hK hN)⟩ rfl rfl hl.1 rfl (lv_room (Nat.le_of_ble_eq_true rfl)) dX4_renew_55 ⟨Nat.le_of_ble_eq_true rfl, Nat.le_of_ble_eq_true rfl⟩)) (fun r_55 hr_55 => ?_)
        subst hr_55
        refine g_ifeq_b (tgt := 89) hx hb dX4_renew_58 (by decide) (fun c_58 => ?_) (fun c_58 => ?_)
        · skip
          have hnon : ysp Y i + 1095 ≤ yNow Y → fitN (widthN (ys Y (ycf Y (ix a))) (ix b) (yg Y (ycf Y (ix a))) + 2) (yP Y i) 0 (yP Y i).length = none := fun h9 => absurd h9 c_58
          refine lv_iinc (v := (nI (i + 1))) (lv' := [(5, .int (nI (i + 1))), (6, .ref ((ad (2000 + i)))), (0, .ref ((ad (0)))), (2, .int (nI (ix b))), (3, .ref ((ad (5000 + ix a)))), (4, .int (nI (widthN (ys Y (ycf Y (ix a))) (ix b) (yg Y (ycf Y (ix a))) + 2)))]) hx hb dX4_renew_89 hl (k := 5) rfl (nI_add _ _) (by decide) rfl (fun ls hl => ?_)
          refine lv_goto (tgt := 29) hx hb dX4_renew_92 (by decide) ?_
          exact ih_29 (i + 1) H locs hP hD hS (by omega) (hrb.trans (renB_none (by omega) hnon)) (by omega) ls (lv_sub hl [2, 3, 4, 5, 0] rfl)
        · skip
          refine lv_aload hx hb dX4_renew_61 (lv_at hl 0 rfl) ?_
          refine lv_iload hx hb dX4_renew_63 (lv_at hl 4 rfl) ?_
          have hFc := w_free hD hS hA
          obtain ⟨p9, hp9⟩ := kW_pos (hKR.m (show keyOk Y (2000 + i) by unfold keyOk; omega))
          refine va_calli (va_runV (As := [.int (nI (widthN (ys Y (ycf Y (ix a))) (ix b) (yg Y (ycf Y (ix a))) + 2))]) (rest := []) ⟨hx, hb, hml, hown, hts⟩ (c_X0_cutFirst l D cy H.size K ad E (2000 + i) (3000 + i) (4000 + i) (hKR.m (show keyOk Y (2000 + i) by unfold keyOk; omega)) (hKR.m (show keyOk Y (3000 + i) by unfold keyOk; omega)) (hKR.m (show keyOk Y (4000 + i) by unfold keyOk; omega)) (⟨by omega, by omega, by omega⟩) (nI (ysp Y (i))) (yP Y (i)) (fB) (gB) (hb0) (hb1) (hb2) (hbw.2.1) (hbA) (hbw.2.2) (widthN (ys Y (ycf Y (ix a))) (ix b) (yg Y (ycf Y (ix a))) + 2) (by omega)) (cwV 1 hts gX4_renew_X0_cutFirst rfl rfl rfl (by decide +kernel) ⟨Nat.le_of_ble_eq_true rfl, Nat.le_of_ble_eq_true rfl⟩) ⟨wB2_blind, va_recv hK hP (ci := 0) (q0 := p9) rfl (kW_get hp9 hb0), wB2_pre hP hK hD hN⟩ rfl rfl hl.1 rfl (lv_room (Nat.le_of_ble_eq_true rfl)) dX4_renew_65 ⟨Nat.le_of_ble_eq_true rfl, Nat.le_of_ble_eq_true rfl⟩) hS (fun q _ h => hFc q h) hFc (fun r_65 E_65 t_ H locs ht hvm hw_65 hB _ _ hS => ?_)
          obtain ⟨hP1, hK1, hD1⟩ := hB
          rw [ht] at hP1
          have hP := hP1
          have hD := hD1.weaken (fun _ _ _ h => hFc _ h)
          obtain ⟨f65, g65, n65, k65_0, k65_1, k65_2, hO65, ha65, hb65⟩ := hw_65
          have fC65_25 : E_65 (0) = .inr (4, [.ref ((ad (1))), .ref ((ad (2))), .ref ((ad (3))), .ref ((ad (4))), .ref ((ad (5))), .ref ((ad (6))), .ref ((ad (18))), .int (nI (yF Y)), .int (nI (yB Y)), .int (nI (yC Y)), .int (nI (yNow Y))]) := (hO65 (0) (by omega) (by omega) (by omega)).trans hE0
          have fC65_38 : E_65 (2) = .inl (cy 4, 40, .inr (.inr (.inr (.inr (f2))))) := (hO65 (2) (by omega) (by omega) (by omega)).trans hE2
          have fC65_28 : E_65 (3) = .inl (cy 5, 30, .inr (.inr (.inr (.inr (f3))))) := (hO65 (3) (by omega) (by omega) (by omega)).trans hE3
          have fC65_32 : E_65 (5000 + ix a) = .inr (1, [.int (nI (ycf Y (ix a))), .ref ((ad (1000 + ycf Y (ix a)))), .ref ((ad (6000 + ix a))), .ref ((ad (7000 + ix a))), .ref ((ad (8000 + ix a))), .ref ((ad (9000 + ix a))), .ref ((ad (10000 + ix a))), .int (nI ((yE Y (ix a)).length))]) := (hO65 (5000 + ix a) (by omega) (by omega) (by omega)).trans hc0
          have fC65_29 : E_65 (6000 + ix a) = .inl (cy 0, 40, .inl (fb)) := (hO65 (6000 + ix a) (by omega) (by omega) (by omega)).trans hc1
          have fC65_30 : E_65 (7000 + ix a) = .inl (cy 0, 40, .inl (fp)) := (hO65 (7000 + ix a) (by omega) (by omega) (by omega)).trans hc2
          have fC65_33 : E_65 (8000 + ix a) = .inl (cy 0, 40, .inl (fd)) := (hO65 (8000 + ix a) (by omega) (by omega) (by omega)).trans hc3
          have fC65_34 : E_65 (9000 + ix a) = .inl (cy 0, 40, .inl (ft)) := (hO65 (9000 + ix a) (by omega) (by omega) (by omega)).trans hc4
          have fC65_35 : E_65 (10000 + ix a) = .inl (cy 0, 40, .inl (fk)) := (hO65 (10000 + ix a) (by omega) (by omega) (by omega)).trans hc5
          have fC65_31 : E_65 (1000 + ycf Y (ix a)) = .inr (2, [.int (nI (yh Y (ycf Y (ix a)))), .int (nI (yg Y (ycf Y (ix a)))), .int (nI (ye Y (ycf Y (ix a)))), .int (nI (ys Y (ycf Y (ix a))))]) := (hO65 (1000 + ycf Y (ix a)) (by omega) (by omega) (by omega)).trans hfhc
          refine g_top (y := (bI ((fitN (widthN (ys Y (ycf Y (ix a))) (ix b) (yg Y (ycf Y (ix a))) + 2) (yP Y i) 0 (yP Y i).length).isSome = true))) ((by rcases hf9 : fitN (widthN (ys Y (ycf Y (ix a))) (ix b) (yg Y (ycf Y (ix a))) + 2) (yP Y i) 0 (yP Y i).length with _ | i9 <;> first | (rw [(ha65 hf9).1]; exact (bI_f (by simp)).symm) | (rw [(hb65 i9 hf9).1]; exact (bI_t (by simp)).symm))) ?_
          refine g_ifeq_b (tgt := 89) hx hb dX4_renew_68 (by decide) (fun c_68 => ?_) (fun c_68 => ?_)
          · skip
            have hfn9 := isS_n c_68
            have hnon : ysp Y i + 1095 ≤ yNow Y → fitN (widthN (ys Y (ycf Y (ix a))) (ix b) (yg Y (ycf Y (ix a))) + 2) (yP Y i) 0 (yP Y i).length = none := fun _ => hfn9
            have hu9 := ha65 hfn9
            have hEE : E_65 = E := E_same (by rw [k65_0, hu9.2.1, hb0]) (by rw [k65_1, hu9.2.2.1, hb1]) (by rw [k65_2, hu9.2.2.2, hb2]) hO65
            rw [hEE] at hP hD
            refine lv_iinc (v := (nI (i + 1))) (lv' := [(5, .int (nI (i + 1))), (6, .ref ((ad (2000 + i)))), (0, .ref ((ad (0)))), (2, .int (nI (ix b))), (3, .ref ((ad (5000 + ix a)))), (4, .int (nI (widthN (ys Y (ycf Y (ix a))) (ix b) (yg Y (ycf Y (ix a))) + 2)))]) hx hb dX4_renew_89 hl (k := 5) rfl (nI_add _ _) (by decide) rfl (fun ls hl => ?_)
            refine lv_goto (tgt := 29) hx hb dX4_renew_92 (by decide) ?_
            exact ih_29 (i + 1) H locs hP hD hS (by omega) (hrb.trans (renB_none (by omega) hnon)) (by omega) ls (lv_sub hl [2, 3, 4, 5, 0] rfl)
          · skip
            obtain ⟨i9, hi9⟩ := isS_s c_68
            refine lv_aload_n hx hb dX4_renew_71 rfl (lv_at hl 3 rfl) ?_
            obtain ⟨p10, hp10⟩ := kW_pos (hKR.m (show keyOk Y (5000 + ix a) by unfold keyOk; omega))
            refine va_get (D := D) (ci := 1) (v := .ref ((ad (6000 + ix a)))) (C := RX1) (T := TX1) (N := 8) hx hb hts (by decide +kernel) hown hK hP p10 (kW_get hp10 fC65_32) rfl 2 (by decide) (hts (.fieldLink RX4 177 "CaskYard$Cask" "boltOf" "[I") (by decide +kernel)) (fun _ h9 => h9) rfl dX4_renew_72 ?_
            refine lv_iload_n hx hb dX4_renew_75 rfl (lv_at hl 2 rfl) ?_
            refine lv_iload hx hb dX4_renew_76 (lv_at hl 5 rfl) ?_
            obtain ⟨p11, hp11⟩ := kW_pos (hKR.m (show keyOk Y (6000 + ix a) by unfold keyOk; omega))
            refine g_iast hx hb hK hP hD hS p11 0 (kW_get hp11 fC65_29) rfl (ix b) rfl (by omega) (by decide) dX4_renew_78 (fun H locs hP hD hS => ?_)
            rw [kW_set hnd hp11] at hP hD
            obtain ⟨Ew12, hEw12⟩ : ∃ G, G = va_up E_65 (6000 + ix a) (.inl (cy 0, 40, .inl (upd (fb) (ix b) (nI (i))))) := ⟨_, rfl⟩
            have eEw12_29 : Ew12 (6000 + ix a) = .inl (cy 0, 40, .inl (upd (fb) (ix b) (nI (i)))) := by rw [hEw12]; exact va_up_self _ _ _
            rw [← hEw12] at hP hD
            refine lv_aload_n hx hb dX4_renew_79 rfl (lv_at hl 3 rfl) ?_
            obtain ⟨p13, hp13⟩ := kW_pos (hKR.m (show keyOk Y (5000 + ix a) by unfold keyOk; omega))
            refine va_get (D := D) (ci := 1) (v := .ref ((ad (7000 + ix a)))) (C := RX1) (T := TX1) (N := 8) hx hb hts (by decide +kernel) hown hK hP p13 (kW_get hp13 (show Ew12 (5000 + ix a) = .inr (1, [.int (nI (ycf Y (ix a))), .ref ((ad (1000 + ycf Y (ix a)))), .ref ((ad (6000 + ix a))), .ref ((ad (7000 + ix a))), .ref ((ad (8000 + ix a))), .ref ((ad (9000 + ix a))), .ref ((ad (10000 + ix a))), .int (nI ((yE Y (ix a)).length))]) by rw [hEw12, va_up_ne _ _ (by omega)]; exact fC65_32)) rfl 3 (by decide) (hts (.fieldLink RX4 180 "CaskYard$Cask" "past" "[I") (by decide +kernel)) (fun _ h9 => h9) rfl dX4_renew_80 ?_
            refine lv_iload_n hx hb dX4_renew_83 rfl (lv_at hl 2 rfl) ?_
            refine lv_iconst (v := (nI (0))) hx hb dX4_renew_84 (by decide) ?_
            obtain ⟨p14, hp14⟩ := kW_pos (hKR.m (show keyOk Y (7000 + ix a) by unfold keyOk; omega))
            refine g_iast hx hb hK hP hD hS p14 0 (kW_get hp14 (show Ew12 (7000 + ix a) = .inl (cy 0, 40, .inl (fp)) by rw [hEw12, va_up_ne _ _ (by omega)]; exact fC65_30)) rfl (ix b) rfl (by omega) (by decide) dX4_renew_85 (fun H locs hP hD hS => ?_)
            rw [kW_set hnd hp14] at hP hD
            obtain ⟨Ew15, hEw15⟩ : ∃ G, G = va_up Ew12 (7000 + ix a) (.inl (cy 0, 40, .inl (upd (fp) (ix b) (nI (0))))) := ⟨_, rfl⟩
            have eEw15_30 : Ew15 (7000 + ix a) = .inl (cy 0, 40, .inl (upd (fp) (ix b) (nI (0)))) := by rw [hEw15]; exact va_up_self _ _ _
            have eEw15_29 : Ew15 (6000 + ix a) = .inl (cy 0, 40, .inl (upd (fb) (ix b) (nI (i)))) := by rw [hEw15, va_up_ne _ _ (by omega)]; exact eEw12_29
            rw [← hEw15] at hP hD
            refine lv_iload hx hb dX4_renew_86 (lv_at hl 5 rfl) ?_
            refine vx_ret ?_
            exact W.iret (v := (nI (i))) hx hb hr (fun t ht hW => ⟨⟨_, Ew15, rfl, (by
    have hO9 : ∀ j_ : Nat, j_ ≠ 2000 + i → j_ ≠ 3000 + i → j_ ≠ 4000 + i → j_ ≠ 6000 + ix a → j_ ≠ 7000 + ix a → Ew15 j_ = E j_ := (fun j_ h0_ h1_ h2_ h3_ h4_ => by rw [hEw15, va_up_ne _ _ h4_, hEw12, va_up_ne _ _ h3_, hO65 j_ h0_ h1_ h2_])
    have hsp9 := fitN_spec _ 0 i9 (by omega) hi9
    have hrs : renB Y (midN Y (ix a) (ix b) + 2) 0 (yB Y) = some (i, i9) := by rw [mid_w hfohc, hrb]; exact renB_some (by omega) c_58 hi9
    have hfd : dropP (shortL (yP Y i) i9 (widthN (ys Y (ycf Y (ix a))) (ix b) (yg Y (ycf Y (ix a))) + 2)) = filP (shortL (yP Y i) i9 (widthN (ys Y (ycf Y (ix a))) (ix b) (yg Y (ycf Y (ix a))) + 2)) := fil_drop (short_le hsp9.1 hbw.2.2 hsp9.2)
    have hbo : boltAt cy ad Ew15 i (nI (ysp Y i)) (filP (shortL (yP Y i) i9 (widthN (ys Y (ycf Y (ix a))) (ix b) (yg Y (ycf Y (ix a))) + 2))) := by
      have h91 := hb65 i9 hi9
      rw [hfd] at h91
      exact ⟨_, _, by rw [← h91.2.2]; exact (show Ew15 (2000 + i) = .inr (0, [.int (nI (ysp Y (i))), .ref ((ad (3000 + i))), .ref ((ad (4000 + i))), .int (nI (n65))]) by rw [hEw15, va_up_ne _ _ (by omega), hEw12, va_up_ne _ _ (by omega)]; exact k65_0), (show Ew15 (3000 + i) = .inl (cy 0, 4, .inl (f65)) by rw [hEw15, va_up_ne _ _ (by omega), hEw12, va_up_ne _ _ (by omega)]; exact k65_1), (show Ew15 (4000 + i) = .inl (cy 0, 4, .inl (g65)) by rw [hEw15, va_up_ne _ _ (by omega), hEw12, va_up_ne _ _ (by omega)]; exact k65_2), h91.2.1⟩
    rw [sp_renew, if_pos ⟨hw_2, hok_11⟩, hrs]
    refine ⟨rfl, rfl, ?_⟩
    show YR cy ad Ew15 (renY Y (ix a) (ix b) (i, i9))
    rw [renY, mid_w hfohc]
    refine YR_bc (Y := Y) hR (saw_congr hsaw (fun k _ _ => hO9 k (by omega) (by omega) (by omega) (by omega) (by omega))) (spare_congr hspa (fun k _ _ => hO9 k (by omega) (by omega) (by omega) (by omega) (by omega))) (fun k _ => hO9 k (by omega) (by omega) (by omega) (by omega) (by omega)) hyF (fun b9 hb9 => ?_) rfl (fun c9 hc9 => ?_)
    · by_cases e9 : b9 = i
      · rw [e9]; show boltAt cy ad Ew15 i _ (va_up Y.2.2.1 i _ i); rw [va_up_self]; exact hbo
      · show boltAt cy ad Ew15 b9 _ (va_up Y.2.2.1 i _ b9); rw [va_up_ne _ _ e9]; exact boltAt_congr (hYb b9 hb9) (hO9 _ (by omega) (by omega) (by omega) (by omega) (by omega)) (hO9 _ (by omega) (by omega) (by omega) (by omega) (by omega)) (hO9 _ (by omega) (by omega) (by omega) (by omega) (by omega))
    · rw [va_up_ne _ _ (show 0 ≠ 1 by decide), va_up_self, va_up_self]
      by_cases e9 : c9 = ix a
      · rw [e9, va_up_self, va_up_self]
        exact ⟨_, _, _, _, _, (show Ew15 (5000 + ix a) = .inr (1, [.int (nI (ycf Y (ix a))), .ref ((ad (1000 + ycf Y (ix a)))), .ref ((ad (6000 + ix a))), .ref ((ad (7000 + ix a))), .ref ((ad (8000 + ix a))), .ref ((ad (9000 + ix a))), .ref ((ad (10000 + ix a))), .int (nI ((yE Y (ix a)).length))]) by rw [hEw15, va_up_ne _ _ (by omega), hEw12, va_up_ne _ _ (by omega)]; exact fC65_32), eEw15_29, eEw15_30, (show Ew15 (8000 + ix a) = .inl (cy 0, 40, .inl (fd)) by rw [hEw15, va_up_ne _ _ (by omega), hEw12, va_up_ne _ _ (by omega)]; exact fC65_33), (show Ew15 (9000 + ix a) = .inl (cy 0, 40, .inl (ft)) by rw [hEw15, va_up_ne _ _ (by omega), hEw12, va_up_ne _ _ (by omega)]; exact fC65_34), (show Ew15 (10000 + ix a) = .inl (cy 0, 40, .inl (fk)) by rw [hEw15, va_up_ne _ _ (by omega), hEw12, va_up_ne _ _ (by omega)]; exact fC65_35), sw_row hcbp, hcE⟩
      · rw [va_up_ne _ _ e9, va_up_ne _ _ e9]
        exact caskAt_congr (u := Ew15) (hYc c9 hc9) (fun o9 ho9 => hO9 _ (by omega) (by omega) (by omega) (by omega) (by omega))), by rw [ht]; exact hP, va_K.moved hW.alike hK, hD⟩, hS.F ht⟩) hS.2.2 dX4_renew_88
  exact loop_29 _ (0) H locs hP hD hS (by omega) rfl (Nat.lt_succ_self _) ls (lv_sub hl [3, 5, 2, 1, 0] rfl)
set_option maxHeartbeats 4000000 in
set_option maxRecDepth 100000 in
theorem c_X4_flaw (l : Launch) (hlt : l.stackTraces = false) (D : va_G) (cy : Nat → ClassId) (sz : Nat) (sa : Nat → Nat) (K : List Nat) (ad : Nat → Nat) (E : Nat → va_E) (Y : YT) (hKR : KR K Y) (hR : YR cy ad E Y) (hY : WF Y) (a : Int32) (b : Int32) (v : Int32) : vx_Met l yX4_flaw wsX4_flaw ({ frames := 7, cells := 1, slots := 6, locals := 104 } : Room) (va_Pc [.ref ((ad (0))), .int (a), .int (b), .int (v)] (wX D cy sz sa (kW K ad E))) (va_Qi (fun (r : Int32) (u : Nat → va_E) => YP cy ad (sp_flaw Y a b v) r u) (fun u t => wE D cy (va_A (kW K ad E) sz) (kW K ad u) t) (va_A (kW K ad E) sz)) (vx_X (fun _ : Unit => True) (fun (En : String) _ t => (xOk En (sp_flaw Y a b v).1 1 2) ∧ wE D cy (va_A (kW K ad E) sz) (kW K ad E) t) (va_A (kW K ad E) sz)) 1 6 (va_A (kW K ad E) sz) := by
  refine vx_ofW (cc := cX4_flaw) (maxL := 7) (ret := (some .int)) (by decide) rfl ?_
  intro p e s m args below meth c s₁ B hml htb hv
  obtain ⟨rfl, ⟨⟨hsz, hP, hK, hD0⟩, hN⟩, hX, hZ⟩ := hv
  have hx := B.exec
  have hb := B.bytes
  have hr := B.returns
  have hts := atoms_spec (ws := wsX4_flaw) B.pre
  have hown : s.vm.findClass RX4 = some m.cls := findClass_of_methodNamed B.named
  have hlocks := B.notSynchronized
  subst hsz
  have hD := hD0.self (sz := s.heap.size)
  generalize hAe : va_A (kW K ad E) s.heap.size = A at hD hZ ⊢
  have hA : ∀ q : Nat, s.heap.size ≤ q → A q := w_A hAe
  have hS : va_S A s.heap s.heap [] := va_S.rf
  have hnd := kW_nd hD
  have hl := lv_entry ([.ref ((ad (0))), .int (a), .int (b), .int (v)]) (n := 7) (Nat.le_of_ble_eq_true rfl)
  rw [lg_entry_eq]
  generalize (lg_sl ([.ref ((ad (0))), .int (a), .int (b), .int (v)]) ++ List.replicate (7 - (lg_sl ([.ref ((ad (0))), .int (a), .int (b), .int (v)])).length) Slot.unset).toArray = ls at hl ⊢
  have hl : lv_has ls 7 [(0, .ref ((ad (0)))), (1, .int (a)), (2, .int (b)), (3, .int (v))] := hl
  obtain ⟨⟨hE0, f1, f2, f3, hE1, hE2, hE3, hr1, hr2, hr3⟩, ⟨f4, f5, hE4, hE5, hbr, hwt⟩, hsaw, hspa, hYf, hYb, hYc⟩ := id hR
  obtain ⟨hy0, hyF, hyB, hyC, hyf, hyb, hyc, hyr, hyw⟩ := id hY
  refine lv_aload_n hx hb dX4_flaw_0 rfl (lv_at hl 0 rfl) ?_
  refine lv_iload_n hx hb dX4_flaw_1 rfl (lv_at hl 1 rfl) ?_
  have hFc := w_free hD hS hA
  obtain ⟨p1, hp1⟩ := kW_pos (hKR.m (show keyOk Y (0) by unfold keyOk; omega))
  refine vx_callr (vx_runV (As := [.int (a)]) (rest := []) ⟨hx, hb, hml, hown, hts⟩ (c_X4_boltAt l hlt D cy s.heap.size sa K ad E (hKR.m (show keyOk Y (0) by unfold keyOk; omega)) (yF Y) (yB Y) (yC Y) (yNow Y) (hE0) (hKR.m (show keyOk Y (2) by unfold keyOk; omega)) (f2) (hE2) (hr2) (hyB) (a)) (cwV 1 hts gX4_flaw_X4_boltAt rfl rfl rfl (by decide +kernel) ⟨Nat.le_of_ble_eq_true rfl, Nat.le_of_ble_eq_true rfl⟩) ⟨wX_blind, va_recv hK hP (ci := 4) (q0 := p1) rfl (kW_get hp1 hE0), wX_pre hP hK hD hN hX hZ hS hA⟩ rfl rfl hl.1 rfl (lv_room (Nat.le_of_ble_eq_true rfl)) dX4_flaw_2 ⟨Nat.le_of_ble_eq_true rfl, Nat.le_of_ble_eq_true rfl⟩) hS (fun q _ h => hFc q h) hFc (fun q _ h => hFc q h) (fun En ce q9 u9 t9 H locs ht hvm hpx hBX _ _ hS hce hcv hcl => ?_) (fun u_2 ra_2 t9 H locs ht hvm hw_2 hB _ _ hS => ?_)
  · exact vx_out (fun x hx => (htb x hx).elim) hlocks hce hcv hcl (fun t ht2 hal => ⟨(), trivial, ⟨Or.inl ⟨hBX.1.1, by rw [sp_flaw, if_neg hBX.1.2]⟩, by rw [ht2, ← ht]; exact hBX.2.1, va_K.moved hal hK, hBX.2.2.2.weaken (fun _ _ _ h => hFc _ h)⟩, hS.F ht2⟩) hS.2.2 (by decide) (by decide)
  obtain ⟨hra_2, hP1, hK1, hD1⟩ := hB
  subst hra_2
  rw [ht] at hP1
  have hP := hP1
  have hD := hD1.weaken (fun _ _ _ h => hFc _ h)
  have hia := ix_lt hw_2
  obtain ⟨fB, gB, hb0, hb1, hb2, hbA⟩ := hYb (ix a) hia
  have hbw := hyb (ix a) hia
  have hbl4 := hbw.2.1
  refine lv_astore (lv' := [(4, .ref ((ad (2000 + ix a)))), (0, .ref ((ad (0)))), (1, .int (a)), (2, .int (b)), (3, .int (v))]) hx hb dX4_flaw_5 hl (by decide) rfl (fun ls hl => ?_)
  refine lv_iload_n hx hb dX4_flaw_7 rfl (lv_at hl 3 rfl) ?_
  refine g_if_lt (tgt := 23) hx hb dX4_flaw_8 (by decide) rfl (fun c_8 => ?_) (fun c_8 => ?_)
  · skip
    refine lv_iconst (v := (zI ((-1)))) hx hb dX4_flaw_23 (by decide) ?_
    refine vx_ret ?_
    exact W.iret (v := (zI ((-1)))) hx hb hr (fun t ht hW => ⟨⟨_, E, rfl, by rw [sp_flaw, if_pos hw_2, if_neg (fun q9 => by omega)]; exact ⟨rfl, rfl, hR⟩, by rw [ht]; exact hP, va_K.moved hW.alike hK, hD⟩, hS.F ht⟩) hS.2.2 dX4_flaw_24
  · skip
    refine lv_iload_n hx hb dX4_flaw_11 rfl (lv_at hl 3 rfl) ?_
    refine lv_iload_n hx hb dX4_flaw_12 rfl (lv_at hl 4 rfl) ?_
    refine g_icmp_ge (tgt := 23) hx hb dX4_flaw_13 (by decide) rfl rfl (fun c_13 => ?_) (fun c_13 => ?_)
    · skip
      refine lv_iconst (v := (zI ((-1)))) hx hb dX4_flaw_23 (by decide) ?_
      refine vx_ret ?_
      exact W.iret (v := (zI ((-1)))) hx hb hr (fun t ht hW => ⟨⟨_, E, rfl, by rw [sp_flaw, if_pos hw_2, if_neg (fun q9 => by omega)]; exact ⟨rfl, rfl, hR⟩, by rw [ht]; exact hP, va_K.moved hW.alike hK, hD⟩, hS.F ht⟩) hS.2.2 dX4_flaw_24
    · skip
      refine lv_iload_n hx hb dX4_flaw_16 rfl (lv_at hl 4 rfl) ?_
      refine lv_sipush (v := (nI (600))) hx hb dX4_flaw_17 (by decide) ?_
      refine g_icmp_le (tgt := 25) hx hb dX4_flaw_20 (by decide) rfl (n_i (by omega)) (fun c_20 => ?_) (fun c_20 => ?_)
      · skip
        obtain ⟨sp9, n9, f19, f20, hE18, hE19, hE20⟩ := id hspa
        have hxb := ix_c (a := b) (by omega)
        have hxv := ix_c (a := v) (by omega)
        have hnb := ix_n (a := b) (by omega)
        have hnv := ix_n (a := v) (by omega)
        have hcon : 0 ≤ b.toInt ∧ b.toInt < v.toInt ∧ v.toInt ≤ 600 := ⟨by omega, by omega, by omega⟩
        have hl : lv_has ls 7 [(4, .ref ((ad (2000 + ix a)))), (0, .ref ((ad (0)))), (1, .int (a)), (2, .int (nI (ix b))), (3, .int (nI (ix v)))] := by rw [← hnb, ← hnv]; exact hl
        refine lv_aload_n hx hb dX4_flaw_25 rfl (lv_at hl 1 rfl) ?_
        obtain ⟨p2, hp2⟩ := kW_pos (hKR.m (show keyOk Y (0) by unfold keyOk; omega))
        refine va_get (D := D) (ci := 4) (v := .ref ((ad (18)))) (C := RX4) (T := TX4) (N := 11) hx hb hts (by decide +kernel) hown hK hP p2 (kW_get hp2 hE0) rfl 6 (by decide) (hts (.fieldLink RX4 44 "CaskYard" "spare" "LCaskYard$Bolt;") (by decide +kernel)) (fun _ h9 => h9) rfl dX4_flaw_26 ?_
        refine lv_iconst (v := (nI (0))) hx hb dX4_flaw_29 (by decide) ?_
        obtain ⟨p3, hp3⟩ := kW_pos (hKR.m (show keyOk Y (18) by unfold keyOk; omega))
        refine va_put (D := D) (ci := 0) (v := .int (nI (0))) (ty := .int) (C := RX0) (T := TX0) (N := 4) hx hb hts (by decide +kernel) tyX0 tyX0_ok nmX0 hown hK hP hD hS p3 (kW_get hp3 hE18) rfl 3 (by decide) (hts (.fieldLink RX4 100 "CaskYard$Bolt" "parts" "I") (by decide +kernel)) (fun _ h9 => h9) rfl (by decide +kernel) rfl rfl (Nat.le_of_ble_eq_true rfl) dX4_flaw_30 (fun H locs hP hD hS => ?_)
        rw [show ([.int (sp9), .ref ((ad (19))), .ref ((ad (20))), .int (nI (n9))] : List Value).set 3 (.int (nI (0))) = [.int (sp9), .ref ((ad (19))), .ref ((ad (20))), .int (nI (0))] from rfl] at hP hD
        rw [kW_set hnd hp3] at hP hD
        obtain ⟨Ew4, hEw4⟩ : ∃ G, G = va_up E (18) (.inr (0, [.int (sp9), .ref ((ad (19))), .ref ((ad (20))), .int (nI (0))])) := ⟨_, rfl⟩
        have eEw4_39 : Ew4 (18) = .inr (0, [.int (sp9), .ref ((ad (19))), .ref ((ad (20))), .int (nI (0))]) := by rw [hEw4]; exact va_up_self _ _ _
        rw [← hEw4] at hP hD
        refine lv_iconst (v := (nI (0))) hx hb dX4_flaw_33 (by decide) ?_
        refine lv_istore (lv' := [(5, .int (nI (0))), (4, .ref ((ad (2000 + ix a)))), (0, .ref ((ad (0)))), (1, .int (a)), (2, .int (nI (ix b))), (3, .int (nI (ix v)))]) hx hb dX4_flaw_34 hl (by decide) rfl (fun ls hl => ?_)
        have loop_36 : ∀ (n_ : Nat) (i : Nat) (k9 : Nat) (fS : Nat → Int32) (gS : Nat → Int32) (Ec : Nat → va_E) (H : Heap) (locs : List Loc), va_P D vwCl (kW K ad Ec) H → va_D A (kW K ad Ec) → va_S A s.heap H locs → (i ≤ (yP Y (ix a)).length) → (k9 = (cutL (ix b) (ix v) ((yP Y (ix a)).take (i))).length) → (k9 ≤ 4) → (arrP fS gS 0 (cutL (ix b) (ix v) ((yP Y (ix a)).take (i)))) → (Ec (18) = .inr (0, [.int (sp9), .ref ((ad (19))), .ref ((ad (20))), .int (nI (k9))])) → (Ec (19) = .inl (cy 0, 4, .inl (fS))) → (Ec (20) = .inl (cy 0, 4, .inl (gS))) → (∀ j_ : Nat, j_ ≠ 18 → j_ ≠ 19 → j_ ≠ 20 → Ec j_ = Ew4 j_) → (yP Y (ix a)).length - i < n_ → ∀ (ls : Array Slot), lv_has ls 7 [(0, .ref ((ad (0)))), (2, .int (nI (ix b))), (3, .int (nI (ix v))), (4, .ref ((ad (2000 + ix a)))), (5, .int (nI (i)))] → W p l e (headSpec wsX4_flaw ({ frames := 7, cells := 1, slots := 6, locals := 104 } : Room)).room s m ([.ref ((ad (0))), .int (a), .int (b), .int (v)] : List Value).toArray below meth c H locs 1 6 (vx_MQ below (va_Qi (fun (r : Int32) (u : Nat → va_E) => YP cy ad (sp_flaw Y a b v) r u) (fun u t => wE D cy A (kW K ad u) t) A) (vx_X (fun _ : Unit => True) (fun (En : String) _ t => (xOk En (sp_flaw Y a b v).1 1 2) ∧ wE D cy A (kW K ad E) t) A) ([.ref ((ad (0))), .int (a), .int (b), .int (v)] : List Value).toArray s 1 6 A) (F0 m 36 ls []) := by
          intro n_
          induction n_ with
          | zero => intro i k9 fS gS Ec H locs hP hD hS hi hk hk4 hA2 hk_36_0 hk_36_1 hk_36_2 hO_36 hm_; exact absurd hm_ (Nat.not_lt_zero _)
          | succ n_ ih_36 =>
            intro i k9 fS gS Ec H locs hP hD hS hi hk hk4 hA2 hk_36_0 hk_36_1 hk_36_2 hO_36 hm_ ls hl
            have fL36_25 : Ec (0) = .inr (4, [.ref ((ad (1))), .ref ((ad (2))), .ref ((ad (3))), .ref ((ad (4))), .ref ((ad (5))), .ref ((ad (6))), .ref ((ad (18))), .int (nI (yF Y)), .int (nI (yB Y)), .int (nI (yC Y)), .int (nI (yNow Y))]) := (hO_36 (0) (by omega) (by omega) (by omega)).trans (show Ew4 (0) = .inr (4, [.ref ((ad (1))), .ref ((ad (2))), .ref ((ad (3))), .ref ((ad (4))), .ref ((ad (5))), .ref ((ad (6))), .ref ((ad (18))), .int (nI (yF Y)), .int (nI (yB Y)), .int (nI (yC Y)), .int (nI (yNow Y))]) by rw [hEw4, va_up_ne _ _ (by omega)]; exact hE0)
            have fL36_38 : Ec (2) = .inl (cy 4, 40, .inr (.inr (.inr (.inr (f2))))) := (hO_36 (2) (by omega) (by omega) (by omega)).trans (show Ew4 (2) = .inl (cy 4, 40, .inr (.inr (.inr (.inr (f2))))) by rw [hEw4, va_up_ne _ _ (by omega)]; exact hE2)
            have fL36_40 : Ec (2000 + ix a) = .inr (0, [.int (nI (ysp Y (ix a))), .ref ((ad (3000 + ix a))), .ref ((ad (4000 + ix a))), .int (nI ((yP Y (ix a)).length))]) := (hO_36 (2000 + ix a) (by omega) (by omega) (by omega)).trans (show Ew4 (2000 + ix a) = .inr (0, [.int (nI (ysp Y (ix a))), .ref ((ad (3000 + ix a))), .ref ((ad (4000 + ix a))), .int (nI ((yP Y (ix a)).length))]) by rw [hEw4, va_up_ne _ _ (by omega)]; exact hb0)
            have fL36_41 : Ec (3000 + ix a) = .inl (cy 0, 4, .inl (fB)) := (hO_36 (3000 + ix a) (by omega) (by omega) (by omega)).trans (show Ew4 (3000 + ix a) = .inl (cy 0, 4, .inl (fB)) by rw [hEw4, va_up_ne _ _ (by omega)]; exact hb1)
            have fL36_42 : Ec (4000 + ix a) = .inl (cy 0, 4, .inl (gB)) := (hO_36 (4000 + ix a) (by omega) (by omega) (by omega)).trans (show Ew4 (4000 + ix a) = .inl (cy 0, 4, .inl (gB)) by rw [hEw4, va_up_ne _ _ (by omega)]; exact hb2)
            refine lv_iload hx hb dX4_flaw_36 (lv_at hl 4 rfl) ?_
            refine lv_aload hx hb dX4_flaw_38 (lv_at hl 3 rfl) ?_
            obtain ⟨p5, hp5⟩ := kW_pos (hKR.m (show keyOk Y (2000 + ix a) by unfold keyOk; omega))
            refine va_get (D := D) (ci := 0) (v := .int (nI ((yP Y (ix a)).length))) (C := RX0) (T := TX0) (N := 4) hx hb hts (by decide +kernel) hown hK hP p5 (kW_get hp5 fL36_40) rfl 3 (by decide) (hts (.fieldLink RX4 100 "CaskYard$Bolt" "parts" "I") (by decide +kernel)) (fun _ h9 => h9) rfl dX4_flaw_40 ?_
            refine g_icmp_ge (tgt := 126) hx hb dX4_flaw_43 (by decide) (n_i (by omega)) (n_i (by omega)) (fun c_43 => ?_) (fun c_43 => ?_)
            · skip
              have hii : i = (yP Y (ix a)).length := by omega
              rw [hii, List.take_length] at hk hA2
              have hk18 : Ec 18 = .inr (0, [.int (sp9), .ref ((ad (19))), .ref ((ad (20))), .int (nI ((cutL (ix b) (ix v) (yP Y (ix a))).length))]) := by rw [← hk]; exact hk_36_0
              refine lv_aload hx hb dX4_flaw_126 (lv_at hl 3 rfl) ?_
              refine lv_aload_n hx hb dX4_flaw_128 rfl (lv_at hl 0 rfl) ?_
              obtain ⟨p6, hp6⟩ := kW_pos (hKR.m (show keyOk Y (0) by unfold keyOk; omega))
              refine va_get (D := D) (ci := 4) (v := .ref ((ad (18)))) (C := RX4) (T := TX4) (N := 11) hx hb hts (by decide +kernel) hown hK hP p6 (kW_get hp6 fL36_25) rfl 6 (by decide) (hts (.fieldLink RX4 44 "CaskYard" "spare" "LCaskYard$Bolt;") (by decide +kernel)) (fun _ h9 => h9) rfl dX4_flaw_129 ?_
              have hFc := w_free hD hS hA
              obtain ⟨p7, hp7⟩ := kW_pos (hKR.m (show keyOk Y (2000 + ix a) by unfold keyOk; omega))
              refine va_callv (va_runV (As := [.ref ((ad (18)))]) (rest := []) ⟨hx, hb, hml, hown, hts⟩ (c_X0_takePartsOf l D cy H.size K ad Ec (2000 + ix a) (3000 + ix a) (4000 + ix a) (hKR.m (show keyOk Y (2000 + ix a) by unfold keyOk; omega)) (hKR.m (show keyOk Y (3000 + ix a) by unfold keyOk; omega)) (hKR.m (show keyOk Y (4000 + ix a) by unfold keyOk; omega)) (nI (ysp Y (ix a))) ((yP Y (ix a)).length) (fB) (gB) (fL36_40) (fL36_41) (fL36_42) (18) (19) (20) (hKR.m (show keyOk Y (18) by unfold keyOk; omega)) (hKR.m (show keyOk Y (19) by unfold keyOk; omega)) (hKR.m (show keyOk Y (20) by unfold keyOk; omega)) (sp9) (cutL (ix b) (ix v) (yP Y (ix a))) (fS) (gS) (hk18) (hk_36_1) (hk_36_2) (⟨by omega, by omega, by omega⟩) (⟨by omega, by omega, by omega, by omega, by omega, by omega, by omega, by omega, by omega⟩) (by omega) (hA2)) (cwV 1 hts gX4_flaw_X0_takePartsOf rfl rfl rfl (by decide +kernel) ⟨Nat.le_of_ble_eq_true rfl, Nat.le_of_ble_eq_true rfl⟩) ⟨wB2_blind, va_recv hK hP (ci := 0) (q0 := p7) rfl (kW_get hp7 fL36_40), wB2_pre hP hK hD hN⟩ rfl rfl hl.1 rfl (lv_room (Nat.le_of_ble_eq_true rfl)) dX4_flaw_132 ⟨Nat.le_of_ble_eq_true rfl, Nat.le_of_ble_eq_true rfl⟩) hS (fun q _ h => hFc q h) hFc (fun E_132 t_ H locs ht hvm hw_132 hB _ _ hS => ?_)
              obtain ⟨hP1, hK1, hD1⟩ := hB
              rw [ht] at hP1
              have hP := hP1
              have hD := hD1.weaken (fun _ _ _ h => hFc _ h)
              obtain ⟨f132, g132, k132_0, k132_1, k132_2, hO132, ha132⟩ := hw_132
              have fC132_25 : E_132 (0) = .inr (4, [.ref ((ad (1))), .ref ((ad (2))), .ref ((ad (3))), .ref ((ad (4))), .ref ((ad (5))), .ref ((ad (6))), .ref ((ad (18))), .int (nI (yF Y)), .int (nI (yB Y)), .int (nI (yC Y)), .int (nI (yNow Y))]) := (hO132 (0) (by omega) (by omega) (by omega)).trans fL36_25
              have fC132_38 : E_132 (2) = .inl (cy 4, 40, .inr (.inr (.inr (.inr (f2))))) := (hO132 (2) (by omega) (by omega) (by omega)).trans fL36_38
              have fC132_39 : E_132 (18) = .inr (0, [.int (sp9), .ref ((ad (19))), .ref ((ad (20))), .int (nI ((cutL (ix b) (ix v) (yP Y (ix a))).length))]) := (hO132 (18) (by omega) (by omega) (by omega)).trans hk18
              have fC132_43 : E_132 (19) = .inl (cy 0, 4, .inl (fS)) := (hO132 (19) (by omega) (by omega) (by omega)).trans hk_36_1
              have fC132_44 : E_132 (20) = .inl (cy 0, 4, .inl (gS)) := (hO132 (20) (by omega) (by omega) (by omega)).trans hk_36_2
              refine lv_aload hx hb dX4_flaw_135 (lv_at hl 3 rfl) ?_
              obtain ⟨p8, hp8⟩ := kW_pos (hKR.m (show keyOk Y (2000 + ix a) by unfold keyOk; omega))
              refine va_get (D := D) (ci := 0) (v := .int (nI ((cutL (ix b) (ix v) (yP Y (ix a))).length))) (C := RX0) (T := TX0) (N := 4) hx hb hts (by decide +kernel) hown hK hP p8 (kW_get hp8 k132_0) rfl 3 (by decide) (hts (.fieldLink RX4 100 "CaskYard$Bolt" "parts" "I") (by decide +kernel)) (fun _ h9 => h9) rfl dX4_flaw_137 ?_
              refine vx_ret ?_
              exact W.iret (v := (nI ((cutL (ix b) (ix v) (yP Y (ix a))).length))) hx hb hr (fun t ht hW => ⟨⟨_, E_132, rfl, (by
    have hO9 : ∀ j_ : Nat, j_ ≠ 18 → j_ ≠ 19 → j_ ≠ 20 → j_ ≠ 2000 + ix a → j_ ≠ 3000 + ix a → j_ ≠ 4000 + ix a → E_132 j_ = E j_ := (fun j_ h0_ h1_ h2_ h3_ h4_ h5_ => by rw [hO132 j_ h3_ h4_ h5_, hO_36 j_ h0_ h1_ h2_, hEw4, va_up_ne _ _ h0_])
    rw [sp_flaw, if_pos hw_2, if_pos hcon, if_pos (by omega)]
    refine ⟨rfl, rfl, ?_⟩
    refine YR_bc hR (saw_congr hsaw (fun k _ _ => hO9 k (by omega) (by omega) (by omega) (by omega) (by omega) (by omega))) ⟨_, _, _, _, fC132_39, fC132_43, fC132_44⟩ (fun k _ => hO9 k (by omega) (by omega) (by omega) (by omega) (by omega) (by omega)) hyF (fun b9 hb9 => ?_) rfl (fun c9 hc9 => ?_)
    · by_cases e9 : b9 = ix a
      · rw [e9, va_up_self]
        exact ⟨_, _, k132_0, k132_1, k132_2, ha132⟩
      · rw [va_up_ne _ _ e9]; exact boltAt_congr (hYb b9 hb9) (hO9 _ (by omega) (by omega) (by omega) (by omega) (by omega) (by omega)) (hO9 _ (by omega) (by omega) (by omega) (by omega) (by omega) (by omega)) (hO9 _ (by omega) (by omega) (by omega) (by omega) (by omega) (by omega))
    · exact caskAt_congr (u := E_132) (hYc c9 hc9) (fun o9 ho9 => hO9 _ (by omega) (by omega) (by omega) (by omega) (by omega) (by omega))), by rw [ht]; exact hP, va_K.moved hW.alike hK, hD⟩, hS.F ht⟩) hS.2.2 dX4_flaw_140
            · skip
              have hq9 := hbw.2.2 _ (paD_mem (L := yP Y (ix a)) (i := i) (by omega))
              have hcl9 := cutL_le (ix b) (ix v) (yP Y (ix a)) (i + 1)
              rw [cutL_s (by omega), cut1] at hcl9
              refine lv_aload_n hx hb dX4_flaw_46 rfl (lv_at hl 0 rfl) ?_
              obtain ⟨p9, hp9⟩ := kW_pos (hKR.m (show keyOk Y (0) by unfold keyOk; omega))
              refine va_get (D := D) (ci := 4) (v := .ref ((ad (18)))) (C := RX4) (T := TX4) (N := 11) hx hb hts (by decide +kernel) hown hK hP p9 (kW_get hp9 fL36_25) rfl 6 (by decide) (hts (.fieldLink RX4 44 "CaskYard" "spare" "LCaskYard$Bolt;") (by decide +kernel)) (fun _ h9 => h9) rfl dX4_flaw_47 ?_
              refine lv_aload hx hb dX4_flaw_50 (lv_at hl 3 rfl) ?_
              obtain ⟨p10, hp10⟩ := kW_pos (hKR.m (show keyOk Y (2000 + ix a) by unfold keyOk; omega))
              refine va_get (D := D) (ci := 0) (v := .ref ((ad (3000 + ix a)))) (C := RX0) (T := TX0) (N := 4) hx hb hts (by decide +kernel) hown hK hP p10 (kW_get hp10 fL36_40) rfl 1 (by decide) (hts (.fieldLink RX4 103 "CaskYard$Bolt" "begin" "[I") (by decide +kernel)) (fun _ h9 => h9) rfl dX4_flaw_52 ?_
              refine lv_iload hx hb dX4_flaw_55 (lv_at hl 4 rfl) ?_
              obtain ⟨p11, hp11⟩ := kW_pos (hKR.m (show keyOk Y (3000 + ix a) by unfold keyOk; omega))
              refine g_iald hx hb hK hP p11 0 (kW_get hp11 fL36_41) rfl (i) rfl (by omega) (by decide) dX4_flaw_57 ?_
              refine g_top (y := (nI ((paD (yP Y (ix a)) i).1))) ((arrP_0 hbA (by omega)).1) ?_
              refine lv_aload hx hb dX4_flaw_58 (lv_at hl 3 rfl) ?_
              obtain ⟨p12, hp12⟩ := kW_pos (hKR.m (show keyOk Y (2000 + ix a) by unfold keyOk; omega))
              refine va_get (D := D) (ci := 0) (v := .ref ((ad (4000 + ix a)))) (C := RX0) (T := TX0) (N := 4) hx hb hts (by decide +kernel) hown hK hP p12 (kW_get hp12 fL36_40) rfl 2 (by decide) (hts (.fieldLink RX4 106 "CaskYard$Bolt" "end" "[I") (by decide +kernel)) (fun _ h9 => h9) rfl dX4_flaw_60 ?_
              refine lv_iload hx hb dX4_flaw_63 (lv_at hl 4 rfl) ?_
              obtain ⟨p13, hp13⟩ := kW_pos (hKR.m (show keyOk Y (4000 + ix a) by unfold keyOk; omega))
              refine g_iald hx hb hK hP p13 0 (kW_get hp13 fL36_42) rfl (i) rfl (by omega) (by decide) dX4_flaw_65 ?_
              refine g_top (y := (nI ((paD (yP Y (ix a)) i).2))) ((arrP_0 hbA (by omega)).2) ?_
              refine lv_iload_n hx hb dX4_flaw_66 rfl (lv_at hl 1 rfl) ?_
              refine va_mmin hx hb (hml.trans hl.1.symm) hown (hts (.methodLink RX4 109 Lib.Math.min.name) (by decide +kernel)) (hts (.static Lib.Math.min.name) (by decide +kernel)) (hts (.initialized "java/lang/Math") (by decide +kernel)) (hts (.code Lib.Math.min.name Lib.Math.min.code 2 (some .int)) (by decide +kernel)) (Nat.le_of_ble_eq_true rfl) (Nat.le_of_ble_eq_true rfl) (Nat.le_of_ble_eq_true rfl) (Nat.le_of_ble_eq_true rfl) dX4_flaw_67 ?_
              refine g_top (y := (nI (min ((paD (yP Y (ix a)) i).2) (ix b)))) (n_min (by omega) (by omega)) ?_
              have hFc := w_free hD hS hA
              obtain ⟨p14, hp14⟩ := kW_pos (hKR.m (show keyOk Y (18) by unfold keyOk; omega))
              refine va_calli (va_runV (As := [.int (nI ((paD (yP Y (ix a)) i).1)), .int (nI (min ((paD (yP Y (ix a)) i).2) (ix b)))]) (rest := []) ⟨hx, hb, hml, hown, hts⟩ (c_X0_addPart l D cy H.size K ad Ec (18) (19) (20) (hKR.m (show keyOk Y (18) by unfold keyOk; omega)) (hKR.m (show keyOk Y (19) by unfold keyOk; omega)) (hKR.m (show keyOk Y (20) by unfold keyOk; omega)) (⟨by omega, by omega, by omega⟩) (sp9) (k9) (fS) (gS) (hk_36_0) (hk_36_1) (hk_36_2) (by omega) ((paD (yP Y (ix a)) i).1) (min ((paD (yP Y (ix a)) i).2) (ix b)) (by omega) (by omega)) (cwV 2 hts gX4_flaw_X0_addPart rfl rfl rfl (by decide +kernel) ⟨Nat.le_of_ble_eq_true rfl, Nat.le_of_ble_eq_true rfl⟩) ⟨wB2_blind, va_recv hK hP (ci := 0) (q0 := p14) rfl (kW_get hp14 hk_36_0), wB2_pre hP hK hD hN⟩ rfl rfl hl.1 rfl (lv_room (Nat.le_of_ble_eq_true rfl)) dX4_flaw_70 ⟨Nat.le_of_ble_eq_true rfl, Nat.le_of_ble_eq_true rfl⟩) hS (fun q _ h => hFc q h) hFc (fun r_70 E_70 t_ H locs ht hvm hw_70 hB _ _ hS => ?_)
              obtain ⟨hP1, hK1, hD1⟩ := hB
              rw [ht] at hP1
              have hP := hP1
              have hD := hD1.weaken (fun _ _ _ h => hFc _ h)
              obtain ⟨f70, g70, n70, k70_0, k70_1, k70_2, hO70, ha70, hb70, hres_70⟩ := hw_70
              have fC70_25 : E_70 (0) = .inr (4, [.ref ((ad (1))), .ref ((ad (2))), .ref ((ad (3))), .ref ((ad (4))), .ref ((ad (5))), .ref ((ad (6))), .ref ((ad (18))), .int (nI (yF Y)), .int (nI (yB Y)), .int (nI (yC Y)), .int (nI (yNow Y))]) := (hO70 (0) (by omega) (by omega) (by omega)).trans fL36_25
              have fC70_38 : E_70 (2) = .inl (cy 4, 40, .inr (.inr (.inr (.inr (f2))))) := (hO70 (2) (by omega) (by omega) (by omega)).trans fL36_38
              have fC70_40 : E_70 (2000 + ix a) = .inr (0, [.int (nI (ysp Y (ix a))), .ref ((ad (3000 + ix a))), .ref ((ad (4000 + ix a))), .int (nI ((yP Y (ix a)).length))]) := (hO70 (2000 + ix a) (by omega) (by omega) (by omega)).trans fL36_40
              have fC70_41 : E_70 (3000 + ix a) = .inl (cy 0, 4, .inl (fB)) := (hO70 (3000 + ix a) (by omega) (by omega) (by omega)).trans fL36_41
              have fC70_42 : E_70 (4000 + ix a) = .inl (cy 0, 4, .inl (gB)) := (hO70 (4000 + ix a) (by omega) (by omega) (by omega)).trans fL36_42
              refine g_top (y := (bI (¬ ((paD (yP Y (ix a)) i).1 < min ((paD (yP Y (ix a)) i).2) (ix b) ∧ 4 ≤ k9)))) (hres_70) ?_
              refine g_ifeq_b (tgt := 110) hx hb dX4_flaw_73 (by decide) (fun c_73 => ?_) (fun c_73 => ?_)
              · skip
                have hbig : 4 < (cutL (ix b) (ix v) (yP Y (ix a))).length := by
                  have h91 := Classical.not_not.mp c_73
                  rw [if_pos h91.1] at hcl9
                  simp only [List.length_append, List.length_cons, List.length_nil] at hcl9
                  omega
                refine lv_iconst (v := (nI (0))) hx hb dX4_flaw_110 (by decide) ?_
                refine lv_istore (lv' := [(6, .int (nI (0))), (0, .ref ((ad (0)))), (2, .int (nI (ix b))), (3, .int (nI (ix v))), (4, .ref ((ad (2000 + ix a)))), (5, .int (nI (i)))]) hx hb dX4_flaw_111 hl (by decide) rfl (fun ls hl => ?_)
                refine lv_iload hx hb dX4_flaw_113 (lv_at hl 0 rfl) ?_
                refine g_if_ne (tgt := 120) hx hb dX4_flaw_115 (by decide) (n_i (by omega)) (fun c_115 => ?_) (fun c_115 => ?_)
                · skip
                  exfalso; omega
                · skip
                  refine lv_iconst (v := (zI ((-1)))) hx hb dX4_flaw_118 (by decide) ?_
                  refine vx_ret ?_
                  exact W.iret (v := (zI ((-1)))) hx hb hr (fun t ht hW => ⟨⟨_, E_70, rfl, (by rw [sp_flaw, if_pos hw_2, if_pos hcon, if_neg (by omega)]; exact ⟨rfl, rfl, YR_spare hR ⟨_, _, _, _, k70_0, k70_1, k70_2⟩ (fun j_ h0_ h1_ h2_ => by rw [hO70 j_ h0_ h1_ h2_, hO_36 j_ h0_ h1_ h2_, hEw4, va_up_ne _ _ h0_])⟩), by rw [ht]; exact hP, va_K.moved hW.alike hK, hD⟩, hS.F ht⟩) hS.2.2 dX4_flaw_119
              · skip
                have hcs1 := fl_add hk hk4 hA2 ha70 hb70 c_73
                refine lv_aload_n hx hb dX4_flaw_76 rfl (lv_at hl 0 rfl) ?_
                obtain ⟨p15, hp15⟩ := kW_pos (hKR.m (show keyOk Y (0) by unfold keyOk; omega))
                refine va_get (D := D) (ci := 4) (v := .ref ((ad (18)))) (C := RX4) (T := TX4) (N := 11) hx hb hts (by decide +kernel) hown hK hP p15 (kW_get hp15 fC70_25) rfl 6 (by decide) (hts (.fieldLink RX4 44 "CaskYard" "spare" "LCaskYard$Bolt;") (by decide +kernel)) (fun _ h9 => h9) rfl dX4_flaw_77 ?_
                refine lv_aload hx hb dX4_flaw_80 (lv_at hl 3 rfl) ?_
                obtain ⟨p16, hp16⟩ := kW_pos (hKR.m (show keyOk Y (2000 + ix a) by unfold keyOk; omega))
                refine va_get (D := D) (ci := 0) (v := .ref ((ad (3000 + ix a)))) (C := RX0) (T := TX0) (N := 4) hx hb hts (by decide +kernel) hown hK hP p16 (kW_get hp16 fC70_40) rfl 1 (by decide) (hts (.fieldLink RX4 103 "CaskYard$Bolt" "begin" "[I") (by decide +kernel)) (fun _ h9 => h9) rfl dX4_flaw_82 ?_
                refine lv_iload hx hb dX4_flaw_85 (lv_at hl 4 rfl) ?_
                obtain ⟨p17, hp17⟩ := kW_pos (hKR.m (show keyOk Y (3000 + ix a) by unfold keyOk; omega))
                refine g_iald hx hb hK hP p17 0 (kW_get hp17 fC70_41) rfl (i) rfl (by omega) (by decide) dX4_flaw_87 ?_
                refine g_top (y := (nI ((paD (yP Y (ix a)) i).1))) ((arrP_0 hbA (by omega)).1) ?_
                refine lv_iload_n hx hb dX4_flaw_88 rfl (lv_at hl 2 rfl) ?_
                refine va_mmax hx hb (hml.trans hl.1.symm) hown (hts (.methodLink RX4 118 Lib.Math.max.name) (by decide +kernel)) (hts (.static Lib.Math.max.name) (by decide +kernel)) (hts (.initialized "java/lang/Math") (by decide +kernel)) (hts (.code Lib.Math.max.name Lib.Math.max.code 2 (some .int)) (by decide +kernel)) (Nat.le_of_ble_eq_true rfl) (Nat.le_of_ble_eq_true rfl) (Nat.le_of_ble_eq_true rfl) (Nat.le_of_ble_eq_true rfl) dX4_flaw_89 ?_
                refine g_top (y := (nI (max ((paD (yP Y (ix a)) i).1) (ix v)))) (n_max (by omega) (by omega)) ?_
                refine lv_aload hx hb dX4_flaw_92 (lv_at hl 3 rfl) ?_
                obtain ⟨p18, hp18⟩ := kW_pos (hKR.m (show keyOk Y (2000 + ix a) by unfold keyOk; omega))
                refine va_get (D := D) (ci := 0) (v := .ref ((ad (4000 + ix a)))) (C := RX0) (T := TX0) (N := 4) hx hb hts (by decide +kernel) hown hK hP p18 (kW_get hp18 fC70_40) rfl 2 (by decide) (hts (.fieldLink RX4 106 "CaskYard$Bolt" "end" "[I") (by decide +kernel)) (fun _ h9 => h9) rfl dX4_flaw_94 ?_
                refine lv_iload hx hb dX4_flaw_97 (lv_at hl 4 rfl) ?_
                obtain ⟨p19, hp19⟩ := kW_pos (hKR.m (show keyOk Y (4000 + ix a) by unfold keyOk; omega))
                refine g_iald hx hb hK hP p19 0 (kW_get hp19 fC70_42) rfl (i) rfl (by omega) (by decide) dX4_flaw_99 ?_
                refine g_top (y := (nI ((paD (yP Y (ix a)) i).2))) ((arrP_0 hbA (by omega)).2) ?_
                have hFc := w_free hD hS hA
                obtain ⟨p20, hp20⟩ := kW_pos (hKR.m (show keyOk Y (18) by unfold keyOk; omega))
                refine va_calli (va_runV (As := [.int (nI (max ((paD (yP Y (ix a)) i).1) (ix v))), .int (nI ((paD (yP Y (ix a)) i).2))]) (rest := []) ⟨hx, hb, hml, hown, hts⟩ (c_X0_addPart l D cy H.size K ad E_70 (18) (19) (20) (hKR.m (show keyOk Y (18) by unfold keyOk; omega)) (hKR.m (show keyOk Y (19) by unfold keyOk; omega)) (hKR.m (show keyOk Y (20) by unfold keyOk; omega)) (⟨by omega, by omega, by omega⟩) ((sp9)) (n70) (f70) (g70) (k70_0) (k70_1) (k70_2) (by omega) (max ((paD (yP Y (ix a)) i).1) (ix v)) ((paD (yP Y (ix a)) i).2) (by omega) (by omega)) (cwV 2 hts gX4_flaw_X0_addPart rfl rfl rfl (by decide +kernel) ⟨Nat.le_of_ble_eq_true rfl, Nat.le_of_ble_eq_true rfl⟩) ⟨wB2_blind, va_recv hK hP (ci := 0) (q0 := p20) rfl (kW_get hp20 k70_0), wB2_pre hP hK hD hN⟩ rfl rfl hl.1 rfl (lv_room (Nat.le_of_ble_eq_true rfl)) dX4_flaw_100 ⟨Nat.le_of_ble_eq_true rfl, Nat.le_of_ble_eq_true rfl⟩) hS (fun q _ h => hFc q h) hFc (fun r_100 E_100 t_ H locs ht hvm hw_100 hB _ _ hS => ?_)
                obtain ⟨hP1, hK1, hD1⟩ := hB
                rw [ht] at hP1
                have hP := hP1
                have hD := hD1.weaken (fun _ _ _ h => hFc _ h)
                obtain ⟨f100, g100, n100, k100_0, k100_1, k100_2, hO100, ha100, hb100, hres_100⟩ := hw_100
                have fC100_25 : E_100 (0) = .inr (4, [.ref ((ad (1))), .ref ((ad (2))), .ref ((ad (3))), .ref ((ad (4))), .ref ((ad (5))), .ref ((ad (6))), .ref ((ad (18))), .int (nI (yF Y)), .int (nI (yB Y)), .int (nI (yC Y)), .int (nI (yNow Y))]) := (hO100 (0) (by omega) (by omega) (by omega)).trans fC70_25
                have fC100_38 : E_100 (2) = .inl (cy 4, 40, .inr (.inr (.inr (.inr (f2))))) := (hO100 (2) (by omega) (by omega) (by omega)).trans fC70_38
                have fC100_40 : E_100 (2000 + ix a) = .inr (0, [.int (nI (ysp Y (ix a))), .ref ((ad (3000 + ix a))), .ref ((ad (4000 + ix a))), .int (nI ((yP Y (ix a)).length))]) := (hO100 (2000 + ix a) (by omega) (by omega) (by omega)).trans fC70_40
                have fC100_41 : E_100 (3000 + ix a) = .inl (cy 0, 4, .inl (fB)) := (hO100 (3000 + ix a) (by omega) (by omega) (by omega)).trans fC70_41
                have fC100_42 : E_100 (4000 + ix a) = .inl (cy 0, 4, .inl (gB)) := (hO100 (4000 + ix a) (by omega) (by omega) (by omega)).trans fC70_42
                refine g_top (y := (bI (¬ (max ((paD (yP Y (ix a)) i).1) (ix v) < (paD (yP Y (ix a)) i).2 ∧ 4 ≤ n70)))) (hres_100) ?_
                refine g_ifeq_b (tgt := 110) hx hb dX4_flaw_103 (by decide) (fun c_103 => ?_) (fun c_103 => ?_)
                · skip
                  have hbig : 4 < (cutL (ix b) (ix v) (yP Y (ix a))).length := by
                    have h91 := Classical.not_not.mp c_103
                    rw [if_pos h91.1] at hcl9
                    have h92 := hcs1.1
                    simp only [List.length_append, List.length_cons, List.length_nil] at hcl9 h92
                    omega
                  refine lv_iconst (v := (nI (0))) hx hb dX4_flaw_110 (by decide) ?_
                  refine lv_istore (lv' := [(6, .int (nI (0))), (0, .ref ((ad (0)))), (2, .int (nI (ix b))), (3, .int (nI (ix v))), (4, .ref ((ad (2000 + ix a)))), (5, .int (nI (i)))]) hx hb dX4_flaw_111 hl (by decide) rfl (fun ls hl => ?_)
                  refine lv_iload hx hb dX4_flaw_113 (lv_at hl 0 rfl) ?_
                  refine g_if_ne (tgt := 120) hx hb dX4_flaw_115 (by decide) (n_i (by omega)) (fun c_115 => ?_) (fun c_115 => ?_)
                  · skip
                    exfalso; omega
                  · skip
                    refine lv_iconst (v := (zI ((-1)))) hx hb dX4_flaw_118 (by decide) ?_
                    refine vx_ret ?_
                    exact W.iret (v := (zI ((-1)))) hx hb hr (fun t ht hW => ⟨⟨_, E_100, rfl, (by rw [sp_flaw, if_pos hw_2, if_pos hcon, if_neg (by omega)]; exact ⟨rfl, rfl, YR_spare hR ⟨_, _, _, _, k100_0, k100_1, k100_2⟩ (fun j_ h0_ h1_ h2_ => by rw [hO100 j_ h0_ h1_ h2_, hO70 j_ h0_ h1_ h2_, hO_36 j_ h0_ h1_ h2_, hEw4, va_up_ne _ _ h0_])⟩), by rw [ht]; exact hP, va_K.moved hW.alike hK, hD⟩, hS.F ht⟩) hS.2.2 dX4_flaw_119
                · skip
                  have hcs9 := fl_add hcs1.1 hcs1.2.1 hcs1.2.2 ha100 hb100 c_103
                  rw [List.append_assoc] at hcs9
                  rw [show cutL (ix b) (ix v) ((yP Y (ix a)).take (i)) ++ ((if (paD (yP Y (ix a)) i).1 < min ((paD (yP Y (ix a)) i).2) (ix b) then [((paD (yP Y (ix a)) i).1, min ((paD (yP Y (ix a)) i).2) (ix b))] else []) ++ (if max ((paD (yP Y (ix a)) i).1) (ix v) < (paD (yP Y (ix a)) i).2 then [(max ((paD (yP Y (ix a)) i).1) (ix v), (paD (yP Y (ix a)) i).2)] else [])) = cutL (ix b) (ix v) ((yP Y (ix a)).take (i + 1)) from (cutL_s (by omega)).symm] at hcs9
                  refine lv_iconst (v := (nI (1))) hx hb dX4_flaw_106 (by decide) ?_
                  refine lv_goto (tgt := 111) hx hb dX4_flaw_107 (by decide) ?_
                  refine lv_istore (lv' := [(6, .int (nI (1))), (0, .ref ((ad (0)))), (2, .int (nI (ix b))), (3, .int (nI (ix v))), (4, .ref ((ad (2000 + ix a)))), (5, .int (nI (i)))]) hx hb dX4_flaw_111 hl (by decide) rfl (fun ls hl => ?_)
                  refine lv_iload hx hb dX4_flaw_113 (lv_at hl 0 rfl) ?_
                  refine g_if_ne (tgt := 120) hx hb dX4_flaw_115 (by decide) (n_i (by omega)) (fun c_115 => ?_) (fun c_115 => ?_)
                  · skip
                    refine lv_iinc (v := (nI (i + 1))) (lv' := [(5, .int (nI (i + 1))), (6, .int (nI (1))), (0, .ref ((ad (0)))), (2, .int (nI (ix b))), (3, .int (nI (ix v))), (4, .ref ((ad (2000 + ix a))))]) hx hb dX4_flaw_120 hl (k := 5) rfl (nI_add _ _) (by decide) rfl (fun ls hl => ?_)
                    refine lv_goto (tgt := 36) hx hb dX4_flaw_123 (by decide) ?_
                    exact ih_36 (i + 1) (n100) (f100) (g100) (E_100) H locs hP hD hS (by omega) hcs9.1 hcs9.2.1 hcs9.2.2 k100_0 k100_1 k100_2 (fun j_ h0_ h1_ h2_ => by rw [hO100 j_ h0_ h1_ h2_, hO70 j_ h0_ h1_ h2_, hO_36 j_ h0_ h1_ h2_]) (by omega) ls (lv_sub hl [2, 3, 4, 5, 0] rfl)
                  · skip
                    exfalso; omega
        exact loop_36 _ (0) (0) (f19) (f20) (Ew4) H locs hP hD hS (by omega) rfl (by omega) (arrP_nil _ _ _) eEw4_39 (show Ew4 (19) = .inl (cy 0, 4, .inl (f19)) by rw [hEw4, va_up_ne _ _ (by omega)]; exact hE19) (show Ew4 (20) = .inl (cy 0, 4, .inl (f20)) by rw [hEw4, va_up_ne _ _ (by omega)]; exact hE20) (fun j_ h0_ h1_ h2_ => rfl) (Nat.lt_succ_self _) ls (lv_sub hl [2, 4, 5, 1, 0] rfl)
      · skip
        refine lv_iconst (v := (zI ((-1)))) hx hb dX4_flaw_23 (by decide) ?_
        refine vx_ret ?_
        exact W.iret (v := (zI ((-1)))) hx hb hr (fun t ht hW => ⟨⟨_, E, rfl, by rw [sp_flaw, if_pos hw_2, if_neg (fun q9 => by omega)]; exact ⟨rfl, rfl, hR⟩, by rw [ht]; exact hP, va_K.moved hW.alike hK, hD⟩, hS.F ht⟩) hS.2.2 dX4_flaw_24
