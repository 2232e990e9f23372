set_option maxHeartbeats 4000000 in
set_option maxRecDepth 100000 in
theorem c_X4_make (l : Launch) (hlt : l.stackTraces = false) (D : va_G) (cy : Nat → ClassId) (sz : Nat) (sa : Nat → Nat) (K : List Nat) (ad : Nat → Nat) (E : Nat → va_E) (Y : YT) (hKR : KR K Y) (hR : YR cy ad E Y) (hY : WF Y) (a : Int32) : vx_Met l yX4_make wsX4_make ({ frames := 7, cells := 7, slots := 214, locals := 158 } : Room) (va_Pc [.ref ((ad (0))), .int (a)] (wX D cy sz sa (kW K ad E))) (va_Qi (fun (r : Int32) (u : List Nat × (Nat → Nat) × (Nat → va_E)) => YPn cy ad (sp_make Y a) r u) (fun u t => wE D cy (va_A (kW K ad E) sz) (kW u.1 u.2.1 u.2.2) t) (va_A (kW K ad E) sz)) (vx_X (fun _ : Unit => True) (fun (En : String) _ t => (xOk En (sp_make Y a).1 1 2) ∧ wE D cy (va_A (kW K ad E) sz) (kW K ad E) t) (va_A (kW K ad E) sz)) 7 214 (va_A (kW K ad E) sz) := by
  refine vx_ofW (cc := cX4_make) (maxL := 5) (ret := (some .int)) (by decide) rfl ?_
  intro p e s m args below meth c s₁ B hml htb hv
  obtain ⟨rfl, ⟨⟨hsz, hP, hK, hD0⟩, hN⟩, hX, hZ⟩ := hv
  have hx := B.exec
  have hb := B.bytes
  have hr := B.returns
  have hts := atoms_spec (ws := wsX4_make) B.pre
  have hown : s.vm.findClass RX4 = some m.cls := findClass_of_methodNamed B.named
  have hlocks := B.notSynchronized
  subst hsz
  have hD := hD0.self (sz := s.heap.size)
  generalize hAe : va_A (kW K ad E) s.heap.size = A at hD hZ ⊢
  have hA : ∀ q : Nat, s.heap.size ≤ q → A q := w_A hAe
  have hS : va_S A s.heap s.heap [] := va_S.rf
  have hnd := kW_nd hD
  have hl := lv_entry ([.ref ((ad (0))), .int (a)]) (n := 5) (Nat.le_of_ble_eq_true rfl)
  rw [lg_entry_eq]
  generalize (lg_sl ([.ref ((ad (0))), .int (a)]) ++ List.replicate (5 - (lg_sl ([.ref ((ad (0))), .int (a)])).length) Slot.unset).toArray = ls at hl ⊢
  have hl : lv_has ls 5 [(0, .ref ((ad (0)))), (1, .int (a))] := hl
  obtain ⟨⟨hE0, f1, f2, f3, hE1, hE2, hE3, hr1, hr2, hr3⟩, ⟨f4, f5, hE4, hE5, hbr, hwt⟩, hsaw, hspa, hYf, hYb, hYc⟩ := id hR
  obtain ⟨hy0, hyF, hyB, hyC, hyf, hyb, hyc, hyr, hyw⟩ := id hY
  obtain ⟨nr0, bl0, PP0, f7, f8, f9, f10, f11, f12, f13, f14, f15, f16, f17, hE6, hE7, hE8, hE9, hE10, hE11, hE12, hE13, hE14, hE15, hE16, hE17⟩ := id hsaw
  refine lv_aload_n hx hb dX4_make_0 rfl (lv_at hl 0 rfl) ?_
  refine lv_iload_n hx hb dX4_make_1 rfl (lv_at hl 1 rfl) ?_
  have hFc := w_free hD hS hA
  obtain ⟨p1, hp1⟩ := kW_pos (hKR.m (show keyOk Y (0) by unfold keyOk; omega))
  refine vx_callr (vx_runV (As := [.int (a)]) (rest := []) ⟨hx, hb, hml, hown, hts⟩ (c_X4_formAt l hlt D cy s.heap.size sa K ad E (hKR.m (show keyOk Y (0) by unfold keyOk; omega)) (yF Y) (yB Y) (yC Y) (yNow Y) (hE0) (hKR.m (show keyOk Y (1) by unfold keyOk; omega)) (f1) (hE1) (hr1) (hyF) (a)) (cwV 1 hts gX4_make_X4_formAt rfl rfl rfl (by decide +kernel) ⟨Nat.le_of_ble_eq_true rfl, Nat.le_of_ble_eq_true rfl⟩) ⟨wX_blind, va_recv hK hP (ci := 4) (q0 := p1) rfl (kW_get hp1 hE0), wX_pre hP hK hD hN hX hZ hS hA⟩ rfl rfl hl.1 rfl (lv_room (Nat.le_of_ble_eq_true rfl)) dX4_make_2 ⟨Nat.le_of_ble_eq_true rfl, Nat.le_of_ble_eq_true rfl⟩) hS (fun q _ h => hFc q h) hFc (fun q _ h => hFc q h) (fun En ce q9 u9 t9 H locs ht hvm hpx hBX _ _ hS hce hcv hcl => ?_) (fun u_2 ra_2 t9 H locs ht hvm hw_2 hB _ _ hS => ?_)
  · exact vx_out (fun x hx => (htb x hx).elim) hlocks hce hcv hcl (fun t ht2 hal => ⟨(), trivial, ⟨Or.inl ⟨hBX.1.1, by rw [sp_make, if_neg hBX.1.2]⟩, by rw [ht2, ← ht]; exact hBX.2.1, va_K.moved hal hK, hBX.2.2.2.weaken (fun _ _ _ h => hFc _ h)⟩, hS.F ht2⟩) hS.2.2 (by decide) (by decide)
  obtain ⟨hra_2, hP1, hK1, hD1⟩ := hB
  subst hra_2
  rw [ht] at hP1
  have hP := hP1
  have hD := hD1.weaken (fun _ _ _ h => hFc _ h)
  have hia := ix_lt hw_2
  have hf0 := hYf (ix a) hia
  have hmf : 1000 + ix a ∈ K := (hKR.m (show keyOk Y (1000 + ix a) by unfold keyOk; omega))
  have hfo := hyf (ix a) hia
  refine lv_astore_n (lv' := [(2, .ref ((ad (1000 + ix a)))), (0, .ref ((ad (0)))), (1, .int (a))]) hx hb dX4_make_5 rfl hl (by decide) rfl (fun ls hl => ?_)
  refine lv_aload_n hx hb dX4_make_6 rfl (lv_at hl 1 rfl) ?_
  obtain ⟨p2, hp2⟩ := kW_pos (hKR.m (show keyOk Y (0) by unfold keyOk; omega))
  refine va_get (D := D) (ci := 4) (v := .int (nI (yC Y))) (C := RX4) (T := TX4) (N := 11) hx hb hts (by decide +kernel) hown hK hP p2 (kW_get hp2 hE0) rfl 9 (by decide) (hts (.fieldLink RX4 143 "CaskYard" "caskCount" "I") (by decide +kernel)) (fun _ h9 => h9) rfl dX4_make_7 ?_
  refine lv_bipush (v := (nI (30))) hx hb dX4_make_10 (by decide) ?_
  refine g_icmp_lt (tgt := 17) hx hb dX4_make_12 (by decide) (n_i (by omega)) (n_i (by omega)) (fun c_12 => ?_) (fun c_12 => ?_)
  · skip
    refine lv_aload_n hx hb dX4_make_17 rfl (lv_at hl 1 rfl) ?_
    refine lv_aload_n hx hb dX4_make_18 rfl (lv_at hl 0 rfl) ?_
    have hFc := w_free hD hS hA
    obtain ⟨p3, hp3⟩ := kW_pos (hKR.m (show keyOk Y (0) by unfold keyOk; omega))
    refine va_calli (va_runV (As := [.ref ((ad (1000 + ix a)))]) (rest := []) ⟨hx, hb, hml, hown, hts⟩ (c_X4_setFor l D cy H.size K ad E (Y) (hKR) (hR) (hY) (ix a) (hia)) (cwV 1 hts gX4_make_X4_setFor rfl rfl rfl (by decide +kernel) ⟨Nat.le_of_ble_eq_true rfl, Nat.le_of_ble_eq_true rfl⟩) ⟨wB2_blind, va_recv hK hP (ci := 4) (q0 := p3) rfl (kW_get hp3 hE0), wB2_pre hP hK hD hN⟩ rfl rfl hl.1 rfl (lv_room (Nat.le_of_ble_eq_true rfl)) dX4_make_19 ⟨Nat.le_of_ble_eq_true rfl, Nat.le_of_ble_eq_true rfl⟩) hS (fun q _ h => hFc q h) hFc (fun r_19 E_19 t_ H locs ht hvm hw_19 hB _ _ hS => ?_)
    obtain ⟨hP1, hK1, hD1⟩ := hB
    rw [ht] at hP1
    have hP := hP1
    have hD := hD1.weaken (fun _ _ _ h => hFc _ h)
    obtain ⟨PPs, SSs, s7, s8, s9, s10, s11, s12, s13, s14, s15, ks6, ks7, ks8, ks9, ks10, ks11, ks12, ks13, ks14, ks15, hOs, hPPs, hsws, hL7s, hres_19, hbts⟩ := hw_19
    have fC19_25 : E_19 (0) = .inr (4, [.ref ((ad (1))), .ref ((ad (2))), .ref ((ad (3))), .ref ((ad (4))), .ref ((ad (5))), .ref ((ad (6))), .ref ((ad (18))), .int (nI (yF Y)), .int (nI (yB Y)), .int (nI (yC Y)), .int (nI (yNow Y))]) := (hOs (0) (by omega) (by omega) (by omega) (by omega) (by omega) (by omega) (by omega) (by omega) (by omega) (by omega)).trans hE0
    have fC19_49 : E_19 (1) = .inl (cy 3, 8, .inr (.inr (.inr (.inr (f1))))) := (hOs (1) (by omega) (by omega) (by omega) (by omega) (by omega) (by omega) (by omega) (by omega) (by omega) (by omega)).trans hE1
    have fC19_38 : E_19 (2) = .inl (cy 4, 40, .inr (.inr (.inr (.inr (f2))))) := (hOs (2) (by omega) (by omega) (by omega) (by omega) (by omega) (by omega) (by omega) (by omega) (by omega) (by omega)).trans hE2
    have fC19_28 : E_19 (3) = .inl (cy 5, 30, .inr (.inr (.inr (.inr (f3))))) := (hOs (3) (by omega) (by omega) (by omega) (by omega) (by omega) (by omega) (by omega) (by omega) (by omega) (by omega)).trans hE3
    have fC19_23 : E_19 (16) = .inl (cy 0, 32, .inl (f16)) := (hOs (16) (by omega) (by omega) (by omega) (by omega) (by omega) (by omega) (by omega) (by omega) (by omega) (by omega)).trans hE16
    have fC19_24 : E_19 (17) = .inl (cy 0, 32, .inl (f17)) := (hOs (17) (by omega) (by omega) (by omega) (by omega) (by omega) (by omega) (by omega) (by omega) (by omega) (by omega)).trans hE17
    have fC19_50 : E_19 (1000 + ix a) = .inr (2, [.int (nI (yh Y (ix a))), .int (nI (yg Y (ix a))), .int (nI (ye Y (ix a))), .int (nI (ys Y (ix a)))]) := (hOs (1000 + ix a) (by omega) (by omega) (by omega) (by omega) (by omega) (by omega) (by omega) (by omega) (by omega) (by omega)).trans hf0
    have hp8 := pow_8 (look_len Y)
    have hrv := rv_sp (show bestY Y (ix a) < 256 by omega)
    have hz0 : rv8 (bestY Y (ix a)) = 0 → bestY Y (ix a) = 0 := rv_0 (by omega)
    refine g_top (y := (nI (rv8 (bestY Y (ix a))))) (hres_19) ?_
    refine lv_istore_n (lv' := [(3, .int (nI (rv8 (bestY Y (ix a))))), (2, .ref ((ad (1000 + ix a)))), (0, .ref ((ad (0)))), (1, .int (a))]) hx hb dX4_make_22 rfl hl (by decide) rfl (fun ls hl => ?_)
    refine lv_iload_n hx hb dX4_make_23 rfl (lv_at hl 0 rfl) ?_
    refine g_if_ne (tgt := 29) hx hb dX4_make_24 (by decide) (n_i (by omega)) (fun c_24 => ?_) (fun c_24 => ?_)
    · skip
      have hb0 : bestY Y (ix a) ≠ 0 := fun e9 => by rw [e9] at c_24; exact c_24 rfl
      refine gk_new (ci := 1) (fs := [.int (nI (0)), .null, .null, .null, .null, .null, .null, .int (nI (0))]) (C := RX1) (T := TX1) (N := 8) (5000 + yC Y) (hKR.n (show ¬ keyOk Y (5000 + yC Y) by unfold keyOk; omega)) hx hb hts (by decide +kernel) tyX1 tyX1_ok hown (hts (.classLink RX4 21 RX1) (by decide +kernel)) (hts (.instantiable RX1 8) (by decide +kernel)) (hts (.initialized RX1) (by decide +kernel)) hK hP hD hS hA rfl (fun j hj => by rcases (show j = 0 ∨ j = 1 ∨ j = 2 ∨ j = 3 ∨ j = 4 ∨ j = 5 ∨ j = 6 ∨ j = 7 by omega) with rfl | rfl | rfl | rfl | rfl | rfl | rfl | rfl <;> rfl) (Nat.le_of_ble_eq_true rfl) (Nat.le_of_ble_eq_true rfl) dX4_make_29 (fun ad4 Ew4 H had4 hEw4 hP hD hS => ?_)
      have eEw4_67 : Ew4 (5000 + yC Y) = .inr (1, [.int (nI (0)), .null, .null, .null, .null, .null, .null, .int (nI (0))]) := by rw [hEw4]; exact va_up_self _ _ _
      have hnd := kW_nd hD
      refine lv_dup hx hb dX4_make_32 rfl ?_
      refine lv_iload_n hx hb dX4_make_33 rfl (lv_at hl 3 rfl) ?_
      refine lv_aload_n hx hb dX4_make_34 rfl (lv_at hl 1 rfl) ?_
      have hFc := w_free hD hS hA
      refine va_callv (va_runI (As := [.int (a), .ref ((ad (1000 + ix a)))]) (rest := [.ref ((ad4 (5000 + yC Y)))]) ⟨hx, hb, hml, hown, hts⟩ (c_X1_init l D cy H.size (K ++ [5000 + yC Y]) ad4 Ew4 (yC Y) (by omega) (mem_new _ _) (nin_app (hKR.n (show ¬ keyOk Y (6000 + yC Y) by unfold keyOk; omega)) (by omega)) (nin_app (hKR.n (show ¬ keyOk Y (7000 + yC Y) by unfold keyOk; omega)) (by omega)) (nin_app (hKR.n (show ¬ keyOk Y (8000 + yC Y) by unfold keyOk; omega)) (by omega)) (nin_app (hKR.n (show ¬ keyOk Y (9000 + yC Y) by unfold keyOk; omega)) (by omega)) (nin_app (hKR.n (show ¬ keyOk Y (10000 + yC Y) by unfold keyOk; omega)) (by omega)) (eEw4_67) (a) (ad (1000 + ix a))) (cwI 2 hts gX4_make_X1_init rfl rfl rfl (hts (.initialized RX1) (by decide +kernel)) (hts (.methodLink RX4 146 yX1_init) (by decide +kernel)) (hts (.instanceMethod yX1_init) (by decide +kernel)) rfl (by decide +kernel) ⟨Nat.le_of_ble_eq_true rfl, Nat.le_of_ble_eq_true rfl⟩) ⟨wB2_blind, wB2_pre hP hK hD hN⟩ rfl rfl hl.1 rfl (lv_room (Nat.le_of_ble_eq_true rfl)) dX4_make_35 ⟨Nat.le_of_ble_eq_true rfl, Nat.le_of_ble_eq_true rfl⟩) hS (fun q _ h => hFc q h) hFc (fun u_35 t_ H locs ht hvm hw_35 hB _ _ hS => ?_)
      obtain ⟨hP1, hK1, hD1⟩ := hB
      rw [ht] at hP1
      have hP := hP1
      have hD := hD1.weaken (fun _ _ _ h => hFc _ h)
      obtain ⟨ad35, E35⟩ := u_35
      obtain ⟨hadc, kc0, kc1, kc2, kc3, kc4, kc5, hOc⟩ := hw_35
      dsimp only at hadc kc0 kc1 kc2 kc3 kc4 kc5 hOc hP hD
      have hA35 : ∀ k, keyOk Y k → ad35 k = ad k := fun k hk => (hadc k (by unfold keyOk at hk; omega) (by unfold keyOk at hk; omega) (by unfold keyOk at hk; omega) (by unfold keyOk at hk; omega) (by unfold keyOk at hk; omega)).trans (had4 k (by unfold keyOk at hk; omega))
      have hE35 : ∀ k, keyOk Y k → E35 k = E_19 k := fun k hk => (hOc k (by unfold keyOk at hk; omega) (by unfold keyOk at hk; omega) (by unfold keyOk at hk; omega) (by unfold keyOk at hk; omega) (by unfold keyOk at hk; omega) (by unfold keyOk at hk; omega)).trans (by rw [hEw4]; exact va_up_ne _ _ (by unfold keyOk at hk; omega))
      have hR19 : YR cy ad E_19 Y := YR_saw hR ⟨_, _, PPs, s7, s8, s9, s10, s11, s12, s13, s14, s15, f16, f17, ks6, ks7, ks8, ks9, ks10, ks11, ks12, ks13, ks14, ks15, (hOs 16 (by decide) (by decide) (by decide) (by decide) (by decide) (by decide) (by decide) (by decide) (by decide) (by decide)).trans hE16, (hOs 17 (by decide) (by decide) (by decide) (by decide) (by decide) (by decide) (by decide) (by decide) (by decide) (by decide)).trans hE17⟩ (fun k_ hk_ => hOs k_ (by omega) (by omega) (by omega) (by omega) (by omega) (by omega) (by omega) (by omega) (by omega) (by omega))
      have hR35 : YR cy ad35 E35 Y := YR_ad hR19 hY hA35 hE35
      obtain ⟨⟨y0e, t1, t2, t3, y1e, y2e, y3e, rr1, rr2, rr3⟩, _, _, _, yf35, yb35, _⟩ := id hR35
      have k6 : E35 6 = sawO ad35 (lookL Y).length PPs.length (yg Y (ix a) / ys Y (ix a) + 2) := by rw [hE35 6 (Or.inl (by decide)), ks6, sawO, hA35 7 (Or.inl (by decide)), hA35 8 (Or.inl (by decide)), hA35 9 (Or.inl (by decide)), hA35 10 (Or.inl (by decide)), hA35 11 (Or.inl (by decide)), hA35 12 (Or.inl (by decide)), hA35 13 (Or.inl (by decide)), hA35 14 (Or.inl (by decide)), hA35 15 (Or.inl (by decide)), hA35 16 (Or.inl (by decide)), hA35 17 (Or.inl (by decide))]
      have k7 := (hE35 7 (Or.inl (by decide))).trans ks7
      have k8 := (hE35 8 (Or.inl (by decide))).trans ks8
      have k9 := (hE35 9 (Or.inl (by decide))).trans ks9
      have k10 := (hE35 10 (Or.inl (by decide))).trans ks10
      have k11 := (hE35 11 (Or.inl (by decide))).trans ks11
      have k12 := (hE35 12 (Or.inl (by decide))).trans ks12
      have k13 := (hE35 13 (Or.inl (by decide))).trans ks13
      have k14 := (hE35 14 (Or.inl (by decide))).trans ks14
      have k15 := (hE35 15 (Or.inl (by decide))).trans ks15
      have k16 := (hE35 16 (Or.inl (by decide))).trans ((hOs 16 (by decide) (by decide) (by decide) (by decide) (by decide) (by decide) (by decide) (by decide) (by decide) (by decide)).trans hE16)
      have k17 := (hE35 17 (Or.inl (by decide))).trans ((hOs 17 (by decide) (by decide) (by decide) (by decide) (by decide) (by decide) (by decide) (by decide) (by decide) (by decide)).trans hE17)
      have hL35 : ∀ p, p < (lookL Y).length → s7 p = some (ad35 (2000 + lookK Y p)) := fun p hp => by rw [hL7s p hp, hA35 _ (by have := look_lt hp; unfold keyOk; omega)]
      have hna := ix_n (a := a) hw_2.1
      have kq0 : E35 (5000 + yC Y) = caskO ad35 (yC Y) (ix a) 0 := by rw [kc0, caskO, hA35 (1000 + ix a) (by unfold keyOk; omega), ← hna]
      have kf := yf35 (ix a) hia
      have hKR6 := KR_make (ix a) hKR
      have eF6 : yF (makeY Y (ix a)) = yF Y := rfl
      have eB6 : yB (makeY Y (ix a)) = yB Y := rfl
      have eC6 : yC (makeY Y (ix a)) = yC Y + 1 := rfl
      subst hPPs
      have hnd := kW_nd hD
      have hqle := Nat.div_le_self (yg Y (ix a)) (ys Y (ix a))
      have hmd := Nat.mod_lt (yg Y (ix a)) (show 0 < ys Y (ix a) by omega)
      have hnp : 2 ≤ yg Y (ix a) / ys Y (ix a) + 2 := Nat.le_add_left _ _
      have hlk8 := look_len Y
      have hP32 := mk_32 hY
      have hl6 := mk_l6 hY
      have hR8 : ∀ i, i < (layF Y (lookK Y) (lookL Y).length).length → s8 i = nI (enD (layF Y (lookK Y) (lookL Y).length) i).1 ∧ (enD (layF Y (lookK Y) (lookL Y).length) i).1 < (lookL Y).length := fun i hi => ⟨(hsws.1 i hi).1, mk_l1 hi⟩
      refine lv_astore (lv' := [(4, .ref ((ad4 (5000 + yC Y)))), (3, .int (nI (rv8 (bestY Y (ix a))))), (2, .ref ((ad (1000 + ix a)))), (0, .ref ((ad (0)))), (1, .int (a))]) hx hb dX4_make_38 hl (by decide) rfl (fun ls hl => ?_)
      rw [show ad (0) = ad35 (0) from (hA35 0 (Or.inl (by decide))).symm, show ad (1000 + ix a) = ad35 (1000 + ix a) from (hA35 (1000 + ix a) (by unfold keyOk; omega)).symm, show ad4 (5000 + yC Y) = ad35 (5000 + yC Y) from (hadc (5000 + yC Y) (by omega) (by omega) (by omega) (by omega) (by omega)).symm] at hl
      refine lv_aload_n hx hb dX4_make_40 rfl (lv_at hl 3 rfl) ?_
      obtain ⟨p5, hp5⟩ := kW_pos (show (0 : Nat) ∈ ((((((K ++ [5000 + yC Y]) ++ [6000 + yC Y]) ++ [7000 + yC Y]) ++ [8000 + yC Y]) ++ [9000 + yC Y]) ++ [10000 + yC Y]) from hKR6.m (by unfold keyOk; omega))
      refine va_get (D := D) (ci := 4) (v := .ref ((ad35 (6)))) (C := RX4) (T := TX4) (N := 11) hx hb hts (by decide +kernel) hown hK hP p5 (kW_get hp5 y0e) rfl 5 (by decide) (hts (.fieldLink RX4 37 "CaskYard" "saw" "LCaskYard$Saw;") (by decide +kernel)) (fun _ h9 => h9) rfl dX4_make_41 ?_
      refine lv_iload_n hx hb dX4_make_44 rfl (lv_at hl 1 rfl) ?_
      refine lv_aload_n hx hb dX4_make_45 rfl (lv_at hl 2 rfl) ?_
      obtain ⟨p6, hp6⟩ := kW_pos (show (1000 + ix a : Nat) ∈ ((((((K ++ [5000 + yC Y]) ++ [6000 + yC Y]) ++ [7000 + yC Y]) ++ [8000 + yC Y]) ++ [9000 + yC Y]) ++ [10000 + yC Y]) from hKR6.m (by unfold keyOk; omega))
      refine vp_callSi (va_Run.run (va_runV (As := []) (rest := [.int (nI (rv8 (bestY Y (ix a)))), .ref ((ad35 (6)))]) ⟨hx, hb, hml, hown, hts⟩ (c_X2_wides l D cy ((((((K ++ [5000 + yC Y]) ++ [6000 + yC Y]) ++ [7000 + yC Y]) ++ [8000 + yC Y]) ++ [9000 + yC Y]) ++ [10000 + yC Y]) ad35 E35 (1000 + ix a) (show (1000 + ix a : Nat) ∈ ((((((K ++ [5000 + yC Y]) ++ [6000 + yC Y]) ++ [7000 + yC Y]) ++ [8000 + yC Y]) ++ [9000 + yC Y]) ++ [10000 + yC Y]) from hKR6.m (by unfold keyOk; omega)) (yh Y (ix a)) (yg Y (ix a)) (ye Y (ix a)) (ys Y (ix a)) (kf) (hfo)) (cwV 0 hts gX4_make_X2_wides rfl rfl rfl (by decide +kernel) ⟨Nat.le_of_ble_eq_true rfl, Nat.le_of_ble_eq_true rfl⟩) ⟨rB2_blind, va_recv hK hP (ci := 2) (q0 := p6) rfl (kW_get hp6 kf), (rB2_pre hP hK hN)⟩ rfl rfl hl.1 rfl (lv_room (Nat.le_of_ble_eq_true rfl)) dX4_make_46 ⟨Nat.le_of_ble_eq_true rfl, Nat.le_of_ble_eq_true rfl⟩)) (fun r_46 hr_46 => ?_)
      subst hr_46
      refine lv_aload_n hx hb dX4_make_49 rfl (lv_at hl 2 rfl) ?_
      obtain ⟨p7, hp7⟩ := kW_pos (show (1000 + ix a : Nat) ∈ ((((((K ++ [5000 + yC Y]) ++ [6000 + yC Y]) ++ [7000 + yC Y]) ++ [8000 + yC Y]) ++ [9000 + yC Y]) ++ [10000 + yC Y]) from hKR6.m (by unfold keyOk; omega))
      refine vp_callSi (va_Run.run (va_runV (As := []) (rest := [.int (nI ((yg Y (ix a)) % (ys Y (ix a)))), .int (nI (rv8 (bestY Y (ix a)))), .ref ((ad35 (6)))]) ⟨hx, hb, hml, hown, hts⟩ (c_X2_narrows l D cy ((((((K ++ [5000 + yC Y]) ++ [6000 + yC Y]) ++ [7000 + yC Y]) ++ [8000 + yC Y]) ++ [9000 + yC Y]) ++ [10000 + yC Y]) ad35 E35 (1000 + ix a) (show (1000 + ix a : Nat) ∈ ((((((K ++ [5000 + yC Y]) ++ [6000 + yC Y]) ++ [7000 + yC Y]) ++ [8000 + yC Y]) ++ [9000 + yC Y]) ++ [10000 + yC Y]) from hKR6.m (by unfold keyOk; omega)) (yh Y (ix a)) (yg Y (ix a)) (ye Y (ix a)) (ys Y (ix a)) (kf) (hfo)) (cwV 0 hts gX4_make_X2_narrows rfl rfl rfl (by decide +kernel) ⟨Nat.le_of_ble_eq_true rfl, Nat.le_of_ble_eq_true rfl⟩) ⟨rB2_blind, va_recv hK hP (ci := 2) (q0 := p7) rfl (kW_get hp7 kf), (rB2_pre hP hK hN)⟩ rfl rfl hl.1 rfl (lv_room (Nat.le_of_ble_eq_true rfl)) dX4_make_50 ⟨Nat.le_of_ble_eq_true rfl, Nat.le_of_ble_eq_true rfl⟩)) (fun r_50 hr_50 => ?_)
      subst hr_50
      have hFc := w_free hD hS hA
      obtain ⟨p8, hp8⟩ := kW_pos (show (6 : Nat) ∈ ((((((K ++ [5000 + yC Y]) ++ [6000 + yC Y]) ++ [7000 + yC Y]) ++ [8000 + yC Y]) ++ [9000 + yC Y]) ++ [10000 + yC Y]) from hKR6.m (by unfold keyOk; omega))
      refine va_callv (va_runV (As := [.int (nI (rv8 (bestY Y (ix a)))), .int (nI ((yg Y (ix a)) % (ys Y (ix a)))), .int (nI ((ys Y (ix a)) - (yg Y (ix a)) % (ys Y (ix a))))]) (rest := []) ⟨hx, hb, hml, hown, hts⟩ (c_X3_cutSet l D cy H.size ((((((K ++ [5000 + yC Y]) ++ [6000 + yC Y]) ++ [7000 + yC Y]) ++ [8000 + yC Y]) ++ [9000 + yC Y]) ++ [10000 + yC Y]) ad35 E35 (show (6 : Nat) ∈ ((((((K ++ [5000 + yC Y]) ++ [6000 + yC Y]) ++ [7000 + yC Y]) ++ [8000 + yC Y]) ++ [9000 + yC Y]) ++ [10000 + yC Y]) from hKR6.m (by unfold keyOk; omega)) (yg Y (ix a) / ys Y (ix a) + 2) ((lookL Y).length) (layF Y (lookK Y) (lookL Y).length) (k6) (show (7 : Nat) ∈ ((((((K ++ [5000 + yC Y]) ++ [6000 + yC Y]) ++ [7000 + yC Y]) ++ [8000 + yC Y]) ++ [9000 + yC Y]) ++ [10000 + yC Y]) from hKR6.m (by unfold keyOk; omega)) (s7) (k7) (show (8 : Nat) ∈ ((((((K ++ [5000 + yC Y]) ++ [6000 + yC Y]) ++ [7000 + yC Y]) ++ [8000 + yC Y]) ++ [9000 + yC Y]) ++ [10000 + yC Y]) from hKR6.m (by unfold keyOk; omega)) (s8) (k8) (show (10 : Nat) ∈ ((((((K ++ [5000 + yC Y]) ++ [6000 + yC Y]) ++ [7000 + yC Y]) ++ [8000 + yC Y]) ++ [9000 + yC Y]) ++ [10000 + yC Y]) from hKR6.m (by unfold keyOk; omega)) (s10) (k10) (show (11 : Nat) ∈ ((((((K ++ [5000 + yC Y]) ++ [6000 + yC Y]) ++ [7000 + yC Y]) ++ [8000 + yC Y]) ++ [9000 + yC Y]) ++ [10000 + yC Y]) from hKR6.m (by unfold keyOk; omega)) (s11) (k11) (show (12 : Nat) ∈ ((((((K ++ [5000 + yC Y]) ++ [6000 + yC Y]) ++ [7000 + yC Y]) ++ [8000 + yC Y]) ++ [9000 + yC Y]) ++ [10000 + yC Y]) from hKR6.m (by unfold keyOk; omega)) (s12) (k12) (show (13 : Nat) ∈ ((((((K ++ [5000 + yC Y]) ++ [6000 + yC Y]) ++ [7000 + yC Y]) ++ [8000 + yC Y]) ++ [9000 + yC Y]) ++ [10000 + yC Y]) from hKR6.m (by unfold keyOk; omega)) (s13) (k13) (show (14 : Nat) ∈ ((((((K ++ [5000 + yC Y]) ++ [6000 + yC Y]) ++ [7000 + yC Y]) ++ [8000 + yC Y]) ++ [9000 + yC Y]) ++ [10000 + yC Y]) from hKR6.m (by unfold keyOk; omega)) (s14) (k14) (show (15 : Nat) ∈ ((((((K ++ [5000 + yC Y]) ++ [6000 + yC Y]) ++ [7000 + yC Y]) ++ [8000 + yC Y]) ++ [9000 + yC Y]) ++ [10000 + yC Y]) from hKR6.m (by unfold keyOk; omega)) (s15) (k15) (show (16 : Nat) ∈ ((((((K ++ [5000 + yC Y]) ++ [6000 + yC Y]) ++ [7000 + yC Y]) ++ [8000 + yC Y]) ++ [9000 + yC Y]) ++ [10000 + yC Y]) from hKR6.m (by unfold keyOk; omega)) (f16) (k16) (show (17 : Nat) ∈ ((((((K ++ [5000 + yC Y]) ++ [6000 + yC Y]) ++ [7000 + yC Y]) ++ [8000 + yC Y]) ++ [9000 + yC Y]) ++ [10000 + yC Y]) from hKR6.m (by unfold keyOk; omega)) (f17) (k17) (hP32) (hl6) (by omega) (SSs) (hsws.2.1) (hR8) (fun i hi => (hsws.1 i hi).2.2.1) (fun i hi => (hsws.1 i hi).2.2.2.1) (fun i hi => (hsws.1 i hi).2.2.2.2.1) (fun i hi => (hsws.1 i hi).2.2.2.2.2) (hsws.2.2) (look_len Y) (lookK Y) (fun p => nI (ysp Y (lookK Y p))) (mLL Y) (fun p hp => by have := look_lt hp; omega) (fun p r h1 h2 => look_mono h2 h1) (fun p hp => by have := look_lt hp; exact ⟨hKR6.m (by unfold keyOk; omega), hKR6.m (by unfold keyOk; omega), hKR6.m (by unfold keyOk; omega)⟩) (hL35) (fun p hp => yb35 _ (look_lt hp)) (fun p hp => (hyb _ (look_lt hp)).2) ((yg Y (ix a)) % (ys Y (ix a))) ((ys Y (ix a)) - (yg Y (ix a)) % (ys Y (ix a))) (rv8 (bestY Y (ix a))) (hrv.1) (by omega) (mo Y (ix a)) (rfl) (mk_gv hb0) (Nat.le_of_eq (by rw [layC_len, layC_off])) (fun p hp k hk => mk_cut hY hp hk)) (cwV 3 hts gX4_make_X3_cutSet rfl rfl rfl (by decide +kernel) ⟨Nat.le_of_ble_eq_true rfl, Nat.le_of_ble_eq_true rfl⟩) ⟨wB2_blind, va_recv hK hP (ci := 3) (q0 := p8) rfl (kW_get hp8 k6), wB2_pre hP hK hD hN⟩ rfl rfl hl.1 rfl (lv_room (Nat.le_of_ble_eq_true rfl)) dX4_make_53 ⟨Nat.le_of_ble_eq_true rfl, Nat.le_of_ble_eq_true rfl⟩) hS (fun q _ h => hFc q h) hFc (fun E_53 t_ H locs ht hvm hw_53 hB _ _ hS => ?_)
      obtain ⟨hP1, hK1, hD1⟩ := hB
      rw [ht] at hP1
      have hP := hP1
      have hD := hD1.weaken (fun _ _ _ h => hFc _ h)
      obtain ⟨c15, c16, c17, kk15, kk16, kk17, hgc, hshc, hOcut⟩ := hw_53
      have fD_25 : E_53 (0) = .inr (4, [.ref ((ad35 (1))), .ref ((ad35 (2))), .ref ((ad35 (3))), .ref ((ad35 (4))), .ref ((ad35 (5))), .ref ((ad35 (6))), .ref ((ad35 (18))), .int (nI (yF Y)), .int (nI (yB Y)), .int (nI (yC Y)), .int (nI (yNow Y))]) := (hOcut (0) (by omega) (by omega) (by omega) (fun p hp => by have := look_lt hp; exact ⟨by omega, by omega, by omega⟩)).trans y0e
      have fD_28 : E_53 (3) = .inl (cy 5, 30, .inr (.inr (.inr (.inr (t3))))) := (hOcut (3) (by omega) (by omega) (by omega) (fun p hp => by have := look_lt hp; exact ⟨by omega, by omega, by omega⟩)).trans y3e
      have fD_13 : E_53 (6) = .inr (3, [.ref ((ad35 (7))), .ref ((ad35 (8))), .ref ((ad35 (9))), .ref ((ad35 (10))), .ref ((ad35 (11))), .ref ((ad35 (12))), .ref ((ad35 (13))), .ref ((ad35 (14))), .ref ((ad35 (15))), .ref ((ad35 (16))), .ref ((ad35 (17))), .int (nI ((lookL Y).length)), .int (nI ((layF Y (lookK Y) (lookL Y).length).length)), .int (nI (yg Y (ix a) / ys Y (ix a) + 2))]) := (hOcut (6) (by omega) (by omega) (by omega) (fun p hp => by have := look_lt hp; exact ⟨by omega, by omega, by omega⟩)).trans k6
      have fD_22 : E_53 (7) = .inl (cy 4, 8, .inr (.inr (.inr (.inr (s7))))) := (hOcut (7) (by omega) (by omega) (by omega) (fun p hp => by have := look_lt hp; exact ⟨by omega, by omega, by omega⟩)).trans k7
      have fD_14 : E_53 (8) = .inl (cy 0, 32, .inl (s8)) := (hOcut (8) (by omega) (by omega) (by omega) (fun p hp => by have := look_lt hp; exact ⟨by omega, by omega, by omega⟩)).trans k8
      have fD_18 : E_53 (9) = .inl (cy 0, 32, .inl (s9)) := (hOcut (9) (by omega) (by omega) (by omega) (fun p hp => by have := look_lt hp; exact ⟨by omega, by omega, by omega⟩)).trans k9
      have fD_19 : E_53 (10) = .inl (cy 0, 32, .inl (s10)) := (hOcut (10) (by omega) (by omega) (by omega) (fun p hp => by have := look_lt hp; exact ⟨by omega, by omega, by omega⟩)).trans k10
      have fD_20 : E_53 (11) = .inl (cy 0, 32, .inl (s11)) := (hOcut (11) (by omega) (by omega) (by omega) (fun p hp => by have := look_lt hp; exact ⟨by omega, by omega, by omega⟩)).trans k11
      have fD_21 : E_53 (12) = .inl (cy 0, 32, .inl (s12)) := (hOcut (12) (by omega) (by omega) (by omega) (fun p hp => by have := look_lt hp; exact ⟨by omega, by omega, by omega⟩)).trans k12
      have fD_16 : E_53 (13) = .inl (cy 0, 32, .inl (s13)) := (hOcut (13) (by omega) (by omega) (by omega) (fun p hp => by have := look_lt hp; exact ⟨by omega, by omega, by omega⟩)).trans k13
      have fD_17 : E_53 (14) = .inl (cy 0, 32, .inl (s14)) := (hOcut (14) (by omega) (by omega) (by omega) (fun p hp => by have := look_lt hp; exact ⟨by omega, by omega, by omega⟩)).trans k14
      have fD_50 : E_53 (1000 + ix a) = .inr (2, [.int (nI (yh Y (ix a))), .int (nI (yg Y (ix a))), .int (nI (ye Y (ix a))), .int (nI (ys Y (ix a)))]) := (hOcut (1000 + ix a) (by omega) (by omega) (by omega) (fun p hp => by have := look_lt hp; exact ⟨by omega, by omega, by omega⟩)).trans kf
      have fD_67 : E_53 (5000 + yC Y) = .inr (1, [.int (nI (ix a)), .ref ((ad35 (1000 + ix a))), .ref ((ad35 (6000 + yC Y))), .ref ((ad35 (7000 + yC Y))), .ref ((ad35 (8000 + yC Y))), .ref ((ad35 (9000 + yC Y))), .ref ((ad35 (10000 + yC Y))), .int (nI (0))]) := (hOcut (5000 + yC Y) (by omega) (by omega) (by omega) (fun p hp => by have := look_lt hp; exact ⟨by omega, by omega, by omega⟩)).trans kq0
      have fD_68 : E_53 (6000 + yC Y) = .inl (cy 0, 40, .inl (fun _ => 0)) := (hOcut (6000 + yC Y) (by omega) (by omega) (by omega) (fun p hp => by have := look_lt hp; exact ⟨by omega, by omega, by omega⟩)).trans kc1
      have fD_69 : E_53 (7000 + yC Y) = .inl (cy 0, 40, .inl (fun _ => 0)) := (hOcut (7000 + yC Y) (by omega) (by omega) (by omega) (fun p hp => by have := look_lt hp; exact ⟨by omega, by omega, by omega⟩)).trans kc2
      have fD_70 : E_53 (8000 + yC Y) = .inl (cy 0, 40, .inl (fun _ => 0)) := (hOcut (8000 + yC Y) (by omega) (by omega) (by omega) (fun p hp => by have := look_lt hp; exact ⟨by omega, by omega, by omega⟩)).trans kc3
      have fD_71 : E_53 (9000 + yC Y) = .inl (cy 0, 40, .inl (fun _ => 0)) := (hOcut (9000 + yC Y) (by omega) (by omega) (by omega) (fun p hp => by have := look_lt hp; exact ⟨by omega, by omega, by omega⟩)).trans kc4
      have fD_72 : E_53 (10000 + yC Y) = .inl (cy 0, 40, .inl (fun _ => 0)) := (hOcut (10000 + yC Y) (by omega) (by omega) (by omega) (fun p hp => by have := look_lt hp; exact ⟨by omega, by omega, by omega⟩)).trans kc5
      refine lv_aload_n hx hb dX4_make_56 rfl (lv_at hl 3 rfl) ?_
      refine lv_aload hx hb dX4_make_57 (lv_at hl 0 rfl) ?_
      have hFc := w_free hD hS hA
      obtain ⟨p9, hp9⟩ := kW_pos (show (0 : Nat) ∈ ((((((K ++ [5000 + yC Y]) ++ [6000 + yC Y]) ++ [7000 + yC Y]) ++ [8000 + yC Y]) ++ [9000 + yC Y]) ++ [10000 + yC Y]) from hKR6.m (by unfold keyOk; omega))
      refine va_callv (va_runV (As := [.ref ((ad35 (5000 + yC Y)))]) (rest := []) ⟨hx, hb, hml, hown, hts⟩ (c_X4_handOut l D cy H.size ((((((K ++ [5000 + yC Y]) ++ [6000 + yC Y]) ++ [7000 + yC Y]) ++ [8000 + yC Y]) ++ [9000 + yC Y]) ++ [10000 + yC Y]) ad35 E_53 (show (0 : Nat) ∈ ((((((K ++ [5000 + yC Y]) ++ [6000 + yC Y]) ++ [7000 + yC Y]) ++ [8000 + yC Y]) ++ [9000 + yC Y]) ++ [10000 + yC Y]) from hKR6.m (by unfold keyOk; omega)) (yF Y) (yB Y) (yC Y) (yNow Y) (fD_25) (show (6 : Nat) ∈ ((((((K ++ [5000 + yC Y]) ++ [6000 + yC Y]) ++ [7000 + yC Y]) ++ [8000 + yC Y]) ++ [9000 + yC Y]) ++ [10000 + yC Y]) from hKR6.m (by unfold keyOk; omega)) (yg Y (ix a) / ys Y (ix a) + 2) ((lookL Y).length) ((layF Y (lookK Y) (lookL Y).length).length) (fD_13) (show (9 : Nat) ∈ ((((((K ++ [5000 + yC Y]) ++ [6000 + yC Y]) ++ [7000 + yC Y]) ++ [8000 + yC Y]) ++ [9000 + yC Y]) ++ [10000 + yC Y]) from hKR6.m (by unfold keyOk; omega)) (s9) (fD_18) (show (16 : Nat) ∈ ((((((K ++ [5000 + yC Y]) ++ [6000 + yC Y]) ++ [7000 + yC Y]) ++ [8000 + yC Y]) ++ [9000 + yC Y]) ++ [10000 + yC Y]) from hKR6.m (by unfold keyOk; omega)) (c16) (kk16) (show (17 : Nat) ∈ ((((((K ++ [5000 + yC Y]) ++ [6000 + yC Y]) ++ [7000 + yC Y]) ++ [8000 + yC Y]) ++ [9000 + yC Y]) ++ [10000 + yC Y]) from hKR6.m (by unfold keyOk; omega)) (c17) (kk17) (5000 + yC Y) (6000 + yC Y) (7000 + yC Y) (8000 + yC Y) (9000 + yC Y) (10000 + yC Y) (1000 + ix a) (show (5000 + yC Y : Nat) ∈ ((((((K ++ [5000 + yC Y]) ++ [6000 + yC Y]) ++ [7000 + yC Y]) ++ [8000 + yC Y]) ++ [9000 + yC Y]) ++ [10000 + yC Y]) from hKR6.m (by unfold keyOk; omega)) (nI (ix a)) (0) (fD_67) (show (6000 + yC Y : Nat) ∈ ((((((K ++ [5000 + yC Y]) ++ [6000 + yC Y]) ++ [7000 + yC Y]) ++ [8000 + yC Y]) ++ [9000 + yC Y]) ++ [10000 + yC Y]) from hKR6.m (by unfold keyOk; omega)) (fun _ => 0) (fD_68) (show (1000 + ix a : Nat) ∈ ((((((K ++ [5000 + yC Y]) ++ [6000 + yC Y]) ++ [7000 + yC Y]) ++ [8000 + yC Y]) ++ [9000 + yC Y]) ++ [10000 + yC Y]) from hKR6.m (by unfold keyOk; omega)) (yh Y (ix a)) (yg Y (ix a)) (ye Y (ix a)) (ys Y (ix a)) (fD_50) (hfo) (⟨by omega, by omega, by omega⟩) (hP32) (fun j => (enD (mC Y) j).2.1) (cutH (nrY Y (ix a)) (mPP Y) (mo Y (ix a)) (mW Y (ix a)) (mM Y (ix a))) (cutM (nrY Y (ix a)) (mPP Y) (mo Y (ix a)) (mW Y (ix a)) (mM Y (ix a))) (fun j hj => ⟨by rw [(hsws.1 j hj).2.1, layC_at (by rw [← layC_len]; exact hj)], hgc j hj⟩) (by rw [layC_len, ← mk_wd]; exact (mk_ty hfo hb0).1) (by rw [layC_len, ← mk_nr]; exact (mk_ty hfo hb0).2)) (cwV 1 hts gX4_make_X4_handOut rfl rfl rfl (by decide +kernel) ⟨Nat.le_of_ble_eq_true rfl, Nat.le_of_ble_eq_true rfl⟩) ⟨wB2_blind, va_recv hK hP (ci := 4) (q0 := p9) rfl (kW_get hp9 fD_25), wB2_pre hP hK hD hN⟩ rfl rfl hl.1 rfl (lv_room (Nat.le_of_ble_eq_true rfl)) dX4_make_59 ⟨Nat.le_of_ble_eq_true rfl, Nat.le_of_ble_eq_true rfl⟩) hS (fun q _ h => hFc q h) hFc (fun E_59 t_ H locs ht hvm hw_59 hB _ _ hS => ?_)
      obtain ⟨hP1, hK1, hD1⟩ := hB
      rw [ht] at hP1
      have hP := hP1
      have hD := hD1.weaken (fun _ _ _ h => hFc _ h)
      obtain ⟨f59, k59_0, hO59, ha59⟩ := hw_59
      have fC59_25 : E_59 (0) = .inr (4, [.ref ((ad35 (1))), .ref ((ad35 (2))), .ref ((ad35 (3))), .ref ((ad35 (4))), .ref ((ad35 (5))), .ref ((ad35 (6))), .ref ((ad35 (18))), .int (nI (yF Y)), .int (nI (yB Y)), .int (nI (yC Y)), .int (nI (yNow Y))]) := (hO59 (0) (by omega)).trans fD_25
      have fC59_28 : E_59 (3) = .inl (cy 5, 30, .inr (.inr (.inr (.inr (t3))))) := (hO59 (3) (by omega)).trans fD_28
      have fC59_13 : E_59 (6) = .inr (3, [.ref ((ad35 (7))), .ref ((ad35 (8))), .ref ((ad35 (9))), .ref ((ad35 (10))), .ref ((ad35 (11))), .ref ((ad35 (12))), .ref ((ad35 (13))), .ref ((ad35 (14))), .ref ((ad35 (15))), .ref ((ad35 (16))), .ref ((ad35 (17))), .int (nI ((lookL Y).length)), .int (nI ((layF Y (lookK Y) (lookL Y).length).length)), .int (nI (yg Y (ix a) / ys Y (ix a) + 2))]) := (hO59 (6) (by omega)).trans fD_13
      have fC59_22 : E_59 (7) = .inl (cy 4, 8, .inr (.inr (.inr (.inr (s7))))) := (hO59 (7) (by omega)).trans fD_22
      have fC59_14 : E_59 (8) = .inl (cy 0, 32, .inl (s8)) := (hO59 (8) (by omega)).trans fD_14
      have fC59_18 : E_59 (9) = .inl (cy 0, 32, .inl (s9)) := (hO59 (9) (by omega)).trans fD_18
      have fC59_19 : E_59 (10) = .inl (cy 0, 32, .inl (s10)) := (hO59 (10) (by omega)).trans fD_19
      have fC59_20 : E_59 (11) = .inl (cy 0, 32, .inl (s11)) := (hO59 (11) (by omega)).trans fD_20
      have fC59_21 : E_59 (12) = .inl (cy 0, 32, .inl (s12)) := (hO59 (12) (by omega)).trans fD_21
      have fC59_16 : E_59 (13) = .inl (cy 0, 32, .inl (s13)) := (hO59 (13) (by omega)).trans fD_16
      have fC59_17 : E_59 (14) = .inl (cy 0, 32, .inl (s14)) := (hO59 (14) (by omega)).trans fD_17
      have fC59_50 : E_59 (1000 + ix a) = .inr (2, [.int (nI (yh Y (ix a))), .int (nI (yg Y (ix a))), .int (nI (ye Y (ix a))), .int (nI (ys Y (ix a)))]) := (hO59 (1000 + ix a) (by omega)).trans fD_50
      have fC59_67 : E_59 (5000 + yC Y) = .inr (1, [.int (nI (ix a)), .ref ((ad35 (1000 + ix a))), .ref ((ad35 (6000 + yC Y))), .ref ((ad35 (7000 + yC Y))), .ref ((ad35 (8000 + yC Y))), .ref ((ad35 (9000 + yC Y))), .ref ((ad35 (10000 + yC Y))), .int (nI (0))]) := (hO59 (5000 + yC Y) (by omega)).trans fD_67
      have fC59_69 : E_59 (7000 + yC Y) = .inl (cy 0, 40, .inl (fun _ => 0)) := (hO59 (7000 + yC Y) (by omega)).trans fD_69
      have fC59_70 : E_59 (8000 + yC Y) = .inl (cy 0, 40, .inl (fun _ => 0)) := (hO59 (8000 + yC Y) (by omega)).trans fD_70
      have fC59_71 : E_59 (9000 + yC Y) = .inl (cy 0, 40, .inl (fun _ => 0)) := (hO59 (9000 + yC Y) (by omega)).trans fD_71
      have fC59_72 : E_59 (10000 + yC Y) = .inl (cy 0, 40, .inl (fun _ => 0)) := (hO59 (10000 + yC Y) (by omega)).trans fD_72
      have fC59_15 : E_59 (15) = .inl (cy 1, 32, .inl (c15)) := (hO59 (15) (by omega)).trans kk15
      have fC59_23 : E_59 (16) = .inl (cy 0, 32, .inl (c16)) := (hO59 (16) (by omega)).trans kk16
      have fC59_24 : E_59 (17) = .inl (cy 0, 32, .inl (c17)) := (hO59 (17) (by omega)).trans kk17
      refine lv_aload_n hx hb dX4_make_62 rfl (lv_at hl 3 rfl) ?_
      obtain ⟨p10, hp10⟩ := kW_pos (show (0 : Nat) ∈ ((((((K ++ [5000 + yC Y]) ++ [6000 + yC Y]) ++ [7000 + yC Y]) ++ [8000 + yC Y]) ++ [9000 + yC Y]) ++ [10000 + yC Y]) from hKR6.m (by unfold keyOk; omega))
      refine va_get (D := D) (ci := 4) (v := .ref ((ad35 (3)))) (C := RX4) (T := TX4) (N := 11) hx hb hts (by decide +kernel) hown hK hP p10 (kW_get hp10 fC59_25) rfl 2 (by decide) (hts (.fieldLink RX4 23 "CaskYard" "casks" "[LCaskYard$Cask;") (by decide +kernel)) (fun _ h9 => h9) rfl dX4_make_63 ?_
      refine lv_aload_n hx hb dX4_make_66 rfl (lv_at hl 3 rfl) ?_
      obtain ⟨p11, hp11⟩ := kW_pos (show (0 : Nat) ∈ ((((((K ++ [5000 + yC Y]) ++ [6000 + yC Y]) ++ [7000 + yC Y]) ++ [8000 + yC Y]) ++ [9000 + yC Y]) ++ [10000 + yC Y]) from hKR6.m (by unfold keyOk; omega))
      refine va_get (D := D) (ci := 4) (v := .int (nI (yC Y))) (C := RX4) (T := TX4) (N := 11) hx hb hts (by decide +kernel) hown hK hP p11 (kW_get hp11 fC59_25) rfl 9 (by decide) (hts (.fieldLink RX4 143 "CaskYard" "caskCount" "I") (by decide +kernel)) (fun _ h9 => h9) rfl dX4_make_67 ?_
      refine lv_aload hx hb dX4_make_70 (lv_at hl 0 rfl) ?_
      obtain ⟨p12, hp12⟩ := kW_pos (show (3 : Nat) ∈ ((((((K ++ [5000 + yC Y]) ++ [6000 + yC Y]) ++ [7000 + yC Y]) ++ [8000 + yC Y]) ++ [9000 + yC Y]) ++ [10000 + yC Y]) from hKR6.m (by unfold keyOk; omega))
      obtain ⟨p13, hp13⟩ := kW_pos (show (5000 + yC Y : Nat) ∈ ((((((K ++ [5000 + yC Y]) ++ [6000 + yC Y]) ++ [7000 + yC Y]) ++ [8000 + yC Y]) ++ [9000 + yC Y]) ++ [10000 + yC Y]) from hKR6.m (by unfold keyOk; omega))
      refine g_aast hx hb hK hP hD hS p12 5 p13 1 (kW_get hp12 fC59_28) rfl (kW_get hp13 fC59_67) rfl (yC Y) rfl (by omega) (by decide) dX4_make_72 (fun H locs hP hD hS => ?_)
      rw [kW_set hnd hp12] at hP hD
      obtain ⟨Ew14, hEw14⟩ : ∃ G, G = va_up E_59 (3) (.inl (cy 5, 30, .inr (.inr (.inr (.inr (va_up (t3) (yC Y) (some (ad35 (5000 + yC Y))))))))) := ⟨_, rfl⟩
      have eEw14_28 : Ew14 (3) = .inl (cy 5, 30, .inr (.inr (.inr (.inr (va_up (t3) (yC Y) (some (ad35 (5000 + yC Y)))))))) := by rw [hEw14]; exact va_up_self _ _ _
      rw [← hEw14] at hP hD
      refine lv_aload_n hx hb dX4_make_73 rfl (lv_at hl 3 rfl) ?_
      refine lv_dup hx hb dX4_make_74 rfl ?_
      obtain ⟨p15, hp15⟩ := kW_pos (show (0 : Nat) ∈ ((((((K ++ [5000 + yC Y]) ++ [6000 + yC Y]) ++ [7000 + yC Y]) ++ [8000 + yC Y]) ++ [9000 + yC Y]) ++ [10000 + yC Y]) from hKR6.m (by unfold keyOk; omega))
      refine va_get (D := D) (ci := 4) (v := .int (nI (yC Y))) (C := RX4) (T := TX4) (N := 11) hx hb hts (by decide +kernel) hown hK hP p15 (kW_get hp15 (show Ew14 (0) = .inr (4, [.ref ((ad35 (1))), .ref ((ad35 (2))), .ref ((ad35 (3))), .ref ((ad35 (4))), .ref ((ad35 (5))), .ref ((ad35 (6))), .ref ((ad35 (18))), .int (nI (yF Y)), .int (nI (yB Y)), .int (nI (yC Y)), .int (nI (yNow Y))]) by rw [hEw14, va_up_ne _ _ (by omega)]; exact fC59_25)) rfl 9 (by decide) (hts (.fieldLink RX4 143 "CaskYard" "caskCount" "I") (by decide +kernel)) (fun _ h9 => h9) rfl dX4_make_75 ?_
      refine lv_iconst (v := (nI (1))) hx hb dX4_make_78 (by decide) ?_
      refine g_iadd_n hx hb dX4_make_79 ?_
      obtain ⟨p16, hp16⟩ := kW_pos (show (0 : Nat) ∈ ((((((K ++ [5000 + yC Y]) ++ [6000 + yC Y]) ++ [7000 + yC Y]) ++ [8000 + yC Y]) ++ [9000 + yC Y]) ++ [10000 + yC Y]) from hKR6.m (by unfold keyOk; omega))
      refine va_put (D := D) (ci := 4) (v := .int (nI ((yC Y) + 1))) (ty := .int) (C := RX4) (T := TX4) (N := 11) hx hb hts (by decide +kernel) tyX4 tyX4_ok nmX4 hown hK hP hD hS p16 (kW_get hp16 (show Ew14 (0) = .inr (4, [.ref ((ad35 (1))), .ref ((ad35 (2))), .ref ((ad35 (3))), .ref ((ad35 (4))), .ref ((ad35 (5))), .ref ((ad35 (6))), .ref ((ad35 (18))), .int (nI (yF Y)), .int (nI (yB Y)), .int (nI (yC Y)), .int (nI (yNow Y))]) by rw [hEw14, va_up_ne _ _ (by omega)]; exact fC59_25)) rfl 9 (by decide) (hts (.fieldLink RX4 143 "CaskYard" "caskCount" "I") (by decide +kernel)) (fun _ h9 => h9) rfl (by decide +kernel) rfl rfl (Nat.le_of_ble_eq_true rfl) dX4_make_80 (fun H locs hP hD hS => ?_)
      rw [show ([.ref ((ad35 (1))), .ref ((ad35 (2))), .ref ((ad35 (3))), .ref ((ad35 (4))), .ref ((ad35 (5))), .ref ((ad35 (6))), .ref ((ad35 (18))), .int (nI (yF Y)), .int (nI (yB Y)), .int (nI (yC Y)), .int (nI (yNow Y))] : List Value).set 9 (.int (nI ((yC Y) + 1))) = [.ref ((ad35 (1))), .ref ((ad35 (2))), .ref ((ad35 (3))), .ref ((ad35 (4))), .ref ((ad35 (5))), .ref ((ad35 (6))), .ref ((ad35 (18))), .int (nI (yF Y)), .int (nI (yB Y)), .int (nI ((yC Y) + 1)), .int (nI (yNow Y))] from rfl] at hP hD
      rw [kW_set hnd hp16] at hP hD
      obtain ⟨Ew17, hEw17⟩ : ∃ G, G = va_up Ew14 (0) (.inr (4, [.ref ((ad35 (1))), .ref ((ad35 (2))), .ref ((ad35 (3))), .ref ((ad35 (4))), .ref ((ad35 (5))), .ref ((ad35 (6))), .ref ((ad35 (18))), .int (nI (yF Y)), .int (nI (yB Y)), .int (nI ((yC Y) + 1)), .int (nI (yNow Y))])) := ⟨_, rfl⟩
      have eEw17_25 : Ew17 (0) = .inr (4, [.ref ((ad35 (1))), .ref ((ad35 (2))), .ref ((ad35 (3))), .ref ((ad35 (4))), .ref ((ad35 (5))), .ref ((ad35 (6))), .ref ((ad35 (18))), .int (nI (yF Y)), .int (nI (yB Y)), .int (nI ((yC Y) + 1)), .int (nI (yNow Y))]) := by rw [hEw17]; exact va_up_self _ _ _
      have eEw17_28 : Ew17 (3) = .inl (cy 5, 30, .inr (.inr (.inr (.inr (va_up (t3) (yC Y) (some (ad35 (5000 + yC Y)))))))) := by rw [hEw17, va_up_ne _ _ (by omega)]; exact eEw14_28
      rw [← hEw17] at hP hD
      refine lv_aload_n hx hb dX4_make_83 rfl (lv_at hl 3 rfl) ?_
      obtain ⟨p18, hp18⟩ := kW_pos (show (0 : Nat) ∈ ((((((K ++ [5000 + yC Y]) ++ [6000 + yC Y]) ++ [7000 + yC Y]) ++ [8000 + yC Y]) ++ [9000 + yC Y]) ++ [10000 + yC Y]) from hKR6.m (by unfold keyOk; omega))
      refine va_get (D := D) (ci := 4) (v := .int (nI ((yC Y) + 1))) (C := RX4) (T := TX4) (N := 11) hx hb hts (by decide +kernel) hown hK hP p18 (kW_get hp18 eEw17_25) rfl 9 (by decide) (hts (.fieldLink RX4 143 "CaskYard" "caskCount" "I") (by decide +kernel)) (fun _ h9 => h9) rfl dX4_make_84 ?_
      refine lv_iconst (v := (nI (1))) hx hb dX4_make_87 (by decide) ?_
      refine g_isub_n hx hb dX4_make_88 (by omega) ?_
      refine vx_ret ?_
      exact W.iret (v := (nI (((yC Y) + 1) - 1))) hx hb hr (fun t ht hW => ⟨⟨_, (((((((K ++ [5000 + yC Y]) ++ [6000 + yC Y]) ++ [7000 + yC Y]) ++ [8000 + yC Y]) ++ [9000 + yC Y]) ++ [10000 + yC Y]), ad35, Ew17), rfl, (by
    have hB53 : ∀ j_ : Nat, j_ ≠ 0 → j_ ≠ 3 → j_ ≠ 6000 + yC Y → Ew17 j_ = E_53 j_ := fun j_ h0_ h1_ h2_ => by rw [hEw17, va_up_ne _ _ h0_, hEw14, va_up_ne _ _ h1_, hO59 j_ h2_]
    rw [sp_make, if_pos hw_2, if_neg (fun q9 => q9.elim (fun h9 => by omega) hb0)]
    refine ⟨rfl, congrArg nI (by omega), hKR6, YR_make (u := Ew17) (ad := ad35) (E := E35) (f3 := t3) hR35 hY rr3 eEw17_25 eEw17_28 ⟨_, _, (layF Y (lookK Y) (lookL Y).length), s7, s8, s9, s10, s11, s12, s13, s14, c15, c16, c17, (show Ew17 (6) = .inr (3, [.ref ((ad35 (7))), .ref ((ad35 (8))), .ref ((ad35 (9))), .ref ((ad35 (10))), .ref ((ad35 (11))), .ref ((ad35 (12))), .ref ((ad35 (13))), .ref ((ad35 (14))), .ref ((ad35 (15))), .ref ((ad35 (16))), .ref ((ad35 (17))), .int (nI ((lookL Y).length)), .int (nI ((layF Y (lookK Y) (lookL Y).length).length)), .int (nI (yg Y (ix a) / ys Y (ix a) + 2))]) by rw [hEw17, va_up_ne _ _ (by omega), hEw14, va_up_ne _ _ (by omega)]; exact fC59_13), (show Ew17 (7) = .inl (cy 4, 8, .inr (.inr (.inr (.inr (s7))))) by rw [hEw17, va_up_ne _ _ (by omega), hEw14, va_up_ne _ _ (by omega)]; exact fC59_22), (show Ew17 (8) = .inl (cy 0, 32, .inl (s8)) by rw [hEw17, va_up_ne _ _ (by omega), hEw14, va_up_ne _ _ (by omega)]; exact fC59_14), (show Ew17 (9) = .inl (cy 0, 32, .inl (s9)) by rw [hEw17, va_up_ne _ _ (by omega), hEw14, va_up_ne _ _ (by omega)]; exact fC59_18), (show Ew17 (10) = .inl (cy 0, 32, .inl (s10)) by rw [hEw17, va_up_ne _ _ (by omega), hEw14, va_up_ne _ _ (by omega)]; exact fC59_19), (show Ew17 (11) = .inl (cy 0, 32, .inl (s11)) by rw [hEw17, va_up_ne _ _ (by omega), hEw14, va_up_ne _ _ (by omega)]; exact fC59_20), (show Ew17 (12) = .inl (cy 0, 32, .inl (s12)) by rw [hEw17, va_up_ne _ _ (by omega), hEw14, va_up_ne _ _ (by omega)]; exact fC59_21), (show Ew17 (13) = .inl (cy 0, 32, .inl (s13)) by rw [hEw17, va_up_ne _ _ (by omega), hEw14, va_up_ne _ _ (by omega)]; exact fC59_16), (show Ew17 (14) = .inl (cy 0, 32, .inl (s14)) by rw [hEw17, va_up_ne _ _ (by omega), hEw14, va_up_ne _ _ (by omega)]; exact fC59_17), (show Ew17 (15) = .inl (cy 1, 32, .inl (c15)) by rw [hEw17, va_up_ne _ _ (by omega), hEw14, va_up_ne _ _ (by omega)]; exact fC59_15), (show Ew17 (16) = .inl (cy 0, 32, .inl (c16)) by rw [hEw17, va_up_ne _ _ (by omega), hEw14, va_up_ne _ _ (by omega)]; exact fC59_23), (show Ew17 (17) = .inl (cy 0, 32, .inl (c17)) by rw [hEw17, va_up_ne _ _ (by omega), hEw14, va_up_ne _ _ (by omega)]; exact fC59_24)⟩ (bolts_make hR35 hY (fun p hp => boltAt_congr (hshc p hp) (hB53 _ (by omega) (by omega) (by have := look_lt hp; omega)) (hB53 _ (by omega) (by omega) (by have := look_lt hp; omega)) (hB53 _ (by omega) (by omega) (by have := look_lt hp; omega))) (fun b hb hne => ⟨?_, ?_, ?_⟩)) (cask_make (show Ew17 (5000 + yC Y) = .inr (1, [.int (nI (ix a)), .ref ((ad35 (1000 + ix a))), .ref ((ad35 (6000 + yC Y))), .ref ((ad35 (7000 + yC Y))), .ref ((ad35 (8000 + yC Y))), .ref ((ad35 (9000 + yC Y))), .ref ((ad35 (10000 + yC Y))), .int (nI (0))]) by rw [hEw17, va_up_ne _ _ (by omega), hEw14, va_up_ne _ _ (by omega)]; exact fC59_67) (show Ew17 (6000 + yC Y) = .inl (cy 0, 40, .inl (f59)) by rw [hEw17, va_up_ne _ _ (by omega), hEw14, va_up_ne _ _ (by omega)]; exact k59_0) (show Ew17 (7000 + yC Y) = .inl (cy 0, 40, .inl (fun _ => 0)) by rw [hEw17, va_up_ne _ _ (by omega), hEw14, va_up_ne _ _ (by omega)]; exact fC59_69) (show Ew17 (8000 + yC Y) = .inl (cy 0, 40, .inl (fun _ => 0)) by rw [hEw17, va_up_ne _ _ (by omega), hEw14, va_up_ne _ _ (by omega)]; exact fC59_70) (show Ew17 (9000 + yC Y) = .inl (cy 0, 40, .inl (fun _ => 0)) by rw [hEw17, va_up_ne _ _ (by omega), hEw14, va_up_ne _ _ (by omega)]; exact fC59_71) (show Ew17 (10000 + yC Y) = .inl (cy 0, 40, .inl (fun _ => 0)) by rw [hEw17, va_up_ne _ _ (by omega), hEw14, va_up_ne _ _ (by omega)]; exact fC59_72) ha59) (fun k hk h0_ h1_ h2_ h3_ => (hB53 k h0_ h1_ (by unfold keyOk at hk; omega)).trans (hOcut k (by omega) (by omega) (by omega) (fun p hp => by have := look_lt hp; exact ⟨by omega, by omega, by omega⟩))), hA35 0 (Or.inl (by decide))⟩
    all_goals exact (hB53 _ (by omega) (by omega) (by omega)).trans (hOcut _ (by omega) (by omega) (by omega) (fun p hp => by have := look_lt hp; have := hne p hp; exact ⟨by omega, by omega, by omega⟩))), by rw [ht]; exact hP, va_K.moved hW.alike hK, hD⟩, hS.F ht⟩) hS.2.2 dX4_make_89
    · skip
      refine lv_iconst (v := (zI ((-1)))) hx hb dX4_make_27 (by decide) ?_
      refine vx_ret ?_
      refine W.widen (k := 7) (n := 214) (by omega) (by omega) ?_
      exact W.iret (v := (zI ((-1)))) hx hb hr (fun t ht hW => ⟨⟨_, (K, ad, E_19), rfl, (by rw [sp_make, if_pos hw_2, if_pos (Or.inr (hz0 (by omega)))]; exact ⟨rfl, rfl, hKR, YR_saw hR ⟨_, _, PPs, s7, s8, s9, s10, s11, s12, s13, s14, s15, f16, f17, ks6, ks7, ks8, ks9, ks10, ks11, ks12, ks13, ks14, ks15, (hOs 16 (by decide) (by decide) (by decide) (by decide) (by decide) (by decide) (by decide) (by decide) (by decide) (by decide)).trans hE16, (hOs 17 (by decide) (by decide) (by decide) (by decide) (by decide) (by decide) (by decide) (by decide) (by decide) (by decide)).trans hE17⟩ (fun k_ hk_ => hOs k_ (by omega) (by omega) (by omega) (by omega) (by omega) (by omega) (by omega) (by omega) (by omega) (by omega)), rfl⟩), by rw [ht]; exact hP, va_K.moved hW.alike hK, hD⟩, hS.F ht⟩) hS.2.2 dX4_make_28
  · skip
    refine lv_iconst (v := (zI ((-1)))) hx hb dX4_make_15 (by decide) ?_
    refine vx_ret ?_
    refine W.widen (k := 7) (n := 214) (by omega) (by omega) ?_
    exact W.iret (v := (zI ((-1)))) hx hb hr (fun t ht hW => ⟨⟨_, (K, ad, E), rfl, (by rw [sp_make, if_pos hw_2, if_pos (Or.inl (by omega))]; exact ⟨rfl, rfl, hKR, hR, rfl⟩), by rw [ht]; exact hP, va_K.moved hW.alike hK, hD⟩, hS.F ht⟩) hS.2.2 dX4_make_16
