set_option maxHeartbeats 4000000 in
set_option maxRecDepth 100000 in
theorem c_X4_fewest (l : Launch) (hlt : l.stackTraces = false) (D : va_G) (cy : Nat → ClassId) (sz : Nat) (sa : Nat → Nat) (K : List Nat) (ad : Nat → Nat) (E : Nat → va_E) (Y : YT) (hKR : KR K Y) (hR : YR cy ad E Y) (hY : WF Y) (a : Int32) : vx_Met l yX4_fewest wsX4_fewest ({ frames := 7, cells := 1, slots := 6, locals := 118 } : Room) (va_Pc [.ref ((ad (0))), .int (a)] (wX D cy sz sa (kW K ad E))) (va_Qi (fun (r : Int32) (u : Nat → va_E) => YP cy ad (sp_fewest Y a) r u) (fun u t => wE D cy (va_A (kW K ad E) sz) (kW K ad u) t) (va_A (kW K ad E) sz)) (vx_X (fun _ : Unit => True) (fun (En : String) _ t => (xOk En (sp_fewest Y a).1 1 2) ∧ wE D cy (va_A (kW K ad E) sz) (kW K ad E) t) (va_A (kW K ad E) sz)) 1 6 (va_A (kW K ad E) sz) := by
  refine vx_ofW (cc := cX4_fewest) (maxL := 3) (ret := (some .int)) (by decide) rfl ?_
  intro p e s m args below meth c s₁ B hml htb hv
  obtain ⟨rfl, ⟨⟨hsz, hP, hK, hD0⟩, hN⟩, hX, hZ⟩ := hv
  have hx := B.exec
  have hb := B.bytes
  have hr := B.returns
  have hts := atoms_spec (ws := wsX4_fewest) B.pre
  have hown : s.vm.findClass RX4 = some m.cls := findClass_of_methodNamed B.named
  have hlocks := B.notSynchronized
  subst hsz
  have hD := hD0.self (sz := s.heap.size)
  generalize hAe : va_A (kW K ad E) s.heap.size = A at hD hZ ⊢
  have hA : ∀ q : Nat, s.heap.size ≤ q → A q := w_A hAe
  have hS : va_S A s.heap s.heap [] := va_S.rf
  have hnd := kW_nd hD
  have hl := lv_entry ([.ref ((ad (0))), .int (a)]) (n := 3) (Nat.le_of_ble_eq_true rfl)
  rw [lg_entry_eq]
  generalize (lg_sl ([.ref ((ad (0))), .int (a)]) ++ List.replicate (3 - (lg_sl ([.ref ((ad (0))), .int (a)])).length) Slot.unset).toArray = ls at hl ⊢
  have hl : lv_has ls 3 [(0, .ref ((ad (0)))), (1, .int (a))] := hl
  obtain ⟨⟨hE0, f1, f2, f3, hE1, hE2, hE3, hr1, hr2, hr3⟩, ⟨f4, f5, hE4, hE5, hbr, hwt⟩, hsaw, hspa, hYf, hYb, hYc⟩ := id hR
  obtain ⟨hy0, hyF, hyB, hyC, hyf, hyb, hyc, hyr, hyw⟩ := id hY
  obtain ⟨nr0, bl0, PP0, f7, f8, f9, f10, f11, f12, f13, f14, f15, f16, f17, hE6, hE7, hE8, hE9, hE10, hE11, hE12, hE13, hE14, hE15, hE16, hE17⟩ := id hsaw
  refine lv_aload_n hx hb dX4_fewest_0 rfl (lv_at hl 0 rfl) ?_
  refine lv_aload_n hx hb dX4_fewest_1 rfl (lv_at hl 0 rfl) ?_
  refine lv_iload_n hx hb dX4_fewest_2 rfl (lv_at hl 1 rfl) ?_
  have hFc := w_free hD hS hA
  obtain ⟨p1, hp1⟩ := kW_pos (hKR.m (show keyOk Y (0) by unfold keyOk; omega))
  refine vx_callr (vx_runV (As := [.int (a)]) (rest := [.ref ((ad (0)))]) ⟨hx, hb, hml, hown, hts⟩ (c_X4_formAt l hlt D cy s.heap.size sa K ad E (hKR.m (show keyOk Y (0) by unfold keyOk; omega)) (yF Y) (yB Y) (yC Y) (yNow Y) (hE0) (hKR.m (show keyOk Y (1) by unfold keyOk; omega)) (f1) (hE1) (hr1) (hyF) (a)) (cwV 1 hts gX4_fewest_X4_formAt rfl rfl rfl (by decide +kernel) ⟨Nat.le_of_ble_eq_true rfl, Nat.le_of_ble_eq_true rfl⟩) ⟨wX_blind, va_recv hK hP (ci := 4) (q0 := p1) rfl (kW_get hp1 hE0), wX_pre hP hK hD hN hX hZ hS hA⟩ rfl rfl hl.1 rfl (lv_room (Nat.le_of_ble_eq_true rfl)) dX4_fewest_3 ⟨Nat.le_of_ble_eq_true rfl, Nat.le_of_ble_eq_true rfl⟩) hS (fun q _ h => hFc q h) hFc (fun q _ h => hFc q h) (fun En ce q9 u9 t9 H locs ht hvm hpx hBX _ _ hS hce hcv hcl => ?_) (fun u_3 ra_3 t9 H locs ht hvm hw_3 hB _ _ hS => ?_)
  · exact vx_out (fun x hx => (htb x hx).elim) hlocks hce hcv hcl (fun t ht2 hal => ⟨(), trivial, ⟨Or.inl ⟨hBX.1.1, by rw [sp_fewest, if_neg hBX.1.2]⟩, by rw [ht2, ← ht]; exact hBX.2.1, va_K.moved hal hK, hBX.2.2.2.weaken (fun _ _ _ h => hFc _ h)⟩, hS.F ht2⟩) hS.2.2 (by decide) (by decide)
  obtain ⟨hra_3, hP1, hK1, hD1⟩ := hB
  subst hra_3
  rw [ht] at hP1
  have hP := hP1
  have hD := hD1.weaken (fun _ _ _ h => hFc _ h)
  have hia := ix_lt hw_3
  have hf0 := hYf (ix a) hia
  have hmf : 1000 + ix a ∈ K := (hKR.m (show keyOk Y (1000 + ix a) by unfold keyOk; omega))
  have hfo := hyf (ix a) hia
  have hFc := w_free hD hS hA
  obtain ⟨p2, hp2⟩ := kW_pos (hKR.m (show keyOk Y (0) by unfold keyOk; omega))
  refine va_calli (va_runV (As := [.ref ((ad (1000 + ix a)))]) (rest := []) ⟨hx, hb, hml, hown, hts⟩ (c_X4_setFor l D cy H.size K ad E (Y) (hKR) (hR) (hY) (ix a) (hia)) (cwV 1 hts gX4_fewest_X4_setFor rfl rfl rfl (by decide +kernel) ⟨Nat.le_of_ble_eq_true rfl, Nat.le_of_ble_eq_true rfl⟩) ⟨wB2_blind, va_recv hK hP (ci := 4) (q0 := p2) rfl (kW_get hp2 hE0), wB2_pre hP hK hD hN⟩ rfl rfl hl.1 rfl (lv_room (Nat.le_of_ble_eq_true rfl)) dX4_fewest_6 ⟨Nat.le_of_ble_eq_true rfl, Nat.le_of_ble_eq_true rfl⟩) hS (fun q _ h => hFc q h) hFc (fun r_6 E_6 t_ H locs ht hvm hw_6 hB _ _ hS => ?_)
  obtain ⟨hP1, hK1, hD1⟩ := hB
  rw [ht] at hP1
  have hP := hP1
  have hD := hD1.weaken (fun _ _ _ h => hFc _ h)
  obtain ⟨PPs, SSs, s7, s8, s9, s10, s11, s12, s13, s14, s15, ks6, ks7, ks8, ks9, ks10, ks11, ks12, ks13, ks14, ks15, hOs, hPPs, hsws, hL7s, hres_6, hbts⟩ := hw_6
  have fC6_25 : E_6 (0) = .inr (4, [.ref ((ad (1))), .ref ((ad (2))), .ref ((ad (3))), .ref ((ad (4))), .ref ((ad (5))), .ref ((ad (6))), .ref ((ad (18))), .int (nI (yF Y)), .int (nI (yB Y)), .int (nI (yC Y)), .int (nI (yNow Y))]) := (hOs (0) (by omega) (by omega) (by omega) (by omega) (by omega) (by omega) (by omega) (by omega) (by omega) (by omega)).trans hE0
  have fC6_49 : E_6 (1) = .inl (cy 3, 8, .inr (.inr (.inr (.inr (f1))))) := (hOs (1) (by omega) (by omega) (by omega) (by omega) (by omega) (by omega) (by omega) (by omega) (by omega) (by omega)).trans hE1
  have fC6_38 : E_6 (2) = .inl (cy 4, 40, .inr (.inr (.inr (.inr (f2))))) := (hOs (2) (by omega) (by omega) (by omega) (by omega) (by omega) (by omega) (by omega) (by omega) (by omega) (by omega)).trans hE2
  have fC6_23 : E_6 (16) = .inl (cy 0, 32, .inl (f16)) := (hOs (16) (by omega) (by omega) (by omega) (by omega) (by omega) (by omega) (by omega) (by omega) (by omega) (by omega)).trans hE16
  have fC6_24 : E_6 (17) = .inl (cy 0, 32, .inl (f17)) := (hOs (17) (by omega) (by omega) (by omega) (by omega) (by omega) (by omega) (by omega) (by omega) (by omega) (by omega)).trans hE17
  have fC6_50 : E_6 (1000 + ix a) = .inr (2, [.int (nI (yh Y (ix a))), .int (nI (yg Y (ix a))), .int (nI (ye Y (ix a))), .int (nI (ys Y (ix a)))]) := (hOs (1000 + ix a) (by omega) (by omega) (by omega) (by omega) (by omega) (by omega) (by omega) (by omega) (by omega) (by omega)).trans hf0
  have hp8 := pow_8 (look_len Y)
  have hrv := rv_sp (show bestY Y (ix a) < 256 by omega)
  have hz0 : rv8 (bestY Y (ix a)) = 0 → bestY Y (ix a) = 0 := rv_0 (by omega)
  refine g_top (y := (nI (rv8 (bestY Y (ix a))))) (hres_6) ?_
  refine lv_istore_n (lv' := [(2, .int (nI (rv8 (bestY Y (ix a))))), (0, .ref ((ad (0)))), (1, .int (a))]) hx hb dX4_fewest_9 rfl hl (by decide) rfl (fun ls hl => ?_)
  refine lv_iload_n hx hb dX4_fewest_10 rfl (lv_at hl 0 rfl) ?_
  refine g_if_ne (tgt := 18) hx hb dX4_fewest_11 (by decide) (n_i (by omega)) (fun c_11 => ?_) (fun c_11 => ?_)
  · skip
    have hnz : rv8 (bestY Y (ix a)) ≠ 0 := by omega
    refine lv_iload_n hx hb dX4_fewest_18 rfl (lv_at hl 0 rfl) ?_
    refine vp_callSi (va_Run.run (va_runS (As := [.int (nI (rv8 (bestY Y (ix a))))]) (rest := []) ⟨hx, hb, hml, hown, hts⟩ (c_J6_bitCount l (rv8 (bestY Y (ix a))) (by omega)) (va_cwS 1 hts gX4_fewest_J6_bitCount_0f7a4 rfl rfl rfl (by decide +kernel) ⟨Nat.le_of_ble_eq_true rfl, Nat.le_of_ble_eq_true rfl⟩) ⟨nB_blind, nB_pre⟩ rfl rfl hl.1 rfl (lv_room (Nat.le_of_ble_eq_true rfl)) dX4_fewest_19 ⟨Nat.le_of_ble_eq_true rfl, Nat.le_of_ble_eq_true rfl⟩)) (fun r_19 hr_19 => ?_)
    subst hr_19
    refine vx_ret ?_
    exact W.iret (v := (nI (popN (rv8 (bestY Y (ix a)))))) hx hb hr (fun t ht hW => ⟨⟨_, E_6, rfl, (by rw [sp_fewest, if_pos hw_3]; exact ⟨rfl, (by rw [if_neg (fun e9 => by rw [e9] at hnz; exact hnz rfl), hrv.2.2.1]), YR_saw hR ⟨_, _, PPs, s7, s8, s9, s10, s11, s12, s13, s14, s15, f16, f17, ks6, ks7, ks8, ks9, ks10, ks11, ks12, ks13, ks14, ks15, (hOs 16 (by decide) (by decide) (by decide) (by decide) (by decide) (by decide) (by decide) (by decide) (by decide) (by decide)).trans hE16, (hOs 17 (by decide) (by decide) (by decide) (by decide) (by decide) (by decide) (by decide) (by decide) (by decide) (by decide)).trans hE17⟩ (fun k_ hk_ => hOs k_ (by omega) (by omega) (by omega) (by omega) (by omega) (by omega) (by omega) (by omega) (by omega) (by omega))⟩), by rw [ht]; exact hP, va_K.moved hW.alike hK, hD⟩, hS.F ht⟩) hS.2.2 dX4_fewest_22
  · skip
    refine lv_iconst (v := (zI ((-1)))) hx hb dX4_fewest_14 (by decide) ?_
    refine lv_goto (tgt := 22) hx hb dX4_fewest_15 (by decide) ?_
    refine vx_ret ?_
    exact W.iret (v := (zI ((-1)))) hx hb hr (fun t ht hW => ⟨⟨_, E_6, rfl, (by rw [sp_fewest, if_pos hw_3]; exact ⟨rfl, (if_pos (hz0 (by omega))).symm, YR_saw hR ⟨_, _, PPs, s7, s8, s9, s10, s11, s12, s13, s14, s15, f16, f17, ks6, ks7, ks8, ks9, ks10, ks11, ks12, ks13, ks14, ks15, (hOs 16 (by decide) (by decide) (by decide) (by decide) (by decide) (by decide) (by decide) (by decide) (by decide) (by decide)).trans hE16, (hOs 17 (by decide) (by decide) (by decide) (by decide) (by decide) (by decide) (by decide) (by decide) (by decide) (by decide)).trans hE17⟩ (fun k_ hk_ => hOs k_ (by omega) (by omega) (by omega) (by omega) (by omega) (by omega) (by omega) (by omega) (by omega) (by omega))⟩), by rw [ht]; exact hP, va_K.moved hW.alike hK, hD⟩, hS.F ht⟩) hS.2.2 dX4_fewest_22
set_option maxHeartbeats 4000000 in
set_option maxRecDepth 100000 in
theorem c_X4_handOut (l : Launch) (D : va_G) (cy : Nat → ClassId) (sz : Nat) (K : List Nat) (ad : Nat → Nat) (E : Nat → va_E) (h0 : 0 ∈ K) (nF nB nC nw : Nat) (hE0 : E 0 = yardO ad nF nB nC nw) (h6 : 6 ∈ K) (nr bl n9 : Nat) (hE6 : E 6 = sawO ad bl n9 nr) (h9 : 9 ∈ K) (f9 : Nat → Int32) (hE9 : E 9 = .inl (cy 0, 32, .inl (f9))) (h16 : 16 ∈ K) (f16 : Nat → Int32) (hE16 : E 16 = .inl (cy 0, 32, .inl (f16))) (h17 : 17 ∈ K) (f17 : Nat → Int32) (hE17 : E 17 = .inl (cy 0, 32, .inl (f17))) (co cb cp cd ct ck kf : Nat) (hco : co ∈ K) (fn : Int32) (nE : Nat) (hEco : E co = .inr (1, [.int (fn), .ref ((ad (kf))), .ref ((ad (cb))), .ref ((ad (cp))), .ref ((ad (cd))), .ref ((ad (ct))), .ref ((ad (ck))), .int (nI (nE))])) (hcb : cb ∈ K) (fb : Nat → Int32) (hEcb : E cb = rowI cy 40 fb) (hkf : kf ∈ K) (hh gg ee nn : Nat) (hEf : E kf = cellF hh gg ee nn) (hfo : formOk hh gg ee nn) (hne : co ≠ cb ∧ cb ≠ kf ∧ 21 ≤ cb) (hn32 : n9 ≤ 32) (num hc mc : Nat → Nat) (hRn : ∀ j, j < n9 → f9 j = nI (num j) ∧ f16 j = nI (hc j) ∧ f17 j = nI (mc j)) (hWt : (repL hc num n9).length = pcN nn gg 1 nn) (hNt : (repL mc num n9).length = pcN nn gg 0 nn) : Met l yX4_handOut wsX4_handOut ({ frames := 6, cells := 0, slots := 0, locals := 134 } : Room) (va_Pc [.ref ((ad (0))), .ref ((ad (co)))] (wB2 D cy sz (kW K ad E))) (va_Qv (fun (u : Nat → va_E) => ∃ (f' : Nat → Int32), u (cb) = .inl (cy 0, 40, .inl (f')) ∧ (∀ j_ : Nat, j_ ≠ cb → u j_ = E j_) ∧ ∀ k, k < nn → f' k = nI (if isW nn gg k then (repL hc num (n9)).getD (cwN nn gg k) 0 else (repL mc num (n9)).getD (k - cwN nn gg k) 0)) (fun u t => wE D cy (va_A (kW K ad E) sz) (kW K ad u) t) (va_A (kW K ad E) sz)) 0 0 (va_A (kW K ad E) sz) := by
  refine Met.ofW (cc := cX4_handOut) (maxL := 5) (ret := none) (by decide) rfl ?_
  intro p e s m args below meth c s₁ B hml hv
  obtain ⟨rfl, ⟨hsz, hP, hK, hD0⟩, hN⟩ := hv
  have hx := B.exec
  have hb := B.bytes
  have hr := B.returns
  have hts := atoms_spec (ws := wsX4_handOut) B.pre
  have hown : s.vm.findClass RX4 = some m.cls := findClass_of_methodNamed B.named
  have hlocks := B.notSynchronized
  subst hsz
  have hD := hD0.self (sz := s.heap.size)
  generalize hAe : va_A (kW K ad E) s.heap.size = A at hD ⊢
  have hA : ∀ q : Nat, s.heap.size ≤ q → A q := w_A hAe
  have hS : va_S A s.heap s.heap [] := va_S.rf
  have hnd := kW_nd hD
  have hl := lv_entry ([.ref ((ad (0))), .ref ((ad (co)))]) (n := 5) (Nat.le_of_ble_eq_true rfl)
  rw [lg_entry_eq]
  generalize (lg_sl ([.ref ((ad (0))), .ref ((ad (co)))]) ++ List.replicate (5 - (lg_sl ([.ref ((ad (0))), .ref ((ad (co)))])).length) Slot.unset).toArray = ls at hl ⊢
  have hl : lv_has ls 5 [(0, .ref ((ad (0)))), (1, .ref ((ad (co))))] := hl
  have hpw40 : pcN nn gg 1 nn ≤ nn := by have := cwN_le nn gg nn; unfold pcN; rw [if_pos rfl]; omega
  have hpn40 : pcN nn gg 0 nn ≤ nn := by unfold pcN; rw [if_neg (by decide)]; omega
  refine lv_iconst (v := (nI (0))) hx hb dX4_handOut_0 (by decide) ?_
  refine lv_istore_n (lv' := [(2, .int (nI (0))), (0, .ref ((ad (0)))), (1, .ref ((ad (co))))]) hx hb dX4_handOut_1 rfl hl (by decide) rfl (fun ls hl => ?_)
  refine lv_iconst (v := (nI (0))) hx hb dX4_handOut_2 (by decide) ?_
  refine lv_istore_n (lv' := [(3, .int (nI (0))), (2, .int (nI (0))), (0, .ref ((ad (0)))), (1, .ref ((ad (co))))]) hx hb dX4_handOut_3 rfl hl (by decide) rfl (fun ls hl => ?_)
  refine lv_iconst (v := (nI (0))) hx hb dX4_handOut_4 (by decide) ?_
  refine lv_istore (lv' := [(4, .int (nI (0))), (3, .int (nI (0))), (2, .int (nI (0))), (0, .ref ((ad (0)))), (1, .ref ((ad (co))))]) hx hb dX4_handOut_5 hl (by decide) rfl (fun ls hl => ?_)
  have loop_7 : ∀ (n_ : Nat) (i : Nat) (kw : Nat) (kn : Nat) (g9 : Nat → Int32) (Ec : Nat → va_E) (H : Heap) (locs : List Loc), va_P D vwCl (kW K ad Ec) H → va_D A (kW K ad Ec) → va_S A s.heap H locs → (i ≤ n9) → (kw ≤ nn ∧ kn ≤ nn) → (pcN nn gg 1 kw = (repL hc num (i)).length) → (pcN nn gg 0 kn = (repL mc num (i)).length) → (hoI nn gg 1 kw (repL hc num (i)) g9) → (hoI nn gg 0 kn (repL mc num (i)) g9) → (Ec (cb) = .inl (cy 0, 40, .inl (g9))) → (∀ j_ : Nat, j_ ≠ cb → Ec j_ = E j_) → n9 - i < n_ → ∀ (ls : Array Slot), lv_has ls 5 [(0, .ref ((ad (0)))), (1, .ref ((ad (co)))), (2, .int (nI (kw))), (3, .int (nI (kn))), (4, .int (nI (i)))] → W p l e (headSpec wsX4_handOut ({ frames := 6, cells := 0, slots := 0, locals := 134 } : Room)).room s m ([.ref ((ad (0))), .ref ((ad (co)))] : List Value).toArray below meth c H locs 0 0 (MQ below (va_Qv (fun (u : Nat → va_E) => ∃ (f' : Nat → Int32), u (cb) = .inl (cy 0, 40, .inl (f')) ∧ (∀ j_ : Nat, j_ ≠ cb → u j_ = E j_) ∧ ∀ k, k < nn → f' k = nI (if isW nn gg k then (repL hc num (n9)).getD (cwN nn gg k) 0 else (repL mc num (n9)).getD (k - cwN nn gg k) 0)) (fun u t => wE D cy A (kW K ad u) t) A) ([.ref ((ad (0))), .ref ((ad (co)))] : List Value).toArray s 0 0 A) (F0 m 7 ls []) := by
    intro n_
    induction n_ with
    | zero => intro i kw kn g9 Ec H locs hP hD hS hi hkk hlw hln hIw hIn hk_7_0 hO_7 hm_; exact absurd hm_ (Nat.not_lt_zero _)
    | succ n_ ih_7 =>
      intro i kw kn g9 Ec H locs hP hD hS hi hkk hlw hln hIw hIn hk_7_0 hO_7 hm_ ls hl
      have fL7_25 : Ec (0) = .inr (4, [.ref ((ad (1))), .ref ((ad (2))), .ref ((ad (3))), .ref ((ad (4))), .ref ((ad (5))), .ref ((ad (6))), .ref ((ad (18))), .int (nI (nF)), .int (nI (nB)), .int (nI (nC)), .int (nI (nw))]) := (hO_7 (0) (by omega)).trans hE0
      have fL7_13 : Ec (6) = .inr (3, [.ref ((ad (7))), .ref ((ad (8))), .ref ((ad (9))), .ref ((ad (10))), .ref ((ad (11))), .ref ((ad (12))), .ref ((ad (13))), .ref ((ad (14))), .ref ((ad (15))), .ref ((ad (16))), .ref ((ad (17))), .int (nI (bl)), .int (nI (n9)), .int (nI (nr))]) := (hO_7 (6) (by omega)).trans hE6
      have fL7_18 : Ec (9) = .inl (cy 0, 32, .inl (f9)) := (hO_7 (9) (by omega)).trans hE9
      have fL7_23 : Ec (16) = .inl (cy 0, 32, .inl (f16)) := (hO_7 (16) (by omega)).trans hE16
      have fL7_24 : Ec (17) = .inl (cy 0, 32, .inl (f17)) := (hO_7 (17) (by omega)).trans hE17
      have fL7_6 : Ec (co) = .inr (1, [.int (fn), .ref ((ad (kf))), .ref ((ad (cb))), .ref ((ad (cp))), .ref ((ad (cd))), .ref ((ad (ct))), .ref ((ad (ck))), .int (nI (nE))]) := (hO_7 (co) (by omega)).trans hEco
      have fL7_7 : Ec (kf) = .inr (2, [.int (nI (hh)), .int (nI (gg)), .int (nI (ee)), .int (nI (nn))]) := (hO_7 (kf) (by omega)).trans hEf
      refine lv_iload hx hb dX4_handOut_7 (lv_at hl 4 rfl) ?_
      refine lv_aload_n hx hb dX4_handOut_9 rfl (lv_at hl 0 rfl) ?_
      obtain ⟨p1, hp1⟩ := kW_pos h0
      refine va_get (D := D) (ci := 4) (v := .ref ((ad (6)))) (C := RX4) (T := TX4) (N := 11) hx hb hts (by decide +kernel) hown hK hP p1 (kW_get hp1 fL7_25) rfl 5 (by decide) (hts (.fieldLink RX4 37 "CaskYard" "saw" "LCaskYard$Saw;") (by decide +kernel)) (fun _ h9 => h9) rfl dX4_handOut_10 ?_
      obtain ⟨p2, hp2⟩ := kW_pos h6
      refine va_get (D := D) (ci := 3) (v := .int (nI (n9))) (C := RX3) (T := TX3) (N := 14) hx hb hts (by decide +kernel) hown hK hP p2 (kW_get hp2 fL7_13) rfl 12 (by decide) (hts (.fieldLink RX4 258 "CaskYard$Saw" "parts" "I") (by decide +kernel)) (fun _ h9 => h9) rfl dX4_handOut_13 ?_
      refine g_icmp_ge (tgt := 79) hx hb dX4_handOut_16 (by decide) (n_i (by omega)) (n_i (by omega)) (fun c_16 => ?_) (fun c_16 => ?_)
      · skip
        have hii : i = n9 := by omega
        rw [hii] at hlw hln hIw hIn
        exact W.vret hx hb hr (fun t ht hW => ⟨⟨Ec, rfl, ⟨g9, hk_7_0, (fun j_ h0_ => by rw [hO_7 j_ h0_]), fun k hk => by by_cases q9 : isW nn gg k <;> first | (rw [if_pos q9]; exact ho_end (by omega) hIw hlw hWt hk ⟨fun _ => rfl, fun _ => q9⟩) | (rw [if_neg q9]; exact ho_end (by omega) hIn hln hNt hk ⟨fun h9 => absurd h9 q9, fun h9 => absurd h9 (by decide)⟩)⟩, by rw [ht]; exact hP, va_K.moved hW.alike hK, hD⟩, hS.F ht⟩) hS.2.2 dX4_handOut_79
      · skip
        have hr9 := hRn i (by omega)
        have hs1 := repL_s hc num i
        have hs2 := repL_s mc num i
        have hm1 := repL_mono hc num (i := i + 1) n9 (by omega)
        have hm2 := repL_mono mc num (i := i + 1) n9 (by omega)
        refine lv_aload_n hx hb dX4_handOut_19 rfl (lv_at hl 1 rfl) ?_
        refine lv_aload_n hx hb dX4_handOut_20 rfl (lv_at hl 0 rfl) ?_
        obtain ⟨p3, hp3⟩ := kW_pos h0
        refine va_get (D := D) (ci := 4) (v := .ref ((ad (6)))) (C := RX4) (T := TX4) (N := 11) hx hb hts (by decide +kernel) hown hK hP p3 (kW_get hp3 fL7_25) rfl 5 (by decide) (hts (.fieldLink RX4 37 "CaskYard" "saw" "LCaskYard$Saw;") (by decide +kernel)) (fun _ h9 => h9) rfl dX4_handOut_21 ?_
        obtain ⟨p4, hp4⟩ := kW_pos h6
        refine va_get (D := D) (ci := 3) (v := .ref ((ad (16)))) (C := RX3) (T := TX3) (N := 14) hx hb hts (by decide +kernel) hown hK hP p4 (kW_get hp4 fL7_13) rfl 9 (by decide) (hts (.fieldLink RX4 259 "CaskYard$Saw" "wideCut" "[I") (by decide +kernel)) (fun _ h9 => h9) rfl dX4_handOut_24 ?_
        refine lv_iload hx hb dX4_handOut_27 (lv_at hl 4 rfl) ?_
        obtain ⟨p5, hp5⟩ := kW_pos h16
        refine g_iald hx hb hK hP p5 0 (kW_get hp5 fL7_23) rfl (i) rfl (by omega) (by decide) dX4_handOut_29 ?_
        refine g_top (y := (nI (hc i))) hr9.2.1 ?_
        refine lv_iconst (v := (nI (1))) hx hb dX4_handOut_30 (by decide) ?_
        refine lv_iload_n hx hb dX4_handOut_31 rfl (lv_at hl 2 rfl) ?_
        refine lv_aload_n hx hb dX4_handOut_32 rfl (lv_at hl 0 rfl) ?_
        obtain ⟨p6, hp6⟩ := kW_pos h0
        refine va_get (D := D) (ci := 4) (v := .ref ((ad (6)))) (C := RX4) (T := TX4) (N := 11) hx hb hts (by decide +kernel) hown hK hP p6 (kW_get hp6 fL7_25) rfl 5 (by decide) (hts (.fieldLink RX4 37 "CaskYard" "saw" "LCaskYard$Saw;") (by decide +kernel)) (fun _ h9 => h9) rfl dX4_handOut_33 ?_
        obtain ⟨p7, hp7⟩ := kW_pos h6
        refine va_get (D := D) (ci := 3) (v := .ref ((ad (9)))) (C := RX3) (T := TX3) (N := 14) hx hb hts (by decide +kernel) hown hK hP p7 (kW_get hp7 fL7_13) rfl 2 (by decide) (hts (.fieldLink RX4 262 "CaskYard$Saw" "number" "[I") (by decide +kernel)) (fun _ h9 => h9) rfl dX4_handOut_36 ?_
        refine lv_iload hx hb dX4_handOut_39 (lv_at hl 4 rfl) ?_
        obtain ⟨p8, hp8⟩ := kW_pos h9
        refine g_iald hx hb hK hP p8 0 (kW_get hp8 fL7_18) rfl (i) rfl (by omega) (by decide) dX4_handOut_41 ?_
        refine g_top (y := (nI (num i))) hr9.1 ?_
        have hFc := w_free hD hS hA
        obtain ⟨p9, hp9⟩ := kW_pos hco
        refine va_calli (va_runV (As := [.int (nI (hc i)), .int (nI (1)), .int (nI (kw)), .int (nI (num i))]) (rest := []) ⟨hx, hb, hml, hown, hts⟩ (c_X1_takePieces l D cy H.size K ad Ec (co) (cb) (cp) (cd) (ct) (ck) (kf) (hco) (fn) (nE) (fL7_6) (hcb) (g9) (hk_7_0) (hkf) (hh) (gg) (ee) (nn) (fL7_7) (hfo) (⟨by omega, by omega⟩) (hc i) (1) (kw) (num i) (by omega) (by omega) (by omega) (by omega)) (cwV 4 hts gX4_handOut_X1_takePieces rfl rfl rfl (by decide +kernel) ⟨Nat.le_of_ble_eq_true rfl, Nat.le_of_ble_eq_true rfl⟩) ⟨wB2_blind, va_recv hK hP (ci := 1) (q0 := p9) rfl (kW_get hp9 fL7_6), wB2_pre hP hK hD hN⟩ rfl rfl hl.1 rfl (lv_room (Nat.le_of_ble_eq_true rfl)) dX4_handOut_42 ⟨Nat.le_of_ble_eq_true rfl, Nat.le_of_ble_eq_true rfl⟩) hS (fun q _ h => hFc q h) hFc (fun r_42 E_42 t_ H locs ht hvm hw_42 hB _ _ hS => ?_)
        obtain ⟨hP1, hK1, hD1⟩ := hB
        rw [ht] at hP1
        have hP := hP1
        have hD := hD1.weaken (fun _ _ _ h => hFc _ h)
        obtain ⟨f42, k42, k42_0, hO42, hres_42, ha42, hb42, hc42, hd42⟩ := hw_42
        have fC42_25 : E_42 (0) = .inr (4, [.ref ((ad (1))), .ref ((ad (2))), .ref ((ad (3))), .ref ((ad (4))), .ref ((ad (5))), .ref ((ad (6))), .ref ((ad (18))), .int (nI (nF)), .int (nI (nB)), .int (nI (nC)), .int (nI (nw))]) := (hO42 (0) (by omega)).trans fL7_25
        have fC42_13 : E_42 (6) = .inr (3, [.ref ((ad (7))), .ref ((ad (8))), .ref ((ad (9))), .ref ((ad (10))), .ref ((ad (11))), .ref ((ad (12))), .ref ((ad (13))), .ref ((ad (14))), .ref ((ad (15))), .ref ((ad (16))), .ref ((ad (17))), .int (nI (bl)), .int (nI (n9)), .int (nI (nr))]) := (hO42 (6) (by omega)).trans fL7_13
        have fC42_18 : E_42 (9) = .inl (cy 0, 32, .inl (f9)) := (hO42 (9) (by omega)).trans fL7_18
        have fC42_23 : E_42 (16) = .inl (cy 0, 32, .inl (f16)) := (hO42 (16) (by omega)).trans fL7_23
        have fC42_24 : E_42 (17) = .inl (cy 0, 32, .inl (f17)) := (hO42 (17) (by omega)).trans fL7_24
        have fC42_6 : E_42 (co) = .inr (1, [.int (fn), .ref ((ad (kf))), .ref ((ad (cb))), .ref ((ad (cp))), .ref ((ad (cd))), .ref ((ad (ct))), .ref ((ad (ck))), .int (nI (nE))]) := (hO42 (co) (by omega)).trans fL7_6
        have fC42_7 : E_42 (kf) = .inr (2, [.int (nI (hh)), .int (nI (gg)), .int (nI (ee)), .int (nI (nn))]) := (hO42 (kf) (by omega)).trans fL7_7
        refine g_top (y := (nI (k42))) (hres_42) ?_
        refine lv_istore_n (lv' := [(2, .int (nI (k42))), (0, .ref ((ad (0)))), (1, .ref ((ad (co)))), (3, .int (nI (kn))), (4, .int (nI (i)))]) hx hb dX4_handOut_45 rfl hl (by decide) rfl (fun ls hl => ?_)
        refine lv_aload_n hx hb dX4_handOut_46 rfl (lv_at hl 2 rfl) ?_
        refine lv_aload_n hx hb dX4_handOut_47 rfl (lv_at hl 1 rfl) ?_
        obtain ⟨p10, hp10⟩ := kW_pos h0
        refine va_get (D := D) (ci := 4) (v := .ref ((ad (6)))) (C := RX4) (T := TX4) (N := 11) hx hb hts (by decide +kernel) hown hK hP p10 (kW_get hp10 fC42_25) rfl 5 (by decide) (hts (.fieldLink RX4 37 "CaskYard" "saw" "LCaskYard$Saw;") (by decide +kernel)) (fun _ h9 => h9) rfl dX4_handOut_48 ?_
        obtain ⟨p11, hp11⟩ := kW_pos h6
        refine va_get (D := D) (ci := 3) (v := .ref ((ad (17)))) (C := RX3) (T := TX3) (N := 14) hx hb hts (by decide +kernel) hown hK hP p11 (kW_get hp11 fC42_13) rfl 10 (by decide) (hts (.fieldLink RX4 269 "CaskYard$Saw" "narrowCut" "[I") (by decide +kernel)) (fun _ h9 => h9) rfl dX4_handOut_51 ?_
        refine lv_iload hx hb dX4_handOut_54 (lv_at hl 4 rfl) ?_
        obtain ⟨p12, hp12⟩ := kW_pos h17
        refine g_iald hx hb hK hP p12 0 (kW_get hp12 fC42_24) rfl (i) rfl (by omega) (by decide) dX4_handOut_56 ?_
        refine g_top (y := (nI (mc i))) hr9.2.2 ?_
        refine lv_iconst (v := (nI (0))) hx hb dX4_handOut_57 (by decide) ?_
        refine lv_iload_n hx hb dX4_handOut_58 rfl (lv_at hl 3 rfl) ?_
        refine lv_aload_n hx hb dX4_handOut_59 rfl (lv_at hl 1 rfl) ?_
        obtain ⟨p13, hp13⟩ := kW_pos h0
        refine va_get (D := D) (ci := 4) (v := .ref ((ad (6)))) (C := RX4) (T := TX4) (N := 11) hx hb hts (by decide +kernel) hown hK hP p13 (kW_get hp13 fC42_25) rfl 5 (by decide) (hts (.fieldLink RX4 37 "CaskYard" "saw" "LCaskYard$Saw;") (by decide +kernel)) (fun _ h9 => h9) rfl dX4_handOut_60 ?_
        obtain ⟨p14, hp14⟩ := kW_pos h6
        refine va_get (D := D) (ci := 3) (v := .ref ((ad (9)))) (C := RX3) (T := TX3) (N := 14) hx hb hts (by decide +kernel) hown hK hP p14 (kW_get hp14 fC42_13) rfl 2 (by decide) (hts (.fieldLink RX4 262 "CaskYard$Saw" "number" "[I") (by decide +kernel)) (fun _ h9 => h9) rfl dX4_handOut_63 ?_
        refine lv_iload hx hb dX4_handOut_66 (lv_at hl 4 rfl) ?_
        obtain ⟨p15, hp15⟩ := kW_pos h9
        refine g_iald hx hb hK hP p15 0 (kW_get hp15 fC42_18) rfl (i) rfl (by omega) (by decide) dX4_handOut_68 ?_
        refine g_top (y := (nI (num i))) hr9.1 ?_
        have hFc := w_free hD hS hA
        obtain ⟨p16, hp16⟩ := kW_pos hco
        refine va_calli (va_runV (As := [.int (nI (mc i)), .int (nI (0)), .int (nI (kn)), .int (nI (num i))]) (rest := []) ⟨hx, hb, hml, hown, hts⟩ (c_X1_takePieces l D cy H.size K ad E_42 (co) (cb) (cp) (cd) (ct) (ck) (kf) (hco) (fn) (nE) (fC42_6) (hcb) (f42) (k42_0) (hkf) (hh) (gg) (ee) (nn) (fC42_7) (hfo) (⟨by omega, by omega⟩) (mc i) (0) (kn) (num i) (by omega) (by omega) (by omega) (by omega)) (cwV 4 hts gX4_handOut_X1_takePieces rfl rfl rfl (by decide +kernel) ⟨Nat.le_of_ble_eq_true rfl, Nat.le_of_ble_eq_true rfl⟩) ⟨wB2_blind, va_recv hK hP (ci := 1) (q0 := p16) rfl (kW_get hp16 fC42_6), wB2_pre hP hK hD hN⟩ rfl rfl hl.1 rfl (lv_room (Nat.le_of_ble_eq_true rfl)) dX4_handOut_69 ⟨Nat.le_of_ble_eq_true rfl, Nat.le_of_ble_eq_true rfl⟩) hS (fun q _ h => hFc q h) hFc (fun r_69 E_69 t_ H locs ht hvm hw_69 hB _ _ hS => ?_)
        obtain ⟨hP1, hK1, hD1⟩ := hB
        rw [ht] at hP1
        have hP := hP1
        have hD := hD1.weaken (fun _ _ _ h => hFc _ h)
        obtain ⟨f69, k69, k69_0, hO69, hres_69, ha69, hb69, hc69, hd69⟩ := hw_69
        have fC69_25 : E_69 (0) = .inr (4, [.ref ((ad (1))), .ref ((ad (2))), .ref ((ad (3))), .ref ((ad (4))), .ref ((ad (5))), .ref ((ad (6))), .ref ((ad (18))), .int (nI (nF)), .int (nI (nB)), .int (nI (nC)), .int (nI (nw))]) := (hO69 (0) (by omega)).trans fC42_25
        have fC69_13 : E_69 (6) = .inr (3, [.ref ((ad (7))), .ref ((ad (8))), .ref ((ad (9))), .ref ((ad (10))), .ref ((ad (11))), .ref ((ad (12))), .ref ((ad (13))), .ref ((ad (14))), .ref ((ad (15))), .ref ((ad (16))), .ref ((ad (17))), .int (nI (bl)), .int (nI (n9)), .int (nI (nr))]) := (hO69 (6) (by omega)).trans fC42_13
        have fC69_18 : E_69 (9) = .inl (cy 0, 32, .inl (f9)) := (hO69 (9) (by omega)).trans fC42_18
        have fC69_23 : E_69 (16) = .inl (cy 0, 32, .inl (f16)) := (hO69 (16) (by omega)).trans fC42_23
        have fC69_24 : E_69 (17) = .inl (cy 0, 32, .inl (f17)) := (hO69 (17) (by omega)).trans fC42_24
        have fC69_6 : E_69 (co) = .inr (1, [.int (fn), .ref ((ad (kf))), .ref ((ad (cb))), .ref ((ad (cp))), .ref ((ad (cd))), .ref ((ad (ct))), .ref ((ad (ck))), .int (nI (nE))]) := (hO69 (co) (by omega)).trans fC42_6
        have fC69_7 : E_69 (kf) = .inr (2, [.int (nI (hh)), .int (nI (gg)), .int (nI (ee)), .int (nI (nn))]) := (hO69 (kf) (by omega)).trans fC42_7
        refine g_top (y := (nI (k69))) (hres_69) ?_
        refine lv_istore_n (lv' := [(3, .int (nI (k69))), (2, .int (nI (k42))), (0, .ref ((ad (0)))), (1, .ref ((ad (co)))), (4, .int (nI (i)))]) hx hb dX4_handOut_72 rfl hl (by decide) rfl (fun ls hl => ?_)
        refine lv_iinc (v := (nI (i + 1))) (lv' := [(4, .int (nI (i + 1))), (3, .int (nI (k69))), (2, .int (nI (k42))), (0, .ref ((ad (0)))), (1, .ref ((ad (co))))]) hx hb dX4_handOut_73 hl (k := 4) rfl (nI_add _ _) (by decide) rfl (fun ls hl => ?_)
        refine lv_goto (tgt := 7) hx hb dX4_handOut_76 (by decide) ?_
        exact ih_7 (i + 1) (k42) (k69) (f69) (E_69) H locs hP hD hS (by omega) ⟨by omega, by omega⟩ (by rw [repL_s]; omega) (by rw [repL_s]; omega) (ho_other (by omega) (by omega) (by omega) (ho_step (by omega) hIw hlw ha42 hc42 hd42) hd69) (ho_step (by omega) (ho_other (by omega) (by omega) (by omega) hIn hd42) hln ha69 hc69 hd69) k69_0 (fun j_ h0_ => by rw [hO69 j_ h0_, hO42 j_ h0_, hO_7 j_ h0_]) (by omega) ls (lv_sub hl [3, 4, 2, 1, 0] rfl)
  exact loop_7 _ (0) (0) (0) (fb) (E) s.heap [] hP hD hS (by omega) (by omega) (by simp [pcN, cwN, repL]) (by simp [pcN, cwN, repL]) (fun j hj => absurd hj (Nat.not_lt_zero _)) (fun j hj => absurd hj (Nat.not_lt_zero _)) hEcb (fun j_ h0_ => rfl) (Nat.lt_succ_self _) ls (lv_sub hl [3, 4, 2, 1, 0] rfl)
