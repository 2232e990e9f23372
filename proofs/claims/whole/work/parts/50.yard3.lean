set_option maxHeartbeats 4000000 in
set_option maxRecDepth 100000 in
theorem c_X4_girth (l : Launch) (hlt : l.stackTraces = false) (D : va_G) (cy : Nat → ClassId) (sz : Nat) (sa : Nat → Nat) (K : List Nat) (ad : Nat → Nat) (E : Nat → va_E) (Y : YT) (hKR : KR K Y) (hR : YR cy ad E Y) (hY : WF Y) (a : Int32) (b : Int32) : vx_Met l yX4_girth wsX4_girth ({ frames := 7, cells := 2, slots := 12, locals := 104 } : Room) (va_Pc [.ref ((ad (0))), .int (a), .int (b)] (wX D cy sz sa (kW K ad E))) (va_Qi (fun (r : Int32) (u : Nat → va_E) => YP cy ad (sp_girth Y a b) r u) (fun u t => wE D cy (va_A (kW K ad E) sz) (kW K ad u) t) (va_A (kW K ad E) sz)) (vx_X (fun _ : Unit => True) (fun (En : String) _ t => (xOk En (sp_girth Y a b).1 1 2) ∧ wE D cy (va_A (kW K ad E) sz) (kW K ad E) t) (va_A (kW K ad E) sz)) 2 12 (va_A (kW K ad E) sz) := by
  refine vx_ofW (cc := cX4_girth) (maxL := 4) (ret := (some .int)) (by decide) rfl ?_
  intro p e s m args below meth c s₁ B hml htb hv
  obtain ⟨rfl, ⟨⟨hsz, hP, hK, hD0⟩, hN⟩, hX, hZ⟩ := hv
  have hx := B.exec
  have hb := B.bytes
  have hr := B.returns
  have hts := atoms_spec (ws := wsX4_girth) B.pre
  have hown : s.vm.findClass RX4 = some m.cls := findClass_of_methodNamed B.named
  have hlocks := B.notSynchronized
  subst hsz
  have hD := hD0.self (sz := s.heap.size)
  generalize hAe : va_A (kW K ad E) s.heap.size = A at hD hZ ⊢
  have hA : ∀ q : Nat, s.heap.size ≤ q → A q := w_A hAe
  have hS : va_S A s.heap s.heap [] := va_S.rf
  have hnd := kW_nd hD
  have hl := lv_entry ([.ref ((ad (0))), .int (a), .int (b)]) (n := 4) (Nat.le_of_ble_eq_true rfl)
  rw [lg_entry_eq]
  generalize (lg_sl ([.ref ((ad (0))), .int (a), .int (b)]) ++ List.replicate (4 - (lg_sl ([.ref ((ad (0))), .int (a), .int (b)])).length) Slot.unset).toArray = ls at hl ⊢
  have hl : lv_has ls 4 [(0, .ref ((ad (0)))), (1, .int (a)), (2, .int (b))] := hl
  obtain ⟨⟨hE0, f1, f2, f3, hE1, hE2, hE3, hr1, hr2, hr3⟩, ⟨f4, f5, hE4, hE5, hbr, hwt⟩, hsaw, hspa, hYf, hYb, hYc⟩ := id hR
  obtain ⟨hy0, hyF, hyB, hyC, hyf, hyb, hyc, hyr, hyw⟩ := id hY
  refine lv_aload_n hx hb dX4_girth_0 rfl (lv_at hl 0 rfl) ?_
  refine lv_iload_n hx hb dX4_girth_1 rfl (lv_at hl 1 rfl) ?_
  have hFc := w_free hD hS hA
  obtain ⟨p1, hp1⟩ := kW_pos (hKR.m (show keyOk Y (0) by unfold keyOk; omega))
  refine vx_callr (vx_runV (As := [.int (a)]) (rest := []) ⟨hx, hb, hml, hown, hts⟩ (c_X4_formAt l hlt D cy s.heap.size sa K ad E (hKR.m (show keyOk Y (0) by unfold keyOk; omega)) (yF Y) (yB Y) (yC Y) (yNow Y) (hE0) (hKR.m (show keyOk Y (1) by unfold keyOk; omega)) (f1) (hE1) (hr1) (hyF) (a)) (cwV 1 hts gX4_girth_X4_formAt rfl rfl rfl (by decide +kernel) ⟨Nat.le_of_ble_eq_true rfl, Nat.le_of_ble_eq_true rfl⟩) ⟨wX_blind, va_recv hK hP (ci := 4) (q0 := p1) rfl (kW_get hp1 hE0), wX_pre hP hK hD hN hX hZ hS hA⟩ rfl rfl hl.1 rfl (lv_room (Nat.le_of_ble_eq_true rfl)) dX4_girth_2 ⟨Nat.le_of_ble_eq_true rfl, Nat.le_of_ble_eq_true rfl⟩) hS (fun q _ h => hFc q h) hFc (fun q _ h => hFc q h) (fun En ce q9 u9 t9 H locs ht hvm hpx hBX _ _ hS hce hcv hcl => ?_) (fun u_2 ra_2 t9 H locs ht hvm hw_2 hB _ _ hS => ?_)
  · exact vx_out (fun x hx => (htb x hx).elim) hlocks hce hcv hcl (fun t ht2 hal => ⟨(), trivial, ⟨Or.inl ⟨hBX.1.1, by rw [sp_girth, if_neg hBX.1.2]⟩, by rw [ht2, ← ht]; exact hBX.2.1, va_K.moved hal hK, hBX.2.2.2.weaken (fun _ _ _ h => hFc _ h)⟩, hS.F ht2⟩) hS.2.2 (by decide) (by decide)
  obtain ⟨hra_2, hP1, hK1, hD1⟩ := hB
  subst hra_2
  rw [ht] at hP1
  have hP := hP1
  have hD := hD1.weaken (fun _ _ _ h => hFc _ h)
  have hia := ix_lt hw_2
  have hf0 := hYf (ix a) hia
  have hmf : 1000 + ix a ∈ K := (hKR.m (show keyOk Y (1000 + ix a) by unfold keyOk; omega))
  have hfo := hyf (ix a) hia
  refine lv_astore_n (lv' := [(3, .ref ((ad (1000 + ix a)))), (0, .ref ((ad (0)))), (1, .int (a)), (2, .int (b))]) hx hb dX4_girth_5 rfl hl (by decide) rfl (fun ls hl => ?_)
  refine lv_aload_n hx hb dX4_girth_6 rfl (lv_at hl 0 rfl) ?_
  refine lv_iload_n hx hb dX4_girth_7 rfl (lv_at hl 3 rfl) ?_
  have hFc := w_free hD hS hA
  refine vx_callv (vx_runS (As := [.ref ((ad (1000 + ix a))), .int (b)]) (rest := []) ⟨hx, hb, hml, hown, hts⟩ (c_X4_checkHeight l hlt D cy H.size sa K ad E (1000 + ix a) (hmf) (yh Y (ix a)) (yg Y (ix a)) (ye Y (ix a)) (ys Y (ix a)) (hf0) (hfo) (b)) (va_cwS 2 hts gX4_girth_X4_checkHeight rfl rfl rfl (by decide +kernel) ⟨Nat.le_of_ble_eq_true rfl, Nat.le_of_ble_eq_true rfl⟩) ⟨wX_blind, wX_pre hP hK hD hN hX hZ hS hA⟩ rfl rfl hl.1 rfl (lv_room (Nat.le_of_ble_eq_true rfl)) dX4_girth_8 ⟨Nat.le_of_ble_eq_true rfl, Nat.le_of_ble_eq_true rfl⟩) hS (fun q _ h => hFc q h) hFc (fun q _ h => hFc q h) (fun En ce q9 u9 t9 H locs ht hvm hpx hBX _ _ hS hce hcv hcl => ?_) (fun u_8 t9 H locs ht hvm hw_8 hB _ _ hS => ?_)
  · exact vx_out (fun x hx => (htb x hx).elim) hlocks hce hcv hcl (fun t ht2 hal => ⟨(), trivial, ⟨Or.inr ⟨hBX.1.1, by rw [sp_girth, if_pos hw_2, if_neg hBX.1.2]⟩, by rw [ht2, ← ht]; exact hBX.2.1, va_K.moved hal hK, hBX.2.2.2.weaken (fun _ _ _ h => hFc _ h)⟩, hS.F ht2⟩) hS.2.2 (by decide) (by decide)
  obtain ⟨hP1, hK1, hD1⟩ := hB
  rw [ht] at hP1
  have hP := hP1
  have hD := hD1.weaken (fun _ _ _ h => hFc _ h)
  obtain ⟨hue_8, hok_8⟩ := hw_8
  rw [hue_8] at hP hD
  have hxb := ix_c hok_8.1
  have hltb := ix_lt hok_8
  have hnb := ix_n hok_8.1
  have hl : lv_has ls 4 [(3, .ref ((ad (1000 + ix a)))), (0, .ref ((ad (0)))), (1, .int (a)), (2, .int (nI (ix b)))] := by rw [← hnb]; exact hl
  refine lv_aload_n hx hb dX4_girth_11 rfl (lv_at hl 0 rfl) ?_
  refine lv_iload_n hx hb dX4_girth_12 rfl (lv_at hl 3 rfl) ?_
  obtain ⟨p2, hp2⟩ := kW_pos hmf
  refine vp_callSi (va_Run.run (va_runV (As := [.int (nI (ix b))]) (rest := []) ⟨hx, hb, hml, hown, hts⟩ (c_X2_girthAt l D cy K ad E (1000 + ix a) (hmf) (yh Y (ix a)) (yg Y (ix a)) (ye Y (ix a)) (ys Y (ix a)) (hf0) (hfo) (ix b) (by omega)) (cwV 1 hts gX4_girth_X2_girthAt rfl rfl rfl (by decide +kernel) ⟨Nat.le_of_ble_eq_true rfl, Nat.le_of_ble_eq_true rfl⟩) ⟨rB2_blind, va_recv hK hP (ci := 2) (q0 := p2) rfl (kW_get hp2 hf0), (rB2_pre hP hK hN)⟩ rfl rfl hl.1 rfl (lv_room (Nat.le_of_ble_eq_true rfl)) dX4_girth_13 ⟨Nat.le_of_ble_eq_true rfl, Nat.le_of_ble_eq_true rfl⟩)) (fun r_13 hr_13 => ?_)
  subst hr_13
  refine vx_ret ?_
  exact W.iret (v := (nI (girthN (yh Y (ix a)) (yg Y (ix a)) (ye Y (ix a)) (ix b)))) hx hb hr (fun t ht hW => ⟨⟨_, E, rfl, by rw [sp_girth, if_pos hw_2, if_pos hok_8]; exact ⟨rfl, rfl, hR⟩, by rw [ht]; exact hP, va_K.moved hW.alike hK, hD⟩, hS.F ht⟩) hS.2.2 dX4_girth_16
set_option maxHeartbeats 4000000 in
set_option maxRecDepth 100000 in
theorem c_X4_holds (l : Launch) (hlt : l.stackTraces = false) (D : va_G) (cy : Nat → ClassId) (sz : Nat) (sa : Nat → Nat) (K : List Nat) (ad : Nat → Nat) (E : Nat → va_E) (Y : YT) (hKR : KR K Y) (hR : YR cy ad E Y) (hY : WF Y) (a : Int32) (b : Int32) : vx_Met l yX4_holds wsX4_holds ({ frames := 7, cells := 2, slots := 12, locals := 104 } : Room) (va_Pc [.ref ((ad (0))), .int (a), .int (b)] (wX D cy sz sa (kW K ad E))) (va_Qi (fun (r : Int32) (u : Nat → va_E) => YP cy ad (sp_holds Y a b) r u) (fun u t => wE D cy (va_A (kW K ad E) sz) (kW K ad u) t) (va_A (kW K ad E) sz)) (vx_X (fun _ : Unit => True) (fun (En : String) _ t => (xOk En (sp_holds Y a b).1 1 2) ∧ wE D cy (va_A (kW K ad E) sz) (kW K ad E) t) (va_A (kW K ad E) sz)) 2 12 (va_A (kW K ad E) sz) := by
  refine vx_ofW (cc := cX4_holds) (maxL := 4) (ret := (some .int)) (by decide) rfl ?_
  intro p e s m args below meth c s₁ B hml htb hv
  obtain ⟨rfl, ⟨⟨hsz, hP, hK, hD0⟩, hN⟩, hX, hZ⟩ := hv
  have hx := B.exec
  have hb := B.bytes
  have hr := B.returns
  have hts := atoms_spec (ws := wsX4_holds) B.pre
  have hown : s.vm.findClass RX4 = some m.cls := findClass_of_methodNamed B.named
  have hlocks := B.notSynchronized
  subst hsz
  have hD := hD0.self (sz := s.heap.size)
  generalize hAe : va_A (kW K ad E) s.heap.size = A at hD hZ ⊢
  have hA : ∀ q : Nat, s.heap.size ≤ q → A q := w_A hAe
  have hS : va_S A s.heap s.heap [] := va_S.rf
  have hnd := kW_nd hD
  have hl := lv_entry ([.ref ((ad (0))), .int (a), .int (b)]) (n := 4) (Nat.le_of_ble_eq_true rfl)
  rw [lg_entry_eq]
  generalize (lg_sl ([.ref ((ad (0))), .int (a), .int (b)]) ++ List.replicate (4 - (lg_sl ([.ref ((ad (0))), .int (a), .int (b)])).length) Slot.unset).toArray = ls at hl ⊢
  have hl : lv_has ls 4 [(0, .ref ((ad (0)))), (1, .int (a)), (2, .int (b))] := hl
  obtain ⟨⟨hE0, f1, f2, f3, hE1, hE2, hE3, hr1, hr2, hr3⟩, ⟨f4, f5, hE4, hE5, hbr, hwt⟩, hsaw, hspa, hYf, hYb, hYc⟩ := id hR
  obtain ⟨hy0, hyF, hyB, hyC, hyf, hyb, hyc, hyr, hyw⟩ := id hY
  refine lv_aload_n hx hb dX4_holds_0 rfl (lv_at hl 0 rfl) ?_
  refine lv_iload_n hx hb dX4_holds_1 rfl (lv_at hl 1 rfl) ?_
  have hFc := w_free hD hS hA
  obtain ⟨p1, hp1⟩ := kW_pos (hKR.m (show keyOk Y (0) by unfold keyOk; omega))
  refine vx_callr (vx_runV (As := [.int (a)]) (rest := []) ⟨hx, hb, hml, hown, hts⟩ (c_X4_formAt l hlt D cy s.heap.size sa K ad E (hKR.m (show keyOk Y (0) by unfold keyOk; omega)) (yF Y) (yB Y) (yC Y) (yNow Y) (hE0) (hKR.m (show keyOk Y (1) by unfold keyOk; omega)) (f1) (hE1) (hr1) (hyF) (a)) (cwV 1 hts gX4_holds_X4_formAt rfl rfl rfl (by decide +kernel) ⟨Nat.le_of_ble_eq_true rfl, Nat.le_of_ble_eq_true rfl⟩) ⟨wX_blind, va_recv hK hP (ci := 4) (q0 := p1) rfl (kW_get hp1 hE0), wX_pre hP hK hD hN hX hZ hS hA⟩ rfl rfl hl.1 rfl (lv_room (Nat.le_of_ble_eq_true rfl)) dX4_holds_2 ⟨Nat.le_of_ble_eq_true rfl, Nat.le_of_ble_eq_true rfl⟩) hS (fun q _ h => hFc q h) hFc (fun q _ h => hFc q h) (fun En ce q9 u9 t9 H locs ht hvm hpx hBX _ _ hS hce hcv hcl => ?_) (fun u_2 ra_2 t9 H locs ht hvm hw_2 hB _ _ hS => ?_)
  · exact vx_out (fun x hx => (htb x hx).elim) hlocks hce hcv hcl (fun t ht2 hal => ⟨(), trivial, ⟨Or.inl ⟨hBX.1.1, by rw [sp_holds, if_neg hBX.1.2]⟩, by rw [ht2, ← ht]; exact hBX.2.1, va_K.moved hal hK, hBX.2.2.2.weaken (fun _ _ _ h => hFc _ h)⟩, hS.F ht2⟩) hS.2.2 (by decide) (by decide)
  obtain ⟨hra_2, hP1, hK1, hD1⟩ := hB
  subst hra_2
  rw [ht] at hP1
  have hP := hP1
  have hD := hD1.weaken (fun _ _ _ h => hFc _ h)
  have hia := ix_lt hw_2
  have hf0 := hYf (ix a) hia
  have hmf : 1000 + ix a ∈ K := (hKR.m (show keyOk Y (1000 + ix a) by unfold keyOk; omega))
  have hfo := hyf (ix a) hia
  refine lv_astore_n (lv' := [(3, .ref ((ad (1000 + ix a)))), (0, .ref ((ad (0)))), (1, .int (a)), (2, .int (b))]) hx hb dX4_holds_5 rfl hl (by decide) rfl (fun ls hl => ?_)
  refine lv_aload_n hx hb dX4_holds_6 rfl (lv_at hl 0 rfl) ?_
  refine lv_iload_n hx hb dX4_holds_7 rfl (lv_at hl 3 rfl) ?_
  have hFc := w_free hD hS hA
  refine vx_callv (vx_runS (As := [.ref ((ad (1000 + ix a))), .int (b)]) (rest := []) ⟨hx, hb, hml, hown, hts⟩ (c_X4_checkHeight l hlt D cy H.size sa K ad E (1000 + ix a) (hmf) (yh Y (ix a)) (yg Y (ix a)) (ye Y (ix a)) (ys Y (ix a)) (hf0) (hfo) (b)) (va_cwS 2 hts gX4_holds_X4_checkHeight rfl rfl rfl (by decide +kernel) ⟨Nat.le_of_ble_eq_true rfl, Nat.le_of_ble_eq_true rfl⟩) ⟨wX_blind, wX_pre hP hK hD hN hX hZ hS hA⟩ rfl rfl hl.1 rfl (lv_room (Nat.le_of_ble_eq_true rfl)) dX4_holds_8 ⟨Nat.le_of_ble_eq_true rfl, Nat.le_of_ble_eq_true rfl⟩) hS (fun q _ h => hFc q h) hFc (fun q _ h => hFc q h) (fun En ce q9 u9 t9 H locs ht hvm hpx hBX _ _ hS hce hcv hcl => ?_) (fun u_8 t9 H locs ht hvm hw_8 hB _ _ hS => ?_)
  · exact vx_out (fun x hx => (htb x hx).elim) hlocks hce hcv hcl (fun t ht2 hal => ⟨(), trivial, ⟨Or.inr ⟨hBX.1.1, by rw [sp_holds, if_pos hw_2, if_neg hBX.1.2]⟩, by rw [ht2, ← ht]; exact hBX.2.1, va_K.moved hal hK, hBX.2.2.2.weaken (fun _ _ _ h => hFc _ h)⟩, hS.F ht2⟩) hS.2.2 (by decide) (by decide)
  obtain ⟨hP1, hK1, hD1⟩ := hB
  rw [ht] at hP1
  have hP := hP1
  have hD := hD1.weaken (fun _ _ _ h => hFc _ h)
  obtain ⟨hue_8, hok_8⟩ := hw_8
  rw [hue_8] at hP hD
  have hxb := ix_c hok_8.1
  have hltb := ix_lt hok_8
  have hnb := ix_n hok_8.1
  have hl : lv_has ls 4 [(3, .ref ((ad (1000 + ix a)))), (0, .ref ((ad (0)))), (1, .int (a)), (2, .int (nI (ix b)))] := by rw [← hnb]; exact hl
  refine lv_aload_n hx hb dX4_holds_11 rfl (lv_at hl 0 rfl) ?_
  refine lv_iload_n hx hb dX4_holds_12 rfl (lv_at hl 3 rfl) ?_
  obtain ⟨p2, hp2⟩ := kW_pos hmf
  refine vp_callSi (va_Run.run (va_runV (As := [.int (nI (ix b))]) (rest := []) ⟨hx, hb, hml, hown, hts⟩ (c_X2_contentTo l D cy K ad E (1000 + ix a) (hmf) (yh Y (ix a)) (yg Y (ix a)) (ye Y (ix a)) (ys Y (ix a)) (hf0) (hfo) (ix b) (by omega)) (cwV 1 hts gX4_holds_X2_contentTo rfl rfl rfl (by decide +kernel) ⟨Nat.le_of_ble_eq_true rfl, Nat.le_of_ble_eq_true rfl⟩) ⟨rB2_blind, va_recv hK hP (ci := 2) (q0 := p2) rfl (kW_get hp2 hf0), (rB2_pre hP hK hN)⟩ rfl rfl hl.1 rfl (lv_room (Nat.le_of_ble_eq_true rfl)) dX4_holds_13 ⟨Nat.le_of_ble_eq_true rfl, Nat.le_of_ble_eq_true rfl⟩)) (fun r_13 hr_13 => ?_)
  subst hr_13
  refine vx_ret ?_
  exact W.iret (v := (nI (holdsN (yh Y (ix a)) (yg Y (ix a)) (ye Y (ix a)) (ix b)))) hx hb hr (fun t ht hW => ⟨⟨_, E, rfl, by rw [sp_holds, if_pos hw_2, if_pos hok_8]; exact ⟨rfl, rfl, hR⟩, by rw [ht]; exact hP, va_K.moved hW.alike hK, hD⟩, hS.F ht⟩) hS.2.2 dX4_holds_16
set_option maxHeartbeats 4000000 in
set_option maxRecDepth 100000 in
theorem c_X4_width (l : Launch) (hlt : l.stackTraces = false) (D : va_G) (cy : Nat → ClassId) (sz : Nat) (sa : Nat → Nat) (K : List Nat) (ad : Nat → Nat) (E : Nat → va_E) (Y : YT) (hKR : KR K Y) (hR : YR cy ad E Y) (hY : WF Y) (a : Int32) (b : Int32) (v : Int32) : vx_Met l yX4_width wsX4_width ({ frames := 7, cells := 3, slots := 18, locals := 104 } : Room) (va_Pc [.ref ((ad (0))), .int (a), .int (b), .int (v)] (wX D cy sz sa (kW K ad E))) (va_Qi (fun (r : Int32) (u : Nat → va_E) => YP cy ad (sp_width Y a b v) r u) (fun u t => wE D cy (va_A (kW K ad E) sz) (kW K ad u) t) (va_A (kW K ad E) sz)) (vx_X (fun _ : Unit => True) (fun (En : String) _ t => (xOk En (sp_width Y a b v).1 1 2) ∧ wE D cy (va_A (kW K ad E) sz) (kW K ad E) t) (va_A (kW K ad E) sz)) 3 18 (va_A (kW K ad E) sz) := by
  refine vx_ofW (cc := cX4_width) (maxL := 5) (ret := (some .int)) (by decide) rfl ?_
  intro p e s m args below meth c s₁ B hml htb hv
  obtain ⟨rfl, ⟨⟨hsz, hP, hK, hD0⟩, hN⟩, hX, hZ⟩ := hv
  have hx := B.exec
  have hb := B.bytes
  have hr := B.returns
  have hts := atoms_spec (ws := wsX4_width) B.pre
  have hown : s.vm.findClass RX4 = some m.cls := findClass_of_methodNamed B.named
  have hlocks := B.notSynchronized
  subst hsz
  have hD := hD0.self (sz := s.heap.size)
  generalize hAe : va_A (kW K ad E) s.heap.size = A at hD hZ ⊢
  have hA : ∀ q : Nat, s.heap.size ≤ q → A q := w_A hAe
  have hS : va_S A s.heap s.heap [] := va_S.rf
  have hnd := kW_nd hD
  have hl := lv_entry ([.ref ((ad (0))), .int (a), .int (b), .int (v)]) (n := 5) (Nat.le_of_ble_eq_true rfl)
  rw [lg_entry_eq]
  generalize (lg_sl ([.ref ((ad (0))), .int (a), .int (b), .int (v)]) ++ List.replicate (5 - (lg_sl ([.ref ((ad (0))), .int (a), .int (b), .int (v)])).length) Slot.unset).toArray = ls at hl ⊢
  have hl : lv_has ls 5 [(0, .ref ((ad (0)))), (1, .int (a)), (2, .int (b)), (3, .int (v))] := hl
  obtain ⟨⟨hE0, f1, f2, f3, hE1, hE2, hE3, hr1, hr2, hr3⟩, ⟨f4, f5, hE4, hE5, hbr, hwt⟩, hsaw, hspa, hYf, hYb, hYc⟩ := id hR
  obtain ⟨hy0, hyF, hyB, hyC, hyf, hyb, hyc, hyr, hyw⟩ := id hY
  refine lv_aload_n hx hb dX4_width_0 rfl (lv_at hl 0 rfl) ?_
  refine lv_iload_n hx hb dX4_width_1 rfl (lv_at hl 1 rfl) ?_
  have hFc := w_free hD hS hA
  obtain ⟨p1, hp1⟩ := kW_pos (hKR.m (show keyOk Y (0) by unfold keyOk; omega))
  refine vx_callr (vx_runV (As := [.int (a)]) (rest := []) ⟨hx, hb, hml, hown, hts⟩ (c_X4_formAt l hlt D cy s.heap.size sa K ad E (hKR.m (show keyOk Y (0) by unfold keyOk; omega)) (yF Y) (yB Y) (yC Y) (yNow Y) (hE0) (hKR.m (show keyOk Y (1) by unfold keyOk; omega)) (f1) (hE1) (hr1) (hyF) (a)) (cwV 1 hts gX4_width_X4_formAt rfl rfl rfl (by decide +kernel) ⟨Nat.le_of_ble_eq_true rfl, Nat.le_of_ble_eq_true rfl⟩) ⟨wX_blind, va_recv hK hP (ci := 4) (q0 := p1) rfl (kW_get hp1 hE0), wX_pre hP hK hD hN hX hZ hS hA⟩ rfl rfl hl.1 rfl (lv_room (Nat.le_of_ble_eq_true rfl)) dX4_width_2 ⟨Nat.le_of_ble_eq_true rfl, Nat.le_of_ble_eq_true rfl⟩) hS (fun q _ h => hFc q h) hFc (fun q _ h => hFc q h) (fun En ce q9 u9 t9 H locs ht hvm hpx hBX _ _ hS hce hcv hcl => ?_) (fun u_2 ra_2 t9 H locs ht hvm hw_2 hB _ _ hS => ?_)
  · exact vx_out (fun x hx => (htb x hx).elim) hlocks hce hcv hcl (fun t ht2 hal => ⟨(), trivial, ⟨Or.inl ⟨hBX.1.1, by rw [sp_width, if_neg (fun q9 => hBX.1.2 q9.1)]⟩, by rw [ht2, ← ht]; exact hBX.2.1, va_K.moved hal hK, hBX.2.2.2.weaken (fun _ _ _ h => hFc _ h)⟩, hS.F ht2⟩) hS.2.2 (by decide) (by decide)
  obtain ⟨hra_2, hP1, hK1, hD1⟩ := hB
  subst hra_2
  rw [ht] at hP1
  have hP := hP1
  have hD := hD1.weaken (fun _ _ _ h => hFc _ h)
  have hia := ix_lt hw_2
  have hf0 := hYf (ix a) hia
  have hmf : 1000 + ix a ∈ K := (hKR.m (show keyOk Y (1000 + ix a) by unfold keyOk; omega))
  have hfo := hyf (ix a) hia
  refine lv_astore (lv' := [(4, .ref ((ad (1000 + ix a)))), (0, .ref ((ad (0)))), (1, .int (a)), (2, .int (b)), (3, .int (v))]) hx hb dX4_width_5 hl (by decide) rfl (fun ls hl => ?_)
  refine lv_aload hx hb dX4_width_7 (lv_at hl 0 rfl) ?_
  refine lv_iload_n hx hb dX4_width_9 rfl (lv_at hl 3 rfl) ?_
  have hFc := w_free hD hS hA
  refine vx_callv (vx_runS (As := [.ref ((ad (1000 + ix a))), .int (b)]) (rest := []) ⟨hx, hb, hml, hown, hts⟩ (c_X4_checkStave l hlt D cy H.size sa K ad E (1000 + ix a) (hmf) (yh Y (ix a)) (yg Y (ix a)) (ye Y (ix a)) (ys Y (ix a)) (hf0) (hfo) (b)) (va_cwS 2 hts gX4_width_X4_checkStave rfl rfl rfl (by decide +kernel) ⟨Nat.le_of_ble_eq_true rfl, Nat.le_of_ble_eq_true rfl⟩) ⟨wX_blind, wX_pre hP hK hD hN hX hZ hS hA⟩ rfl rfl hl.1 rfl (lv_room (Nat.le_of_ble_eq_true rfl)) dX4_width_10 ⟨Nat.le_of_ble_eq_true rfl, Nat.le_of_ble_eq_true rfl⟩) hS (fun q _ h => hFc q h) hFc (fun q _ h => hFc q h) (fun En ce q9 u9 t9 H locs ht hvm hpx hBX _ _ hS hce hcv hcl => ?_) (fun u_10 t9 H locs ht hvm hw_10 hB _ _ hS => ?_)
  · exact vx_out (fun x hx => (htb x hx).elim) hlocks hce hcv hcl (fun t ht2 hal => ⟨(), trivial, ⟨Or.inl ⟨hBX.1.1, by rw [sp_width, if_neg (fun q9 => hBX.1.2 q9.2)]⟩, by rw [ht2, ← ht]; exact hBX.2.1, va_K.moved hal hK, hBX.2.2.2.weaken (fun _ _ _ h => hFc _ h)⟩, hS.F ht2⟩) hS.2.2 (by decide) (by decide)
  obtain ⟨hP1, hK1, hD1⟩ := hB
  rw [ht] at hP1
  have hP := hP1
  have hD := hD1.weaken (fun _ _ _ h => hFc _ h)
  obtain ⟨hue_10, hok_10⟩ := hw_10
  rw [hue_10] at hP hD
  have hxb := ix_c hok_10.1
  have hltb := ix_lt hok_10
  have hnb := ix_n hok_10.1
  have hl : lv_has ls 5 [(4, .ref ((ad (1000 + ix a)))), (0, .ref ((ad (0)))), (1, .int (a)), (2, .int (nI (ix b))), (3, .int (v))] := by rw [← hnb]; exact hl
  refine lv_aload hx hb dX4_width_13 (lv_at hl 0 rfl) ?_
  refine lv_iload_n hx hb dX4_width_15 rfl (lv_at hl 4 rfl) ?_
  have hFc := w_free hD hS hA
  refine vx_callv (vx_runS (As := [.ref ((ad (1000 + ix a))), .int (v)]) (rest := []) ⟨hx, hb, hml, hown, hts⟩ (c_X4_checkHeight l hlt D cy H.size sa K ad E (1000 + ix a) (hmf) (yh Y (ix a)) (yg Y (ix a)) (ye Y (ix a)) (ys Y (ix a)) (hf0) (hfo) (v)) (va_cwS 2 hts gX4_width_X4_checkHeight rfl rfl rfl (by decide +kernel) ⟨Nat.le_of_ble_eq_true rfl, Nat.le_of_ble_eq_true rfl⟩) ⟨wX_blind, wX_pre hP hK hD hN hX hZ hS hA⟩ rfl rfl hl.1 rfl (lv_room (Nat.le_of_ble_eq_true rfl)) dX4_width_16 ⟨Nat.le_of_ble_eq_true rfl, Nat.le_of_ble_eq_true rfl⟩) hS (fun q _ h => hFc q h) hFc (fun q _ h => hFc q h) (fun En ce q9 u9 t9 H locs ht hvm hpx hBX _ _ hS hce hcv hcl => ?_) (fun u_16 t9 H locs ht hvm hw_16 hB _ _ hS => ?_)
  · exact vx_out (fun x hx => (htb x hx).elim) hlocks hce hcv hcl (fun t ht2 hal => ⟨(), trivial, ⟨Or.inr ⟨hBX.1.1, by rw [sp_width, if_pos ⟨hw_2, hok_10⟩, if_neg hBX.1.2]⟩, by rw [ht2, ← ht]; exact hBX.2.1, va_K.moved hal hK, hBX.2.2.2.weaken (fun _ _ _ h => hFc _ h)⟩, hS.F ht2⟩) hS.2.2 (by decide) (by decide)
  obtain ⟨hP1, hK1, hD1⟩ := hB
  rw [ht] at hP1
  have hP := hP1
  have hD := hD1.weaken (fun _ _ _ h => hFc _ h)
  obtain ⟨hue_16, hok_16⟩ := hw_16
  rw [hue_16] at hP hD
  have hxv := ix_c hok_16.1
  have hltv := ix_lt hok_16
  have hnv := ix_n hok_16.1
  have hl : lv_has ls 5 [(4, .ref ((ad (1000 + ix a)))), (0, .ref ((ad (0)))), (1, .int (a)), (2, .int (nI (ix b))), (3, .int (nI (ix v)))] := by rw [← hnv]; exact hl
  refine lv_aload hx hb dX4_width_19 (lv_at hl 0 rfl) ?_
  refine lv_iload_n hx hb dX4_width_21 rfl (lv_at hl 3 rfl) ?_
  refine lv_iload_n hx hb dX4_width_22 rfl (lv_at hl 4 rfl) ?_
  obtain ⟨p2, hp2⟩ := kW_pos hmf
  refine vp_callSi (va_Run.run (va_runV (As := [.int (nI (ix b)), .int (nI (ix v))]) (rest := []) ⟨hx, hb, hml, hown, hts⟩ (c_X2_widthAt l D cy K ad E (1000 + ix a) (hmf) (yh Y (ix a)) (yg Y (ix a)) (ye Y (ix a)) (ys Y (ix a)) (hf0) (hfo) (ix b) (ix v) (by omega) (by omega)) (cwV 2 hts gX4_width_X2_widthAt rfl rfl rfl (by decide +kernel) ⟨Nat.le_of_ble_eq_true rfl, Nat.le_of_ble_eq_true rfl⟩) ⟨rB2_blind, va_recv hK hP (ci := 2) (q0 := p2) rfl (kW_get hp2 hf0), (rB2_pre hP hK hN)⟩ rfl rfl hl.1 rfl (lv_room (Nat.le_of_ble_eq_true rfl)) dX4_width_23 ⟨Nat.le_of_ble_eq_true rfl, Nat.le_of_ble_eq_true rfl⟩)) (fun r_23 hr_23 => ?_)
  subst hr_23
  refine vx_ret ?_
  exact W.iret (v := (nI (widthN (ys Y (ix a)) (ix b) (girthN (yh Y (ix a)) (yg Y (ix a)) (ye Y (ix a)) (ix v))))) hx hb hr (fun t ht hW => ⟨⟨_, E, rfl, by rw [sp_width, if_pos ⟨hw_2, hok_10⟩, if_pos hok_16]; exact ⟨rfl, rfl, hR⟩, by rw [ht]; exact hP, va_K.moved hW.alike hK, hD⟩, hS.F ht⟩) hS.2.2 dX4_width_26
set_option maxHeartbeats 4000000 in
set_option maxRecDepth 100000 in
theorem c_X4_level (l : Launch) (hlt : l.stackTraces = false) (D : va_G) (cy : Nat → ClassId) (sz : Nat) (sa : Nat → Nat) (K : List Nat) (ad : Nat → Nat) (E : Nat → va_E) (Y : YT) (hKR : KR K Y) (hR : YR cy ad E Y) (hY : WF Y) (a : Int32) (b : Int32) : vx_Met l yX4_level wsX4_level ({ frames := 7, cells := 2, slots := 12, locals := 104 } : Room) (va_Pc [.ref ((ad (0))), .int (a), .int (b)] (wX D cy sz sa (kW K ad E))) (va_Qi (fun (r : Int32) (u : Nat → va_E) => YP cy ad (sp_level Y a b) r u) (fun u t => wE D cy (va_A (kW K ad E) sz) (kW K ad u) t) (va_A (kW K ad E) sz)) (vx_X (fun _ : Unit => True) (fun (En : String) _ t => (xOk En (sp_level Y a b).1 1 2) ∧ wE D cy (va_A (kW K ad E) sz) (kW K ad E) t) (va_A (kW K ad E) sz)) 2 12 (va_A (kW K ad E) sz) := by
  refine vx_ofW (cc := cX4_level) (maxL := 4) (ret := (some .int)) (by decide) rfl ?_
  intro p e s m args below meth c s₁ B hml htb hv
  obtain ⟨rfl, ⟨⟨hsz, hP, hK, hD0⟩, hN⟩, hX, hZ⟩ := hv
  have hx := B.exec
  have hb := B.bytes
  have hr := B.returns
  have hts := atoms_spec (ws := wsX4_level) B.pre
  have hown : s.vm.findClass RX4 = some m.cls := findClass_of_methodNamed B.named
  have hlocks := B.notSynchronized
  subst hsz
  have hD := hD0.self (sz := s.heap.size)
  generalize hAe : va_A (kW K ad E) s.heap.size = A at hD hZ ⊢
  have hA : ∀ q : Nat, s.heap.size ≤ q → A q := w_A hAe
  have hS : va_S A s.heap s.heap [] := va_S.rf
  have hnd := kW_nd hD
  have hl := lv_entry ([.ref ((ad (0))), .int (a), .int (b)]) (n := 4) (Nat.le_of_ble_eq_true rfl)
  rw [lg_entry_eq]
  generalize (lg_sl ([.ref ((ad (0))), .int (a), .int (b)]) ++ List.replicate (4 - (lg_sl ([.ref ((ad (0))), .int (a), .int (b)])).length) Slot.unset).toArray = ls at hl ⊢
  have hl : lv_has ls 4 [(0, .ref ((ad (0)))), (1, .int (a)), (2, .int (b))] := hl
  obtain ⟨⟨hE0, f1, f2, f3, hE1, hE2, hE3, hr1, hr2, hr3⟩, ⟨f4, f5, hE4, hE5, hbr, hwt⟩, hsaw, hspa, hYf, hYb, hYc⟩ := id hR
  obtain ⟨hy0, hyF, hyB, hyC, hyf, hyb, hyc, hyr, hyw⟩ := id hY
  refine lv_aload_n hx hb dX4_level_0 rfl (lv_at hl 0 rfl) ?_
  refine lv_iload_n hx hb dX4_level_1 rfl (lv_at hl 1 rfl) ?_
  have hFc := w_free hD hS hA
  obtain ⟨p1, hp1⟩ := kW_pos (hKR.m (show keyOk Y (0) by unfold keyOk; omega))
  refine vx_callr (vx_runV (As := [.int (a)]) (rest := []) ⟨hx, hb, hml, hown, hts⟩ (c_X4_formAt l hlt D cy s.heap.size sa K ad E (hKR.m (show keyOk Y (0) by unfold keyOk; omega)) (yF Y) (yB Y) (yC Y) (yNow Y) (hE0) (hKR.m (show keyOk Y (1) by unfold keyOk; omega)) (f1) (hE1) (hr1) (hyF) (a)) (cwV 1 hts gX4_level_X4_formAt rfl rfl rfl (by decide +kernel) ⟨Nat.le_of_ble_eq_true rfl, Nat.le_of_ble_eq_true rfl⟩) ⟨wX_blind, va_recv hK hP (ci := 4) (q0 := p1) rfl (kW_get hp1 hE0), wX_pre hP hK hD hN hX hZ hS hA⟩ rfl rfl hl.1 rfl (lv_room (Nat.le_of_ble_eq_true rfl)) dX4_level_2 ⟨Nat.le_of_ble_eq_true rfl, Nat.le_of_ble_eq_true rfl⟩) hS (fun q _ h => hFc q h) hFc (fun q _ h => hFc q h) (fun En ce q9 u9 t9 H locs ht hvm hpx hBX _ _ hS hce hcv hcl => ?_) (fun u_2 ra_2 t9 H locs ht hvm hw_2 hB _ _ hS => ?_)
  · exact vx_out (fun x hx => (htb x hx).elim) hlocks hce hcv hcl (fun t ht2 hal => ⟨(), trivial, ⟨Or.inl ⟨hBX.1.1, by rw [sp_level, if_neg hBX.1.2]⟩, by rw [ht2, ← ht]; exact hBX.2.1, va_K.moved hal hK, hBX.2.2.2.weaken (fun _ _ _ h => hFc _ h)⟩, hS.F ht2⟩) hS.2.2 (by decide) (by decide)
  obtain ⟨hra_2, hP1, hK1, hD1⟩ := hB
  subst hra_2
  rw [ht] at hP1
  have hP := hP1
  have hD := hD1.weaken (fun _ _ _ h => hFc _ h)
  have hia := ix_lt hw_2
  have hf0 := hYf (ix a) hia
  have hmf : 1000 + ix a ∈ K := (hKR.m (show keyOk Y (1000 + ix a) by unfold keyOk; omega))
  have hfo := hyf (ix a) hia
  refine lv_astore_n (lv' := [(3, .ref ((ad (1000 + ix a)))), (0, .ref ((ad (0)))), (1, .int (a)), (2, .int (b))]) hx hb dX4_level_5 rfl hl (by decide) rfl (fun ls hl => ?_)
  refine lv_iload_n hx hb dX4_level_6 rfl (lv_at hl 3 rfl) ?_
  refine g_if_ge (tgt := 20) hx hb dX4_level_7 (by decide) rfl (fun c_7 => ?_) (fun c_7 => ?_)
  · skip
    have hnb := ix_n (a := b) (by omega)
    have hxb := ix_c (a := b) (by omega)
    have hib := i_hi b
    have hl : lv_has ls 4 [(3, .ref ((ad (1000 + ix a)))), (0, .ref ((ad (0)))), (1, .int (a)), (2, .int (nI (ix b)))] := by rw [← hnb]; exact hl
    refine lv_aload_n hx hb dX4_level_20 rfl (lv_at hl 0 rfl) ?_
    refine lv_iload_n hx hb dX4_level_21 rfl (lv_at hl 3 rfl) ?_
    obtain ⟨p2, hp2⟩ := kW_pos hmf
    refine vp_callSi (va_Run.run (va_runV (As := [.int (nI (ix b))]) (rest := []) ⟨hx, hb, hml, hown, hts⟩ (c_X2_leastLevel l D cy K ad E (1000 + ix a) (hmf) (yh Y (ix a)) (yg Y (ix a)) (ye Y (ix a)) (ys Y (ix a)) (hf0) (hfo) (ix b) (by omega)) (cwV 1 hts gX4_level_X2_leastLevel rfl rfl rfl (by decide +kernel) ⟨Nat.le_of_ble_eq_true rfl, Nat.le_of_ble_eq_true rfl⟩) ⟨rB2_blind, va_recv hK hP (ci := 2) (q0 := p2) rfl (kW_get hp2 hf0), (rB2_pre hP hK hN)⟩ rfl rfl hl.1 rfl (lv_room (Nat.le_of_ble_eq_true rfl)) dX4_level_22 ⟨Nat.le_of_ble_eq_true rfl, Nat.le_of_ble_eq_true rfl⟩)) (fun r_22 hr_22 => ?_)
    subst hr_22
    refine vx_ret ?_
    refine W.widen (k := 2) (n := 12) (by omega) (by omega) ?_
    exact W.iret (v := (zI (levelN (yh Y (ix a)) (yg Y (ix a)) (ye Y (ix a)) (ix b) 0 (yh Y (ix a) + 1)))) hx hb hr (fun t ht hW => ⟨⟨_, E, rfl, by rw [sp_level, if_pos hw_2, if_pos (by omega)]; exact ⟨rfl, rfl, hR⟩, by rw [ht]; exact hP, va_K.moved hW.alike hK, hD⟩, hS.F ht⟩) hS.2.2 dX4_level_25
  · skip
    exact g_thrI hx hb hlt hown hts (by decide +kernel) (by decide +kernel) (by decide +kernel) hX (is := 79) (text := "much is below 0") (by decide) hZ hP hK hD hS (hl.1.trans hml.symm) htb (Nat.lt_of_lt_of_le (show 5 < 6 by decide) (Nat.le_of_ble_eq_true rfl)) (Nat.le_of_ble_eq_true rfl) (Nat.le_of_ble_eq_true rfl) (Nat.le_of_ble_eq_true rfl) hlocks (fun t hw9 hF9 => ⟨(), trivial, ⟨Or.inr ⟨rfl, by rw [sp_level, if_pos hw_2, if_neg (by omega)]⟩, hw9⟩, hF9⟩) hS.2.2 (by decide) (by decide) dX4_level_10 dX4_level_13 dX4_level_14 dX4_level_16 dX4_level_19
set_option maxHeartbeats 4000000 in
set_option maxRecDepth 100000 in
theorem c_X4_head (l : Launch) (hlt : l.stackTraces = false) (D : va_G) (cy : Nat → ClassId) (sz : Nat) (sa : Nat → Nat) (K : List Nat) (ad : Nat → Nat) (E : Nat → va_E) (Y : YT) (hKR : KR K Y) (hR : YR cy ad E Y) (hY : WF Y) (a : Int32) : vx_Met l yX4_head wsX4_head ({ frames := 7, cells := 1, slots := 6, locals := 104 } : Room) (va_Pc [.ref ((ad (0))), .int (a)] (wX D cy sz sa (kW K ad E))) (va_Qi (fun (r : Int32) (u : Nat → va_E) => YP cy ad (sp_head Y a) r u) (fun u t => wE D cy (va_A (kW K ad E) sz) (kW K ad u) t) (va_A (kW K ad E) sz)) (vx_X (fun _ : Unit => True) (fun (En : String) _ t => (xOk En (sp_head Y a).1 1 2) ∧ wE D cy (va_A (kW K ad E) sz) (kW K ad E) t) (va_A (kW K ad E) sz)) 1 6 (va_A (kW K ad E) sz) := by
  refine vx_ofW (cc := cX4_head) (maxL := 2) (ret := (some .int)) (by decide) rfl ?_
  intro p e s m args below meth c s₁ B hml htb hv
  obtain ⟨rfl, ⟨⟨hsz, hP, hK, hD0⟩, hN⟩, hX, hZ⟩ := hv
  have hx := B.exec
  have hb := B.bytes
  have hr := B.returns
  have hts := atoms_spec (ws := wsX4_head) B.pre
  have hown : s.vm.findClass RX4 = some m.cls := findClass_of_methodNamed B.named
  have hlocks := B.notSynchronized
  subst hsz
  have hD := hD0.self (sz := s.heap.size)
  generalize hAe : va_A (kW K ad E) s.heap.size = A at hD hZ ⊢
  have hA : ∀ q : Nat, s.heap.size ≤ q → A q := w_A hAe
  have hS : va_S A s.heap s.heap [] := va_S.rf
  have hnd := kW_nd hD
  have hl := lv_entry ([.ref ((ad (0))), .int (a)]) (n := 2) (Nat.le_of_ble_eq_true rfl)
  rw [lg_entry_eq]
  generalize (lg_sl ([.ref ((ad (0))), .int (a)]) ++ List.replicate (2 - (lg_sl ([.ref ((ad (0))), .int (a)])).length) Slot.unset).toArray = ls at hl ⊢
  have hl : lv_has ls 2 [(0, .ref ((ad (0)))), (1, .int (a))] := hl
  obtain ⟨⟨hE0, f1, f2, f3, hE1, hE2, hE3, hr1, hr2, hr3⟩, ⟨f4, f5, hE4, hE5, hbr, hwt⟩, hsaw, hspa, hYf, hYb, hYc⟩ := id hR
  obtain ⟨hy0, hyF, hyB, hyC, hyf, hyb, hyc, hyr, hyw⟩ := id hY
  refine lv_aload_n hx hb dX4_head_0 rfl (lv_at hl 0 rfl) ?_
  refine lv_iload_n hx hb dX4_head_1 rfl (lv_at hl 1 rfl) ?_
  have hFc := w_free hD hS hA
  obtain ⟨p1, hp1⟩ := kW_pos (hKR.m (show keyOk Y (0) by unfold keyOk; omega))
  refine vx_callr (vx_runV (As := [.int (a)]) (rest := []) ⟨hx, hb, hml, hown, hts⟩ (c_X4_formAt l hlt D cy s.heap.size sa K ad E (hKR.m (show keyOk Y (0) by unfold keyOk; omega)) (yF Y) (yB Y) (yC Y) (yNow Y) (hE0) (hKR.m (show keyOk Y (1) by unfold keyOk; omega)) (f1) (hE1) (hr1) (hyF) (a)) (cwV 1 hts gX4_head_X4_formAt rfl rfl rfl (by decide +kernel) ⟨Nat.le_of_ble_eq_true rfl, Nat.le_of_ble_eq_true rfl⟩) ⟨wX_blind, va_recv hK hP (ci := 4) (q0 := p1) rfl (kW_get hp1 hE0), wX_pre hP hK hD hN hX hZ hS hA⟩ rfl rfl hl.1 rfl (lv_room (Nat.le_of_ble_eq_true rfl)) dX4_head_2 ⟨Nat.le_of_ble_eq_true rfl, Nat.le_of_ble_eq_true rfl⟩) hS (fun q _ h => hFc q h) hFc (fun q _ h => hFc q h) (fun En ce q9 u9 t9 H locs ht hvm hpx hBX _ _ hS hce hcv hcl => ?_) (fun u_2 ra_2 t9 H locs ht hvm hw_2 hB _ _ hS => ?_)
  · exact vx_out (fun x hx => (htb x hx).elim) hlocks hce hcv hcl (fun t ht2 hal => ⟨(), trivial, ⟨Or.inl ⟨hBX.1.1, by rw [sp_head, if_neg hBX.1.2]⟩, by rw [ht2, ← ht]; exact hBX.2.1, va_K.moved hal hK, hBX.2.2.2.weaken (fun _ _ _ h => hFc _ h)⟩, hS.F ht2⟩) hS.2.2 (by decide) (by decide)
  obtain ⟨hra_2, hP1, hK1, hD1⟩ := hB
  subst hra_2
  rw [ht] at hP1
  have hP := hP1
  have hD := hD1.weaken (fun _ _ _ h => hFc _ h)
  have hia := ix_lt hw_2
  have hf0 := hYf (ix a) hia
  have hmf : 1000 + ix a ∈ K := (hKR.m (show keyOk Y (1000 + ix a) by unfold keyOk; omega))
  have hfo := hyf (ix a) hia
  refine lv_iconst (v := (nI (0))) hx hb dX4_head_5 (by decide) ?_
  obtain ⟨p2, hp2⟩ := kW_pos hmf
  refine vp_callSi (va_Run.run (va_runV (As := [.int (nI (0))]) (rest := []) ⟨hx, hb, hml, hown, hts⟩ (c_X2_girthAt l D cy K ad E (1000 + ix a) (hmf) (yh Y (ix a)) (yg Y (ix a)) (ye Y (ix a)) (ys Y (ix a)) (hf0) (hfo) (0) (by omega)) (cwV 1 hts gX4_head_X2_girthAt rfl rfl rfl (by decide +kernel) ⟨Nat.le_of_ble_eq_true rfl, Nat.le_of_ble_eq_true rfl⟩) ⟨rB2_blind, va_recv hK hP (ci := 2) (q0 := p2) rfl (kW_get hp2 hf0), (rB2_pre hP hK hN)⟩ rfl rfl hl.1 rfl (lv_room (Nat.le_of_ble_eq_true rfl)) dX4_head_6 ⟨Nat.le_of_ble_eq_true rfl, Nat.le_of_ble_eq_true rfl⟩)) (fun r_6 hr_6 => ?_)
  subst hr_6
  have hgl := girthN_le (yh Y (ix a)) (yg Y (ix a)) (ye Y (ix a)) 0
  refine lv_bipush (v := (nI (113))) hx hb dX4_head_9 (by decide) ?_
  refine g_imul_n hx hb dX4_head_11 ?_
  refine lv_sipush (v := (nI (355))) hx hb dX4_head_12 (by decide) ?_
  refine g_idiv_n hx hb dX4_head_15 (by omega) (by omega) (by omega) ?_
  refine vx_ret ?_
  exact W.iret (v := (nI (((girthN (yh Y (ix a)) (yg Y (ix a)) (ye Y (ix a)) (0)) * 113) / 355))) hx hb hr (fun t ht hW => ⟨⟨_, E, rfl, by rw [sp_head, if_pos hw_2]; exact ⟨rfl, rfl, hR⟩, by rw [ht]; exact hP, va_K.moved hW.alike hK, hD⟩, hS.F ht⟩) hS.2.2 dX4_head_16
set_option maxHeartbeats 4000000 in
set_option maxRecDepth 100000 in
theorem c_X4_clear (l : Launch) (hlt : l.stackTraces = false) (D : va_G) (cy : Nat → ClassId) (sz : Nat) (sa : Nat → Nat) (K : List Nat) (ad : Nat → Nat) (E : Nat → va_E) (Y : YT) (hKR : KR K Y) (hR : YR cy ad E Y) (hY : WF Y) (a : Int32) (b : Int32) (v : Int32) : vx_Met l yX4_clear wsX4_clear ({ frames := 7, cells := 2, slots := 12, locals := 104 } : Room) (va_Pc [.ref ((ad (0))), .int (a), .int (b), .int (v)] (wX D cy sz sa (kW K ad E))) (va_Qi (fun (r : Int32) (u : Nat → va_E) => YP cy ad (sp_clear Y a b v) r u) (fun u t => wE D cy (va_A (kW K ad E) sz) (kW K ad u) t) (va_A (kW K ad E) sz)) (vx_X (fun _ : Unit => True) (fun (En : String) _ t => (xOk En (sp_clear Y a b v).1 1 2) ∧ wE D cy (va_A (kW K ad E) sz) (kW K ad E) t) (va_A (kW K ad E) sz)) 2 12 (va_A (kW K ad E) sz) := by
  refine vx_ofW (cc := cX4_clear) (maxL := 5) (ret := (some .int)) (by decide) rfl ?_
  intro p e s m args below meth c s₁ B hml htb hv
  obtain ⟨rfl, ⟨⟨hsz, hP, hK, hD0⟩, hN⟩, hX, hZ⟩ := hv
  have hx := B.exec
  have hb := B.bytes
  have hr := B.returns
  have hts := atoms_spec (ws := wsX4_clear) B.pre
  have hown : s.vm.findClass RX4 = some m.cls := findClass_of_methodNamed B.named
  have hlocks := B.notSynchronized
  subst hsz
  have hD := hD0.self (sz := s.heap.size)
  generalize hAe : va_A (kW K ad E) s.heap.size = A at hD hZ ⊢
  have hA : ∀ q : Nat, s.heap.size ≤ q → A q := w_A hAe
  have hS : va_S A s.heap s.heap [] := va_S.rf
  have hnd := kW_nd hD
  have hl := lv_entry ([.ref ((ad (0))), .int (a), .int (b), .int (v)]) (n := 5) (Nat.le_of_ble_eq_true rfl)
  rw [lg_entry_eq]
  generalize (lg_sl ([.ref ((ad (0))), .int (a), .int (b), .int (v)]) ++ List.replicate (5 - (lg_sl ([.ref ((ad (0))), .int (a), .int (b), .int (v)])).length) Slot.unset).toArray = ls at hl ⊢
  have hl : lv_has ls 5 [(0, .ref ((ad (0)))), (1, .int (a)), (2, .int (b)), (3, .int (v))] := hl
  obtain ⟨⟨hE0, f1, f2, f3, hE1, hE2, hE3, hr1, hr2, hr3⟩, ⟨f4, f5, hE4, hE5, hbr, hwt⟩, hsaw, hspa, hYf, hYb, hYc⟩ := id hR
  obtain ⟨hy0, hyF, hyB, hyC, hyf, hyb, hyc, hyr, hyw⟩ := id hY
  refine lv_aload_n hx hb dX4_clear_0 rfl (lv_at hl 0 rfl) ?_
  refine lv_iload_n hx hb dX4_clear_1 rfl (lv_at hl 1 rfl) ?_
  have hFc := w_free hD hS hA
  obtain ⟨p1, hp1⟩ := kW_pos (hKR.m (show keyOk Y (0) by unfold keyOk; omega))
  refine vx_callr (vx_runV (As := [.int (a)]) (rest := []) ⟨hx, hb, hml, hown, hts⟩ (c_X4_boltAt l hlt D cy s.heap.size sa K ad E (hKR.m (show keyOk Y (0) by unfold keyOk; omega)) (yF Y) (yB Y) (yC Y) (yNow Y) (hE0) (hKR.m (show keyOk Y (2) by unfold keyOk; omega)) (f2) (hE2) (hr2) (hyB) (a)) (cwV 1 hts gX4_clear_X4_boltAt rfl rfl rfl (by decide +kernel) ⟨Nat.le_of_ble_eq_true rfl, Nat.le_of_ble_eq_true rfl⟩) ⟨wX_blind, va_recv hK hP (ci := 4) (q0 := p1) rfl (kW_get hp1 hE0), wX_pre hP hK hD hN hX hZ hS hA⟩ rfl rfl hl.1 rfl (lv_room (Nat.le_of_ble_eq_true rfl)) dX4_clear_2 ⟨Nat.le_of_ble_eq_true rfl, Nat.le_of_ble_eq_true rfl⟩) hS (fun q _ h => hFc q h) hFc (fun q _ h => hFc q h) (fun En ce q9 u9 t9 H locs ht hvm hpx hBX _ _ hS hce hcv hcl => ?_) (fun u_2 ra_2 t9 H locs ht hvm hw_2 hB _ _ hS => ?_)
  · exact vx_out (fun x hx => (htb x hx).elim) hlocks hce hcv hcl (fun t ht2 hal => ⟨(), trivial, ⟨Or.inl ⟨hBX.1.1, by rw [sp_clear, if_neg (fun q9 => hBX.1.2 q9.1)]⟩, by rw [ht2, ← ht]; exact hBX.2.1, va_K.moved hal hK, hBX.2.2.2.weaken (fun _ _ _ h => hFc _ h)⟩, hS.F ht2⟩) hS.2.2 (by decide) (by decide)
  obtain ⟨hra_2, hP1, hK1, hD1⟩ := hB
  subst hra_2
  rw [ht] at hP1
  have hP := hP1
  have hD := hD1.weaken (fun _ _ _ h => hFc _ h)
  have hia := ix_lt hw_2
  obtain ⟨fB, gB, hb0, hb1, hb2, hbA⟩ := hYb (ix a) hia
  have hbw := hyb (ix a) hia
  have hbl4 := hbw.2.1
  refine lv_astore (lv' := [(4, .ref ((ad (2000 + ix a)))), (0, .ref ((ad (0)))), (1, .int (a)), (2, .int (b)), (3, .int (v))]) hx hb dX4_clear_5 hl (by decide) rfl (fun ls hl => ?_)
  refine lv_iload_n hx hb dX4_clear_7 rfl (lv_at hl 3 rfl) ?_
  refine g_if_lt (tgt := 29) hx hb dX4_clear_8 (by decide) rfl (fun c_8 => ?_) (fun c_8 => ?_)
  · skip
    exact g_thrN hx hb hlt hown hts (by decide +kernel) (by decide +kernel) (by decide +kernel) hX (is := 127) (text := "no such part") (by decide) hZ hP hK hD hS (hl.1.trans hml.symm) htb (Nat.lt_of_lt_of_le (show 5 < 6 by decide) (Nat.le_of_ble_eq_true rfl)) (Nat.le_of_ble_eq_true rfl) (Nat.le_of_ble_eq_true rfl) (Nat.le_of_ble_eq_true rfl) hlocks (fun t hw9 hF9 => ⟨(), trivial, ⟨Or.inl ⟨rfl, by rw [sp_clear, if_neg (fun q9 => by have h91 := q9.2.1.1; have h92 := q9.2.1.2; have h93 := q9.2.2.1; have h94 := q9.2.2.2; omega)]⟩, hw9⟩, hF9⟩) hS.2.2 (by decide) (by decide) dX4_clear_29 dX4_clear_32 dX4_clear_33 dX4_clear_35 dX4_clear_38
  · skip
    refine lv_iload_n hx hb dX4_clear_11 rfl (lv_at hl 3 rfl) ?_
    refine lv_aload hx hb dX4_clear_12 (lv_at hl 0 rfl) ?_
    obtain ⟨p2, hp2⟩ := kW_pos (hKR.m (show keyOk Y (2000 + ix a) by unfold keyOk; omega))
    refine va_get (D := D) (ci := 0) (v := .int (nI ((yP Y (ix a)).length))) (C := RX0) (T := TX0) (N := 4) hx hb hts (by decide +kernel) hown hK hP p2 (kW_get hp2 hb0) rfl 3 (by decide) (hts (.fieldLink RX4 100 "CaskYard$Bolt" "parts" "I") (by decide +kernel)) (fun _ h9 => h9) rfl dX4_clear_14 ?_
    refine g_icmp_ge (tgt := 29) hx hb dX4_clear_17 (by decide) rfl (n_i (by omega)) (fun c_17 => ?_) (fun c_17 => ?_)
    · skip
      exact g_thrN hx hb hlt hown hts (by decide +kernel) (by decide +kernel) (by decide +kernel) hX (is := 127) (text := "no such part") (by decide) hZ hP hK hD hS (hl.1.trans hml.symm) htb (Nat.lt_of_lt_of_le (show 5 < 6 by decide) (Nat.le_of_ble_eq_true rfl)) (Nat.le_of_ble_eq_true rfl) (Nat.le_of_ble_eq_true rfl) (Nat.le_of_ble_eq_true rfl) hlocks (fun t hw9 hF9 => ⟨(), trivial, ⟨Or.inl ⟨rfl, by rw [sp_clear, if_neg (fun q9 => by have h91 := q9.2.1.1; have h92 := q9.2.1.2; have h93 := q9.2.2.1; have h94 := q9.2.2.2; omega)]⟩, hw9⟩, hF9⟩) hS.2.2 (by decide) (by decide) dX4_clear_29 dX4_clear_32 dX4_clear_33 dX4_clear_35 dX4_clear_38
    · skip
      have hnb := ix_n (a := b) (by omega)
      have hxb := ix_c (a := b) (by omega)
      have hl : lv_has ls 5 [(4, .ref ((ad (2000 + ix a)))), (0, .ref ((ad (0)))), (1, .int (a)), (2, .int (nI (ix b))), (3, .int (v))] := by rw [← hnb]; exact hl
      refine lv_iload_n hx hb dX4_clear_20 rfl (lv_at hl 4 rfl) ?_
      refine g_if_lt (tgt := 29) hx hb dX4_clear_21 (by decide) rfl (fun c_21 => ?_) (fun c_21 => ?_)
      · skip
        exact g_thrN hx hb hlt hown hts (by decide +kernel) (by decide +kernel) (by decide +kernel) hX (is := 127) (text := "no such part") (by decide) hZ hP hK hD hS (hl.1.trans hml.symm) htb (Nat.lt_of_lt_of_le (show 5 < 6 by decide) (Nat.le_of_ble_eq_true rfl)) (Nat.le_of_ble_eq_true rfl) (Nat.le_of_ble_eq_true rfl) (Nat.le_of_ble_eq_true rfl) hlocks (fun t hw9 hF9 => ⟨(), trivial, ⟨Or.inl ⟨rfl, by rw [sp_clear, if_neg (fun q9 => by have h91 := q9.2.1.1; have h92 := q9.2.1.2; have h93 := q9.2.2.1; have h94 := q9.2.2.2; omega)]⟩, hw9⟩, hF9⟩) hS.2.2 (by decide) (by decide) dX4_clear_29 dX4_clear_32 dX4_clear_33 dX4_clear_35 dX4_clear_38
      · skip
        refine lv_iload_n hx hb dX4_clear_24 rfl (lv_at hl 4 rfl) ?_
        refine lv_iconst (v := (nI (1))) hx hb dX4_clear_25 (by decide) ?_
        refine g_icmp_le (tgt := 39) hx hb dX4_clear_26 (by decide) rfl (n_i (by omega)) (fun c_26 => ?_) (fun c_26 => ?_)
        · skip
          have hxv := ix_m v
          refine lv_iload_n hx hb dX4_clear_39 rfl (lv_at hl 4 rfl) ?_
          refine g_if_ne (tgt := 53) hx hb dX4_clear_40 (by decide) rfl (fun c_40 => ?_) (fun c_40 => ?_)
          · skip
            refine lv_aload hx hb dX4_clear_53 (lv_at hl 0 rfl) ?_
            obtain ⟨p3, hp3⟩ := kW_pos (hKR.m (show keyOk Y (2000 + ix a) by unfold keyOk; omega))
            refine va_get (D := D) (ci := 0) (v := .ref ((ad (4000 + ix a)))) (C := RX0) (T := TX0) (N := 4) hx hb hts (by decide +kernel) hown hK hP p3 (kW_get hp3 hb0) rfl 2 (by decide) (hts (.fieldLink RX4 106 "CaskYard$Bolt" "end" "[I") (by decide +kernel)) (fun _ h9 => h9) rfl dX4_clear_55 ?_
            refine lv_iload_n hx hb dX4_clear_58 rfl (lv_at hl 3 rfl) ?_
            obtain ⟨p4, hp4⟩ := kW_pos (hKR.m (show keyOk Y (4000 + ix a) by unfold keyOk; omega))
            refine g_iald hx hb hK hP p4 0 (kW_get hp4 hb2) rfl (ix b) rfl (by omega) (by decide) dX4_clear_59 ?_
            refine g_top (y := (nI (((yP Y (ix a)).getD (ix b) (0, 0)).2))) ((arrP_0 hbA (by omega)).2) ?_
            refine vx_ret ?_
            refine W.widen (k := 2) (n := 12) (by omega) (by omega) ?_
            exact W.iret (v := (nI (((yP Y (ix a)).getD (ix b) (0, 0)).2))) hx hb hr (fun t ht hW => ⟨⟨_, E, rfl, by rw [sp_clear, if_pos ⟨hw_2, ⟨by omega, by omega⟩, ⟨by omega, by omega⟩⟩]; exact ⟨rfl, congrArg nI (if_neg (by omega)).symm, hR⟩, by rw [ht]; exact hP, va_K.moved hW.alike hK, hD⟩, hS.F ht⟩) hS.2.2 dX4_clear_60
          · skip
            refine lv_aload hx hb dX4_clear_43 (lv_at hl 0 rfl) ?_
            obtain ⟨p5, hp5⟩ := kW_pos (hKR.m (show keyOk Y (2000 + ix a) by unfold keyOk; omega))
            refine va_get (D := D) (ci := 0) (v := .ref ((ad (3000 + ix a)))) (C := RX0) (T := TX0) (N := 4) hx hb hts (by decide +kernel) hown hK hP p5 (kW_get hp5 hb0) rfl 1 (by decide) (hts (.fieldLink RX4 103 "CaskYard$Bolt" "begin" "[I") (by decide +kernel)) (fun _ h9 => h9) rfl dX4_clear_45 ?_
            refine lv_iload_n hx hb dX4_clear_48 rfl (lv_at hl 3 rfl) ?_
            obtain ⟨p6, hp6⟩ := kW_pos (hKR.m (show keyOk Y (3000 + ix a) by unfold keyOk; omega))
            refine g_iald hx hb hK hP p6 0 (kW_get hp6 hb1) rfl (ix b) rfl (by omega) (by decide) dX4_clear_49 ?_
            refine g_top (y := (nI (((yP Y (ix a)).getD (ix b) (0, 0)).1))) ((arrP_0 hbA (by omega)).1) ?_
            refine lv_goto (tgt := 60) hx hb dX4_clear_50 (by decide) ?_
            refine vx_ret ?_
            refine W.widen (k := 2) (n := 12) (by omega) (by omega) ?_
            exact W.iret (v := (nI (((yP Y (ix a)).getD (ix b) (0, 0)).1))) hx hb hr (fun t ht hW => ⟨⟨_, E, rfl, by rw [sp_clear, if_pos ⟨hw_2, ⟨by omega, by omega⟩, ⟨by omega, by omega⟩⟩]; exact ⟨rfl, congrArg nI (if_pos (by omega)).symm, hR⟩, by rw [ht]; exact hP, va_K.moved hW.alike hK, hD⟩, hS.F ht⟩) hS.2.2 dX4_clear_60
        · skip
          exact g_thrN hx hb hlt hown hts (by decide +kernel) (by decide +kernel) (by decide +kernel) hX (is := 127) (text := "no such part") (by decide) hZ hP hK hD hS (hl.1.trans hml.symm) htb (Nat.lt_of_lt_of_le (show 5 < 6 by decide) (Nat.le_of_ble_eq_true rfl)) (Nat.le_of_ble_eq_true rfl) (Nat.le_of_ble_eq_true rfl) (Nat.le_of_ble_eq_true rfl) hlocks (fun t hw9 hF9 => ⟨(), trivial, ⟨Or.inl ⟨rfl, by rw [sp_clear, if_neg (fun q9 => by have h91 := q9.2.1.1; have h92 := q9.2.1.2; have h93 := q9.2.2.1; have h94 := q9.2.2.2; omega)]⟩, hw9⟩, hF9⟩) hS.2.2 (by decide) (by decide) dX4_clear_29 dX4_clear_32 dX4_clear_33 dX4_clear_35 dX4_clear_38
set_option maxHeartbeats 4000000 in
set_option maxRecDepth 100000 in
theorem c_X4_isRipe (l : Launch) (D : va_G) (cy : Nat → ClassId) (K : List Nat) (ad : Nat → Nat) (E : Nat → va_E) (h0 : 0 ∈ K) (nF nB nC nw : Nat) (hE0 : E 0 = yardO ad nF nB nC nw) (ko : Nat) (hko : ko ∈ K) (ba ea sp : Nat) (pn : Int32) (hEo : E ko = cellB ba ea (nI sp) pn) (hsp : sp ≤ nw ∧ nw ≤ 100000) : Met l yX4_isRipe wsX4_isRipe ({ frames := 0, cells := 0, slots := 0, locals := 0 } : Room) (va_Pc [.ref ((ad (0))), .ref ((ad (ko)))] (rB2 D cy (kW K ad E))) (vp_Si (fun r : Int32 => r = bI (sp + 1095 ≤ nw))) 0 0 (fun _ => False) := by
  refine Met.ofW (cc := cX4_isRipe) (maxL := 2) (ret := (some .boolean)) (by decide) rfl ?_
  intro p e s m args below meth c s₁ B hml hv
  obtain ⟨rfl, hv⟩ := hv
  have hx := B.exec
  have hb := B.bytes
  have hr := B.returns
  have hts := atoms_spec (ws := wsX4_isRipe) B.pre
  have hown : s.vm.findClass RX4 = some m.cls := findClass_of_methodNamed B.named
  have hlocks := B.notSynchronized
  obtain ⟨⟨hP, hK⟩, hN⟩ := hv
  have hl := lv_entry ([.ref ((ad (0))), .ref ((ad (ko)))]) (n := 2) (Nat.le_of_ble_eq_true rfl)
  rw [lg_entry_eq]
  generalize (lg_sl ([.ref ((ad (0))), .ref ((ad (ko)))]) ++ List.replicate (2 - (lg_sl ([.ref ((ad (0))), .ref ((ad (ko)))])).length) Slot.unset).toArray = ls at hl ⊢
  have hl : lv_has ls 2 [(0, .ref ((ad (0)))), (1, .ref ((ad (ko))))] := hl
  refine lv_aload_n hx hb dX4_isRipe_0 rfl (lv_at hl 0 rfl) ?_
  obtain ⟨p1, hp1⟩ := kW_pos h0
  refine va_get (D := D) (ci := 4) (v := .int (nI (nw))) (C := RX4) (T := TX4) (N := 11) hx hb hts (by decide +kernel) hown hK hP p1 (kW_get hp1 hE0) rfl 10 (by decide) (hts (.fieldLink RX4 88 "CaskYard" "now" "I") (by decide +kernel)) (fun _ h9 => h9) rfl dX4_isRipe_1 ?_
  refine lv_aload_n hx hb dX4_isRipe_4 rfl (lv_at hl 1 rfl) ?_
  obtain ⟨p2, hp2⟩ := kW_pos hko
  refine va_get (D := D) (ci := 0) (v := .int (nI (sp))) (C := RX0) (T := TX0) (N := 4) hx hb hts (by decide +kernel) hown hK hP p2 (kW_get hp2 hEo) rfl 0 (by decide) (hts (.fieldLink RX4 239 "CaskYard$Bolt" "split" "I") (by decide +kernel)) (fun _ h9 => h9) rfl dX4_isRipe_5 ?_
  refine g_isub_n hx hb dX4_isRipe_8 (by omega) ?_
  refine lv_sipush (v := (nI (1095))) hx hb dX4_isRipe_9 (by decide) ?_
  refine g_icmp_lt (tgt := 19) hx hb dX4_isRipe_12 (by decide) (n_i (by omega)) (n_i (by omega)) (fun c_12 => ?_) (fun c_12 => ?_)
  · skip
    refine lv_iconst (v := (nI (0))) hx hb dX4_isRipe_19 (by decide) ?_
    exact W.zret (v := (nI (0))) hx hb hr (by decide) (fun t ht hW => ⟨_, rfl, (bI_f (fun q => by omega)).symm, ht⟩) (fun _ h => nomatch h) dX4_isRipe_20
  · skip
    refine lv_iconst (v := (nI (1))) hx hb dX4_isRipe_15 (by decide) ?_
    refine lv_goto (tgt := 20) hx hb dX4_isRipe_16 (by decide) ?_
    exact W.zret (v := (nI (1))) hx hb hr (by decide) (fun t ht hW => ⟨_, rfl, (bI_t (by omega)).symm, ht⟩) (fun _ h => nomatch h) dX4_isRipe_20
set_option maxHeartbeats 4000000 in
set_option maxRecDepth 100000 in
theorem c_X4_ripe (l : Launch) (hlt : l.stackTraces = false) (D : va_G) (cy : Nat → ClassId) (sz : Nat) (sa : Nat → Nat) (K : List Nat) (ad : Nat → Nat) (E : Nat → va_E) (Y : YT) (hKR : KR K Y) (hR : YR cy ad E Y) (hY : WF Y) (a : Int32) : vx_Met l yX4_ripe wsX4_ripe ({ frames := 7, cells := 1, slots := 6, locals := 104 } : Room) (va_Pc [.ref ((ad (0))), .int (a)] (wX D cy sz sa (kW K ad E))) (va_Qi (fun (r : Int32) (u : Nat → va_E) => YP cy ad (sp_ripe Y a) r u) (fun u t => wE D cy (va_A (kW K ad E) sz) (kW K ad u) t) (va_A (kW K ad E) sz)) (vx_X (fun _ : Unit => True) (fun (En : String) _ t => (xOk En (sp_ripe Y a).1 1 2) ∧ wE D cy (va_A (kW K ad E) sz) (kW K ad E) t) (va_A (kW K ad E) sz)) 1 6 (va_A (kW K ad E) sz) := by
  refine vx_ofW (cc := cX4_ripe) (maxL := 2) (ret := (some .boolean)) (by decide) rfl ?_
  intro p e s m args below meth c s₁ B hml htb hv
  obtain ⟨rfl, ⟨⟨hsz, hP, hK, hD0⟩, hN⟩, hX, hZ⟩ := hv
  have hx := B.exec
  have hb := B.bytes
  have hr := B.returns
  have hts := atoms_spec (ws := wsX4_ripe) B.pre
  have hown : s.vm.findClass RX4 = some m.cls := findClass_of_methodNamed B.named
  have hlocks := B.notSynchronized
  subst hsz
  have hD := hD0.self (sz := s.heap.size)
  generalize hAe : va_A (kW K ad E) s.heap.size = A at hD hZ ⊢
  have hA : ∀ q : Nat, s.heap.size ≤ q → A q := w_A hAe
  have hS : va_S A s.heap s.heap [] := va_S.rf
  have hnd := kW_nd hD
  have hl := lv_entry ([.ref ((ad (0))), .int (a)]) (n := 2) (Nat.le_of_ble_eq_true rfl)
  rw [lg_entry_eq]
  generalize (lg_sl ([.ref ((ad (0))), .int (a)]) ++ List.replicate (2 - (lg_sl ([.ref ((ad (0))), .int (a)])).length) Slot.unset).toArray = ls at hl ⊢
  have hl : lv_has ls 2 [(0, .ref ((ad (0)))), (1, .int (a))] := hl
  obtain ⟨⟨hE0, f1, f2, f3, hE1, hE2, hE3, hr1, hr2, hr3⟩, ⟨f4, f5, hE4, hE5, hbr, hwt⟩, hsaw, hspa, hYf, hYb, hYc⟩ := id hR
  obtain ⟨hy0, hyF, hyB, hyC, hyf, hyb, hyc, hyr, hyw⟩ := id hY
  refine lv_aload_n hx hb dX4_ripe_0 rfl (lv_at hl 0 rfl) ?_
  refine lv_aload_n hx hb dX4_ripe_1 rfl (lv_at hl 0 rfl) ?_
  refine lv_iload_n hx hb dX4_ripe_2 rfl (lv_at hl 1 rfl) ?_
  have hFc := w_free hD hS hA
  obtain ⟨p1, hp1⟩ := kW_pos (hKR.m (show keyOk Y (0) by unfold keyOk; omega))
  refine vx_callr (vx_runV (As := [.int (a)]) (rest := [.ref ((ad (0)))]) ⟨hx, hb, hml, hown, hts⟩ (c_X4_boltAt l hlt D cy s.heap.size sa K ad E (hKR.m (show keyOk Y (0) by unfold keyOk; omega)) (yF Y) (yB Y) (yC Y) (yNow Y) (hE0) (hKR.m (show keyOk Y (2) by unfold keyOk; omega)) (f2) (hE2) (hr2) (hyB) (a)) (cwV 1 hts gX4_ripe_X4_boltAt rfl rfl rfl (by decide +kernel) ⟨Nat.le_of_ble_eq_true rfl, Nat.le_of_ble_eq_true rfl⟩) ⟨wX_blind, va_recv hK hP (ci := 4) (q0 := p1) rfl (kW_get hp1 hE0), wX_pre hP hK hD hN hX hZ hS hA⟩ rfl rfl hl.1 rfl (lv_room (Nat.le_of_ble_eq_true rfl)) dX4_ripe_3 ⟨Nat.le_of_ble_eq_true rfl, Nat.le_of_ble_eq_true rfl⟩) hS (fun q _ h => hFc q h) hFc (fun q _ h => hFc q h) (fun En ce q9 u9 t9 H locs ht hvm hpx hBX _ _ hS hce hcv hcl => ?_) (fun u_3 ra_3 t9 H locs ht hvm hw_3 hB _ _ hS => ?_)
  · exact vx_out (fun x hx => (htb x hx).elim) hlocks hce hcv hcl (fun t ht2 hal => ⟨(), trivial, ⟨Or.inl ⟨hBX.1.1, by rw [sp_ripe, if_neg hBX.1.2]⟩, by rw [ht2, ← ht]; exact hBX.2.1, va_K.moved hal hK, hBX.2.2.2.weaken (fun _ _ _ h => hFc _ h)⟩, hS.F ht2⟩) hS.2.2 (by decide) (by decide)
  obtain ⟨hra_3, hP1, hK1, hD1⟩ := hB
  subst hra_3
  rw [ht] at hP1
  have hP := hP1
  have hD := hD1.weaken (fun _ _ _ h => hFc _ h)
  have hia := ix_lt hw_3
  obtain ⟨fB, gB, hb0, hb1, hb2, hbA⟩ := hYb (ix a) hia
  have hbw := hyb (ix a) hia
  have hbl4 := hbw.2.1
  obtain ⟨p2, hp2⟩ := kW_pos (hKR.m (show keyOk Y (0) by unfold keyOk; omega))
  refine vp_callSi (va_Run.run (va_runV (As := [.ref ((ad (2000 + ix a)))]) (rest := []) ⟨hx, hb, hml, hown, hts⟩ (c_X4_isRipe l D cy K ad E (hKR.m (show keyOk Y (0) by unfold keyOk; omega)) (yF Y) (yB Y) (yC Y) (yNow Y) (hE0) (2000 + ix a) (hKR.m (show keyOk Y (2000 + ix a) by unfold keyOk; omega)) (ad (3000 + ix a)) (ad (4000 + ix a)) (ysp Y (ix a)) (nI ((yP Y (ix a)).length)) (hb0) (⟨(hyb (ix a) (by omega)).1, hy0⟩)) (cwV 1 hts gX4_ripe_X4_isRipe rfl rfl rfl (by decide +kernel) ⟨Nat.le_of_ble_eq_true rfl, Nat.le_of_ble_eq_true rfl⟩) ⟨rB2_blind, va_recv hK hP (ci := 4) (q0 := p2) rfl (kW_get hp2 hE0), (rB2_pre hP hK hN)⟩ rfl rfl hl.1 rfl (lv_room (Nat.le_of_ble_eq_true rfl)) dX4_ripe_6 ⟨Nat.le_of_ble_eq_true rfl, Nat.le_of_ble_eq_true rfl⟩)) (fun r_6 hr_6 => ?_)
  subst hr_6
  refine vx_ret ?_
  exact W.zret (v := (bI ((ysp Y (ix a)) + 1095 ≤ (yNow Y)))) hx hb hr (bI_nar _) (fun t ht hW => ⟨⟨_, E, rfl, by rw [sp_ripe, if_pos hw_3]; exact ⟨rfl, rfl, hR⟩, by rw [ht]; exact hP, va_K.moved hW.alike hK, hD⟩, hS.F ht⟩) hS.2.2 dX4_ripe_9
set_option maxHeartbeats 4000000 in
set_option maxRecDepth 100000 in
theorem c_X4_stave (l : Launch) (hlt : l.stackTraces = false) (D : va_G) (cy : Nat → ClassId) (sz : Nat) (sa : Nat → Nat) (K : List Nat) (ad : Nat → Nat) (E : Nat → va_E) (Y : YT) (hKR : KR K Y) (hR : YR cy ad E Y) (hY : WF Y) (a : Int32) (b : Int32) (v : Int32) : vx_Met l yX4_stave wsX4_stave ({ frames := 7, cells := 3, slots := 18, locals := 104 } : Room) (va_Pc [.ref ((ad (0))), .int (a), .int (b), .int (v)] (wX D cy sz sa (kW K ad E))) (va_Qi (fun (r : Int32) (u : Nat → va_E) => YP cy ad (sp_stave Y a b v) r u) (fun u t => wE D cy (va_A (kW K ad E) sz) (kW K ad u) t) (va_A (kW K ad E) sz)) (vx_X (fun _ : Unit => True) (fun (En : String) _ t => (xOk En (sp_stave Y a b v).1 1 2) ∧ wE D cy (va_A (kW K ad E) sz) (kW K ad E) t) (va_A (kW K ad E) sz)) 3 18 (va_A (kW K ad E) sz) := by
  refine vx_ofW (cc := cX4_stave) (maxL := 5) (ret := (some .int)) (by decide) rfl ?_
  intro p e s m args below meth c s₁ B hml htb hv
  obtain ⟨rfl, ⟨⟨hsz, hP, hK, hD0⟩, hN⟩, hX, hZ⟩ := hv
  have hx := B.exec
  have hb := B.bytes
  have hr := B.returns
  have hts := atoms_spec (ws := wsX4_stave) B.pre
  have hown : s.vm.findClass RX4 = some m.cls := findClass_of_methodNamed B.named
  have hlocks := B.notSynchronized
  subst hsz
  have hD := hD0.self (sz := s.heap.size)
  generalize hAe : va_A (kW K ad E) s.heap.size = A at hD hZ ⊢
  have hA : ∀ q : Nat, s.heap.size ≤ q → A q := w_A hAe
  have hS : va_S A s.heap s.heap [] := va_S.rf
  have hnd := kW_nd hD
  have hl := lv_entry ([.ref ((ad (0))), .int (a), .int (b), .int (v)]) (n := 5) (Nat.le_of_ble_eq_true rfl)
  rw [lg_entry_eq]
  generalize (lg_sl ([.ref ((ad (0))), .int (a), .int (b), .int (v)]) ++ List.replicate (5 - (lg_sl ([.ref ((ad (0))), .int (a), .int (b), .int (v)])).length) Slot.unset).toArray = ls at hl ⊢
  have hl : lv_has ls 5 [(0, .ref ((ad (0)))), (1, .int (a)), (2, .int (b)), (3, .int (v))] := hl
  obtain ⟨⟨hE0, f1, f2, f3, hE1, hE2, hE3, hr1, hr2, hr3⟩, ⟨f4, f5, hE4, hE5, hbr, hwt⟩, hsaw, hspa, hYf, hYb, hYc⟩ := id hR
  obtain ⟨hy0, hyF, hyB, hyC, hyf, hyb, hyc, hyr, hyw⟩ := id hY
  refine lv_aload_n hx hb dX4_stave_0 rfl (lv_at hl 0 rfl) ?_
  refine lv_iload_n hx hb dX4_stave_1 rfl (lv_at hl 1 rfl) ?_
  have hFc := w_free hD hS hA
  obtain ⟨p1, hp1⟩ := kW_pos (hKR.m (show keyOk Y (0) by unfold keyOk; omega))
  refine vx_callr (vx_runV (As := [.int (a)]) (rest := []) ⟨hx, hb, hml, hown, hts⟩ (c_X4_caskAt l hlt D cy s.heap.size sa K ad E (hKR.m (show keyOk Y (0) by unfold keyOk; omega)) (yF Y) (yB Y) (yC Y) (yNow Y) (hE0) (hKR.m (show keyOk Y (3) by unfold keyOk; omega)) (f3) (hE3) (hr3) (hyC) (a)) (cwV 1 hts gX4_stave_X4_caskAt rfl rfl rfl (by decide +kernel) ⟨Nat.le_of_ble_eq_true rfl, Nat.le_of_ble_eq_true rfl⟩) ⟨wX_blind, va_recv hK hP (ci := 4) (q0 := p1) rfl (kW_get hp1 hE0), wX_pre hP hK hD hN hX hZ hS hA⟩ rfl rfl hl.1 rfl (lv_room (Nat.le_of_ble_eq_true rfl)) dX4_stave_2 ⟨Nat.le_of_ble_eq_true rfl, Nat.le_of_ble_eq_true rfl⟩) hS (fun q _ h => hFc q h) hFc (fun q _ h => hFc q h) (fun En ce q9 u9 t9 H locs ht hvm hpx hBX _ _ hS hce hcv hcl => ?_) (fun u_2 ra_2 t9 H locs ht hvm hw_2 hB _ _ hS => ?_)
  · exact vx_out (fun x hx => (htb x hx).elim) hlocks hce hcv hcl (fun t ht2 hal => ⟨(), trivial, ⟨Or.inl ⟨hBX.1.1, by rw [sp_stave, if_neg (fun q9 => hBX.1.2 q9.1)]⟩, by rw [ht2, ← ht]; exact hBX.2.1, va_K.moved hal hK, hBX.2.2.2.weaken (fun _ _ _ h => hFc _ h)⟩, hS.F ht2⟩) hS.2.2 (by decide) (by decide)
  obtain ⟨hra_2, hP1, hK1, hD1⟩ := hB
  subst hra_2
  rw [ht] at hP1
  have hP := hP1
  have hD := hD1.weaken (fun _ _ _ h => hFc _ h)
  have hiaa := ix_lt hw_2
  obtain ⟨fb, fp, fd, ft, fk, hc0, hc1, hc2, hc3, hc4, hc5, hcbp, hcE⟩ := hYc (ix a) (by omega)
  have hcwhc := hyc (ix a) (by omega)
  have hfhc := hYf (ycf Y (ix a)) hcwhc.1
  have hfohc := hyf (ycf Y (ix a)) hcwhc.1
  have hcfhc := hcwhc.1
  have hmfhc : 1000 + ycf Y (ix a) ∈ K := (hKR.m (show keyOk Y (1000 + ycf Y (ix a)) by unfold keyOk; omega))
  have hqhc : ∀ q ∈ yE Y (ix a), q.1 ≤ 100000 ∧ q.2.1 ≤ 100000 ∧ q.2.2 ≤ 16 := fun q hq => by have h9 := hcwhc.2.2.1 q hq; exact ⟨by omega, by omega, h9.2.2⟩
  refine lv_astore (lv' := [(4, .ref ((ad (5000 + ix a)))), (0, .ref ((ad (0)))), (1, .int (a)), (2, .int (b)), (3, .int (v))]) hx hb dX4_stave_5 hl (by decide) rfl (fun ls hl => ?_)
  refine lv_aload hx hb dX4_stave_7 (lv_at hl 0 rfl) ?_
  obtain ⟨p2, hp2⟩ := kW_pos (hKR.m (show keyOk Y (5000 + ix a) by unfold keyOk; omega))
  refine va_get (D := D) (ci := 1) (v := .ref ((ad (1000 + ycf Y (ix a))))) (C := RX1) (T := TX1) (N := 8) hx hb hts (by decide +kernel) hown hK hP p2 (kW_get hp2 hc0) rfl 1 (by decide) (hts (.fieldLink RX4 168 "CaskYard$Cask" "shape" "LCaskYard$Form;") (by decide +kernel)) (fun _ h9 => h9) rfl dX4_stave_9 ?_
  refine lv_iload_n hx hb dX4_stave_12 rfl (lv_at hl 3 rfl) ?_
  have hFc := w_free hD hS hA
  refine vx_callv (vx_runS (As := [.ref ((ad (1000 + ycf Y (ix a)))), .int (b)]) (rest := []) ⟨hx, hb, hml, hown, hts⟩ (c_X4_checkStave l hlt D cy H.size sa K ad E (1000 + ycf Y (ix a)) (hmfhc) (yh Y (ycf Y (ix a))) (yg Y (ycf Y (ix a))) (ye Y (ycf Y (ix a))) (ys Y (ycf Y (ix a))) (hfhc) (hfohc) (b)) (va_cwS 2 hts gX4_stave_X4_checkStave rfl rfl rfl (by decide +kernel) ⟨Nat.le_of_ble_eq_true rfl, Nat.le_of_ble_eq_true rfl⟩) ⟨wX_blind, wX_pre hP hK hD hN hX hZ hS hA⟩ rfl rfl hl.1 rfl (lv_room (Nat.le_of_ble_eq_true rfl)) dX4_stave_13 ⟨Nat.le_of_ble_eq_true rfl, Nat.le_of_ble_eq_true rfl⟩) hS (fun q _ h => hFc q h) hFc (fun q _ h => hFc q h) (fun En ce q9 u9 t9 H locs ht hvm hpx hBX _ _ hS hce hcv hcl => ?_) (fun u_13 t9 H locs ht hvm hw_13 hB _ _ hS => ?_)
  · exact vx_out (fun x hx => (htb x hx).elim) hlocks hce hcv hcl (fun t ht2 hal => ⟨(), trivial, ⟨Or.inl ⟨hBX.1.1, by rw [sp_stave, if_neg (fun q9 => hBX.1.2 q9.2.1)]⟩, by rw [ht2, ← ht]; exact hBX.2.1, va_K.moved hal hK, hBX.2.2.2.weaken (fun _ _ _ h => hFc _ h)⟩, hS.F ht2⟩) hS.2.2 (by decide) (by decide)
  obtain ⟨hP1, hK1, hD1⟩ := hB
  rw [ht] at hP1
  have hP := hP1
  have hD := hD1.weaken (fun _ _ _ h => hFc _ h)
  obtain ⟨hue_13, hok_13⟩ := hw_13
  rw [hue_13] at hP hD
  have hxb := ix_c hok_13.1
  have hltb := ix_lt hok_13
  have hnb := ix_n hok_13.1
  have hl : lv_has ls 5 [(4, .ref ((ad (5000 + ix a)))), (0, .ref ((ad (0)))), (1, .int (a)), (2, .int (nI (ix b))), (3, .int (v))] := by rw [← hnb]; exact hl
  refine lv_iload_n hx hb dX4_stave_16 rfl (lv_at hl 4 rfl) ?_
  refine g_if_lt (tgt := 25) hx hb dX4_stave_17 (by decide) rfl (fun c_17 => ?_) (fun c_17 => ?_)
  · skip
    exact g_thrN hx hb hlt hown hts (by decide +kernel) (by decide +kernel) (by decide +kernel) hX (is := 172) (text := "no such what") (by decide) hZ hP hK hD hS (hl.1.trans hml.symm) htb (Nat.lt_of_lt_of_le (show 5 < 6 by decide) (Nat.le_of_ble_eq_true rfl)) (Nat.le_of_ble_eq_true rfl) (Nat.le_of_ble_eq_true rfl) (Nat.le_of_ble_eq_true rfl) hlocks (fun t hw9 hF9 => ⟨(), trivial, ⟨Or.inl ⟨rfl, by rw [sp_stave, if_neg (fun q9 => by have h93 := q9.2.2.1; have h94 := q9.2.2.2; omega)]⟩, hw9⟩, hF9⟩) hS.2.2 (by decide) (by decide) dX4_stave_25 dX4_stave_28 dX4_stave_29 dX4_stave_31 dX4_stave_34
  · skip
    refine lv_iload_n hx hb dX4_stave_20 rfl (lv_at hl 4 rfl) ?_
    refine lv_iconst (v := (nI (2))) hx hb dX4_stave_21 (by decide) ?_
    refine g_icmp_le (tgt := 35) hx hb dX4_stave_22 (by decide) rfl (n_i (by omega)) (fun c_22 => ?_) (fun c_22 => ?_)
    · skip
      have hxv := ix_m v
      refine lv_iload_n hx hb dX4_stave_35 rfl (lv_at hl 4 rfl) ?_
      refine lv_iconst (v := (nI (2))) hx hb dX4_stave_36 (by decide) ?_
      refine g_icmp_ne (tgt := 50) hx hb dX4_stave_37 (by decide) rfl (n_i (by omega)) (fun c_37 => ?_) (fun c_37 => ?_)
      · skip
        refine lv_iload_n hx hb dX4_stave_50 rfl (lv_at hl 4 rfl) ?_
        refine g_if_ne (tgt := 64) hx hb dX4_stave_51 (by decide) rfl (fun c_51 => ?_) (fun c_51 => ?_)
        · skip
          refine lv_aload hx hb dX4_stave_64 (lv_at hl 0 rfl) ?_
          obtain ⟨p3, hp3⟩ := kW_pos (hKR.m (show keyOk Y (5000 + ix a) by unfold keyOk; omega))
          refine va_get (D := D) (ci := 1) (v := .ref ((ad (7000 + ix a)))) (C := RX1) (T := TX1) (N := 8) hx hb hts (by decide +kernel) hown hK hP p3 (kW_get hp3 hc0) rfl 3 (by decide) (hts (.fieldLink RX4 180 "CaskYard$Cask" "past" "[I") (by decide +kernel)) (fun _ h9 => h9) rfl dX4_stave_66 ?_
          refine lv_iload_n hx hb dX4_stave_69 rfl (lv_at hl 3 rfl) ?_
          obtain ⟨p4, hp4⟩ := kW_pos (hKR.m (show keyOk Y (7000 + ix a) by unfold keyOk; omega))
          refine g_iald hx hb hK hP p4 0 (kW_get hp4 hc2) rfl (ix b) rfl (by omega) (by decide) dX4_stave_70 ?_
          refine g_top (y := (nI (ypa Y (ix a) (ix b)))) ((hcbp (ix b) (by omega)).2) ?_
          refine vx_ret ?_
          refine W.widen (k := 3) (n := 18) (by omega) (by omega) ?_
          exact W.iret (v := (nI (ypa Y (ix a) (ix b)))) hx hb hr (fun t ht hW => ⟨⟨_, E, rfl, by rw [sp_stave, if_pos ⟨hw_2, hok_13, ⟨by omega, by omega⟩⟩]; exact ⟨rfl, by rw [if_neg (by omega), if_pos (by omega)], hR⟩, by rw [ht]; exact hP, va_K.moved hW.alike hK, hD⟩, hS.F ht⟩) hS.2.2 dX4_stave_71
        · skip
          refine lv_aload hx hb dX4_stave_54 (lv_at hl 0 rfl) ?_
          obtain ⟨p5, hp5⟩ := kW_pos (hKR.m (show keyOk Y (5000 + ix a) by unfold keyOk; omega))
          refine va_get (D := D) (ci := 1) (v := .ref ((ad (6000 + ix a)))) (C := RX1) (T := TX1) (N := 8) hx hb hts (by decide +kernel) hown hK hP p5 (kW_get hp5 hc0) rfl 2 (by decide) (hts (.fieldLink RX4 177 "CaskYard$Cask" "boltOf" "[I") (by decide +kernel)) (fun _ h9 => h9) rfl dX4_stave_56 ?_
          refine lv_iload_n hx hb dX4_stave_59 rfl (lv_at hl 3 rfl) ?_
          obtain ⟨p6, hp6⟩ := kW_pos (hKR.m (show keyOk Y (6000 + ix a) by unfold keyOk; omega))
          refine g_iald hx hb hK hP p6 0 (kW_get hp6 hc1) rfl (ix b) rfl (by omega) (by decide) dX4_stave_60 ?_
          refine g_top (y := (nI (ybo Y (ix a) (ix b)))) ((hcbp (ix b) (by omega)).1) ?_
          refine lv_goto (tgt := 71) hx hb dX4_stave_61 (by decide) ?_
          refine vx_ret ?_
          refine W.widen (k := 3) (n := 18) (by omega) (by omega) ?_
          exact W.iret (v := (nI (ybo Y (ix a) (ix b)))) hx hb hr (fun t ht hW => ⟨⟨_, E, rfl, by rw [sp_stave, if_pos ⟨hw_2, hok_13, ⟨by omega, by omega⟩⟩]; exact ⟨rfl, by rw [if_pos (by omega)], hR⟩, by rw [ht]; exact hP, va_K.moved hW.alike hK, hD⟩, hS.F ht⟩) hS.2.2 dX4_stave_71
      · skip
        refine lv_aload hx hb dX4_stave_40 (lv_at hl 0 rfl) ?_
        obtain ⟨p7, hp7⟩ := kW_pos (hKR.m (show keyOk Y (5000 + ix a) by unfold keyOk; omega))
        refine va_get (D := D) (ci := 1) (v := .ref ((ad (1000 + ycf Y (ix a))))) (C := RX1) (T := TX1) (N := 8) hx hb hts (by decide +kernel) hown hK hP p7 (kW_get hp7 hc0) rfl 1 (by decide) (hts (.fieldLink RX4 168 "CaskYard$Cask" "shape" "LCaskYard$Form;") (by decide +kernel)) (fun _ h9 => h9) rfl dX4_stave_42 ?_
        refine lv_iload_n hx hb dX4_stave_45 rfl (lv_at hl 3 rfl) ?_
        obtain ⟨p8, hp8⟩ := kW_pos hmfhc
        refine vp_callSi (va_Run.run (va_runV (As := [.int (nI (ix b))]) (rest := []) ⟨hx, hb, hml, hown, hts⟩ (c_X2_bilgeWidth l D cy K ad E (1000 + ycf Y (ix a)) (hmfhc) (yh Y (ycf Y (ix a))) (yg Y (ycf Y (ix a))) (ye Y (ycf Y (ix a))) (ys Y (ycf Y (ix a))) (hfhc) (hfohc) (ix b) (by omega)) (cwV 1 hts gX4_stave_X2_bilgeWidth rfl rfl rfl (by decide +kernel) ⟨Nat.le_of_ble_eq_true rfl, Nat.le_of_ble_eq_true rfl⟩) ⟨rB2_blind, va_recv hK hP (ci := 2) (q0 := p8) rfl (kW_get hp8 hfhc), (rB2_pre hP hK hN)⟩ rfl rfl hl.1 rfl (lv_room (Nat.le_of_ble_eq_true rfl)) dX4_stave_46 ⟨Nat.le_of_ble_eq_true rfl, Nat.le_of_ble_eq_true rfl⟩)) (fun r_46 hr_46 => ?_)
        subst hr_46
        refine vx_ret ?_
        refine W.widen (k := 3) (n := 18) (by omega) (by omega) ?_
        exact W.iret (v := (nI (widthN (ys Y (ycf Y (ix a))) (ix b) (yg Y (ycf Y (ix a)))))) hx hb hr (fun t ht hW => ⟨⟨_, E, rfl, by rw [sp_stave, if_pos ⟨hw_2, hok_13, ⟨by omega, by omega⟩⟩]; exact ⟨rfl, by rw [if_neg (by omega), if_neg (by omega), mid_w hfohc], hR⟩, by rw [ht]; exact hP, va_K.moved hW.alike hK, hD⟩, hS.F ht⟩) hS.2.2 dX4_stave_49
    · skip
      exact g_thrN hx hb hlt hown hts (by decide +kernel) (by decide +kernel) (by decide +kernel) hX (is := 172) (text := "no such what") (by decide) hZ hP hK hD hS (hl.1.trans hml.symm) htb (Nat.lt_of_lt_of_le (show 5 < 6 by decide) (Nat.le_of_ble_eq_true rfl)) (Nat.le_of_ble_eq_true rfl) (Nat.le_of_ble_eq_true rfl) (Nat.le_of_ble_eq_true rfl) hlocks (fun t hw9 hF9 => ⟨(), trivial, ⟨Or.inl ⟨rfl, by rw [sp_stave, if_neg (fun q9 => by have h93 := q9.2.2.1; have h94 := q9.2.2.2; omega)]⟩, hw9⟩, hF9⟩) hS.2.2 (by decide) (by decide) dX4_stave_25 dX4_stave_28 dX4_stave_29 dX4_stave_31 dX4_stave_34
set_option maxHeartbeats 4000000 in
set_option maxRecDepth 100000 in
theorem c_X4_formOf (l : Launch) (hlt : l.stackTraces = false) (D : va_G) (cy : Nat → ClassId) (sz : Nat) (sa : Nat → Nat) (K : List Nat) (ad : Nat → Nat) (E : Nat → va_E) (Y : YT) (hKR : KR K Y) (hR : YR cy ad E Y) (hY : WF Y) (a : Int32) : vx_Met l yX4_formOf wsX4_formOf ({ frames := 7, cells := 1, slots := 6, locals := 104 } : Room) (va_Pc [.ref ((ad (0))), .int (a)] (wX D cy sz sa (kW K ad E))) (va_Qi (fun (r : Int32) (u : Nat → va_E) => YP cy ad (sp_formOf Y a) r u) (fun u t => wE D cy (va_A (kW K ad E) sz) (kW K ad u) t) (va_A (kW K ad E) sz)) (vx_X (fun _ : Unit => True) (fun (En : String) _ t => (xOk En (sp_formOf Y a).1 1 2) ∧ wE D cy (va_A (kW K ad E) sz) (kW K ad E) t) (va_A (kW K ad E) sz)) 1 6 (va_A (kW K ad E) sz) := by
  refine vx_ofW (cc := cX4_formOf) (maxL := 2) (ret := (some .int)) (by decide) rfl ?_
  intro p e s m args below meth c s₁ B hml htb hv
  obtain ⟨rfl, ⟨⟨hsz, hP, hK, hD0⟩, hN⟩, hX, hZ⟩ := hv
  have hx := B.exec
  have hb := B.bytes
  have hr := B.returns
  have hts := atoms_spec (ws := wsX4_formOf) B.pre
  have hown : s.vm.findClass RX4 = some m.cls := findClass_of_methodNamed B.named
  have hlocks := B.notSynchronized
  subst hsz
  have hD := hD0.self (sz := s.heap.size)
  generalize hAe : va_A (kW K ad E) s.heap.size = A at hD hZ ⊢
  have hA : ∀ q : Nat, s.heap.size ≤ q → A q := w_A hAe
  have hS : va_S A s.heap s.heap [] := va_S.rf
  have hnd := kW_nd hD
  have hl := lv_entry ([.ref ((ad (0))), .int (a)]) (n := 2) (Nat.le_of_ble_eq_true rfl)
  rw [lg_entry_eq]
  generalize (lg_sl ([.ref ((ad (0))), .int (a)]) ++ List.replicate (2 - (lg_sl ([.ref ((ad (0))), .int (a)])).length) Slot.unset).toArray = ls at hl ⊢
  have hl : lv_has ls 2 [(0, .ref ((ad (0)))), (1, .int (a))] := hl
  obtain ⟨⟨hE0, f1, f2, f3, hE1, hE2, hE3, hr1, hr2, hr3⟩, ⟨f4, f5, hE4, hE5, hbr, hwt⟩, hsaw, hspa, hYf, hYb, hYc⟩ := id hR
  obtain ⟨hy0, hyF, hyB, hyC, hyf, hyb, hyc, hyr, hyw⟩ := id hY
  refine lv_aload_n hx hb dX4_formOf_0 rfl (lv_at hl 0 rfl) ?_
  refine lv_iload_n hx hb dX4_formOf_1 rfl (lv_at hl 1 rfl) ?_
  have hFc := w_free hD hS hA
  obtain ⟨p1, hp1⟩ := kW_pos (hKR.m (show keyOk Y (0) by unfold keyOk; omega))
  refine vx_callr (vx_runV (As := [.int (a)]) (rest := []) ⟨hx, hb, hml, hown, hts⟩ (c_X4_caskAt l hlt D cy s.heap.size sa K ad E (hKR.m (show keyOk Y (0) by unfold keyOk; omega)) (yF Y) (yB Y) (yC Y) (yNow Y) (hE0) (hKR.m (show keyOk Y (3) by unfold keyOk; omega)) (f3) (hE3) (hr3) (hyC) (a)) (cwV 1 hts gX4_formOf_X4_caskAt rfl rfl rfl (by decide +kernel) ⟨Nat.le_of_ble_eq_true rfl, Nat.le_of_ble_eq_true rfl⟩) ⟨wX_blind, va_recv hK hP (ci := 4) (q0 := p1) rfl (kW_get hp1 hE0), wX_pre hP hK hD hN hX hZ hS hA⟩ rfl rfl hl.1 rfl (lv_room (Nat.le_of_ble_eq_true rfl)) dX4_formOf_2 ⟨Nat.le_of_ble_eq_true rfl, Nat.le_of_ble_eq_true rfl⟩) hS (fun q _ h => hFc q h) hFc (fun q _ h => hFc q h) (fun En ce q9 u9 t9 H locs ht hvm hpx hBX _ _ hS hce hcv hcl => ?_) (fun u_2 ra_2 t9 H locs ht hvm hw_2 hB _ _ hS => ?_)
  · exact vx_out (fun x hx => (htb x hx).elim) hlocks hce hcv hcl (fun t ht2 hal => ⟨(), trivial, ⟨Or.inl ⟨hBX.1.1, by rw [sp_formOf, if_neg hBX.1.2]⟩, by rw [ht2, ← ht]; exact hBX.2.1, va_K.moved hal hK, hBX.2.2.2.weaken (fun _ _ _ h => hFc _ h)⟩, hS.F ht2⟩) hS.2.2 (by decide) (by decide)
  obtain ⟨hra_2, hP1, hK1, hD1⟩ := hB
  subst hra_2
  rw [ht] at hP1
  have hP := hP1
  have hD := hD1.weaken (fun _ _ _ h => hFc _ h)
  have hiaa := ix_lt hw_2
  obtain ⟨fb, fp, fd, ft, fk, hc0, hc1, hc2, hc3, hc4, hc5, hcbp, hcE⟩ := hYc (ix a) (by omega)
  have hcwhc := hyc (ix a) (by omega)
  have hfhc := hYf (ycf Y (ix a)) hcwhc.1
  have hfohc := hyf (ycf Y (ix a)) hcwhc.1
  have hcfhc := hcwhc.1
  have hmfhc : 1000 + ycf Y (ix a) ∈ K := (hKR.m (show keyOk Y (1000 + ycf Y (ix a)) by unfold keyOk; omega))
  have hqhc : ∀ q ∈ yE Y (ix a), q.1 ≤ 100000 ∧ q.2.1 ≤ 100000 ∧ q.2.2 ≤ 16 := fun q hq => by have h9 := hcwhc.2.2.1 q hq; exact ⟨by omega, by omega, h9.2.2⟩
  obtain ⟨p2, hp2⟩ := kW_pos (hKR.m (show keyOk Y (5000 + ix a) by unfold keyOk; omega))
  refine va_get (D := D) (ci := 1) (v := .int (nI (ycf Y (ix a)))) (C := RX1) (T := TX1) (N := 8) hx hb hts (by decide +kernel) hown hK hP p2 (kW_get hp2 hc0) rfl 0 (by decide) (hts (.fieldLink RX4 183 "CaskYard$Cask" "formNumber" "I") (by decide +kernel)) (fun _ h9 => h9) rfl dX4_formOf_5 ?_
  refine vx_ret ?_
  exact W.iret (v := (nI (ycf Y (ix a)))) hx hb hr (fun t ht hW => ⟨⟨_, E, rfl, by rw [sp_formOf, if_pos hw_2]; exact ⟨rfl, rfl, hR⟩, by rw [ht]; exact hP, va_K.moved hW.alike hK, hD⟩, hS.F ht⟩) hS.2.2 dX4_formOf_8
set_option maxHeartbeats 4000000 in
set_option maxRecDepth 100000 in
theorem c_X4_held (l : Launch) (hlt : l.stackTraces = false) (D : va_G) (cy : Nat → ClassId) (sz : Nat) (sa : Nat → Nat) (K : List Nat) (ad : Nat → Nat) (E : Nat → va_E) (Y : YT) (hKR : KR K Y) (hR : YR cy ad E Y) (hY : WF Y) (a : Int32) (b : Int32) (v : Int32) : vx_Met l yX4_held wsX4_held ({ frames := 7, cells := 1, slots := 6, locals := 104 } : Room) (va_Pc [.ref ((ad (0))), .int (a), .int (b), .int (v)] (wX D cy sz sa (kW K ad E))) (va_Qi (fun (r : Int32) (u : Nat → va_E) => YP cy ad (sp_held Y a b v) r u) (fun u t => wE D cy (va_A (kW K ad E) sz) (kW K ad u) t) (va_A (kW K ad E) sz)) (vx_X (fun _ : Unit => True) (fun (En : String) _ t => (xOk En (sp_held Y a b v).1 1 2) ∧ wE D cy (va_A (kW K ad E) sz) (kW K ad E) t) (va_A (kW K ad E) sz)) 1 6 (va_A (kW K ad E) sz) := by
  refine vx_ofW (cc := cX4_held) (maxL := 4) (ret := (some .int)) (by decide) rfl ?_
  intro p e s m args below meth c s₁ B hml htb hv
  obtain ⟨rfl, ⟨⟨hsz, hP, hK, hD0⟩, hN⟩, hX, hZ⟩ := hv
  have hx := B.exec
  have hb := B.bytes
  have hr := B.returns
  have hts := atoms_spec (ws := wsX4_held) B.pre
  have hown : s.vm.findClass RX4 = some m.cls := findClass_of_methodNamed B.named
  have hlocks := B.notSynchronized
  subst hsz
  have hD := hD0.self (sz := s.heap.size)
  generalize hAe : va_A (kW K ad E) s.heap.size = A at hD hZ ⊢
  have hA : ∀ q : Nat, s.heap.size ≤ q → A q := w_A hAe
  have hS : va_S A s.heap s.heap [] := va_S.rf
  have hnd := kW_nd hD
  have hl := lv_entry ([.ref ((ad (0))), .int (a), .int (b), .int (v)]) (n := 4) (Nat.le_of_ble_eq_true rfl)
  rw [lg_entry_eq]
  generalize (lg_sl ([.ref ((ad (0))), .int (a), .int (b), .int (v)]) ++ List.replicate (4 - (lg_sl ([.ref ((ad (0))), .int (a), .int (b), .int (v)])).length) Slot.unset).toArray = ls at hl ⊢
  have hl : lv_has ls 4 [(0, .ref ((ad (0)))), (1, .int (a)), (2, .int (b)), (3, .int (v))] := hl
  obtain ⟨⟨hE0, f1, f2, f3, hE1, hE2, hE3, hr1, hr2, hr3⟩, ⟨f4, f5, hE4, hE5, hbr, hwt⟩, hsaw, hspa, hYf, hYb, hYc⟩ := id hR
  obtain ⟨hy0, hyF, hyB, hyC, hyf, hyb, hyc, hyr, hyw⟩ := id hY
  refine lv_aload_n hx hb dX4_held_0 rfl (lv_at hl 0 rfl) ?_
  refine lv_iload_n hx hb dX4_held_1 rfl (lv_at hl 1 rfl) ?_
  have hFc := w_free hD hS hA
  obtain ⟨p1, hp1⟩ := kW_pos (hKR.m (show keyOk Y (0) by unfold keyOk; omega))
  refine vx_callr (vx_runV (As := [.int (a)]) (rest := []) ⟨hx, hb, hml, hown, hts⟩ (c_X4_caskAt l hlt D cy s.heap.size sa K ad E (hKR.m (show keyOk Y (0) by unfold keyOk; omega)) (yF Y) (yB Y) (yC Y) (yNow Y) (hE0) (hKR.m (show keyOk Y (3) by unfold keyOk; omega)) (f3) (hE3) (hr3) (hyC) (a)) (cwV 1 hts gX4_held_X4_caskAt rfl rfl rfl (by decide +kernel) ⟨Nat.le_of_ble_eq_true rfl, Nat.le_of_ble_eq_true rfl⟩) ⟨wX_blind, va_recv hK hP (ci := 4) (q0 := p1) rfl (kW_get hp1 hE0), wX_pre hP hK hD hN hX hZ hS hA⟩ rfl rfl hl.1 rfl (lv_room (Nat.le_of_ble_eq_true rfl)) dX4_held_2 ⟨Nat.le_of_ble_eq_true rfl, Nat.le_of_ble_eq_true rfl⟩) hS (fun q _ h => hFc q h) hFc (fun q _ h => hFc q h) (fun En ce q9 u9 t9 H locs ht hvm hpx hBX _ _ hS hce hcv hcl => ?_) (fun u_2 ra_2 t9 H locs ht hvm hw_2 hB _ _ hS => ?_)
  · exact vx_out (fun x hx => (htb x hx).elim) hlocks hce hcv hcl (fun t ht2 hal => ⟨(), trivial, ⟨Or.inl ⟨hBX.1.1, by rw [sp_held, if_neg hBX.1.2]⟩, by rw [ht2, ← ht]; exact hBX.2.1, va_K.moved hal hK, hBX.2.2.2.weaken (fun _ _ _ h => hFc _ h)⟩, hS.F ht2⟩) hS.2.2 (by decide) (by decide)
  obtain ⟨hra_2, hP1, hK1, hD1⟩ := hB
  subst hra_2
  rw [ht] at hP1
  have hP := hP1
  have hD := hD1.weaken (fun _ _ _ h => hFc _ h)
  have hiaa := ix_lt hw_2
  obtain ⟨fb, fp, fd, ft, fk, hc0, hc1, hc2, hc3, hc4, hc5, hcbp, hcE⟩ := hYc (ix a) (by omega)
  have hcwhc := hyc (ix a) (by omega)
  have hfhc := hYf (ycf Y (ix a)) hcwhc.1
  have hfohc := hyf (ycf Y (ix a)) hcwhc.1
  have hcfhc := hcwhc.1
  have hmfhc : 1000 + ycf Y (ix a) ∈ K := (hKR.m (show keyOk Y (1000 + ycf Y (ix a)) by unfold keyOk; omega))
  have hqhc : ∀ q ∈ yE Y (ix a), q.1 ≤ 100000 ∧ q.2.1 ≤ 100000 ∧ q.2.2 ≤ 16 := fun q hq => by have h9 := hcwhc.2.2.1 q hq; exact ⟨by omega, by omega, h9.2.2⟩
  refine lv_iload_n hx hb dX4_held_5 rfl (lv_at hl 2 rfl) ?_
  refine lv_iload_n hx hb dX4_held_6 rfl (lv_at hl 3 rfl) ?_
  obtain ⟨p2, hp2⟩ := kW_pos (hKR.m (show keyOk Y (5000 + ix a) by unfold keyOk; omega))
  refine vp_callSi (va_Run.run (va_runV (As := [.int (b), .int (v)]) (rest := []) ⟨hx, hb, hml, hown, hts⟩ (c_X1_heldOn l D cy K ad E (5000 + ix a) (6000 + ix a) (7000 + ix a) (8000 + ix a) (9000 + ix a) (10000 + ix a) (1000 + ycf Y (ix a)) (hKR.m (show keyOk Y (5000 + ix a) by unfold keyOk; omega)) (nI (ycf Y (ix a))) (yE Y (ix a)) (hc0) (hKR.m (show keyOk Y (8000 + ix a) by unfold keyOk; omega)) (fd) (hc3) (hKR.m (show keyOk Y (9000 + ix a) by unfold keyOk; omega)) (ft) (hc4) (hKR.m (show keyOk Y (10000 + ix a) by unfold keyOk; omega)) (fk) (hc5) (hcwhc.2.1) (hcE) (hqhc) (b) (v)) (cwV 2 hts gX4_held_X1_heldOn rfl rfl rfl (by decide +kernel) ⟨Nat.le_of_ble_eq_true rfl, Nat.le_of_ble_eq_true rfl⟩) ⟨rB2_blind, va_recv hK hP (ci := 1) (q0 := p2) rfl (kW_get hp2 hc0), (rB2_pre hP hK hN)⟩ rfl rfl hl.1 rfl (lv_room (Nat.le_of_ble_eq_true rfl)) dX4_held_7 ⟨Nat.le_of_ble_eq_true rfl, Nat.le_of_ble_eq_true rfl⟩)) (fun r_7 hr_7 => ?_)
  subst hr_7
  refine vx_ret ?_
  exact W.iret (v := (zI ((heldS (yE Y (ix a)) (b).toInt (v).toInt).2))) hx hb hr (fun t ht hW => ⟨⟨_, E, rfl, by rw [sp_held, if_pos hw_2]; exact ⟨rfl, rfl, hR⟩, by rw [ht]; exact hP, va_K.moved hW.alike hK, hD⟩, hS.F ht⟩) hS.2.2 dX4_held_10
set_option maxHeartbeats 4000000 in
set_option maxRecDepth 100000 in
theorem c_X4_isLet (l : Launch) (D : va_G) (cy : Nat → ClassId) (K : List Nat) (ad : Nat → Nat) (E : Nat → va_E) (h0 : 0 ∈ K) (nF nB nC nw : Nat) (hE0 : E 0 = yardO ad nF nB nC nw) (h4 : 4 ∈ K) (f4 : Nat → Int32) (hE4 : E 4 = rowI cy 16 f4) (co cb cp cd ct ck kf : Nat) (hco : co ∈ K) (fn : Int32) (nE : Nat) (hEco : E co = .inr (1, [.int (fn), .ref ((ad (kf))), .ref ((ad (cb))), .ref ((ad (cp))), .ref ((ad (cd))), .ref ((ad (ct))), .ref ((ad (ck))), .int (nI (nE))])) (hcp : cp ∈ K) (fp : Nat → Int32) (hEcp : E cp = rowI cy 40 fp) (hkf : kf ∈ K) (hh gg ee nn : Nat) (hEf : E kf = cellF hh gg ee nn) (hfo : formOk hh gg ee nn) (pa : Nat → Nat) (hpa : ∀ k, k < nn → fp k = nI (pa k)) (hpb : ∀ k, k < nn → pa k < 65536) (br : Nat → Nat) (kd : Nat) (hkd : kd < 16) (hbr : ∀ a, a < 16 → ∃ v, f4 a = nI v ∧ v < 65536 ∧ v / 2 ^ kd % 2 = br a) : Met l yX4_isLet wsX4_isLet ({ frames := 1, cells := 0, slots := 0, locals := 22 } : Room) (va_Pc [.ref ((ad (0))), .ref ((ad (co))), .int (nI (kd))] (rB2 D cy (kW K ad E))) (vp_Si (fun r : Int32 => r = bI (mayB (orN pa nn) br 16 = true))) 0 0 (fun _ => False) := by
  refine Met.ofW (cc := cX4_isLet) (maxL := 5) (ret := (some .boolean)) (by decide) rfl ?_
  intro p e s m args below meth c s₁ B hml hv
  obtain ⟨rfl, hv⟩ := hv
  have hx := B.exec
  have hb := B.bytes
  have hr := B.returns
  have hts := atoms_spec (ws := wsX4_isLet) B.pre
  have hown : s.vm.findClass RX4 = some m.cls := findClass_of_methodNamed B.named
  have hlocks := B.notSynchronized
  obtain ⟨⟨hP, hK⟩, hN⟩ := hv
  have hl := lv_entry ([.ref ((ad (0))), .ref ((ad (co))), .int (nI (kd))]) (n := 5) (Nat.le_of_ble_eq_true rfl)
  rw [lg_entry_eq]
  generalize (lg_sl ([.ref ((ad (0))), .ref ((ad (co))), .int (nI (kd))]) ++ List.replicate (5 - (lg_sl ([.ref ((ad (0))), .ref ((ad (co))), .int (nI (kd))])).length) Slot.unset).toArray = ls at hl ⊢
  have hl : lv_has ls 5 [(0, .ref ((ad (0)))), (1, .ref ((ad (co)))), (2, .int (nI (kd)))] := hl
  have hob := orN_lt hpb
  refine lv_aload_n hx hb dX4_isLet_0 rfl (lv_at hl 1 rfl) ?_
  obtain ⟨p1, hp1⟩ := kW_pos hco
  refine vp_callSi (va_Run.run (va_runV (As := []) (rest := []) ⟨hx, hb, hml, hown, hts⟩ (c_X1_wholePast l D cy K ad E (co) (cb) (cp) (cd) (ct) (ck) (kf) (hco) (fn) (nE) (hEco) (hcp) (fp) (hEcp) (hkf) (hh) (gg) (ee) (nn) (hEf) (hfo) (pa) (hpa)) (cwV 0 hts gX4_isLet_X1_wholePast rfl rfl rfl (by decide +kernel) ⟨Nat.le_of_ble_eq_true rfl, Nat.le_of_ble_eq_true rfl⟩) ⟨rB2_blind, va_recv hK hP (ci := 1) (q0 := p1) rfl (kW_get hp1 hEco), (rB2_pre hP hK hN)⟩ rfl rfl hl.1 rfl (lv_room (Nat.le_of_ble_eq_true rfl)) dX4_isLet_1 ⟨Nat.le_of_ble_eq_true rfl, Nat.le_of_ble_eq_true rfl⟩)) (fun r_1 hr_1 => ?_)
  subst hr_1
  refine lv_istore_n (lv' := [(3, .int (nI (orN pa nn))), (0, .ref ((ad (0)))), (1, .ref ((ad (co)))), (2, .int (nI (kd)))]) hx hb dX4_isLet_4 rfl hl (by decide) rfl (fun ls hl => ?_)
  refine lv_iconst (v := (nI (0))) hx hb dX4_isLet_5 (by decide) ?_
  refine lv_istore (lv' := [(4, .int (nI (0))), (3, .int (nI (orN pa nn))), (0, .ref ((ad (0)))), (1, .ref ((ad (co)))), (2, .int (nI (kd)))]) hx hb dX4_isLet_6 hl (by decide) rfl (fun ls hl => ?_)
  have loop_8 : ∀ (n_ : Nat) (i : Nat), (i ≤ 16) → (mayB (orN pa nn) br i = true) → 16 - i < n_ → ∀ (ls : Array Slot), lv_has ls 5 [(0, .ref ((ad (0)))), (1, .ref ((ad (co)))), (2, .int (nI (kd))), (3, .int (nI (orN pa nn))), (4, .int (nI (i)))] → W p l e (headSpec wsX4_isLet ({ frames := 1, cells := 0, slots := 0, locals := 22 } : Room)).room s m ([.ref ((ad (0))), .ref ((ad (co))), .int (nI (kd))] : List Value).toArray below meth c s.heap [] 0 0 (MQ below (vp_Si (fun r : Int32 => r = bI (mayB (orN pa nn) br 16 = true))) ([.ref ((ad (0))), .ref ((ad (co))), .int (nI (kd))] : List Value).toArray s 0 0 (fun _ => False)) (F0 m 8 ls []) := by
    intro n_
    induction n_ with
    | zero => intro i hi hmb hm_; exact absurd hm_ (Nat.not_lt_zero _)
    | succ n_ ih_8 =>
      intro i hi hmb hm_ ls hl
      refine lv_iload hx hb dX4_isLet_8 (lv_at hl 4 rfl) ?_
      refine lv_bipush (v := (nI (16))) hx hb dX4_isLet_10 (by decide) ?_
      refine g_icmp_ge (tgt := 46) hx hb dX4_isLet_12 (by decide) (n_i (by omega)) (n_i (by omega)) (fun c_12 => ?_) (fun c_12 => ?_)
      · skip
        have hii : i = 16 := by omega
        rw [hii] at hmb
        refine lv_iconst (v := (nI (1))) hx hb dX4_isLet_46 (by decide) ?_
        exact W.zret (v := (nI (1))) hx hb hr (by decide) (fun t ht hW => ⟨_, rfl, (bI_t hmb).symm, ht⟩) (fun _ h => nomatch h) dX4_isLet_47
      · skip
        obtain ⟨v9, hv9, hvb, hvd⟩ := hbr i (by omega)
        refine lv_iload_n hx hb dX4_isLet_15 rfl (lv_at hl 3 rfl) ?_
        refine lv_iload hx hb dX4_isLet_16 (lv_at hl 4 rfl) ?_
        refine lv_ishr hx hb dX4_isLet_18 ?_
        refine g_top (y := (nI ((orN pa nn) / 2 ^ i))) (n_shr (by omega) (by omega)) ?_
        refine lv_iconst (v := (nI (1))) hx hb dX4_isLet_19 (by decide) ?_
        have hdl := Nat.div_le_self (orN pa nn) (2 ^ i)
        refine lv_iand hx hb dX4_isLet_20 ?_
        refine g_top (y := (nI ((orN pa nn) / 2 ^ i % 2))) (n_and1 (by omega)) ?_
        refine g_if_eq (tgt := 40) hx hb dX4_isLet_21 (by decide) (n_i (by omega)) (fun c_21 => ?_) (fun c_21 => ?_)
        · skip
          have hstp : (orN pa nn) / 2 ^ i % 2 ≠ 1 ∨ br i ≠ 1 := Or.inl (by omega)
          refine lv_iinc (v := (nI (i + 1))) (lv' := [(4, .int (nI (i + 1))), (0, .ref ((ad (0)))), (1, .ref ((ad (co)))), (2, .int (nI (kd))), (3, .int (nI (orN pa nn)))]) hx hb dX4_isLet_40 hl (k := 4) rfl (nI_add _ _) (by decide) rfl (fun ls hl => ?_)
          refine lv_goto (tgt := 8) hx hb dX4_isLet_43 (by decide) ?_
          exact ih_8 (i + 1)  (by omega) (by rw [mayB_k hstp]; exact hmb) (by omega) ls (lv_sub hl [1, 2, 3, 4, 0] rfl)
        · skip
          refine lv_aload_n hx hb dX4_isLet_24 rfl (lv_at hl 0 rfl) ?_
          obtain ⟨p2, hp2⟩ := kW_pos h0
          refine va_get (D := D) (ci := 4) (v := .ref ((ad (4)))) (C := RX4) (T := TX4) (N := 11) hx hb hts (by decide +kernel) hown hK hP p2 (kW_get hp2 hE0) rfl 3 (by decide) (hts (.fieldLink RX4 27 "CaskYard" "barred" "[I") (by decide +kernel)) (fun _ h9 => h9) rfl dX4_isLet_25 ?_
          refine lv_iload hx hb dX4_isLet_28 (lv_at hl 4 rfl) ?_
          obtain ⟨p3, hp3⟩ := kW_pos h4
          refine g_iald hx hb hK hP p3 0 (kW_get hp3 hE4) rfl (i) rfl (by omega) (by decide) dX4_isLet_30 ?_
          refine g_top (y := (nI (v9))) hv9 ?_
          refine lv_iload_n hx hb dX4_isLet_31 rfl (lv_at hl 2 rfl) ?_
          refine lv_ishr hx hb dX4_isLet_32 ?_
          refine g_top (y := (nI (v9 / 2 ^ kd))) (n_shr (by omega) (by omega)) ?_
          refine lv_iconst (v := (nI (1))) hx hb dX4_isLet_33 (by decide) ?_
          have hdl2 := Nat.div_le_self v9 (2 ^ kd)
          refine lv_iand hx hb dX4_isLet_34 ?_
          refine g_top (y := (nI (v9 / 2 ^ kd % 2))) (n_and1 (by omega)) ?_
          refine g_if_eq (tgt := 40) hx hb dX4_isLet_35 (by decide) (n_i (by omega)) (fun c_35 => ?_) (fun c_35 => ?_)
          · skip
            have hstp : (orN pa nn) / 2 ^ i % 2 ≠ 1 ∨ br i ≠ 1 := Or.inr (by omega)
            refine lv_iinc (v := (nI (i + 1))) (lv' := [(4, .int (nI (i + 1))), (0, .ref ((ad (0)))), (1, .ref ((ad (co)))), (2, .int (nI (kd))), (3, .int (nI (orN pa nn)))]) hx hb dX4_isLet_40 hl (k := 4) rfl (nI_add _ _) (by decide) rfl (fun ls hl => ?_)
            refine lv_goto (tgt := 8) hx hb dX4_isLet_43 (by decide) ?_
            exact ih_8 (i + 1)  (by omega) (by rw [mayB_k hstp]; exact hmb) (by omega) ls (lv_sub hl [1, 2, 3, 4, 0] rfl)
          · skip
            refine lv_iconst (v := (nI (0))) hx hb dX4_isLet_38 (by decide) ?_
            exact W.zret (v := (nI (0))) hx hb hr (by decide) (fun t ht hW => ⟨_, rfl, (bI_f (by rw [mayB_stop (p := i) (by omega) (by omega) (by omega)]; decide)).symm, ht⟩) (fun _ h => nomatch h) dX4_isLet_39
  exact loop_8 _ (0)  (by omega) rfl (Nat.lt_succ_self _) ls (lv_sub hl [2, 3, 4, 1, 0] rfl)
set_option maxHeartbeats 4000000 in
set_option maxRecDepth 100000 in
theorem c_X4_may (l : Launch) (hlt : l.stackTraces = false) (D : va_G) (cy : Nat → ClassId) (sz : Nat) (sa : Nat → Nat) (K : List Nat) (ad : Nat → Nat) (E : Nat → va_E) (Y : YT) (hKR : KR K Y) (hR : YR cy ad E Y) (hY : WF Y) (a : Int32) (b : Int32) : vx_Met l yX4_may wsX4_may ({ frames := 7, cells := 2, slots := 12, locals := 104 } : Room) (va_Pc [.ref ((ad (0))), .int (a), .int (b)] (wX D cy sz sa (kW K ad E))) (va_Qi (fun (r : Int32) (u : Nat → va_E) => YP cy ad (sp_may Y a b) r u) (fun u t => wE D cy (va_A (kW K ad E) sz) (kW K ad u) t) (va_A (kW K ad E) sz)) (vx_X (fun _ : Unit => True) (fun (En : String) _ t => (xOk En (sp_may Y a b).1 1 2) ∧ wE D cy (va_A (kW K ad E) sz) (kW K ad E) t) (va_A (kW K ad E) sz)) 2 12 (va_A (kW K ad E) sz) := by
  refine vx_ofW (cc := cX4_may) (maxL := 4) (ret := (some .boolean)) (by decide) rfl ?_
  intro p e s m args below meth c s₁ B hml htb hv
  obtain ⟨rfl, ⟨⟨hsz, hP, hK, hD0⟩, hN⟩, hX, hZ⟩ := hv
  have hx := B.exec
  have hb := B.bytes
  have hr := B.returns
  have hts := atoms_spec (ws := wsX4_may) B.pre
  have hown : s.vm.findClass RX4 = some m.cls := findClass_of_methodNamed B.named
  have hlocks := B.notSynchronized
  subst hsz
  have hD := hD0.self (sz := s.heap.size)
  generalize hAe : va_A (kW K ad E) s.heap.size = A at hD hZ ⊢
  have hA : ∀ q : Nat, s.heap.size ≤ q → A q := w_A hAe
  have hS : va_S A s.heap s.heap [] := va_S.rf
  have hnd := kW_nd hD
  have hl := lv_entry ([.ref ((ad (0))), .int (a), .int (b)]) (n := 4) (Nat.le_of_ble_eq_true rfl)
  rw [lg_entry_eq]
  generalize (lg_sl ([.ref ((ad (0))), .int (a), .int (b)]) ++ List.replicate (4 - (lg_sl ([.ref ((ad (0))), .int (a), .int (b)])).length) Slot.unset).toArray = ls at hl ⊢
  have hl : lv_has ls 4 [(0, .ref ((ad (0)))), (1, .int (a)), (2, .int (b))] := hl
  obtain ⟨⟨hE0, f1, f2, f3, hE1, hE2, hE3, hr1, hr2, hr3⟩, ⟨f4, f5, hE4, hE5, hbr, hwt⟩, hsaw, hspa, hYf, hYb, hYc⟩ := id hR
  obtain ⟨hy0, hyF, hyB, hyC, hyf, hyb, hyc, hyr, hyw⟩ := id hY
  refine lv_aload_n hx hb dX4_may_0 rfl (lv_at hl 0 rfl) ?_
  refine lv_iload_n hx hb dX4_may_1 rfl (lv_at hl 1 rfl) ?_
  have hFc := w_free hD hS hA
  obtain ⟨p1, hp1⟩ := kW_pos (hKR.m (show keyOk Y (0) by unfold keyOk; omega))
  refine vx_callr (vx_runV (As := [.int (a)]) (rest := []) ⟨hx, hb, hml, hown, hts⟩ (c_X4_caskAt l hlt D cy s.heap.size sa K ad E (hKR.m (show keyOk Y (0) by unfold keyOk; omega)) (yF Y) (yB Y) (yC Y) (yNow Y) (hE0) (hKR.m (show keyOk Y (3) by unfold keyOk; omega)) (f3) (hE3) (hr3) (hyC) (a)) (cwV 1 hts gX4_may_X4_caskAt rfl rfl rfl (by decide +kernel) ⟨Nat.le_of_ble_eq_true rfl, Nat.le_of_ble_eq_true rfl⟩) ⟨wX_blind, va_recv hK hP (ci := 4) (q0 := p1) rfl (kW_get hp1 hE0), wX_pre hP hK hD hN hX hZ hS hA⟩ rfl rfl hl.1 rfl (lv_room (Nat.le_of_ble_eq_true rfl)) dX4_may_2 ⟨Nat.le_of_ble_eq_true rfl, Nat.le_of_ble_eq_true rfl⟩) hS (fun q _ h => hFc q h) hFc (fun q _ h => hFc q h) (fun En ce q9 u9 t9 H locs ht hvm hpx hBX _ _ hS hce hcv hcl => ?_) (fun u_2 ra_2 t9 H locs ht hvm hw_2 hB _ _ hS => ?_)
  · exact vx_out (fun x hx => (htb x hx).elim) hlocks hce hcv hcl (fun t ht2 hal => ⟨(), trivial, ⟨Or.inl ⟨hBX.1.1, by rw [sp_may, if_neg hBX.1.2]⟩, by rw [ht2, ← ht]; exact hBX.2.1, va_K.moved hal hK, hBX.2.2.2.weaken (fun _ _ _ h => hFc _ h)⟩, hS.F ht2⟩) hS.2.2 (by decide) (by decide)
  obtain ⟨hra_2, hP1, hK1, hD1⟩ := hB
  subst hra_2
  rw [ht] at hP1
  have hP := hP1
  have hD := hD1.weaken (fun _ _ _ h => hFc _ h)
  have hiaa := ix_lt hw_2
  obtain ⟨fb, fp, fd, ft, fk, hc0, hc1, hc2, hc3, hc4, hc5, hcbp, hcE⟩ := hYc (ix a) (by omega)
  have hcwhc := hyc (ix a) (by omega)
  have hfhc := hYf (ycf Y (ix a)) hcwhc.1
  have hfohc := hyf (ycf Y (ix a)) hcwhc.1
  have hcfhc := hcwhc.1
  have hmfhc : 1000 + ycf Y (ix a) ∈ K := (hKR.m (show keyOk Y (1000 + ycf Y (ix a)) by unfold keyOk; omega))
  have hqhc : ∀ q ∈ yE Y (ix a), q.1 ≤ 100000 ∧ q.2.1 ≤ 100000 ∧ q.2.2 ≤ 16 := fun q hq => by have h9 := hcwhc.2.2.1 q hq; exact ⟨by omega, by omega, h9.2.2⟩
  refine lv_astore_n (lv' := [(3, .ref ((ad (5000 + ix a)))), (0, .ref ((ad (0)))), (1, .int (a)), (2, .int (b))]) hx hb dX4_may_5 rfl hl (by decide) rfl (fun ls hl => ?_)
  refine lv_iload_n hx hb dX4_may_6 rfl (lv_at hl 3 rfl) ?_
  have hFc := w_free hD hS hA
  refine vx_callv (vx_runS (As := [.int (b)]) (rest := []) ⟨hx, hb, hml, hown, hts⟩ (c_X4_checkKind l hlt D cy H.size sa K ad E (b)) (va_cwS 1 hts gX4_may_X4_checkKind rfl rfl rfl (by decide +kernel) ⟨Nat.le_of_ble_eq_true rfl, Nat.le_of_ble_eq_true rfl⟩) ⟨wX_blind, wX_pre hP hK hD hN hX hZ hS hA⟩ rfl rfl hl.1 rfl (lv_room (Nat.le_of_ble_eq_true rfl)) dX4_may_7 ⟨Nat.le_of_ble_eq_true rfl, Nat.le_of_ble_eq_true rfl⟩) hS (fun q _ h => hFc q h) hFc (fun q _ h => hFc q h) (fun En ce q9 u9 t9 H locs ht hvm hpx hBX _ _ hS hce hcv hcl => ?_) (fun u_7 t9 H locs ht hvm hw_7 hB _ _ hS => ?_)
  · exact vx_out (fun x hx => (htb x hx).elim) hlocks hce hcv hcl (fun t ht2 hal => ⟨(), trivial, ⟨Or.inr ⟨hBX.1.1, by rw [sp_may, if_pos hw_2, if_neg hBX.1.2]⟩, by rw [ht2, ← ht]; exact hBX.2.1, va_K.moved hal hK, hBX.2.2.2.weaken (fun _ _ _ h => hFc _ h)⟩, hS.F ht2⟩) hS.2.2 (by decide) (by decide)
  obtain ⟨hP1, hK1, hD1⟩ := hB
  rw [ht] at hP1
  have hP := hP1
  have hD := hD1.weaken (fun _ _ _ h => hFc _ h)
  obtain ⟨hue_7, hok_7⟩ := hw_7
  rw [hue_7] at hP hD
  have hxb := ix_c hok_7.1
  have hltb := ix_lt hok_7
  have hnb := ix_n hok_7.1
  have hl : lv_has ls 4 [(3, .ref ((ad (5000 + ix a)))), (0, .ref ((ad (0)))), (1, .int (a)), (2, .int (nI (ix b)))] := by rw [← hnb]; exact hl
  refine lv_aload_n hx hb dX4_may_10 rfl (lv_at hl 1 rfl) ?_
  refine lv_aload_n hx hb dX4_may_11 rfl (lv_at hl 0 rfl) ?_
  refine lv_iload_n hx hb dX4_may_12 rfl (lv_at hl 3 rfl) ?_
  obtain ⟨p2, hp2⟩ := kW_pos (hKR.m (show keyOk Y (0) by unfold keyOk; omega))
  refine vp_callSi (va_Run.run (va_runV (As := [.ref ((ad (5000 + ix a))), .int (nI (ix b))]) (rest := []) ⟨hx, hb, hml, hown, hts⟩ (c_X4_isLet l D cy K ad E (hKR.m (show keyOk Y (0) by unfold keyOk; omega)) (yF Y) (yB Y) (yC Y) (yNow Y) (hE0) (hKR.m (show keyOk Y (4) by unfold keyOk; omega)) (f4) (hE4) (5000 + ix a) (6000 + ix a) (7000 + ix a) (8000 + ix a) (9000 + ix a) (10000 + ix a) (1000 + ycf Y (ix a)) (hKR.m (show keyOk Y (5000 + ix a) by unfold keyOk; omega)) (nI (ycf Y (ix a))) ((yE Y (ix a)).length) (hc0) (hKR.m (show keyOk Y (7000 + ix a) by unfold keyOk; omega)) (fp) (hc2) (hmfhc) (yh Y (ycf Y (ix a))) (yg Y (ycf Y (ix a))) (ye Y (ycf Y (ix a))) (ys Y (ycf Y (ix a))) (hfhc) (hfohc) (ypa Y (ix a)) (fun k hk => (hcbp k hk).2) (fun k hk => (hcwhc.2.2.2 k hk).2) (fun p => ybr Y p (ix b)) (ix b) (by omega) (fun a9 ha9 => by obtain ⟨v9, h91, h92, h93⟩ := hbr a9 ha9; exact ⟨v9, h91, h92, h93 _ (by omega)⟩)) (cwV 2 hts gX4_may_X4_isLet rfl rfl rfl (by decide +kernel) ⟨Nat.le_of_ble_eq_true rfl, Nat.le_of_ble_eq_true rfl⟩) ⟨rB2_blind, va_recv hK hP (ci := 4) (q0 := p2) rfl (kW_get hp2 hE0), (rB2_pre hP hK hN)⟩ rfl rfl hl.1 rfl (lv_room (Nat.le_of_ble_eq_true rfl)) dX4_may_13 ⟨Nat.le_of_ble_eq_true rfl, Nat.le_of_ble_eq_true rfl⟩)) (fun r_13 hr_13 => ?_)
  subst hr_13
  refine vx_ret ?_
  exact W.zret (v := (bI (mayY Y (ix a) (ix b)))) hx hb hr (bI_nar _) (fun t ht hW => ⟨⟨_, E, rfl, by rw [sp_may, if_pos hw_2, if_pos hok_7]; exact ⟨rfl, rfl, hR⟩, by rw [ht]; exact hP, va_K.moved hW.alike hK, hD⟩, hS.F ht⟩) hS.2.2 dX4_may_16
