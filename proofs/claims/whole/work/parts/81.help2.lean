set_option maxHeartbeats 4000000 in
set_option maxRecDepth 100000 in
theorem c_L_holds (l : Launch) (hlt : l.stackTraces = false) (D : va_G) (cy : Nat → ClassId) (sz : Nat) (sa : Nat → Nat) (q o : Nat) (w : va_W) (Y : YT) (hYW : YW cy q Y w) (hY : WF Y) (f : Nat → Int64) (a : Int32) (b : Int32) : Met l yL_holds wsL_holds ({ frames := 8, cells := 2, slots := 12, locals := 200 } : Room) (va_Pc [.ref q, .int a, .int b, .ref o] (wL D cy sz sa (w ++ [(o, oC cy f)]))) (va_Qi (fun (r : Int32) (u : va_W × (Nat → Int64)) => HP cy q (sp_holds Y a b).1 (sp_holds Y a b).2.1.toInt64 (sp_holds Y a b).2.2 r u) (fun u t => wE D cy (va_A (w ++ [(o, oC cy f)]) sz) (u.1 ++ [(o, oC cy u.2)]) t) (va_A (w ++ [(o, oC cy f)]) sz)) 2 12 (va_A (w ++ [(o, oC cy f)]) sz) := by
  obtain ⟨K, ad, E, rfl, rfl, hKR, hR⟩ := hYW
  refine va_MetW (cc := cL_holds) (maxL := 5) (ret := (some .int)) (hh := [(0, 10, 13, 13), (0, 10, 17, 15)]) (by decide) rfl ?_
  intro p e s m args below meth c s₁ B hml hv
  obtain ⟨rfl, ⟨⟨⟨hsz, hP, hK, hD0⟩, hN⟩, hX, hZ⟩, hC⟩ := hv
  have hx := B.exec
  have hb := B.bytes
  have hr := B.returns
  have hts := atoms_spec (ws := wsL_holds) B.pre
  have hown : s.vm.findClass RL = some m.cls := findClass_of_methodNamed B.named
  have hTab := vx_table (x := yL_holds) B (hts _ List.mem_cons_self)
  subst hsz
  have hD := hD0.self (sz := s.heap.size)
  generalize hAe : va_A (kW K ad E ++ [(o, oC cy f)]) s.heap.size = A at hD hZ ⊢
  have hA : ∀ q : Nat, s.heap.size ≤ q → A q := w_A hAe
  have hS : va_S A s.heap s.heap [] := va_S.rf
  have hl := lv_entry ([.ref (ad 0), .int a, .int b, .ref o]) (n := 5) (Nat.le_of_ble_eq_true rfl)
  rw [lg_entry_eq]
  generalize (lg_sl ([.ref (ad 0), .int a, .int b, .ref o]) ++ List.replicate (5 - (lg_sl ([.ref (ad 0), .int a, .int b, .ref o])).length) Slot.unset).toArray = ls at hl ⊢
  have hl : lv_has ls 5 [(0, .ref (ad 0)), (1, .int a), (2, .int b), (3, .ref o)] := hl
  have hE0 := hR.1.1
  obtain ⟨p1, hp1⟩ := kW_pos (hKR.m (show keyOk Y (0) by unfold keyOk; omega))
  refine lv_aload_n hx hb dL_holds_0 rfl (lv_at hl 3 rfl) ?_
  refine lv_iconst (v := 0) hx hb dL_holds_1 (by decide) ?_
  refine lv_aload_n hx hb dL_holds_2 rfl (lv_at hl 0 rfl) ?_
  refine lv_iload_n hx hb dL_holds_3 rfl (lv_at hl 1 rfl) ?_
  refine lv_iload_n hx hb dL_holds_4 rfl (lv_at hl 2 rfl) ?_
  have hPa := fr_P1 hP
  have hDa := fr_D1 hD
  have hFc := w_free hDa hS hA
  refine vx_calli (vx_runV (As := [.int a, .int b]) (rest := [.int 0, .ref o]) ⟨hx, hb, hml, hown, hts⟩ (c_X4_holds l hlt D cy s.heap.size sa K ad E Y hKR hR hY a b) (cwV 2 hts gL_holds_X4_holds rfl rfl rfl (by decide +kernel) ⟨Nat.le_of_ble_eq_true rfl, Nat.le_of_ble_eq_true rfl⟩) ⟨wX_blind, va_recv hK hPa (ci := 4) (q0 := p1) rfl (kW_get hp1 hE0), wX_pre hPa hK hDa hN hX hZ hS hA⟩ rfl rfl hl.1 rfl (lv_room (Nat.le_of_ble_eq_true rfl)) dL_holds_5 ⟨Nat.le_of_ble_eq_true rfl, Nat.le_of_ble_eq_true rfl⟩) hS (fun q _ h => hFc q h) hFc (fun q _ h => hFc q h) (fun En ce q9 u9 t9 H locs ht hvm hpx hBX hz1 hk1 hS hce hcv hcl => ?_) (fun r u t9 H locs ht hvm hw hB hz1 hk1 hS => ?_)
  · obtain ⟨hxo, hP1, hK1, hD1⟩ := hBX
    rw [ht] at hP1
    obtain ⟨hP, hD⟩ := fr_J hP hD hk1 hFc hP1 hD1
    rcases hxo with ⟨rfl, hc⟩ | ⟨rfl, hc⟩
    · refine vx_catch (own := RL) (name := "java/util/NoSuchElementException") (E := "java/util/NoSuchElementException") hown [] ⟨0, 10, 13, 13⟩ [⟨0, 10, 17, 15⟩] (by rw [hTab]; rfl) (fun z hz => nomatch hz) (by decide) (by decide) (hts (.classLink RL 13 "java/util/NoSuchElementException") (by decide +kernel)) (va_Nw.use rfl hX.2.2.1) hce hcv hcl ?_
      refine lv_astore (lv' := [(4, .ref q9), (0, .ref (ad 0)), (1, .int a), (2, .int b), (3, .ref o)]) hx hb dL_holds_13 hl (by decide) rfl (fun ls hl => ?_)
      refine lv_iconst (v := 1) hx hb dL_holds_15 (by decide) ?_
      exact W.iret (v := 1) hx hb hr (fun t ht hW => ⟨⟨1, (kW K ad E, f), rfl, ⟨by rw [hc]; rfl, fun h9 => absurd (hc.symm.trans h9) (by decide), YW_eq ⟨K, ad, E, rfl, rfl, hKR, hR⟩ (sx_holds (by rw [hc]; decide))⟩, by rw [ht]; exact hP, va_K.moved hW.alike hK, hD⟩, hS.F ht⟩) hS.2.2 dL_holds_16
    · refine vx_catch (own := RL) (name := "java/lang/IllegalArgumentException") (E := "java/lang/IllegalArgumentException") hown [⟨0, 10, 13, 13⟩] ⟨0, 10, 17, 15⟩ [] (by rw [hTab]; rfl) (by
        intro z hz
        rcases List.mem_cons.mp hz with rfl | hz
        · exact Or.inr ⟨by decide, "java/util/NoSuchElementException", hts (.classLink RL 13 "java/util/NoSuchElementException") (by decide +kernel), hC⟩
        · cases hz) (by decide) (by decide) (hts (.classLink RL 15 "java/lang/IllegalArgumentException") (by decide +kernel)) (va_Nw.use rfl hX.2.2.2) hce hcv hcl ?_
      refine lv_astore (lv' := [(4, .ref q9), (0, .ref (ad 0)), (1, .int a), (2, .int b), (3, .ref o)]) hx hb dL_holds_17 hl (by decide) rfl (fun ls hl => ?_)
      refine lv_iconst (v := 2) hx hb dL_holds_19 (by decide) ?_
      exact W.iret (v := 2) hx hb hr (fun t ht hW => ⟨⟨2, (kW K ad E, f), rfl, ⟨by rw [hc]; rfl, fun h9 => absurd (hc.symm.trans h9) (by decide), YW_eq ⟨K, ad, E, rfl, rfl, hKR, hR⟩ (sx_holds (by rw [hc]; decide))⟩, by rw [ht]; exact hP, va_K.moved hW.alike hK, hD⟩, hS.F ht⟩) hS.2.2 dL_holds_20
  obtain ⟨hP1, hK1, hD1⟩ := hB
  rw [ht] at hP1
  obtain ⟨hP, hD⟩ := fr_J hP hD hk1 hFc hP1 hD1
  refine lv_i2l (v := r.toInt64) hx hb dL_holds_8 rfl ?_
  refine va_last hx hb hK hP hD hS (kW K ad u).length 2 (fr_get _ _) rfl (i := 0) (x := r.toInt64) (by unfold vp_in; decide) dL_holds_9 (fun H locs hP hD hS => ?_)
  rw [fr_set] at hP hD
  refine lv_goto (tgt := 21) hx hb dL_holds_10 (by decide) ?_
  refine lv_iconst (v := 0) hx hb dL_holds_21 (by decide) ?_
  exact W.iret (v := 0) hx hb hr (fun t ht hW => ⟨⟨0, (kW K ad u, vp_updL f (0 : Int32).toNatClampNeg r.toInt64), rfl, ⟨by rw [hw.1]; rfl, fun _ => (by show vp_updL f (0 : Int32).toNatClampNeg r.toInt64 0 = _; rw [updL_0, hw.2.1]), ⟨K, ad, u, rfl, rfl, KR_eq hKR kr_holds, hw.2.2⟩⟩, by rw [ht]; exact hP, va_K.moved hW.alike hK, hD⟩, hS.F ht⟩) hS.2.2 dL_holds_22
set_option maxHeartbeats 4000000 in
set_option maxRecDepth 100000 in
theorem c_L_level (l : Launch) (hlt : l.stackTraces = false) (D : va_G) (cy : Nat → ClassId) (sz : Nat) (sa : Nat → Nat) (q o : Nat) (w : va_W) (Y : YT) (hYW : YW cy q Y w) (hY : WF Y) (f : Nat → Int64) (a : Int32) (b : Int32) : Met l yL_level wsL_level ({ frames := 8, cells := 2, slots := 12, locals := 200 } : Room) (va_Pc [.ref q, .int a, .int b, .ref o] (wL D cy sz sa (w ++ [(o, oC cy f)]))) (va_Qi (fun (r : Int32) (u : va_W × (Nat → Int64)) => HP cy q (sp_level Y a b).1 (sp_level Y a b).2.1.toInt64 (sp_level Y a b).2.2 r u) (fun u t => wE D cy (va_A (w ++ [(o, oC cy f)]) sz) (u.1 ++ [(o, oC cy u.2)]) t) (va_A (w ++ [(o, oC cy f)]) sz)) 2 12 (va_A (w ++ [(o, oC cy f)]) sz) := by
  obtain ⟨K, ad, E, rfl, rfl, hKR, hR⟩ := hYW
  refine va_MetW (cc := cL_level) (maxL := 5) (ret := (some .int)) (hh := [(0, 10, 13, 13), (0, 10, 17, 15)]) (by decide) rfl ?_
  intro p e s m args below meth c s₁ B hml hv
  obtain ⟨rfl, ⟨⟨⟨hsz, hP, hK, hD0⟩, hN⟩, hX, hZ⟩, hC⟩ := hv
  have hx := B.exec
  have hb := B.bytes
  have hr := B.returns
  have hts := atoms_spec (ws := wsL_level) B.pre
  have hown : s.vm.findClass RL = some m.cls := findClass_of_methodNamed B.named
  have hTab := vx_table (x := yL_level) B (hts _ List.mem_cons_self)
  subst hsz
  have hD := hD0.self (sz := s.heap.size)
  generalize hAe : va_A (kW K ad E ++ [(o, oC cy f)]) s.heap.size = A at hD hZ ⊢
  have hA : ∀ q : Nat, s.heap.size ≤ q → A q := w_A hAe
  have hS : va_S A s.heap s.heap [] := va_S.rf
  have hl := lv_entry ([.ref (ad 0), .int a, .int b, .ref o]) (n := 5) (Nat.le_of_ble_eq_true rfl)
  rw [lg_entry_eq]
  generalize (lg_sl ([.ref (ad 0), .int a, .int b, .ref o]) ++ List.replicate (5 - (lg_sl ([.ref (ad 0), .int a, .int b, .ref o])).length) Slot.unset).toArray = ls at hl ⊢
  have hl : lv_has ls 5 [(0, .ref (ad 0)), (1, .int a), (2, .int b), (3, .ref o)] := hl
  have hE0 := hR.1.1
  obtain ⟨p1, hp1⟩ := kW_pos (hKR.m (show keyOk Y (0) by unfold keyOk; omega))
  refine lv_aload_n hx hb dL_level_0 rfl (lv_at hl 3 rfl) ?_
  refine lv_iconst (v := 0) hx hb dL_level_1 (by decide) ?_
  refine lv_aload_n hx hb dL_level_2 rfl (lv_at hl 0 rfl) ?_
  refine lv_iload_n hx hb dL_level_3 rfl (lv_at hl 1 rfl) ?_
  refine lv_iload_n hx hb dL_level_4 rfl (lv_at hl 2 rfl) ?_
  have hPa := fr_P1 hP
  have hDa := fr_D1 hD
  have hFc := w_free hDa hS hA
  refine vx_calli (vx_runV (As := [.int a, .int b]) (rest := [.int 0, .ref o]) ⟨hx, hb, hml, hown, hts⟩ (c_X4_level l hlt D cy s.heap.size sa K ad E Y hKR hR hY a b) (cwV 2 hts gL_level_X4_level rfl rfl rfl (by decide +kernel) ⟨Nat.le_of_ble_eq_true rfl, Nat.le_of_ble_eq_true rfl⟩) ⟨wX_blind, va_recv hK hPa (ci := 4) (q0 := p1) rfl (kW_get hp1 hE0), wX_pre hPa hK hDa hN hX hZ hS hA⟩ rfl rfl hl.1 rfl (lv_room (Nat.le_of_ble_eq_true rfl)) dL_level_5 ⟨Nat.le_of_ble_eq_true rfl, Nat.le_of_ble_eq_true rfl⟩) hS (fun q _ h => hFc q h) hFc (fun q _ h => hFc q h) (fun En ce q9 u9 t9 H locs ht hvm hpx hBX hz1 hk1 hS hce hcv hcl => ?_) (fun r u t9 H locs ht hvm hw hB hz1 hk1 hS => ?_)
  · obtain ⟨hxo, hP1, hK1, hD1⟩ := hBX
    rw [ht] at hP1
    obtain ⟨hP, hD⟩ := fr_J hP hD hk1 hFc hP1 hD1
    rcases hxo with ⟨rfl, hc⟩ | ⟨rfl, hc⟩
    · refine vx_catch (own := RL) (name := "java/util/NoSuchElementException") (E := "java/util/NoSuchElementException") hown [] ⟨0, 10, 13, 13⟩ [⟨0, 10, 17, 15⟩] (by rw [hTab]; rfl) (fun z hz => nomatch hz) (by decide) (by decide) (hts (.classLink RL 13 "java/util/NoSuchElementException") (by decide +kernel)) (va_Nw.use rfl hX.2.2.1) hce hcv hcl ?_
      refine lv_astore (lv' := [(4, .ref q9), (0, .ref (ad 0)), (1, .int a), (2, .int b), (3, .ref o)]) hx hb dL_level_13 hl (by decide) rfl (fun ls hl => ?_)
      refine lv_iconst (v := 1) hx hb dL_level_15 (by decide) ?_
      exact W.iret (v := 1) hx hb hr (fun t ht hW => ⟨⟨1, (kW K ad E, f), rfl, ⟨by rw [hc]; rfl, fun h9 => absurd (hc.symm.trans h9) (by decide), YW_eq ⟨K, ad, E, rfl, rfl, hKR, hR⟩ (sx_level (by rw [hc]; decide))⟩, by rw [ht]; exact hP, va_K.moved hW.alike hK, hD⟩, hS.F ht⟩) hS.2.2 dL_level_16
    · refine vx_catch (own := RL) (name := "java/lang/IllegalArgumentException") (E := "java/lang/IllegalArgumentException") hown [⟨0, 10, 13, 13⟩] ⟨0, 10, 17, 15⟩ [] (by rw [hTab]; rfl) (by
        intro z hz
        rcases List.mem_cons.mp hz with rfl | hz
        · exact Or.inr ⟨by decide, "java/util/NoSuchElementException", hts (.classLink RL 13 "java/util/NoSuchElementException") (by decide +kernel), hC⟩
        · cases hz) (by decide) (by decide) (hts (.classLink RL 15 "java/lang/IllegalArgumentException") (by decide +kernel)) (va_Nw.use rfl hX.2.2.2) hce hcv hcl ?_
      refine lv_astore (lv' := [(4, .ref q9), (0, .ref (ad 0)), (1, .int a), (2, .int b), (3, .ref o)]) hx hb dL_level_17 hl (by decide) rfl (fun ls hl => ?_)
      refine lv_iconst (v := 2) hx hb dL_level_19 (by decide) ?_
      exact W.iret (v := 2) hx hb hr (fun t ht hW => ⟨⟨2, (kW K ad E, f), rfl, ⟨by rw [hc]; rfl, fun h9 => absurd (hc.symm.trans h9) (by decide), YW_eq ⟨K, ad, E, rfl, rfl, hKR, hR⟩ (sx_level (by rw [hc]; decide))⟩, by rw [ht]; exact hP, va_K.moved hW.alike hK, hD⟩, hS.F ht⟩) hS.2.2 dL_level_20
  obtain ⟨hP1, hK1, hD1⟩ := hB
  rw [ht] at hP1
  obtain ⟨hP, hD⟩ := fr_J hP hD hk1 hFc hP1 hD1
  refine lv_i2l (v := r.toInt64) hx hb dL_level_8 rfl ?_
  refine va_last hx hb hK hP hD hS (kW K ad u).length 2 (fr_get _ _) rfl (i := 0) (x := r.toInt64) (by unfold vp_in; decide) dL_level_9 (fun H locs hP hD hS => ?_)
  rw [fr_set] at hP hD
  refine lv_goto (tgt := 21) hx hb dL_level_10 (by decide) ?_
  refine lv_iconst (v := 0) hx hb dL_level_21 (by decide) ?_
  exact W.iret (v := 0) hx hb hr (fun t ht hW => ⟨⟨0, (kW K ad u, vp_updL f (0 : Int32).toNatClampNeg r.toInt64), rfl, ⟨by rw [hw.1]; rfl, fun _ => (by show vp_updL f (0 : Int32).toNatClampNeg r.toInt64 0 = _; rw [updL_0, hw.2.1]), ⟨K, ad, u, rfl, rfl, KR_eq hKR kr_level, hw.2.2⟩⟩, by rw [ht]; exact hP, va_K.moved hW.alike hK, hD⟩, hS.F ht⟩) hS.2.2 dL_level_22
set_option maxHeartbeats 4000000 in
set_option maxRecDepth 100000 in
theorem c_L_head (l : Launch) (hlt : l.stackTraces = false) (D : va_G) (cy : Nat → ClassId) (sz : Nat) (sa : Nat → Nat) (q o : Nat) (w : va_W) (Y : YT) (hYW : YW cy q Y w) (hY : WF Y) (f : Nat → Int64) (a : Int32) : Met l yL_head wsL_head ({ frames := 8, cells := 1, slots := 6, locals := 200 } : Room) (va_Pc [.ref q, .int a, .ref o] (wL D cy sz sa (w ++ [(o, oC cy f)]))) (va_Qi (fun (r : Int32) (u : va_W × (Nat → Int64)) => HP cy q (sp_head Y a).1 (sp_head Y a).2.1.toInt64 (sp_head Y a).2.2 r u) (fun u t => wE D cy (va_A (w ++ [(o, oC cy f)]) sz) (u.1 ++ [(o, oC cy u.2)]) t) (va_A (w ++ [(o, oC cy f)]) sz)) 1 6 (va_A (w ++ [(o, oC cy f)]) sz) := by
  obtain ⟨K, ad, E, rfl, rfl, hKR, hR⟩ := hYW
  refine va_MetW (cc := cL_head) (maxL := 4) (ret := (some .int)) (hh := [(0, 9, 12, 13)]) (by decide) rfl ?_
  intro p e s m args below meth c s₁ B hml hv
  obtain ⟨rfl, ⟨⟨⟨hsz, hP, hK, hD0⟩, hN⟩, hX, hZ⟩, hC⟩ := hv
  have hx := B.exec
  have hb := B.bytes
  have hr := B.returns
  have hts := atoms_spec (ws := wsL_head) B.pre
  have hown : s.vm.findClass RL = some m.cls := findClass_of_methodNamed B.named
  have hTab := vx_table (x := yL_head) B (hts _ List.mem_cons_self)
  subst hsz
  have hD := hD0.self (sz := s.heap.size)
  generalize hAe : va_A (kW K ad E ++ [(o, oC cy f)]) s.heap.size = A at hD hZ ⊢
  have hA : ∀ q : Nat, s.heap.size ≤ q → A q := w_A hAe
  have hS : va_S A s.heap s.heap [] := va_S.rf
  have hl := lv_entry ([.ref (ad 0), .int a, .ref o]) (n := 4) (Nat.le_of_ble_eq_true rfl)
  rw [lg_entry_eq]
  generalize (lg_sl ([.ref (ad 0), .int a, .ref o]) ++ List.replicate (4 - (lg_sl ([.ref (ad 0), .int a, .ref o])).length) Slot.unset).toArray = ls at hl ⊢
  have hl : lv_has ls 4 [(0, .ref (ad 0)), (1, .int a), (2, .ref o)] := hl
  have hE0 := hR.1.1
  obtain ⟨p1, hp1⟩ := kW_pos (hKR.m (show keyOk Y (0) by unfold keyOk; omega))
  refine lv_aload_n hx hb dL_head_0 rfl (lv_at hl 2 rfl) ?_
  refine lv_iconst (v := 0) hx hb dL_head_1 (by decide) ?_
  refine lv_aload_n hx hb dL_head_2 rfl (lv_at hl 0 rfl) ?_
  refine lv_iload_n hx hb dL_head_3 rfl (lv_at hl 1 rfl) ?_
  have hPa := fr_P1 hP
  have hDa := fr_D1 hD
  have hFc := w_free hDa hS hA
  refine vx_calli (vx_runV (As := [.int a]) (rest := [.int 0, .ref o]) ⟨hx, hb, hml, hown, hts⟩ (c_X4_head l hlt D cy s.heap.size sa K ad E Y hKR hR hY a) (cwV 1 hts gL_head_X4_head rfl rfl rfl (by decide +kernel) ⟨Nat.le_of_ble_eq_true rfl, Nat.le_of_ble_eq_true rfl⟩) ⟨wX_blind, va_recv hK hPa (ci := 4) (q0 := p1) rfl (kW_get hp1 hE0), wX_pre hPa hK hDa hN hX hZ hS hA⟩ rfl rfl hl.1 rfl (lv_room (Nat.le_of_ble_eq_true rfl)) dL_head_4 ⟨Nat.le_of_ble_eq_true rfl, Nat.le_of_ble_eq_true rfl⟩) hS (fun q _ h => hFc q h) hFc (fun q _ h => hFc q h) (fun En ce q9 u9 t9 H locs ht hvm hpx hBX hz1 hk1 hS hce hcv hcl => ?_) (fun r u t9 H locs ht hvm hw hB hz1 hk1 hS => ?_)
  · obtain ⟨hxo, hP1, hK1, hD1⟩ := hBX
    rw [ht] at hP1
    obtain ⟨hP, hD⟩ := fr_J hP hD hk1 hFc hP1 hD1
    rcases hxo with ⟨rfl, hc⟩ | ⟨rfl, hc⟩
    · refine vx_catch (own := RL) (name := "java/util/NoSuchElementException") (E := "java/util/NoSuchElementException") hown [] ⟨0, 9, 12, 13⟩ [] (by rw [hTab]; rfl) (fun z hz => nomatch hz) (by decide) (by decide) (hts (.classLink RL 13 "java/util/NoSuchElementException") (by decide +kernel)) (va_Nw.use rfl hX.2.2.1) hce hcv hcl ?_
      refine lv_astore_n (lv' := [(3, .ref q9), (0, .ref (ad 0)), (1, .int a), (2, .ref o)]) hx hb dL_head_12 rfl hl (by decide) rfl (fun ls hl => ?_)
      refine lv_iconst (v := 1) hx hb dL_head_13 (by decide) ?_
      exact W.iret (v := 1) hx hb hr (fun t ht hW => ⟨⟨1, (kW K ad E, f), rfl, ⟨by rw [hc]; rfl, fun h9 => absurd (hc.symm.trans h9) (by decide), YW_eq ⟨K, ad, E, rfl, rfl, hKR, hR⟩ (sx_head (by rw [hc]; decide))⟩, by rw [ht]; exact hP, va_K.moved hW.alike hK, hD⟩, hS.F ht⟩) hS.2.2 dL_head_14
    · have h9 : (sp_head Y a).1 ≤ 1 := sb_head
      omega
  obtain ⟨hP1, hK1, hD1⟩ := hB
  rw [ht] at hP1
  obtain ⟨hP, hD⟩ := fr_J hP hD hk1 hFc hP1 hD1
  refine lv_i2l (v := r.toInt64) hx hb dL_head_7 rfl ?_
  refine va_last hx hb hK hP hD hS (kW K ad u).length 2 (fr_get _ _) rfl (i := 0) (x := r.toInt64) (by unfold vp_in; decide) dL_head_8 (fun H locs hP hD hS => ?_)
  rw [fr_set] at hP hD
  refine lv_goto (tgt := 15) hx hb dL_head_9 (by decide) ?_
  refine lv_iconst (v := 0) hx hb dL_head_15 (by decide) ?_
  exact W.iret (v := 0) hx hb hr (fun t ht hW => ⟨⟨0, (kW K ad u, vp_updL f (0 : Int32).toNatClampNeg r.toInt64), rfl, ⟨by rw [hw.1]; rfl, fun _ => (by show vp_updL f (0 : Int32).toNatClampNeg r.toInt64 0 = _; rw [updL_0, hw.2.1]), ⟨K, ad, u, rfl, rfl, KR_eq hKR kr_head, hw.2.2⟩⟩, by rw [ht]; exact hP, va_K.moved hW.alike hK, hD⟩, hS.F ht⟩) hS.2.2 dL_head_16
set_option maxHeartbeats 4000000 in
set_option maxRecDepth 100000 in
theorem c_L_days (l : Launch) (hlt : l.stackTraces = false) (D : va_G) (cy : Nat → ClassId) (sz : Nat) (sa : Nat → Nat) (q o : Nat) (w : va_W) (Y : YT) (hYW : YW cy q Y w) (hY : WF Y) (f : Nat → Int64) (a : Int32) : Met l yL_days wsL_days ({ frames := 8, cells := 1, slots := 6, locals := 200 } : Room) (va_Pc [.ref q, .int a, .ref o] (wL D cy sz sa (w ++ [(o, oC cy f)]))) (va_Qi (fun (r : Int32) (u : va_W × (Nat → Int64)) => HP cy q (sp_days Y a).1 (sp_days Y a).2.1.toInt64 (sp_days Y a).2.2 r u) (fun u t => wE D cy (va_A (w ++ [(o, oC cy f)]) sz) (u.1 ++ [(o, oC cy u.2)]) t) (va_A (w ++ [(o, oC cy f)]) sz)) 1 6 (va_A (w ++ [(o, oC cy f)]) sz) := by
  obtain ⟨K, ad, E, rfl, rfl, hKR, hR⟩ := hYW
  refine va_MetW (cc := cL_days) (maxL := 4) (ret := (some .int)) (hh := [(0, 9, 12, 15)]) (by decide) rfl ?_
  intro p e s m args below meth c s₁ B hml hv
  obtain ⟨rfl, ⟨⟨⟨hsz, hP, hK, hD0⟩, hN⟩, hX, hZ⟩, hC⟩ := hv
  have hx := B.exec
  have hb := B.bytes
  have hr := B.returns
  have hts := atoms_spec (ws := wsL_days) B.pre
  have hown : s.vm.findClass RL = some m.cls := findClass_of_methodNamed B.named
  have hTab := vx_table (x := yL_days) B (hts _ List.mem_cons_self)
  subst hsz
  have hD := hD0.self (sz := s.heap.size)
  generalize hAe : va_A (kW K ad E ++ [(o, oC cy f)]) s.heap.size = A at hD hZ ⊢
  have hA : ∀ q : Nat, s.heap.size ≤ q → A q := w_A hAe
  have hS : va_S A s.heap s.heap [] := va_S.rf
  have hl := lv_entry ([.ref (ad 0), .int a, .ref o]) (n := 4) (Nat.le_of_ble_eq_true rfl)
  rw [lg_entry_eq]
  generalize (lg_sl ([.ref (ad 0), .int a, .ref o]) ++ List.replicate (4 - (lg_sl ([.ref (ad 0), .int a, .ref o])).length) Slot.unset).toArray = ls at hl ⊢
  have hl : lv_has ls 4 [(0, .ref (ad 0)), (1, .int a), (2, .ref o)] := hl
  have hE0 := hR.1.1
  obtain ⟨p1, hp1⟩ := kW_pos (hKR.m (show keyOk Y (0) by unfold keyOk; omega))
  refine lv_aload_n hx hb dL_days_0 rfl (lv_at hl 2 rfl) ?_
  refine lv_iconst (v := 0) hx hb dL_days_1 (by decide) ?_
  refine lv_aload_n hx hb dL_days_2 rfl (lv_at hl 0 rfl) ?_
  refine lv_iload_n hx hb dL_days_3 rfl (lv_at hl 1 rfl) ?_
  have hPa := fr_P1 hP
  have hDa := fr_D1 hD
  have hFc := w_free hDa hS hA
  refine vx_calli (vx_runV (As := [.int a]) (rest := [.int 0, .ref o]) ⟨hx, hb, hml, hown, hts⟩ (c_X4_days l hlt D cy s.heap.size sa K ad E Y hKR hR hY a) (cwV 1 hts gL_days_X4_days rfl rfl rfl (by decide +kernel) ⟨Nat.le_of_ble_eq_true rfl, Nat.le_of_ble_eq_true rfl⟩) ⟨wX_blind, va_recv hK hPa (ci := 4) (q0 := p1) rfl (kW_get hp1 hE0), wX_pre hPa hK hDa hN hX hZ hS hA⟩ rfl rfl hl.1 rfl (lv_room (Nat.le_of_ble_eq_true rfl)) dL_days_4 ⟨Nat.le_of_ble_eq_true rfl, Nat.le_of_ble_eq_true rfl⟩) hS (fun q _ h => hFc q h) hFc (fun q _ h => hFc q h) (fun En ce q9 u9 t9 H locs ht hvm hpx hBX hz1 hk1 hS hce hcv hcl => ?_) (fun r u t9 H locs ht hvm hw hB hz1 hk1 hS => ?_)
  · obtain ⟨hxo, hP1, hK1, hD1⟩ := hBX
    rw [ht] at hP1
    obtain ⟨hP, hD⟩ := fr_J hP hD hk1 hFc hP1 hD1
    rcases hxo with ⟨rfl, hc⟩ | ⟨rfl, hc⟩
    · have h9 : (sp_days Y a).1 ≤ 1 := sb_days
      omega
    · refine vx_catch (own := RL) (name := "java/lang/IllegalArgumentException") (E := "java/lang/IllegalArgumentException") hown [] ⟨0, 9, 12, 15⟩ [] (by rw [hTab]; rfl) (fun z hz => nomatch hz) (by decide) (by decide) (hts (.classLink RL 15 "java/lang/IllegalArgumentException") (by decide +kernel)) (va_Nw.use rfl hX.2.2.2) hce hcv hcl ?_
      refine lv_astore_n (lv' := [(3, .ref q9), (0, .ref (ad 0)), (1, .int a), (2, .ref o)]) hx hb dL_days_12 rfl hl (by decide) rfl (fun ls hl => ?_)
      refine lv_iconst (v := 1) hx hb dL_days_13 (by decide) ?_
      exact W.iret (v := 1) hx hb hr (fun t ht hW => ⟨⟨1, (kW K ad E, f), rfl, ⟨by rw [hc]; rfl, fun h9 => absurd (hc.symm.trans h9) (by decide), YW_eq ⟨K, ad, E, rfl, rfl, hKR, hR⟩ (sx_days (by rw [hc]; decide))⟩, by rw [ht]; exact hP, va_K.moved hW.alike hK, hD⟩, hS.F ht⟩) hS.2.2 dL_days_14
  obtain ⟨hP1, hK1, hD1⟩ := hB
  rw [ht] at hP1
  obtain ⟨hP, hD⟩ := fr_J hP hD hk1 hFc hP1 hD1
  refine lv_i2l (v := r.toInt64) hx hb dL_days_7 rfl ?_
  refine va_last hx hb hK hP hD hS (kW K ad u).length 2 (fr_get _ _) rfl (i := 0) (x := r.toInt64) (by unfold vp_in; decide) dL_days_8 (fun H locs hP hD hS => ?_)
  rw [fr_set] at hP hD
  refine lv_goto (tgt := 15) hx hb dL_days_9 (by decide) ?_
  refine lv_iconst (v := 0) hx hb dL_days_15 (by decide) ?_
  exact W.iret (v := 0) hx hb hr (fun t ht hW => ⟨⟨0, (kW K ad u, vp_updL f (0 : Int32).toNatClampNeg r.toInt64), rfl, ⟨by rw [hw.1]; rfl, fun _ => (by show vp_updL f (0 : Int32).toNatClampNeg r.toInt64 0 = _; rw [updL_0, hw.2.1]), ⟨K, ad, u, rfl, rfl, KR_eq hKR kr_days, hw.2.2⟩⟩, by rw [ht]; exact hP, va_K.moved hW.alike hK, hD⟩, hS.F ht⟩) hS.2.2 dL_days_16
set_option maxHeartbeats 4000000 in
set_option maxRecDepth 100000 in
theorem c_L_flaw (l : Launch) (hlt : l.stackTraces = false) (D : va_G) (cy : Nat → ClassId) (sz : Nat) (sa : Nat → Nat) (q o : Nat) (w : va_W) (Y : YT) (hYW : YW cy q Y w) (hY : WF Y) (f : Nat → Int64) (a : Int32) (b : Int32) (v : Int32) : Met l yL_flaw wsL_flaw ({ frames := 8, cells := 1, slots := 6, locals := 200 } : Room) (va_Pc [.ref q, .int a, .int b, .int v, .ref o] (wL D cy sz sa (w ++ [(o, oC cy f)]))) (va_Qi (fun (r : Int32) (u : va_W × (Nat → Int64)) => HP cy q (sp_flaw Y a b v).1 (sp_flaw Y a b v).2.1.toInt64 (sp_flaw Y a b v).2.2 r u) (fun u t => wE D cy (va_A (w ++ [(o, oC cy f)]) sz) (u.1 ++ [(o, oC cy u.2)]) t) (va_A (w ++ [(o, oC cy f)]) sz)) 1 6 (va_A (w ++ [(o, oC cy f)]) sz) := by
  obtain ⟨K, ad, E, rfl, rfl, hKR, hR⟩ := hYW
  refine va_MetW (cc := cL_flaw) (maxL := 6) (ret := (some .int)) (hh := [(0, 12, 15, 13)]) (by decide) rfl ?_
  intro p e s m args below meth c s₁ B hml hv
  obtain ⟨rfl, ⟨⟨⟨hsz, hP, hK, hD0⟩, hN⟩, hX, hZ⟩, hC⟩ := hv
  have hx := B.exec
  have hb := B.bytes
  have hr := B.returns
  have hts := atoms_spec (ws := wsL_flaw) B.pre
  have hown : s.vm.findClass RL = some m.cls := findClass_of_methodNamed B.named
  have hTab := vx_table (x := yL_flaw) B (hts _ List.mem_cons_self)
  subst hsz
  have hD := hD0.self (sz := s.heap.size)
  generalize hAe : va_A (kW K ad E ++ [(o, oC cy f)]) s.heap.size = A at hD hZ ⊢
  have hA : ∀ q : Nat, s.heap.size ≤ q → A q := w_A hAe
  have hS : va_S A s.heap s.heap [] := va_S.rf
  have hl := lv_entry ([.ref (ad 0), .int a, .int b, .int v, .ref o]) (n := 6) (Nat.le_of_ble_eq_true rfl)
  rw [lg_entry_eq]
  generalize (lg_sl ([.ref (ad 0), .int a, .int b, .int v, .ref o]) ++ List.replicate (6 - (lg_sl ([.ref (ad 0), .int a, .int b, .int v, .ref o])).length) Slot.unset).toArray = ls at hl ⊢
  have hl : lv_has ls 6 [(0, .ref (ad 0)), (1, .int a), (2, .int b), (3, .int v), (4, .ref o)] := hl
  have hE0 := hR.1.1
  obtain ⟨p1, hp1⟩ := kW_pos (hKR.m (show keyOk Y (0) by unfold keyOk; omega))
  refine lv_aload hx hb dL_flaw_0 (lv_at hl 4 rfl) ?_
  refine lv_iconst (v := 0) hx hb dL_flaw_2 (by decide) ?_
  refine lv_aload_n hx hb dL_flaw_3 rfl (lv_at hl 0 rfl) ?_
  refine lv_iload_n hx hb dL_flaw_4 rfl (lv_at hl 1 rfl) ?_
  refine lv_iload_n hx hb dL_flaw_5 rfl (lv_at hl 2 rfl) ?_
  refine lv_iload_n hx hb dL_flaw_6 rfl (lv_at hl 3 rfl) ?_
  have hPa := fr_P1 hP
  have hDa := fr_D1 hD
  have hFc := w_free hDa hS hA
  refine vx_calli (vx_runV (As := [.int a, .int b, .int v]) (rest := [.int 0, .ref o]) ⟨hx, hb, hml, hown, hts⟩ (c_X4_flaw l hlt D cy s.heap.size sa K ad E Y hKR hR hY a b v) (cwV 3 hts gL_flaw_X4_flaw rfl rfl rfl (by decide +kernel) ⟨Nat.le_of_ble_eq_true rfl, Nat.le_of_ble_eq_true rfl⟩) ⟨wX_blind, va_recv hK hPa (ci := 4) (q0 := p1) rfl (kW_get hp1 hE0), wX_pre hPa hK hDa hN hX hZ hS hA⟩ rfl rfl hl.1 rfl (lv_room (Nat.le_of_ble_eq_true rfl)) dL_flaw_7 ⟨Nat.le_of_ble_eq_true rfl, Nat.le_of_ble_eq_true rfl⟩) hS (fun q _ h => hFc q h) hFc (fun q _ h => hFc q h) (fun En ce q9 u9 t9 H locs ht hvm hpx hBX hz1 hk1 hS hce hcv hcl => ?_) (fun r u t9 H locs ht hvm hw hB hz1 hk1 hS => ?_)
  · obtain ⟨hxo, hP1, hK1, hD1⟩ := hBX
    rw [ht] at hP1
    obtain ⟨hP, hD⟩ := fr_J hP hD hk1 hFc hP1 hD1
    rcases hxo with ⟨rfl, hc⟩ | ⟨rfl, hc⟩
    · refine vx_catch (own := RL) (name := "java/util/NoSuchElementException") (E := "java/util/NoSuchElementException") hown [] ⟨0, 12, 15, 13⟩ [] (by rw [hTab]; rfl) (fun z hz => nomatch hz) (by decide) (by decide) (hts (.classLink RL 13 "java/util/NoSuchElementException") (by decide +kernel)) (va_Nw.use rfl hX.2.2.1) hce hcv hcl ?_
      refine lv_astore (lv' := [(5, .ref q9), (0, .ref (ad 0)), (1, .int a), (2, .int b), (3, .int v), (4, .ref o)]) hx hb dL_flaw_15 hl (by decide) rfl (fun ls hl => ?_)
      refine lv_iconst (v := 1) hx hb dL_flaw_17 (by decide) ?_
      exact W.iret (v := 1) hx hb hr (fun t ht hW => ⟨⟨1, (kW K ad E, f), rfl, ⟨by rw [hc]; rfl, fun h9 => absurd (hc.symm.trans h9) (by decide), YW_eq ⟨K, ad, E, rfl, rfl, hKR, hR⟩ (sx_flaw (by rw [hc]; decide))⟩, by rw [ht]; exact hP, va_K.moved hW.alike hK, hD⟩, hS.F ht⟩) hS.2.2 dL_flaw_18
    · have h9 : (sp_flaw Y a b v).1 ≤ 1 := sb_flaw
      omega
  obtain ⟨hP1, hK1, hD1⟩ := hB
  rw [ht] at hP1
  obtain ⟨hP, hD⟩ := fr_J hP hD hk1 hFc hP1 hD1
  refine lv_i2l (v := r.toInt64) hx hb dL_flaw_10 rfl ?_
  refine va_last hx hb hK hP hD hS (kW K ad u).length 2 (fr_get _ _) rfl (i := 0) (x := r.toInt64) (by unfold vp_in; decide) dL_flaw_11 (fun H locs hP hD hS => ?_)
  rw [fr_set] at hP hD
  refine lv_goto (tgt := 19) hx hb dL_flaw_12 (by decide) ?_
  refine lv_iconst (v := 0) hx hb dL_flaw_19 (by decide) ?_
  exact W.iret (v := 0) hx hb hr (fun t ht hW => ⟨⟨0, (kW K ad u, vp_updL f (0 : Int32).toNatClampNeg r.toInt64), rfl, ⟨by rw [hw.1]; rfl, fun _ => (by show vp_updL f (0 : Int32).toNatClampNeg r.toInt64 0 = _; rw [updL_0, hw.2.1]), ⟨K, ad, u, rfl, rfl, KR_eq hKR kr_flaw, hw.2.2⟩⟩, by rw [ht]; exact hP, va_K.moved hW.alike hK, hD⟩, hS.F ht⟩) hS.2.2 dL_flaw_20
set_option maxHeartbeats 4000000 in
set_option maxRecDepth 100000 in
theorem c_L_clear (l : Launch) (hlt : l.stackTraces = false) (D : va_G) (cy : Nat → ClassId) (sz : Nat) (sa : Nat → Nat) (q o : Nat) (w : va_W) (Y : YT) (hYW : YW cy q Y w) (hY : WF Y) (f : Nat → Int64) (a : Int32) (b : Int32) (v : Int32) : Met l yL_clear wsL_clear ({ frames := 8, cells := 2, slots := 12, locals := 200 } : Room) (va_Pc [.ref q, .int a, .int b, .int v, .ref o] (wL D cy sz sa (w ++ [(o, oC cy f)]))) (va_Qi (fun (r : Int32) (u : va_W × (Nat → Int64)) => HP cy q (sp_clear Y a b v).1 (sp_clear Y a b v).2.1.toInt64 (sp_clear Y a b v).2.2 r u) (fun u t => wE D cy (va_A (w ++ [(o, oC cy f)]) sz) (u.1 ++ [(o, oC cy u.2)]) t) (va_A (w ++ [(o, oC cy f)]) sz)) 2 12 (va_A (w ++ [(o, oC cy f)]) sz) := by
  obtain ⟨K, ad, E, rfl, rfl, hKR, hR⟩ := hYW
  refine va_MetW (cc := cL_clear) (maxL := 6) (ret := (some .int)) (hh := [(0, 12, 15, 13)]) (by decide) rfl ?_
  intro p e s m args below meth c s₁ B hml hv
  obtain ⟨rfl, ⟨⟨⟨hsz, hP, hK, hD0⟩, hN⟩, hX, hZ⟩, hC⟩ := hv
  have hx := B.exec
  have hb := B.bytes
  have hr := B.returns
  have hts := atoms_spec (ws := wsL_clear) B.pre
  have hown : s.vm.findClass RL = some m.cls := findClass_of_methodNamed B.named
  have hTab := vx_table (x := yL_clear) B (hts _ List.mem_cons_self)
  subst hsz
  have hD := hD0.self (sz := s.heap.size)
  generalize hAe : va_A (kW K ad E ++ [(o, oC cy f)]) s.heap.size = A at hD hZ ⊢
  have hA : ∀ q : Nat, s.heap.size ≤ q → A q := w_A hAe
  have hS : va_S A s.heap s.heap [] := va_S.rf
  have hl := lv_entry ([.ref (ad 0), .int a, .int b, .int v, .ref o]) (n := 6) (Nat.le_of_ble_eq_true rfl)
  rw [lg_entry_eq]
  generalize (lg_sl ([.ref (ad 0), .int a, .int b, .int v, .ref o]) ++ List.replicate (6 - (lg_sl ([.ref (ad 0), .int a, .int b, .int v, .ref o])).length) Slot.unset).toArray = ls at hl ⊢
  have hl : lv_has ls 6 [(0, .ref (ad 0)), (1, .int a), (2, .int b), (3, .int v), (4, .ref o)] := hl
  have hE0 := hR.1.1
  obtain ⟨p1, hp1⟩ := kW_pos (hKR.m (show keyOk Y (0) by unfold keyOk; omega))
  refine lv_aload hx hb dL_clear_0 (lv_at hl 4 rfl) ?_
  refine lv_iconst (v := 0) hx hb dL_clear_2 (by decide) ?_
  refine lv_aload_n hx hb dL_clear_3 rfl (lv_at hl 0 rfl) ?_
  refine lv_iload_n hx hb dL_clear_4 rfl (lv_at hl 1 rfl) ?_
  refine lv_iload_n hx hb dL_clear_5 rfl (lv_at hl 2 rfl) ?_
  refine lv_iload_n hx hb dL_clear_6 rfl (lv_at hl 3 rfl) ?_
  have hPa := fr_P1 hP
  have hDa := fr_D1 hD
  have hFc := w_free hDa hS hA
  refine vx_calli (vx_runV (As := [.int a, .int b, .int v]) (rest := [.int 0, .ref o]) ⟨hx, hb, hml, hown, hts⟩ (c_X4_clear l hlt D cy s.heap.size sa K ad E Y hKR hR hY a b v) (cwV 3 hts gL_clear_X4_clear rfl rfl rfl (by decide +kernel) ⟨Nat.le_of_ble_eq_true rfl, Nat.le_of_ble_eq_true rfl⟩) ⟨wX_blind, va_recv hK hPa (ci := 4) (q0 := p1) rfl (kW_get hp1 hE0), wX_pre hPa hK hDa hN hX hZ hS hA⟩ rfl rfl hl.1 rfl (lv_room (Nat.le_of_ble_eq_true rfl)) dL_clear_7 ⟨Nat.le_of_ble_eq_true rfl, Nat.le_of_ble_eq_true rfl⟩) hS (fun q _ h => hFc q h) hFc (fun q _ h => hFc q h) (fun En ce q9 u9 t9 H locs ht hvm hpx hBX hz1 hk1 hS hce hcv hcl => ?_) (fun r u t9 H locs ht hvm hw hB hz1 hk1 hS => ?_)
  · obtain ⟨hxo, hP1, hK1, hD1⟩ := hBX
    rw [ht] at hP1
    obtain ⟨hP, hD⟩ := fr_J hP hD hk1 hFc hP1 hD1
    rcases hxo with ⟨rfl, hc⟩ | ⟨rfl, hc⟩
    · refine vx_catch (own := RL) (name := "java/util/NoSuchElementException") (E := "java/util/NoSuchElementException") hown [] ⟨0, 12, 15, 13⟩ [] (by rw [hTab]; rfl) (fun z hz => nomatch hz) (by decide) (by decide) (hts (.classLink RL 13 "java/util/NoSuchElementException") (by decide +kernel)) (va_Nw.use rfl hX.2.2.1) hce hcv hcl ?_
      refine lv_astore (lv' := [(5, .ref q9), (0, .ref (ad 0)), (1, .int a), (2, .int b), (3, .int v), (4, .ref o)]) hx hb dL_clear_15 hl (by decide) rfl (fun ls hl => ?_)
      refine lv_iconst (v := 1) hx hb dL_clear_17 (by decide) ?_
      exact W.iret (v := 1) hx hb hr (fun t ht hW => ⟨⟨1, (kW K ad E, f), rfl, ⟨by rw [hc]; rfl, fun h9 => absurd (hc.symm.trans h9) (by decide), YW_eq ⟨K, ad, E, rfl, rfl, hKR, hR⟩ (sx_clear (by rw [hc]; decide))⟩, by rw [ht]; exact hP, va_K.moved hW.alike hK, hD⟩, hS.F ht⟩) hS.2.2 dL_clear_18
    · have h9 : (sp_clear Y a b v).1 ≤ 1 := sb_clear
      omega
  obtain ⟨hP1, hK1, hD1⟩ := hB
  rw [ht] at hP1
  obtain ⟨hP, hD⟩ := fr_J hP hD hk1 hFc hP1 hD1
  refine lv_i2l (v := r.toInt64) hx hb dL_clear_10 rfl ?_
  refine va_last hx hb hK hP hD hS (kW K ad u).length 2 (fr_get _ _) rfl (i := 0) (x := r.toInt64) (by unfold vp_in; decide) dL_clear_11 (fun H locs hP hD hS => ?_)
  rw [fr_set] at hP hD
  refine lv_goto (tgt := 19) hx hb dL_clear_12 (by decide) ?_
  refine lv_iconst (v := 0) hx hb dL_clear_19 (by decide) ?_
  exact W.iret (v := 0) hx hb hr (fun t ht hW => ⟨⟨0, (kW K ad u, vp_updL f (0 : Int32).toNatClampNeg r.toInt64), rfl, ⟨by rw [hw.1]; rfl, fun _ => (by show vp_updL f (0 : Int32).toNatClampNeg r.toInt64 0 = _; rw [updL_0, hw.2.1]), ⟨K, ad, u, rfl, rfl, KR_eq hKR kr_clear, hw.2.2⟩⟩, by rw [ht]; exact hP, va_K.moved hW.alike hK, hD⟩, hS.F ht⟩) hS.2.2 dL_clear_20
set_option maxHeartbeats 4000000 in
set_option maxRecDepth 100000 in
theorem c_L_ripe (l : Launch) (hlt : l.stackTraces = false) (D : va_G) (cy : Nat → ClassId) (sz : Nat) (sa : Nat → Nat) (q o : Nat) (w : va_W) (Y : YT) (hYW : YW cy q Y w) (hY : WF Y) (f : Nat → Int64) (a : Int32) : Met l yL_ripe wsL_ripe ({ frames := 8, cells := 1, slots := 6, locals := 200 } : Room) (va_Pc [.ref q, .int a, .ref o] (wL D cy sz sa (w ++ [(o, oC cy f)]))) (va_Qi (fun (r : Int32) (u : va_W × (Nat → Int64)) => HP cy q (sp_ripe Y a).1 (if (sp_ripe Y a).2.1 = 0 then 0 else 1) (sp_ripe Y a).2.2 r u) (fun u t => wE D cy (va_A (w ++ [(o, oC cy f)]) sz) (u.1 ++ [(o, oC cy u.2)]) t) (va_A (w ++ [(o, oC cy f)]) sz)) 1 6 (va_A (w ++ [(o, oC cy f)]) sz) := by
  obtain ⟨K, ad, E, rfl, rfl, hKR, hR⟩ := hYW
  refine va_MetW (cc := cL_ripe) (maxL := 4) (ret := (some .int)) (hh := [(0, 16, 19, 13)]) (by decide) rfl ?_
  intro p e s m args below meth c s₁ B hml hv
  obtain ⟨rfl, ⟨⟨⟨hsz, hP, hK, hD0⟩, hN⟩, hX, hZ⟩, hC⟩ := hv
  have hx := B.exec
  have hb := B.bytes
  have hr := B.returns
  have hts := atoms_spec (ws := wsL_ripe) B.pre
  have hown : s.vm.findClass RL = some m.cls := findClass_of_methodNamed B.named
  have hTab := vx_table (x := yL_ripe) B (hts _ List.mem_cons_self)
  subst hsz
  have hD := hD0.self (sz := s.heap.size)
  generalize hAe : va_A (kW K ad E ++ [(o, oC cy f)]) s.heap.size = A at hD hZ ⊢
  have hA : ∀ q : Nat, s.heap.size ≤ q → A q := w_A hAe
  have hS : va_S A s.heap s.heap [] := va_S.rf
  have hl := lv_entry ([.ref (ad 0), .int a, .ref o]) (n := 4) (Nat.le_of_ble_eq_true rfl)
  rw [lg_entry_eq]
  generalize (lg_sl ([.ref (ad 0), .int a, .ref o]) ++ List.replicate (4 - (lg_sl ([.ref (ad 0), .int a, .ref o])).length) Slot.unset).toArray = ls at hl ⊢
  have hl : lv_has ls 4 [(0, .ref (ad 0)), (1, .int a), (2, .ref o)] := hl
  have hE0 := hR.1.1
  obtain ⟨p1, hp1⟩ := kW_pos (hKR.m (show keyOk Y (0) by unfold keyOk; omega))
  refine lv_aload_n hx hb dL_ripe_0 rfl (lv_at hl 2 rfl) ?_
  refine lv_iconst (v := 0) hx hb dL_ripe_1 (by decide) ?_
  refine lv_aload_n hx hb dL_ripe_2 rfl (lv_at hl 0 rfl) ?_
  refine lv_iload_n hx hb dL_ripe_3 rfl (lv_at hl 1 rfl) ?_
  have hPa := fr_P1 hP
  have hDa := fr_D1 hD
  have hFc := w_free hDa hS hA
  refine vx_calli (vx_runV (As := [.int a]) (rest := [.int 0, .ref o]) ⟨hx, hb, hml, hown, hts⟩ (c_X4_ripe l hlt D cy s.heap.size sa K ad E Y hKR hR hY a) (cwV 1 hts gL_ripe_X4_ripe rfl rfl rfl (by decide +kernel) ⟨Nat.le_of_ble_eq_true rfl, Nat.le_of_ble_eq_true rfl⟩) ⟨wX_blind, va_recv hK hPa (ci := 4) (q0 := p1) rfl (kW_get hp1 hE0), wX_pre hPa hK hDa hN hX hZ hS hA⟩ rfl rfl hl.1 rfl (lv_room (Nat.le_of_ble_eq_true rfl)) dL_ripe_4 ⟨Nat.le_of_ble_eq_true rfl, Nat.le_of_ble_eq_true rfl⟩) hS (fun q _ h => hFc q h) hFc (fun q _ h => hFc q h) (fun En ce q9 u9 t9 H locs ht hvm hpx hBX hz1 hk1 hS hce hcv hcl => ?_) (fun r u t9 H locs ht hvm hw hB hz1 hk1 hS => ?_)
  · obtain ⟨hxo, hP1, hK1, hD1⟩ := hBX
    rw [ht] at hP1
    obtain ⟨hP, hD⟩ := fr_J hP hD hk1 hFc hP1 hD1
    rcases hxo with ⟨rfl, hc⟩ | ⟨rfl, hc⟩
    · refine vx_catch (own := RL) (name := "java/util/NoSuchElementException") (E := "java/util/NoSuchElementException") hown [] ⟨0, 16, 19, 13⟩ [] (by rw [hTab]; rfl) (fun z hz => nomatch hz) (by decide) (by decide) (hts (.classLink RL 13 "java/util/NoSuchElementException") (by decide +kernel)) (va_Nw.use rfl hX.2.2.1) hce hcv hcl ?_
      refine lv_astore_n (lv' := [(3, .ref q9), (0, .ref (ad 0)), (1, .int a), (2, .ref o)]) hx hb dL_ripe_19 rfl hl (by decide) rfl (fun ls hl => ?_)
      refine lv_iconst (v := 1) hx hb dL_ripe_20 (by decide) ?_
      exact W.iret (v := 1) hx hb hr (fun t ht hW => ⟨⟨1, (kW K ad E, f), rfl, ⟨by rw [hc]; rfl, fun h9 => absurd (hc.symm.trans h9) (by decide), YW_eq ⟨K, ad, E, rfl, rfl, hKR, hR⟩ (sx_ripe (by rw [hc]; decide))⟩, by rw [ht]; exact hP, va_K.moved hW.alike hK, hD⟩, hS.F ht⟩) hS.2.2 dL_ripe_21
    · have h9 : (sp_ripe Y a).1 ≤ 1 := sb_ripe
      omega
  obtain ⟨hP1, hK1, hD1⟩ := hB
  rw [ht] at hP1
  obtain ⟨hP, hD⟩ := fr_J hP hD hk1 hFc hP1 hD1
  refine g_nzl hx hb dL_ripe_7 dL_ripe_10 dL_ripe_11 dL_ripe_14 ?_
  refine va_last hx hb hK hP hD hS (kW K ad u).length 2 (fr_get _ _) rfl (i := 0) (x := (if r = 0 then 0 else 1)) (by unfold vp_in; decide) dL_ripe_15 (fun H locs hP hD hS => ?_)
  rw [fr_set] at hP hD
  refine lv_goto (tgt := 22) hx hb dL_ripe_16 (by decide) ?_
  refine lv_iconst (v := 0) hx hb dL_ripe_22 (by decide) ?_
  exact W.iret (v := 0) hx hb hr (fun t ht hW => ⟨⟨0, (kW K ad u, vp_updL f (0 : Int32).toNatClampNeg (if r = 0 then 0 else 1)), rfl, ⟨by rw [hw.1]; rfl, fun _ => (by show vp_updL f (0 : Int32).toNatClampNeg (if r = 0 then 0 else 1) 0 = _; rw [updL_0, hw.2.1]), ⟨K, ad, u, rfl, rfl, KR_eq hKR kr_ripe, hw.2.2⟩⟩, by rw [ht]; exact hP, va_K.moved hW.alike hK, hD⟩, hS.F ht⟩) hS.2.2 dL_ripe_23
set_option maxHeartbeats 4000000 in
set_option maxRecDepth 100000 in
theorem c_L_fewest (l : Launch) (hlt : l.stackTraces = false) (D : va_G) (cy : Nat → ClassId) (sz : Nat) (sa : Nat → Nat) (q o : Nat) (w : va_W) (Y : YT) (hYW : YW cy q Y w) (hY : WF Y) (f : Nat → Int64) (a : Int32) : Met l yL_fewest wsL_fewest ({ frames := 8, cells := 1, slots := 6, locals := 200 } : Room) (va_Pc [.ref q, .int a, .ref o] (wL D cy sz sa (w ++ [(o, oC cy f)]))) (va_Qi (fun (r : Int32) (u : va_W × (Nat → Int64)) => HP cy q (sp_fewest Y a).1 (sp_fewest Y a).2.1.toInt64 (sp_fewest Y a).2.2 r u) (fun u t => wE D cy (va_A (w ++ [(o, oC cy f)]) sz) (u.1 ++ [(o, oC cy u.2)]) t) (va_A (w ++ [(o, oC cy f)]) sz)) 1 6 (va_A (w ++ [(o, oC cy f)]) sz) := by
  obtain ⟨K, ad, E, rfl, rfl, hKR, hR⟩ := hYW
  refine va_MetW (cc := cL_fewest) (maxL := 4) (ret := (some .int)) (hh := [(0, 9, 12, 13)]) (by decide) rfl ?_
  intro p e s m args below meth c s₁ B hml hv
  obtain ⟨rfl, ⟨⟨⟨hsz, hP, hK, hD0⟩, hN⟩, hX, hZ⟩, hC⟩ := hv
  have hx := B.exec
  have hb := B.bytes
  have hr := B.returns
  have hts := atoms_spec (ws := wsL_fewest) B.pre
  have hown : s.vm.findClass RL = some m.cls := findClass_of_methodNamed B.named
  have hTab := vx_table (x := yL_fewest) B (hts _ List.mem_cons_self)
  subst hsz
  have hD := hD0.self (sz := s.heap.size)
  generalize hAe : va_A (kW K ad E ++ [(o, oC cy f)]) s.heap.size = A at hD hZ ⊢
  have hA : ∀ q : Nat, s.heap.size ≤ q → A q := w_A hAe
  have hS : va_S A s.heap s.heap [] := va_S.rf
  have hl := lv_entry ([.ref (ad 0), .int a, .ref o]) (n := 4) (Nat.le_of_ble_eq_true rfl)
  rw [lg_entry_eq]
  generalize (lg_sl ([.ref (ad 0), .int a, .ref o]) ++ List.replicate (4 - (lg_sl ([.ref (ad 0), .int a, .ref o])).length) Slot.unset).toArray = ls at hl ⊢
  have hl : lv_has ls 4 [(0, .ref (ad 0)), (1, .int a), (2, .ref o)] := hl
  have hE0 := hR.1.1
  obtain ⟨p1, hp1⟩ := kW_pos (hKR.m (show keyOk Y (0) by unfold keyOk; omega))
  refine lv_aload_n hx hb dL_fewest_0 rfl (lv_at hl 2 rfl) ?_
  refine lv_iconst (v := 0) hx hb dL_fewest_1 (by decide) ?_
  refine lv_aload_n hx hb dL_fewest_2 rfl (lv_at hl 0 rfl) ?_
  refine lv_iload_n hx hb dL_fewest_3 rfl (lv_at hl 1 rfl) ?_
  have hPa := fr_P1 hP
  have hDa := fr_D1 hD
  have hFc := w_free hDa hS hA
  refine vx_calli (vx_runV (As := [.int a]) (rest := [.int 0, .ref o]) ⟨hx, hb, hml, hown, hts⟩ (c_X4_fewest l hlt D cy s.heap.size sa K ad E Y hKR hR hY a) (cwV 1 hts gL_fewest_X4_fewest rfl rfl rfl (by decide +kernel) ⟨Nat.le_of_ble_eq_true rfl, Nat.le_of_ble_eq_true rfl⟩) ⟨wX_blind, va_recv hK hPa (ci := 4) (q0 := p1) rfl (kW_get hp1 hE0), wX_pre hPa hK hDa hN hX hZ hS hA⟩ rfl rfl hl.1 rfl (lv_room (Nat.le_of_ble_eq_true rfl)) dL_fewest_4 ⟨Nat.le_of_ble_eq_true rfl, Nat.le_of_ble_eq_true rfl⟩) hS (fun q _ h => hFc q h) hFc (fun q _ h => hFc q h) (fun En ce q9 u9 t9 H locs ht hvm hpx hBX hz1 hk1 hS hce hcv hcl => ?_) (fun r u t9 H locs ht hvm hw hB hz1 hk1 hS => ?_)
  · obtain ⟨hxo, hP1, hK1, hD1⟩ := hBX
    rw [ht] at hP1
    obtain ⟨hP, hD⟩ := fr_J hP hD hk1 hFc hP1 hD1
    rcases hxo with ⟨rfl, hc⟩ | ⟨rfl, hc⟩
    · refine vx_catch (own := RL) (name := "java/util/NoSuchElementException") (E := "java/util/NoSuchElementException") hown [] ⟨0, 9, 12, 13⟩ [] (by rw [hTab]; rfl) (fun z hz => nomatch hz) (by decide) (by decide) (hts (.classLink RL 13 "java/util/NoSuchElementException") (by decide +kernel)) (va_Nw.use rfl hX.2.2.1) hce hcv hcl ?_
      refine lv_astore_n (lv' := [(3, .ref q9), (0, .ref (ad 0)), (1, .int a), (2, .ref o)]) hx hb dL_fewest_12 rfl hl (by decide) rfl (fun ls hl => ?_)
      refine lv_iconst (v := 1) hx hb dL_fewest_13 (by decide) ?_
      exact W.iret (v := 1) hx hb hr (fun t ht hW => ⟨⟨1, (kW K ad E, f), rfl, ⟨by rw [hc]; rfl, fun h9 => absurd (hc.symm.trans h9) (by decide), YW_eq ⟨K, ad, E, rfl, rfl, hKR, hR⟩ (sx_fewest (by rw [hc]; decide))⟩, by rw [ht]; exact hP, va_K.moved hW.alike hK, hD⟩, hS.F ht⟩) hS.2.2 dL_fewest_14
    · have h9 : (sp_fewest Y a).1 ≤ 1 := sb_fewest
      omega
  obtain ⟨hP1, hK1, hD1⟩ := hB
  rw [ht] at hP1
  obtain ⟨hP, hD⟩ := fr_J hP hD hk1 hFc hP1 hD1
  refine lv_i2l (v := r.toInt64) hx hb dL_fewest_7 rfl ?_
  refine va_last hx hb hK hP hD hS (kW K ad u).length 2 (fr_get _ _) rfl (i := 0) (x := r.toInt64) (by unfold vp_in; decide) dL_fewest_8 (fun H locs hP hD hS => ?_)
  rw [fr_set] at hP hD
  refine lv_goto (tgt := 15) hx hb dL_fewest_9 (by decide) ?_
  refine lv_iconst (v := 0) hx hb dL_fewest_15 (by decide) ?_
  exact W.iret (v := 0) hx hb hr (fun t ht hW => ⟨⟨0, (kW K ad u, vp_updL f (0 : Int32).toNatClampNeg r.toInt64), rfl, ⟨by rw [hw.1]; rfl, fun _ => (by show vp_updL f (0 : Int32).toNatClampNeg r.toInt64 0 = _; rw [updL_0, hw.2.1]), ⟨K, ad, u, rfl, rfl, KR_eq hKR kr_fewest, hw.2.2⟩⟩, by rw [ht]; exact hP, va_K.moved hW.alike hK, hD⟩, hS.F ht⟩) hS.2.2 dL_fewest_16
set_option maxHeartbeats 4000000 in
set_option maxRecDepth 100000 in
theorem c_L_make (l : Launch) (hlt : l.stackTraces = false) (D : va_G) (cy : Nat → ClassId) (sz : Nat) (sa : Nat → Nat) (q o : Nat) (w : va_W) (Y : YT) (hYW : YW cy q Y w) (hY : WF Y) (f : Nat → Int64) (a : Int32) : Met l yL_make wsL_make ({ frames := 8, cells := 7, slots := 214, locals := 200 } : Room) (va_Pc [.ref q, .int a, .ref o] (wL D cy sz sa (w ++ [(o, oC cy f)]))) (va_Qi (fun (r : Int32) (u : va_W × (Nat → Int64)) => HP cy q (sp_make Y a).1 (sp_make Y a).2.1.toInt64 (sp_make Y a).2.2 r u) (fun u t => wE D cy (va_A (w ++ [(o, oC cy f)]) sz) (u.1 ++ [(o, oC cy u.2)]) t) (va_A (w ++ [(o, oC cy f)]) sz)) 7 214 (va_A (w ++ [(o, oC cy f)]) sz) := by
  obtain ⟨K, ad, E, rfl, rfl, hKR, hR⟩ := hYW
  refine va_MetW (cc := cL_make) (maxL := 4) (ret := (some .int)) (hh := [(0, 9, 12, 13)]) (by decide) rfl ?_
  intro p e s m args below meth c s₁ B hml hv
  obtain ⟨rfl, ⟨⟨⟨hsz, hP, hK, hD0⟩, hN⟩, hX, hZ⟩, hC⟩ := hv
  have hx := B.exec
  have hb := B.bytes
  have hr := B.returns
  have hts := atoms_spec (ws := wsL_make) B.pre
  have hown : s.vm.findClass RL = some m.cls := findClass_of_methodNamed B.named
  have hTab := vx_table (x := yL_make) B (hts _ List.mem_cons_self)
  subst hsz
  have hD := hD0.self (sz := s.heap.size)
  generalize hAe : va_A (kW K ad E ++ [(o, oC cy f)]) s.heap.size = A at hD hZ ⊢
  have hA : ∀ q : Nat, s.heap.size ≤ q → A q := w_A hAe
  have hS : va_S A s.heap s.heap [] := va_S.rf
  have hl := lv_entry ([.ref (ad 0), .int a, .ref o]) (n := 4) (Nat.le_of_ble_eq_true rfl)
  rw [lg_entry_eq]
  generalize (lg_sl ([.ref (ad 0), .int a, .ref o]) ++ List.replicate (4 - (lg_sl ([.ref (ad 0), .int a, .ref o])).length) Slot.unset).toArray = ls at hl ⊢
  have hl : lv_has ls 4 [(0, .ref (ad 0)), (1, .int a), (2, .ref o)] := hl
  have hE0 := hR.1.1
  obtain ⟨p1, hp1⟩ := kW_pos (hKR.m (show keyOk Y (0) by unfold keyOk; omega))
  refine lv_aload_n hx hb dL_make_0 rfl (lv_at hl 2 rfl) ?_
  refine lv_iconst (v := 0) hx hb dL_make_1 (by decide) ?_
  refine lv_aload_n hx hb dL_make_2 rfl (lv_at hl 0 rfl) ?_
  refine lv_iload_n hx hb dL_make_3 rfl (lv_at hl 1 rfl) ?_
  have hPa := fr_P1 hP
  have hDa := fr_D1 hD
  have hFc := w_free hDa hS hA
  refine vx_calli (vx_runV (As := [.int a]) (rest := [.int 0, .ref o]) ⟨hx, hb, hml, hown, hts⟩ (c_X4_make l hlt D cy s.heap.size sa K ad E Y hKR hR hY a) (cwV 1 hts gL_make_X4_make rfl rfl rfl (by decide +kernel) ⟨Nat.le_of_ble_eq_true rfl, Nat.le_of_ble_eq_true rfl⟩) ⟨wX_blind, va_recv hK hPa (ci := 4) (q0 := p1) rfl (kW_get hp1 hE0), wX_pre hPa hK hDa hN hX hZ hS hA⟩ rfl rfl hl.1 rfl (lv_room (Nat.le_of_ble_eq_true rfl)) dL_make_4 ⟨Nat.le_of_ble_eq_true rfl, Nat.le_of_ble_eq_true rfl⟩) hS (fun q _ h => hFc q h) hFc (fun q _ h => hFc q h) (fun En ce q9 u9 t9 H locs ht hvm hpx hBX hz1 hk1 hS hce hcv hcl => ?_) (fun r u t9 H locs ht hvm hw hB hz1 hk1 hS => ?_)
  · obtain ⟨hxo, hP1, hK1, hD1⟩ := hBX
    rw [ht] at hP1
    obtain ⟨hP, hD⟩ := fr_J hP hD hk1 hFc hP1 hD1
    rcases hxo with ⟨rfl, hc⟩ | ⟨rfl, hc⟩
    · refine vx_catch (own := RL) (name := "java/util/NoSuchElementException") (E := "java/util/NoSuchElementException") hown [] ⟨0, 9, 12, 13⟩ [] (by rw [hTab]; rfl) (fun z hz => nomatch hz) (by decide) (by decide) (hts (.classLink RL 13 "java/util/NoSuchElementException") (by decide +kernel)) (va_Nw.use rfl hX.2.2.1) hce hcv hcl ?_
      refine lv_astore_n (lv' := [(3, .ref q9), (0, .ref (ad 0)), (1, .int a), (2, .ref o)]) hx hb dL_make_12 rfl hl (by decide) rfl (fun ls hl => ?_)
      refine lv_iconst (v := 1) hx hb dL_make_13 (by decide) ?_
      exact W.iret (v := 1) hx hb hr (fun t ht hW => ⟨⟨1, (kW K ad E, f), rfl, ⟨by rw [hc]; rfl, fun h9 => absurd (hc.symm.trans h9) (by decide), YW_eq ⟨K, ad, E, rfl, rfl, hKR, hR⟩ (sx_make (by rw [hc]; decide))⟩, by rw [ht]; exact hP, va_K.moved hW.alike hK, hD⟩, hS.F ht⟩) hS.2.2 dL_make_14
    · have h9 : (sp_make Y a).1 ≤ 1 := sb_make
      omega
  obtain ⟨hP1, hK1, hD1⟩ := hB
  rw [ht] at hP1
  obtain ⟨hP, hD⟩ := fr_J hP hD hk1 hFc hP1 hD1
  refine lv_i2l (v := r.toInt64) hx hb dL_make_7 rfl ?_
  refine va_last hx hb hK hP hD hS (kW u.1 u.2.1 u.2.2).length 2 (fr_get _ _) rfl (i := 0) (x := r.toInt64) (by unfold vp_in; decide) dL_make_8 (fun H locs hP hD hS => ?_)
  rw [fr_set] at hP hD
  refine lv_goto (tgt := 15) hx hb dL_make_9 (by decide) ?_
  refine lv_iconst (v := 0) hx hb dL_make_15 (by decide) ?_
  exact W.iret (v := 0) hx hb hr (fun t ht hW => ⟨⟨0, (kW u.1 u.2.1 u.2.2, vp_updL f (0 : Int32).toNatClampNeg r.toInt64), rfl, ⟨by rw [hw.1]; rfl, fun _ => (by show vp_updL f (0 : Int32).toNatClampNeg r.toInt64 0 = _; rw [updL_0, hw.2.1]), ⟨u.1, u.2.1, u.2.2, rfl, hw.2.2.2.2, hw.2.2.1, hw.2.2.2.1⟩⟩, by rw [ht]; exact hP, va_K.moved hW.alike hK, hD⟩, hS.F ht⟩) hS.2.2 dL_make_16
set_option maxHeartbeats 4000000 in
set_option maxRecDepth 100000 in
theorem c_L_stave (l : Launch) (hlt : l.stackTraces = false) (D : va_G) (cy : Nat → ClassId) (sz : Nat) (sa : Nat → Nat) (q o : Nat) (w : va_W) (Y : YT) (hYW : YW cy q Y w) (hY : WF Y) (f : Nat → Int64) (a : Int32) (b : Int32) (v : Int32) : Met l yL_stave wsL_stave ({ frames := 8, cells := 3, slots := 18, locals := 200 } : Room) (va_Pc [.ref q, .int a, .int b, .int v, .ref o] (wL D cy sz sa (w ++ [(o, oC cy f)]))) (va_Qi (fun (r : Int32) (u : va_W × (Nat → Int64)) => HP cy q (sp_stave Y a b v).1 (sp_stave Y a b v).2.1.toInt64 (sp_stave Y a b v).2.2 r u) (fun u t => wE D cy (va_A (w ++ [(o, oC cy f)]) sz) (u.1 ++ [(o, oC cy u.2)]) t) (va_A (w ++ [(o, oC cy f)]) sz)) 3 18 (va_A (w ++ [(o, oC cy f)]) sz) := by
  obtain ⟨K, ad, E, rfl, rfl, hKR, hR⟩ := hYW
  refine va_MetW (cc := cL_stave) (maxL := 6) (ret := (some .int)) (hh := [(0, 12, 15, 13)]) (by decide) rfl ?_
  intro p e s m args below meth c s₁ B hml hv
  obtain ⟨rfl, ⟨⟨⟨hsz, hP, hK, hD0⟩, hN⟩, hX, hZ⟩, hC⟩ := hv
  have hx := B.exec
  have hb := B.bytes
  have hr := B.returns
  have hts := atoms_spec (ws := wsL_stave) B.pre
  have hown : s.vm.findClass RL = some m.cls := findClass_of_methodNamed B.named
  have hTab := vx_table (x := yL_stave) B (hts _ List.mem_cons_self)
  subst hsz
  have hD := hD0.self (sz := s.heap.size)
  generalize hAe : va_A (kW K ad E ++ [(o, oC cy f)]) s.heap.size = A at hD hZ ⊢
  have hA : ∀ q : Nat, s.heap.size ≤ q → A q := w_A hAe
  have hS : va_S A s.heap s.heap [] := va_S.rf
  have hl := lv_entry ([.ref (ad 0), .int a, .int b, .int v, .ref o]) (n := 6) (Nat.le_of_ble_eq_true rfl)
  rw [lg_entry_eq]
  generalize (lg_sl ([.ref (ad 0), .int a, .int b, .int v, .ref o]) ++ List.replicate (6 - (lg_sl ([.ref (ad 0), .int a, .int b, .int v, .ref o])).length) Slot.unset).toArray = ls at hl ⊢
  have hl : lv_has ls 6 [(0, .ref (ad 0)), (1, .int a), (2, .int b), (3, .int v), (4, .ref o)] := hl
  have hE0 := hR.1.1
  obtain ⟨p1, hp1⟩ := kW_pos (hKR.m (show keyOk Y (0) by unfold keyOk; omega))
  refine lv_aload hx hb dL_stave_0 (lv_at hl 4 rfl) ?_
  refine lv_iconst (v := 0) hx hb dL_stave_2 (by decide) ?_
  refine lv_aload_n hx hb dL_stave_3 rfl (lv_at hl 0 rfl) ?_
  refine lv_iload_n hx hb dL_stave_4 rfl (lv_at hl 1 rfl) ?_
  refine lv_iload_n hx hb dL_stave_5 rfl (lv_at hl 2 rfl) ?_
  refine lv_iload_n hx hb dL_stave_6 rfl (lv_at hl 3 rfl) ?_
  have hPa := fr_P1 hP
  have hDa := fr_D1 hD
  have hFc := w_free hDa hS hA
  refine vx_calli (vx_runV (As := [.int a, .int b, .int v]) (rest := [.int 0, .ref o]) ⟨hx, hb, hml, hown, hts⟩ (c_X4_stave l hlt D cy s.heap.size sa K ad E Y hKR hR hY a b v) (cwV 3 hts gL_stave_X4_stave rfl rfl rfl (by decide +kernel) ⟨Nat.le_of_ble_eq_true rfl, Nat.le_of_ble_eq_true rfl⟩) ⟨wX_blind, va_recv hK hPa (ci := 4) (q0 := p1) rfl (kW_get hp1 hE0), wX_pre hPa hK hDa hN hX hZ hS hA⟩ rfl rfl hl.1 rfl (lv_room (Nat.le_of_ble_eq_true rfl)) dL_stave_7 ⟨Nat.le_of_ble_eq_true rfl, Nat.le_of_ble_eq_true rfl⟩) hS (fun q _ h => hFc q h) hFc (fun q _ h => hFc q h) (fun En ce q9 u9 t9 H locs ht hvm hpx hBX hz1 hk1 hS hce hcv hcl => ?_) (fun r u t9 H locs ht hvm hw hB hz1 hk1 hS => ?_)
  · obtain ⟨hxo, hP1, hK1, hD1⟩ := hBX
    rw [ht] at hP1
    obtain ⟨hP, hD⟩ := fr_J hP hD hk1 hFc hP1 hD1
    rcases hxo with ⟨rfl, hc⟩ | ⟨rfl, hc⟩
    · refine vx_catch (own := RL) (name := "java/util/NoSuchElementException") (E := "java/util/NoSuchElementException") hown [] ⟨0, 12, 15, 13⟩ [] (by rw [hTab]; rfl) (fun z hz => nomatch hz) (by decide) (by decide) (hts (.classLink RL 13 "java/util/NoSuchElementException") (by decide +kernel)) (va_Nw.use rfl hX.2.2.1) hce hcv hcl ?_
      refine lv_astore (lv' := [(5, .ref q9), (0, .ref (ad 0)), (1, .int a), (2, .int b), (3, .int v), (4, .ref o)]) hx hb dL_stave_15 hl (by decide) rfl (fun ls hl => ?_)
      refine lv_iconst (v := 1) hx hb dL_stave_17 (by decide) ?_
      exact W.iret (v := 1) hx hb hr (fun t ht hW => ⟨⟨1, (kW K ad E, f), rfl, ⟨by rw [hc]; rfl, fun h9 => absurd (hc.symm.trans h9) (by decide), YW_eq ⟨K, ad, E, rfl, rfl, hKR, hR⟩ (sx_stave (by rw [hc]; decide))⟩, by rw [ht]; exact hP, va_K.moved hW.alike hK, hD⟩, hS.F ht⟩) hS.2.2 dL_stave_18
    · have h9 : (sp_stave Y a b v).1 ≤ 1 := sb_stave
      omega
  obtain ⟨hP1, hK1, hD1⟩ := hB
  rw [ht] at hP1
  obtain ⟨hP, hD⟩ := fr_J hP hD hk1 hFc hP1 hD1
  refine lv_i2l (v := r.toInt64) hx hb dL_stave_10 rfl ?_
  refine va_last hx hb hK hP hD hS (kW K ad u).length 2 (fr_get _ _) rfl (i := 0) (x := r.toInt64) (by unfold vp_in; decide) dL_stave_11 (fun H locs hP hD hS => ?_)
  rw [fr_set] at hP hD
  refine lv_goto (tgt := 19) hx hb dL_stave_12 (by decide) ?_
  refine lv_iconst (v := 0) hx hb dL_stave_19 (by decide) ?_
  exact W.iret (v := 0) hx hb hr (fun t ht hW => ⟨⟨0, (kW K ad u, vp_updL f (0 : Int32).toNatClampNeg r.toInt64), rfl, ⟨by rw [hw.1]; rfl, fun _ => (by show vp_updL f (0 : Int32).toNatClampNeg r.toInt64 0 = _; rw [updL_0, hw.2.1]), ⟨K, ad, u, rfl, rfl, KR_eq hKR kr_stave, hw.2.2⟩⟩, by rw [ht]; exact hP, va_K.moved hW.alike hK, hD⟩, hS.F ht⟩) hS.2.2 dL_stave_20
set_option maxHeartbeats 4000000 in
set_option maxRecDepth 100000 in
theorem c_L_formOf (l : Launch) (hlt : l.stackTraces = false) (D : va_G) (cy : Nat → ClassId) (sz : Nat) (sa : Nat → Nat) (q o : Nat) (w : va_W) (Y : YT) (hYW : YW cy q Y w) (hY : WF Y) (f : Nat → Int64) (a : Int32) : Met l yL_formOf wsL_formOf ({ frames := 8, cells := 1, slots := 6, locals := 200 } : Room) (va_Pc [.ref q, .int a, .ref o] (wL D cy sz sa (w ++ [(o, oC cy f)]))) (va_Qi (fun (r : Int32) (u : va_W × (Nat → Int64)) => HP cy q (sp_formOf Y a).1 (sp_formOf Y a).2.1.toInt64 (sp_formOf Y a).2.2 r u) (fun u t => wE D cy (va_A (w ++ [(o, oC cy f)]) sz) (u.1 ++ [(o, oC cy u.2)]) t) (va_A (w ++ [(o, oC cy f)]) sz)) 1 6 (va_A (w ++ [(o, oC cy f)]) sz) := by
  obtain ⟨K, ad, E, rfl, rfl, hKR, hR⟩ := hYW
  refine va_MetW (cc := cL_formOf) (maxL := 4) (ret := (some .int)) (hh := [(0, 9, 12, 13)]) (by decide) rfl ?_
  intro p e s m args below meth c s₁ B hml hv
  obtain ⟨rfl, ⟨⟨⟨hsz, hP, hK, hD0⟩, hN⟩, hX, hZ⟩, hC⟩ := hv
  have hx := B.exec
  have hb := B.bytes
  have hr := B.returns
  have hts := atoms_spec (ws := wsL_formOf) B.pre
  have hown : s.vm.findClass RL = some m.cls := findClass_of_methodNamed B.named
  have hTab := vx_table (x := yL_formOf) B (hts _ List.mem_cons_self)
  subst hsz
  have hD := hD0.self (sz := s.heap.size)
  generalize hAe : va_A (kW K ad E ++ [(o, oC cy f)]) s.heap.size = A at hD hZ ⊢
  have hA : ∀ q : Nat, s.heap.size ≤ q → A q := w_A hAe
  have hS : va_S A s.heap s.heap [] := va_S.rf
  have hl := lv_entry ([.ref (ad 0), .int a, .ref o]) (n := 4) (Nat.le_of_ble_eq_true rfl)
  rw [lg_entry_eq]
  generalize (lg_sl ([.ref (ad 0), .int a, .ref o]) ++ List.replicate (4 - (lg_sl ([.ref (ad 0), .int a, .ref o])).length) Slot.unset).toArray = ls at hl ⊢
  have hl : lv_has ls 4 [(0, .ref (ad 0)), (1, .int a), (2, .ref o)] := hl
  have hE0 := hR.1.1
  obtain ⟨p1, hp1⟩ := kW_pos (hKR.m (show keyOk Y (0) by unfold keyOk; omega))
  refine lv_aload_n hx hb dL_formOf_0 rfl (lv_at hl 2 rfl) ?_
  refine lv_iconst (v := 0) hx hb dL_formOf_1 (by decide) ?_
  refine lv_aload_n hx hb dL_formOf_2 rfl (lv_at hl 0 rfl) ?_
  refine lv_iload_n hx hb dL_formOf_3 rfl (lv_at hl 1 rfl) ?_
  have hPa := fr_P1 hP
  have hDa := fr_D1 hD
  have hFc := w_free hDa hS hA
  refine vx_calli (vx_runV (As := [.int a]) (rest := [.int 0, .ref o]) ⟨hx, hb, hml, hown, hts⟩ (c_X4_formOf l hlt D cy s.heap.size sa K ad E Y hKR hR hY a) (cwV 1 hts gL_formOf_X4_formOf rfl rfl rfl (by decide +kernel) ⟨Nat.le_of_ble_eq_true rfl, Nat.le_of_ble_eq_true rfl⟩) ⟨wX_blind, va_recv hK hPa (ci := 4) (q0 := p1) rfl (kW_get hp1 hE0), wX_pre hPa hK hDa hN hX hZ hS hA⟩ rfl rfl hl.1 rfl (lv_room (Nat.le_of_ble_eq_true rfl)) dL_formOf_4 ⟨Nat.le_of_ble_eq_true rfl, Nat.le_of_ble_eq_true rfl⟩) hS (fun q _ h => hFc q h) hFc (fun q _ h => hFc q h) (fun En ce q9 u9 t9 H locs ht hvm hpx hBX hz1 hk1 hS hce hcv hcl => ?_) (fun r u t9 H locs ht hvm hw hB hz1 hk1 hS => ?_)
  · obtain ⟨hxo, hP1, hK1, hD1⟩ := hBX
    rw [ht] at hP1
    obtain ⟨hP, hD⟩ := fr_J hP hD hk1 hFc hP1 hD1
    rcases hxo with ⟨rfl, hc⟩ | ⟨rfl, hc⟩
    · refine vx_catch (own := RL) (name := "java/util/NoSuchElementException") (E := "java/util/NoSuchElementException") hown [] ⟨0, 9, 12, 13⟩ [] (by rw [hTab]; rfl) (fun z hz => nomatch hz) (by decide) (by decide) (hts (.classLink RL 13 "java/util/NoSuchElementException") (by decide +kernel)) (va_Nw.use rfl hX.2.2.1) hce hcv hcl ?_
      refine lv_astore_n (lv' := [(3, .ref q9), (0, .ref (ad 0)), (1, .int a), (2, .ref o)]) hx hb dL_formOf_12 rfl hl (by decide) rfl (fun ls hl => ?_)
      refine lv_iconst (v := 1) hx hb dL_formOf_13 (by decide) ?_
      exact W.iret (v := 1) hx hb hr (fun t ht hW => ⟨⟨1, (kW K ad E, f), rfl, ⟨by rw [hc]; rfl, fun h9 => absurd (hc.symm.trans h9) (by decide), YW_eq ⟨K, ad, E, rfl, rfl, hKR, hR⟩ (sx_formOf (by rw [hc]; decide))⟩, by rw [ht]; exact hP, va_K.moved hW.alike hK, hD⟩, hS.F ht⟩) hS.2.2 dL_formOf_14
    · have h9 : (sp_formOf Y a).1 ≤ 1 := sb_formOf
      omega
  obtain ⟨hP1, hK1, hD1⟩ := hB
  rw [ht] at hP1
  obtain ⟨hP, hD⟩ := fr_J hP hD hk1 hFc hP1 hD1
  refine lv_i2l (v := r.toInt64) hx hb dL_formOf_7 rfl ?_
  refine va_last hx hb hK hP hD hS (kW K ad u).length 2 (fr_get _ _) rfl (i := 0) (x := r.toInt64) (by unfold vp_in; decide) dL_formOf_8 (fun H locs hP hD hS => ?_)
  rw [fr_set] at hP hD
  refine lv_goto (tgt := 15) hx hb dL_formOf_9 (by decide) ?_
  refine lv_iconst (v := 0) hx hb dL_formOf_15 (by decide) ?_
  exact W.iret (v := 0) hx hb hr (fun t ht hW => ⟨⟨0, (kW K ad u, vp_updL f (0 : Int32).toNatClampNeg r.toInt64), rfl, ⟨by rw [hw.1]; rfl, fun _ => (by show vp_updL f (0 : Int32).toNatClampNeg r.toInt64 0 = _; rw [updL_0, hw.2.1]), ⟨K, ad, u, rfl, rfl, KR_eq hKR kr_formOf, hw.2.2⟩⟩, by rw [ht]; exact hP, va_K.moved hW.alike hK, hD⟩, hS.F ht⟩) hS.2.2 dL_formOf_16
set_option maxHeartbeats 4000000 in
set_option maxRecDepth 100000 in
theorem c_L_bars (l : Launch) (hlt : l.stackTraces = false) (D : va_G) (cy : Nat → ClassId) (sz : Nat) (sa : Nat → Nat) (q o : Nat) (w : va_W) (Y : YT) (hYW : YW cy q Y w) (hY : WF Y) (f : Nat → Int64) (a : Int32) (b : Int32) (is : Nat) (his : is ≤ 1) : Met l yL_bars wsL_bars ({ frames := 8, cells := 2, slots := 12, locals := 200 } : Room) (va_Pc [.ref q, .int a, .int b, .int (nI is), .ref o] (wL D cy sz sa (w ++ [(o, oC cy f)]))) (va_Qi (fun (r : Int32) (u : va_W × (Nat → Int64)) => HP cy q (sp_bars Y a b is).1 (if (sp_bars Y a b is).2.1 = 0 then 0 else 1) (sp_bars Y a b is).2.2 r u) (fun u t => wE D cy (va_A (w ++ [(o, oC cy f)]) sz) (u.1 ++ [(o, oC cy u.2)]) t) (va_A (w ++ [(o, oC cy f)]) sz)) 2 12 (va_A (w ++ [(o, oC cy f)]) sz) := by
  obtain ⟨K, ad, E, rfl, rfl, hKR, hR⟩ := hYW
  refine va_MetW (cc := cL_bars) (maxL := 6) (ret := (some .int)) (hh := [(0, 19, 22, 15)]) (by decide) rfl ?_
  intro p e s m args below meth c s₁ B hml hv
  obtain ⟨rfl, ⟨⟨⟨hsz, hP, hK, hD0⟩, hN⟩, hX, hZ⟩, hC⟩ := hv
  have hx := B.exec
  have hb := B.bytes
  have hr := B.returns
  have hts := atoms_spec (ws := wsL_bars) B.pre
  have hown : s.vm.findClass RL = some m.cls := findClass_of_methodNamed B.named
  have hTab := vx_table (x := yL_bars) B (hts _ List.mem_cons_self)
  subst hsz
  have hD := hD0.self (sz := s.heap.size)
  generalize hAe : va_A (kW K ad E ++ [(o, oC cy f)]) s.heap.size = A at hD hZ ⊢
  have hA : ∀ q : Nat, s.heap.size ≤ q → A q := w_A hAe
  have hS : va_S A s.heap s.heap [] := va_S.rf
  have hl := lv_entry ([.ref (ad 0), .int a, .int b, .int (nI is), .ref o]) (n := 6) (Nat.le_of_ble_eq_true rfl)
  rw [lg_entry_eq]
  generalize (lg_sl ([.ref (ad 0), .int a, .int b, .int (nI is), .ref o]) ++ List.replicate (6 - (lg_sl ([.ref (ad 0), .int a, .int b, .int (nI is), .ref o])).length) Slot.unset).toArray = ls at hl ⊢
  have hl : lv_has ls 6 [(0, .ref (ad 0)), (1, .int a), (2, .int b), (3, .int (nI is)), (4, .ref o)] := hl
  have hE0 := hR.1.1
  obtain ⟨p1, hp1⟩ := kW_pos (hKR.m (show keyOk Y (0) by unfold keyOk; omega))
  refine lv_aload hx hb dL_bars_0 (lv_at hl 4 rfl) ?_
  refine lv_iconst (v := 0) hx hb dL_bars_2 (by decide) ?_
  refine lv_aload_n hx hb dL_bars_3 rfl (lv_at hl 0 rfl) ?_
  refine lv_iload_n hx hb dL_bars_4 rfl (lv_at hl 1 rfl) ?_
  refine lv_iload_n hx hb dL_bars_5 rfl (lv_at hl 2 rfl) ?_
  refine lv_iload_n hx hb dL_bars_6 rfl (lv_at hl 3 rfl) ?_
  have hPa := fr_P1 hP
  have hDa := fr_D1 hD
  have hFc := w_free hDa hS hA
  refine vx_calli (vx_runV (As := [.int a, .int b, .int (nI is)]) (rest := [.int 0, .ref o]) ⟨hx, hb, hml, hown, hts⟩ (c_X4_bars l hlt D cy s.heap.size sa K ad E Y hKR hR hY a b is his) (cwV 3 hts gL_bars_X4_bars rfl rfl rfl (by decide +kernel) ⟨Nat.le_of_ble_eq_true rfl, Nat.le_of_ble_eq_true rfl⟩) ⟨wX_blind, va_recv hK hPa (ci := 4) (q0 := p1) rfl (kW_get hp1 hE0), wX_pre hPa hK hDa hN hX hZ hS hA⟩ rfl rfl hl.1 rfl (lv_room (Nat.le_of_ble_eq_true rfl)) dL_bars_7 ⟨Nat.le_of_ble_eq_true rfl, Nat.le_of_ble_eq_true rfl⟩) hS (fun q _ h => hFc q h) hFc (fun q _ h => hFc q h) (fun En ce q9 u9 t9 H locs ht hvm hpx hBX hz1 hk1 hS hce hcv hcl => ?_) (fun r u t9 H locs ht hvm hw hB hz1 hk1 hS => ?_)
  · obtain ⟨hxo, hP1, hK1, hD1⟩ := hBX
    rw [ht] at hP1
    obtain ⟨hP, hD⟩ := fr_J hP hD hk1 hFc hP1 hD1
    rcases hxo with ⟨rfl, hc⟩ | ⟨rfl, hc⟩
    · have h9 : (sp_bars Y a b is).1 ≤ 1 := sb_bars
      omega
    · refine vx_catch (own := RL) (name := "java/lang/IllegalArgumentException") (E := "java/lang/IllegalArgumentException") hown [] ⟨0, 19, 22, 15⟩ [] (by rw [hTab]; rfl) (fun z hz => nomatch hz) (by decide) (by decide) (hts (.classLink RL 15 "java/lang/IllegalArgumentException") (by decide +kernel)) (va_Nw.use rfl hX.2.2.2) hce hcv hcl ?_
      refine lv_astore (lv' := [(5, .ref q9), (0, .ref (ad 0)), (1, .int a), (2, .int b), (3, .int (nI is)), (4, .ref o)]) hx hb dL_bars_22 hl (by decide) rfl (fun ls hl => ?_)
      refine lv_iconst (v := 1) hx hb dL_bars_24 (by decide) ?_
      exact W.iret (v := 1) hx hb hr (fun t ht hW => ⟨⟨1, (kW K ad E, f), rfl, ⟨by rw [hc]; rfl, fun h9 => absurd (hc.symm.trans h9) (by decide), YW_eq ⟨K, ad, E, rfl, rfl, hKR, hR⟩ (sx_bars (by rw [hc]; decide))⟩, by rw [ht]; exact hP, va_K.moved hW.alike hK, hD⟩, hS.F ht⟩) hS.2.2 dL_bars_25
  obtain ⟨hP1, hK1, hD1⟩ := hB
  rw [ht] at hP1
  obtain ⟨hP, hD⟩ := fr_J hP hD hk1 hFc hP1 hD1
  refine g_nzl hx hb dL_bars_10 dL_bars_13 dL_bars_14 dL_bars_17 ?_
  refine va_last hx hb hK hP hD hS (kW K ad u).length 2 (fr_get _ _) rfl (i := 0) (x := (if r = 0 then 0 else 1)) (by unfold vp_in; decide) dL_bars_18 (fun H locs hP hD hS => ?_)
  rw [fr_set] at hP hD
  refine lv_goto (tgt := 26) hx hb dL_bars_19 (by decide) ?_
  refine lv_iconst (v := 0) hx hb dL_bars_26 (by decide) ?_
  exact W.iret (v := 0) hx hb hr (fun t ht hW => ⟨⟨0, (kW K ad u, vp_updL f (0 : Int32).toNatClampNeg (if r = 0 then 0 else 1)), rfl, ⟨by rw [hw.1]; rfl, fun _ => (by show vp_updL f (0 : Int32).toNatClampNeg (if r = 0 then 0 else 1) 0 = _; rw [updL_0, hw.2.1]), ⟨K, ad, u, rfl, rfl, KR_eq hKR kr_bars, hw.2.2⟩⟩, by rw [ht]; exact hP, va_K.moved hW.alike hK, hD⟩, hS.F ht⟩) hS.2.2 dL_bars_27
set_option maxHeartbeats 4000000 in
set_option maxRecDepth 100000 in
theorem c_L_may (l : Launch) (hlt : l.stackTraces = false) (D : va_G) (cy : Nat → ClassId) (sz : Nat) (sa : Nat → Nat) (q o : Nat) (w : va_W) (Y : YT) (hYW : YW cy q Y w) (hY : WF Y) (f : Nat → Int64) (a : Int32) (b : Int32) : Met l yL_may wsL_may ({ frames := 8, cells := 2, slots := 12, locals := 200 } : Room) (va_Pc [.ref q, .int a, .int b, .ref o] (wL D cy sz sa (w ++ [(o, oC cy f)]))) (va_Qi (fun (r : Int32) (u : va_W × (Nat → Int64)) => HP cy q (sp_may Y a b).1 (if (sp_may Y a b).2.1 = 0 then 0 else 1) (sp_may Y a b).2.2 r u) (fun u t => wE D cy (va_A (w ++ [(o, oC cy f)]) sz) (u.1 ++ [(o, oC cy u.2)]) t) (va_A (w ++ [(o, oC cy f)]) sz)) 2 12 (va_A (w ++ [(o, oC cy f)]) sz) := by
  obtain ⟨K, ad, E, rfl, rfl, hKR, hR⟩ := hYW
  refine va_MetW (cc := cL_may) (maxL := 5) (ret := (some .int)) (hh := [(0, 17, 20, 13), (0, 17, 24, 15)]) (by decide) rfl ?_
  intro p e s m args below meth c s₁ B hml hv
  obtain ⟨rfl, ⟨⟨⟨hsz, hP, hK, hD0⟩, hN⟩, hX, hZ⟩, hC⟩ := hv
  have hx := B.exec
  have hb := B.bytes
  have hr := B.returns
  have hts := atoms_spec (ws := wsL_may) B.pre
  have hown : s.vm.findClass RL = some m.cls := findClass_of_methodNamed B.named
  have hTab := vx_table (x := yL_may) B (hts _ List.mem_cons_self)
  subst hsz
  have hD := hD0.self (sz := s.heap.size)
  generalize hAe : va_A (kW K ad E ++ [(o, oC cy f)]) s.heap.size = A at hD hZ ⊢
  have hA : ∀ q : Nat, s.heap.size ≤ q → A q := w_A hAe
  have hS : va_S A s.heap s.heap [] := va_S.rf
  have hl := lv_entry ([.ref (ad 0), .int a, .int b, .ref o]) (n := 5) (Nat.le_of_ble_eq_true rfl)
  rw [lg_entry_eq]
  generalize (lg_sl ([.ref (ad 0), .int a, .int b, .ref o]) ++ List.replicate (5 - (lg_sl ([.ref (ad 0), .int a, .int b, .ref o])).length) Slot.unset).toArray = ls at hl ⊢
  have hl : lv_has ls 5 [(0, .ref (ad 0)), (1, .int a), (2, .int b), (3, .ref o)] := hl
  have hE0 := hR.1.1
  obtain ⟨p1, hp1⟩ := kW_pos (hKR.m (show keyOk Y (0) by unfold keyOk; omega))
  refine lv_aload_n hx hb dL_may_0 rfl (lv_at hl 3 rfl) ?_
  refine lv_iconst (v := 0) hx hb dL_may_1 (by decide) ?_
  refine lv_aload_n hx hb dL_may_2 rfl (lv_at hl 0 rfl) ?_
  refine lv_iload_n hx hb dL_may_3 rfl (lv_at hl 1 rfl) ?_
  refine lv_iload_n hx hb dL_may_4 rfl (lv_at hl 2 rfl) ?_
  have hPa := fr_P1 hP
  have hDa := fr_D1 hD
  have hFc := w_free hDa hS hA
  refine vx_calli (vx_runV (As := [.int a, .int b]) (rest := [.int 0, .ref o]) ⟨hx, hb, hml, hown, hts⟩ (c_X4_may l hlt D cy s.heap.size sa K ad E Y hKR hR hY a b) (cwV 2 hts gL_may_X4_may rfl rfl rfl (by decide +kernel) ⟨Nat.le_of_ble_eq_true rfl, Nat.le_of_ble_eq_true rfl⟩) ⟨wX_blind, va_recv hK hPa (ci := 4) (q0 := p1) rfl (kW_get hp1 hE0), wX_pre hPa hK hDa hN hX hZ hS hA⟩ rfl rfl hl.1 rfl (lv_room (Nat.le_of_ble_eq_true rfl)) dL_may_5 ⟨Nat.le_of_ble_eq_true rfl, Nat.le_of_ble_eq_true rfl⟩) hS (fun q _ h => hFc q h) hFc (fun q _ h => hFc q h) (fun En ce q9 u9 t9 H locs ht hvm hpx hBX hz1 hk1 hS hce hcv hcl => ?_) (fun r u t9 H locs ht hvm hw hB hz1 hk1 hS => ?_)
  · obtain ⟨hxo, hP1, hK1, hD1⟩ := hBX
    rw [ht] at hP1
    obtain ⟨hP, hD⟩ := fr_J hP hD hk1 hFc hP1 hD1
    rcases hxo with ⟨rfl, hc⟩ | ⟨rfl, hc⟩
    · refine vx_catch (own := RL) (name := "java/util/NoSuchElementException") (E := "java/util/NoSuchElementException") hown [] ⟨0, 17, 20, 13⟩ [⟨0, 17, 24, 15⟩] (by rw [hTab]; rfl) (fun z hz => nomatch hz) (by decide) (by decide) (hts (.classLink RL 13 "java/util/NoSuchElementException") (by decide +kernel)) (va_Nw.use rfl hX.2.2.1) hce hcv hcl ?_
      refine lv_astore (lv' := [(4, .ref q9), (0, .ref (ad 0)), (1, .int a), (2, .int b), (3, .ref o)]) hx hb dL_may_20 hl (by decide) rfl (fun ls hl => ?_)
      refine lv_iconst (v := 1) hx hb dL_may_22 (by decide) ?_
      exact W.iret (v := 1) hx hb hr (fun t ht hW => ⟨⟨1, (kW K ad E, f), rfl, ⟨by rw [hc]; rfl, fun h9 => absurd (hc.symm.trans h9) (by decide), YW_eq ⟨K, ad, E, rfl, rfl, hKR, hR⟩ (sx_may (by rw [hc]; decide))⟩, by rw [ht]; exact hP, va_K.moved hW.alike hK, hD⟩, hS.F ht⟩) hS.2.2 dL_may_23
    · refine vx_catch (own := RL) (name := "java/lang/IllegalArgumentException") (E := "java/lang/IllegalArgumentException") hown [⟨0, 17, 20, 13⟩] ⟨0, 17, 24, 15⟩ [] (by rw [hTab]; rfl) (by
        intro z hz
        rcases List.mem_cons.mp hz with rfl | hz
        · exact Or.inr ⟨by decide, "java/util/NoSuchElementException", hts (.classLink RL 13 "java/util/NoSuchElementException") (by decide +kernel), hC⟩
        · cases hz) (by decide) (by decide) (hts (.classLink RL 15 "java/lang/IllegalArgumentException") (by decide +kernel)) (va_Nw.use rfl hX.2.2.2) hce hcv hcl ?_
      refine lv_astore (lv' := [(4, .ref q9), (0, .ref (ad 0)), (1, .int a), (2, .int b), (3, .ref o)]) hx hb dL_may_24 hl (by decide) rfl (fun ls hl => ?_)
      refine lv_iconst (v := 2) hx hb dL_may_26 (by decide) ?_
      exact W.iret (v := 2) hx hb hr (fun t ht hW => ⟨⟨2, (kW K ad E, f), rfl, ⟨by rw [hc]; rfl, fun h9 => absurd (hc.symm.trans h9) (by decide), YW_eq ⟨K, ad, E, rfl, rfl, hKR, hR⟩ (sx_may (by rw [hc]; decide))⟩, by rw [ht]; exact hP, va_K.moved hW.alike hK, hD⟩, hS.F ht⟩) hS.2.2 dL_may_27
  obtain ⟨hP1, hK1, hD1⟩ := hB
  rw [ht] at hP1
  obtain ⟨hP, hD⟩ := fr_J hP hD hk1 hFc hP1 hD1
  refine g_nzl hx hb dL_may_8 dL_may_11 dL_may_12 dL_may_15 ?_
  refine va_last hx hb hK hP hD hS (kW K ad u).length 2 (fr_get _ _) rfl (i := 0) (x := (if r = 0 then 0 else 1)) (by unfold vp_in; decide) dL_may_16 (fun H locs hP hD hS => ?_)
  rw [fr_set] at hP hD
  refine lv_goto (tgt := 28) hx hb dL_may_17 (by decide) ?_
  refine lv_iconst (v := 0) hx hb dL_may_28 (by decide) ?_
  exact W.iret (v := 0) hx hb hr (fun t ht hW => ⟨⟨0, (kW K ad u, vp_updL f (0 : Int32).toNatClampNeg (if r = 0 then 0 else 1)), rfl, ⟨by rw [hw.1]; rfl, fun _ => (by show vp_updL f (0 : Int32).toNatClampNeg (if r = 0 then 0 else 1) 0 = _; rw [updL_0, hw.2.1]), ⟨K, ad, u, rfl, rfl, KR_eq hKR kr_may, hw.2.2⟩⟩, by rw [ht]; exact hP, va_K.moved hW.alike hK, hD⟩, hS.F ht⟩) hS.2.2 dL_may_29
set_option maxHeartbeats 4000000 in
set_option maxRecDepth 100000 in
theorem c_L_tell (l : Launch) (hlt : l.stackTraces = false) (D : va_G) (cy : Nat → ClassId) (sz : Nat) (sa : Nat → Nat) (q o : Nat) (w : va_W) (Y : YT) (hYW : YW cy q Y w) (hY : WF Y) (f : Nat → Int64) (a : Int32) (b : Int32) (v : Int32) : Met l yL_tell wsL_tell ({ frames := 8, cells := 2, slots := 12, locals := 200 } : Room) (va_Pc [.ref q, .int a, .int b, .int v, .ref o] (wL D cy sz sa (w ++ [(o, oC cy f)]))) (va_Qi (fun (r : Int32) (u : va_W × (Nat → Int64)) => HP cy q (sp_tell Y a b v).1 (sp_tell Y a b v).2.1.toInt64 (sp_tell Y a b v).2.2 r u) (fun u t => wE D cy (va_A (w ++ [(o, oC cy f)]) sz) (u.1 ++ [(o, oC cy u.2)]) t) (va_A (w ++ [(o, oC cy f)]) sz)) 2 12 (va_A (w ++ [(o, oC cy f)]) sz) := by
  obtain ⟨K, ad, E, rfl, rfl, hKR, hR⟩ := hYW
  refine va_MetW (cc := cL_tell) (maxL := 6) (ret := (some .int)) (hh := [(0, 12, 15, 13), (0, 12, 19, 15)]) (by decide) rfl ?_
  intro p e s m args below meth c s₁ B hml hv
  obtain ⟨rfl, ⟨⟨⟨hsz, hP, hK, hD0⟩, hN⟩, hX, hZ⟩, hC⟩ := hv
  have hx := B.exec
  have hb := B.bytes
  have hr := B.returns
  have hts := atoms_spec (ws := wsL_tell) B.pre
  have hown : s.vm.findClass RL = some m.cls := findClass_of_methodNamed B.named
  have hTab := vx_table (x := yL_tell) B (hts _ List.mem_cons_self)
  subst hsz
  have hD := hD0.self (sz := s.heap.size)
  generalize hAe : va_A (kW K ad E ++ [(o, oC cy f)]) s.heap.size = A at hD hZ ⊢
  have hA : ∀ q : Nat, s.heap.size ≤ q → A q := w_A hAe
  have hS : va_S A s.heap s.heap [] := va_S.rf
  have hl := lv_entry ([.ref (ad 0), .int a, .int b, .int v, .ref o]) (n := 6) (Nat.le_of_ble_eq_true rfl)
  rw [lg_entry_eq]
  generalize (lg_sl ([.ref (ad 0), .int a, .int b, .int v, .ref o]) ++ List.replicate (6 - (lg_sl ([.ref (ad 0), .int a, .int b, .int v, .ref o])).length) Slot.unset).toArray = ls at hl ⊢
  have hl : lv_has ls 6 [(0, .ref (ad 0)), (1, .int a), (2, .int b), (3, .int v), (4, .ref o)] := hl
  have hE0 := hR.1.1
  obtain ⟨p1, hp1⟩ := kW_pos (hKR.m (show keyOk Y (0) by unfold keyOk; omega))
  refine lv_aload hx hb dL_tell_0 (lv_at hl 4 rfl) ?_
  refine lv_iconst (v := 0) hx hb dL_tell_2 (by decide) ?_
  refine lv_aload_n hx hb dL_tell_3 rfl (lv_at hl 0 rfl) ?_
  refine lv_iload_n hx hb dL_tell_4 rfl (lv_at hl 1 rfl) ?_
  refine lv_iload_n hx hb dL_tell_5 rfl (lv_at hl 2 rfl) ?_
  refine lv_iload_n hx hb dL_tell_6 rfl (lv_at hl 3 rfl) ?_
  have hPa := fr_P1 hP
  have hDa := fr_D1 hD
  have hFc := w_free hDa hS hA
  refine vx_calli (vx_runV (As := [.int a, .int b, .int v]) (rest := [.int 0, .ref o]) ⟨hx, hb, hml, hown, hts⟩ (c_X4_tell l hlt D cy s.heap.size sa K ad E Y hKR hR hY a b v) (cwV 3 hts gL_tell_X4_tell rfl rfl rfl (by decide +kernel) ⟨Nat.le_of_ble_eq_true rfl, Nat.le_of_ble_eq_true rfl⟩) ⟨wX_blind, va_recv hK hPa (ci := 4) (q0 := p1) rfl (kW_get hp1 hE0), wX_pre hPa hK hDa hN hX hZ hS hA⟩ rfl rfl hl.1 rfl (lv_room (Nat.le_of_ble_eq_true rfl)) dL_tell_7 ⟨Nat.le_of_ble_eq_true rfl, Nat.le_of_ble_eq_true rfl⟩) hS (fun q _ h => hFc q h) hFc (fun q _ h => hFc q h) (fun En ce q9 u9 t9 H locs ht hvm hpx hBX hz1 hk1 hS hce hcv hcl => ?_) (fun r u t9 H locs ht hvm hw hB hz1 hk1 hS => ?_)
  · obtain ⟨hxo, hP1, hK1, hD1⟩ := hBX
    rw [ht] at hP1
    obtain ⟨hP, hD⟩ := fr_J hP hD hk1 hFc hP1 hD1
    rcases hxo with ⟨rfl, hc⟩ | ⟨rfl, hc⟩
    · refine vx_catch (own := RL) (name := "java/util/NoSuchElementException") (E := "java/util/NoSuchElementException") hown [] ⟨0, 12, 15, 13⟩ [⟨0, 12, 19, 15⟩] (by rw [hTab]; rfl) (fun z hz => nomatch hz) (by decide) (by decide) (hts (.classLink RL 13 "java/util/NoSuchElementException") (by decide +kernel)) (va_Nw.use rfl hX.2.2.1) hce hcv hcl ?_
      refine lv_astore (lv' := [(5, .ref q9), (0, .ref (ad 0)), (1, .int a), (2, .int b), (3, .int v), (4, .ref o)]) hx hb dL_tell_15 hl (by decide) rfl (fun ls hl => ?_)
      refine lv_iconst (v := 1) hx hb dL_tell_17 (by decide) ?_
      exact W.iret (v := 1) hx hb hr (fun t ht hW => ⟨⟨1, (kW K ad E, f), rfl, ⟨by rw [hc]; rfl, fun h9 => absurd (hc.symm.trans h9) (by decide), YW_eq ⟨K, ad, E, rfl, rfl, hKR, hR⟩ (sx_tell (by rw [hc]; decide))⟩, by rw [ht]; exact hP, va_K.moved hW.alike hK, hD⟩, hS.F ht⟩) hS.2.2 dL_tell_18
    · refine vx_catch (own := RL) (name := "java/lang/IllegalArgumentException") (E := "java/lang/IllegalArgumentException") hown [⟨0, 12, 15, 13⟩] ⟨0, 12, 19, 15⟩ [] (by rw [hTab]; rfl) (by
        intro z hz
        rcases List.mem_cons.mp hz with rfl | hz
        · exact Or.inr ⟨by decide, "java/util/NoSuchElementException", hts (.classLink RL 13 "java/util/NoSuchElementException") (by decide +kernel), hC⟩
        · cases hz) (by decide) (by decide) (hts (.classLink RL 15 "java/lang/IllegalArgumentException") (by decide +kernel)) (va_Nw.use rfl hX.2.2.2) hce hcv hcl ?_
      refine lv_astore (lv' := [(5, .ref q9), (0, .ref (ad 0)), (1, .int a), (2, .int b), (3, .int v), (4, .ref o)]) hx hb dL_tell_19 hl (by decide) rfl (fun ls hl => ?_)
      refine lv_iconst (v := 2) hx hb dL_tell_21 (by decide) ?_
      exact W.iret (v := 2) hx hb hr (fun t ht hW => ⟨⟨2, (kW K ad E, f), rfl, ⟨by rw [hc]; rfl, fun h9 => absurd (hc.symm.trans h9) (by decide), YW_eq ⟨K, ad, E, rfl, rfl, hKR, hR⟩ (sx_tell (by rw [hc]; decide))⟩, by rw [ht]; exact hP, va_K.moved hW.alike hK, hD⟩, hS.F ht⟩) hS.2.2 dL_tell_22
  obtain ⟨hP1, hK1, hD1⟩ := hB
  rw [ht] at hP1
  obtain ⟨hP, hD⟩ := fr_J hP hD hk1 hFc hP1 hD1
  refine lv_i2l (v := r.toInt64) hx hb dL_tell_10 rfl ?_
  refine va_last hx hb hK hP hD hS (kW K ad u).length 2 (fr_get _ _) rfl (i := 0) (x := r.toInt64) (by unfold vp_in; decide) dL_tell_11 (fun H locs hP hD hS => ?_)
  rw [fr_set] at hP hD
  refine lv_goto (tgt := 23) hx hb dL_tell_12 (by decide) ?_
  refine lv_iconst (v := 0) hx hb dL_tell_23 (by decide) ?_
  exact W.iret (v := 0) hx hb hr (fun t ht hW => ⟨⟨0, (kW K ad u, vp_updL f (0 : Int32).toNatClampNeg r.toInt64), rfl, ⟨by rw [hw.1]; rfl, fun _ => (by show vp_updL f (0 : Int32).toNatClampNeg r.toInt64 0 = _; rw [updL_0, hw.2.1]), ⟨K, ad, u, rfl, rfl, KR_eq hKR kr_tell, hw.2.2⟩⟩, by rw [ht]; exact hP, va_K.moved hW.alike hK, hD⟩, hS.F ht⟩) hS.2.2 dL_tell_24
set_option maxHeartbeats 4000000 in
set_option maxRecDepth 100000 in
theorem c_L_held (l : Launch) (hlt : l.stackTraces = false) (D : va_G) (cy : Nat → ClassId) (sz : Nat) (sa : Nat → Nat) (q o : Nat) (w : va_W) (Y : YT) (hYW : YW cy q Y w) (hY : WF Y) (f : Nat → Int64) (a : Int32) (b : Int32) (v : Int32) : Met l yL_held wsL_held ({ frames := 8, cells := 1, slots := 6, locals := 200 } : Room) (va_Pc [.ref q, .int a, .int b, .int v, .ref o] (wL D cy sz sa (w ++ [(o, oC cy f)]))) (va_Qi (fun (r : Int32) (u : va_W × (Nat → Int64)) => HP cy q (sp_held Y a b v).1 (sp_held Y a b v).2.1.toInt64 (sp_held Y a b v).2.2 r u) (fun u t => wE D cy (va_A (w ++ [(o, oC cy f)]) sz) (u.1 ++ [(o, oC cy u.2)]) t) (va_A (w ++ [(o, oC cy f)]) sz)) 1 6 (va_A (w ++ [(o, oC cy f)]) sz) := by
  obtain ⟨K, ad, E, rfl, rfl, hKR, hR⟩ := hYW
  refine va_MetW (cc := cL_held) (maxL := 6) (ret := (some .int)) (hh := [(0, 12, 15, 13)]) (by decide) rfl ?_
  intro p e s m args below meth c s₁ B hml hv
  obtain ⟨rfl, ⟨⟨⟨hsz, hP, hK, hD0⟩, hN⟩, hX, hZ⟩, hC⟩ := hv
  have hx := B.exec
  have hb := B.bytes
  have hr := B.returns
  have hts := atoms_spec (ws := wsL_held) B.pre
  have hown : s.vm.findClass RL = some m.cls := findClass_of_methodNamed B.named
  have hTab := vx_table (x := yL_held) B (hts _ List.mem_cons_self)
  subst hsz
  have hD := hD0.self (sz := s.heap.size)
  generalize hAe : va_A (kW K ad E ++ [(o, oC cy f)]) s.heap.size = A at hD hZ ⊢
  have hA : ∀ q : Nat, s.heap.size ≤ q → A q := w_A hAe
  have hS : va_S A s.heap s.heap [] := va_S.rf
  have hl := lv_entry ([.ref (ad 0), .int a, .int b, .int v, .ref o]) (n := 6) (Nat.le_of_ble_eq_true rfl)
  rw [lg_entry_eq]
  generalize (lg_sl ([.ref (ad 0), .int a, .int b, .int v, .ref o]) ++ List.replicate (6 - (lg_sl ([.ref (ad 0), .int a, .int b, .int v, .ref o])).length) Slot.unset).toArray = ls at hl ⊢
  have hl : lv_has ls 6 [(0, .ref (ad 0)), (1, .int a), (2, .int b), (3, .int v), (4, .ref o)] := hl
  have hE0 := hR.1.1
  obtain ⟨p1, hp1⟩ := kW_pos (hKR.m (show keyOk Y (0) by unfold keyOk; omega))
  refine lv_aload hx hb dL_held_0 (lv_at hl 4 rfl) ?_
  refine lv_iconst (v := 0) hx hb dL_held_2 (by decide) ?_
  refine lv_aload_n hx hb dL_held_3 rfl (lv_at hl 0 rfl) ?_
  refine lv_iload_n hx hb dL_held_4 rfl (lv_at hl 1 rfl) ?_
  refine lv_iload_n hx hb dL_held_5 rfl (lv_at hl 2 rfl) ?_
  refine lv_iload_n hx hb dL_held_6 rfl (lv_at hl 3 rfl) ?_
  have hPa := fr_P1 hP
  have hDa := fr_D1 hD
  have hFc := w_free hDa hS hA
  refine vx_calli (vx_runV (As := [.int a, .int b, .int v]) (rest := [.int 0, .ref o]) ⟨hx, hb, hml, hown, hts⟩ (c_X4_held l hlt D cy s.heap.size sa K ad E Y hKR hR hY a b v) (cwV 3 hts gL_held_X4_held rfl rfl rfl (by decide +kernel) ⟨Nat.le_of_ble_eq_true rfl, Nat.le_of_ble_eq_true rfl⟩) ⟨wX_blind, va_recv hK hPa (ci := 4) (q0 := p1) rfl (kW_get hp1 hE0), wX_pre hPa hK hDa hN hX hZ hS hA⟩ rfl rfl hl.1 rfl (lv_room (Nat.le_of_ble_eq_true rfl)) dL_held_7 ⟨Nat.le_of_ble_eq_true rfl, Nat.le_of_ble_eq_true rfl⟩) hS (fun q _ h => hFc q h) hFc (fun q _ h => hFc q h) (fun En ce q9 u9 t9 H locs ht hvm hpx hBX hz1 hk1 hS hce hcv hcl => ?_) (fun r u t9 H locs ht hvm hw hB hz1 hk1 hS => ?_)
  · obtain ⟨hxo, hP1, hK1, hD1⟩ := hBX
    rw [ht] at hP1
    obtain ⟨hP, hD⟩ := fr_J hP hD hk1 hFc hP1 hD1
    rcases hxo with ⟨rfl, hc⟩ | ⟨rfl, hc⟩
    · refine vx_catch (own := RL) (name := "java/util/NoSuchElementException") (E := "java/util/NoSuchElementException") hown [] ⟨0, 12, 15, 13⟩ [] (by rw [hTab]; rfl) (fun z hz => nomatch hz) (by decide) (by decide) (hts (.classLink RL 13 "java/util/NoSuchElementException") (by decide +kernel)) (va_Nw.use rfl hX.2.2.1) hce hcv hcl ?_
      refine lv_astore (lv' := [(5, .ref q9), (0, .ref (ad 0)), (1, .int a), (2, .int b), (3, .int v), (4, .ref o)]) hx hb dL_held_15 hl (by decide) rfl (fun ls hl => ?_)
      refine lv_iconst (v := 1) hx hb dL_held_17 (by decide) ?_
      exact W.iret (v := 1) hx hb hr (fun t ht hW => ⟨⟨1, (kW K ad E, f), rfl, ⟨by rw [hc]; rfl, fun h9 => absurd (hc.symm.trans h9) (by decide), YW_eq ⟨K, ad, E, rfl, rfl, hKR, hR⟩ (sx_held (by rw [hc]; decide))⟩, by rw [ht]; exact hP, va_K.moved hW.alike hK, hD⟩, hS.F ht⟩) hS.2.2 dL_held_18
    · have h9 : (sp_held Y a b v).1 ≤ 1 := sb_held
      omega
  obtain ⟨hP1, hK1, hD1⟩ := hB
  rw [ht] at hP1
  obtain ⟨hP, hD⟩ := fr_J hP hD hk1 hFc hP1 hD1
  refine lv_i2l (v := r.toInt64) hx hb dL_held_10 rfl ?_
  refine va_last hx hb hK hP hD hS (kW K ad u).length 2 (fr_get _ _) rfl (i := 0) (x := r.toInt64) (by unfold vp_in; decide) dL_held_11 (fun H locs hP hD hS => ?_)
  rw [fr_set] at hP hD
  refine lv_goto (tgt := 19) hx hb dL_held_12 (by decide) ?_
  refine lv_iconst (v := 0) hx hb dL_held_19 (by decide) ?_
  exact W.iret (v := 0) hx hb hr (fun t ht hW => ⟨⟨0, (kW K ad u, vp_updL f (0 : Int32).toNatClampNeg r.toInt64), rfl, ⟨by rw [hw.1]; rfl, fun _ => (by show vp_updL f (0 : Int32).toNatClampNeg r.toInt64 0 = _; rw [updL_0, hw.2.1]), ⟨K, ad, u, rfl, rfl, KR_eq hKR kr_held, hw.2.2⟩⟩, by rw [ht]; exact hP, va_K.moved hW.alike hK, hD⟩, hS.F ht⟩) hS.2.2 dL_held_20
set_option maxHeartbeats 4000000 in
set_option maxRecDepth 100000 in
theorem c_L_lacks (l : Launch) (hlt : l.stackTraces = false) (D : va_G) (cy : Nat → ClassId) (sz : Nat) (sa : Nat → Nat) (q o : Nat) (w : va_W) (Y : YT) (hYW : YW cy q Y w) (hY : WF Y) (f : Nat → Int64) (a : Int32) (b : Int32) (v : Int32) (z : Int32) : Met l yL_lacks wsL_lacks ({ frames := 8, cells := 2, slots := 12, locals := 200 } : Room) (va_Pc [.ref q, .int a, .int b, .int v, .int z, .ref o] (wL D cy sz sa (w ++ [(o, oC cy f)]))) (va_Qi (fun (r : Int32) (u : va_W × (Nat → Int64)) => HP cy q (sp_lacks Y a b v z).1 (sp_lacks Y a b v z).2.1.toInt64 (sp_lacks Y a b v z).2.2 r u) (fun u t => wE D cy (va_A (w ++ [(o, oC cy f)]) sz) (u.1 ++ [(o, oC cy u.2)]) t) (va_A (w ++ [(o, oC cy f)]) sz)) 2 12 (va_A (w ++ [(o, oC cy f)]) sz) := by
  obtain ⟨K, ad, E, rfl, rfl, hKR, hR⟩ := hYW
  refine va_MetW (cc := cL_lacks) (maxL := 7) (ret := (some .int)) (hh := [(0, 14, 17, 13), (0, 14, 21, 15)]) (by decide) rfl ?_
  intro p e s m args below meth c s₁ B hml hv
  obtain ⟨rfl, ⟨⟨⟨hsz, hP, hK, hD0⟩, hN⟩, hX, hZ⟩, hC⟩ := hv
  have hx := B.exec
  have hb := B.bytes
  have hr := B.returns
  have hts := atoms_spec (ws := wsL_lacks) B.pre
  have hown : s.vm.findClass RL = some m.cls := findClass_of_methodNamed B.named
  have hTab := vx_table (x := yL_lacks) B (hts _ List.mem_cons_self)
  subst hsz
  have hD := hD0.self (sz := s.heap.size)
  generalize hAe : va_A (kW K ad E ++ [(o, oC cy f)]) s.heap.size = A at hD hZ ⊢
  have hA : ∀ q : Nat, s.heap.size ≤ q → A q := w_A hAe
  have hS : va_S A s.heap s.heap [] := va_S.rf
  have hl := lv_entry ([.ref (ad 0), .int a, .int b, .int v, .int z, .ref o]) (n := 7) (Nat.le_of_ble_eq_true rfl)
  rw [lg_entry_eq]
  generalize (lg_sl ([.ref (ad 0), .int a, .int b, .int v, .int z, .ref o]) ++ List.replicate (7 - (lg_sl ([.ref (ad 0), .int a, .int b, .int v, .int z, .ref o])).length) Slot.unset).toArray = ls at hl ⊢
  have hl : lv_has ls 7 [(0, .ref (ad 0)), (1, .int a), (2, .int b), (3, .int v), (4, .int z), (5, .ref o)] := hl
  have hE0 := hR.1.1
  obtain ⟨p1, hp1⟩ := kW_pos (hKR.m (show keyOk Y (0) by unfold keyOk; omega))
  refine lv_aload hx hb dL_lacks_0 (lv_at hl 5 rfl) ?_
  refine lv_iconst (v := 0) hx hb dL_lacks_2 (by decide) ?_
  refine lv_aload_n hx hb dL_lacks_3 rfl (lv_at hl 0 rfl) ?_
  refine lv_iload_n hx hb dL_lacks_4 rfl (lv_at hl 1 rfl) ?_
  refine lv_iload_n hx hb dL_lacks_5 rfl (lv_at hl 2 rfl) ?_
  refine lv_iload_n hx hb dL_lacks_6 rfl (lv_at hl 3 rfl) ?_
  refine lv_iload hx hb dL_lacks_7 (lv_at hl 4 rfl) ?_
  have hPa := fr_P1 hP
  have hDa := fr_D1 hD
  have hFc := w_free hDa hS hA
  refine vx_calli (vx_runV (As := [.int a, .int b, .int v, .int z]) (rest := [.int 0, .ref o]) ⟨hx, hb, hml, hown, hts⟩ (c_X4_lacks l hlt D cy s.heap.size sa K ad E Y hKR hR hY a b v z) (cwV 4 hts gL_lacks_X4_lacks rfl rfl rfl (by decide +kernel) ⟨Nat.le_of_ble_eq_true rfl, Nat.le_of_ble_eq_true rfl⟩) ⟨wX_blind, va_recv hK hPa (ci := 4) (q0 := p1) rfl (kW_get hp1 hE0), wX_pre hPa hK hDa hN hX hZ hS hA⟩ rfl rfl hl.1 rfl (lv_room (Nat.le_of_ble_eq_true rfl)) dL_lacks_9 ⟨Nat.le_of_ble_eq_true rfl, Nat.le_of_ble_eq_true rfl⟩) hS (fun q _ h => hFc q h) hFc (fun q _ h => hFc q h) (fun En ce q9 u9 t9 H locs ht hvm hpx hBX hz1 hk1 hS hce hcv hcl => ?_) (fun r u t9 H locs ht hvm hw hB hz1 hk1 hS => ?_)
  · obtain ⟨hxo, hP1, hK1, hD1⟩ := hBX
    rw [ht] at hP1
    obtain ⟨hP, hD⟩ := fr_J hP hD hk1 hFc hP1 hD1
    rcases hxo with ⟨rfl, hc⟩ | ⟨rfl, hc⟩
    · refine vx_catch (own := RL) (name := "java/util/NoSuchElementException") (E := "java/util/NoSuchElementException") hown [] ⟨0, 14, 17, 13⟩ [⟨0, 14, 21, 15⟩] (by rw [hTab]; rfl) (fun z hz => nomatch hz) (by decide) (by decide) (hts (.classLink RL 13 "java/util/NoSuchElementException") (by decide +kernel)) (va_Nw.use rfl hX.2.2.1) hce hcv hcl ?_
      refine lv_astore (lv' := [(6, .ref q9), (0, .ref (ad 0)), (1, .int a), (2, .int b), (3, .int v), (4, .int z), (5, .ref o)]) hx hb dL_lacks_17 hl (by decide) rfl (fun ls hl => ?_)
      refine lv_iconst (v := 1) hx hb dL_lacks_19 (by decide) ?_
      exact W.iret (v := 1) hx hb hr (fun t ht hW => ⟨⟨1, (kW K ad E, f), rfl, ⟨by rw [hc]; rfl, fun h9 => absurd (hc.symm.trans h9) (by decide), YW_eq ⟨K, ad, E, rfl, rfl, hKR, hR⟩ (sx_lacks (by rw [hc]; decide))⟩, by rw [ht]; exact hP, va_K.moved hW.alike hK, hD⟩, hS.F ht⟩) hS.2.2 dL_lacks_20
    · refine vx_catch (own := RL) (name := "java/lang/IllegalArgumentException") (E := "java/lang/IllegalArgumentException") hown [⟨0, 14, 17, 13⟩] ⟨0, 14, 21, 15⟩ [] (by rw [hTab]; rfl) (by
        intro z hz
        rcases List.mem_cons.mp hz with rfl | hz
        · exact Or.inr ⟨by decide, "java/util/NoSuchElementException", hts (.classLink RL 13 "java/util/NoSuchElementException") (by decide +kernel), hC⟩
        · cases hz) (by decide) (by decide) (hts (.classLink RL 15 "java/lang/IllegalArgumentException") (by decide +kernel)) (va_Nw.use rfl hX.2.2.2) hce hcv hcl ?_
      refine lv_astore (lv' := [(6, .ref q9), (0, .ref (ad 0)), (1, .int a), (2, .int b), (3, .int v), (4, .int z), (5, .ref o)]) hx hb dL_lacks_21 hl (by decide) rfl (fun ls hl => ?_)
      refine lv_iconst (v := 2) hx hb dL_lacks_23 (by decide) ?_
      exact W.iret (v := 2) hx hb hr (fun t ht hW => ⟨⟨2, (kW K ad E, f), rfl, ⟨by rw [hc]; rfl, fun h9 => absurd (hc.symm.trans h9) (by decide), YW_eq ⟨K, ad, E, rfl, rfl, hKR, hR⟩ (sx_lacks (by rw [hc]; decide))⟩, by rw [ht]; exact hP, va_K.moved hW.alike hK, hD⟩, hS.F ht⟩) hS.2.2 dL_lacks_24
  obtain ⟨hP1, hK1, hD1⟩ := hB
  rw [ht] at hP1
  obtain ⟨hP, hD⟩ := fr_J hP hD hk1 hFc hP1 hD1
  refine lv_i2l (v := r.toInt64) hx hb dL_lacks_12 rfl ?_
  refine va_last hx hb hK hP hD hS (kW K ad u).length 2 (fr_get _ _) rfl (i := 0) (x := r.toInt64) (by unfold vp_in; decide) dL_lacks_13 (fun H locs hP hD hS => ?_)
  rw [fr_set] at hP hD
  refine lv_goto (tgt := 25) hx hb dL_lacks_14 (by decide) ?_
  refine lv_iconst (v := 0) hx hb dL_lacks_25 (by decide) ?_
  exact W.iret (v := 0) hx hb hr (fun t ht hW => ⟨⟨0, (kW K ad u, vp_updL f (0 : Int32).toNatClampNeg r.toInt64), rfl, ⟨by rw [hw.1]; rfl, fun _ => (by show vp_updL f (0 : Int32).toNatClampNeg r.toInt64 0 = _; rw [updL_0, hw.2.1]), ⟨K, ad, u, rfl, rfl, KR_eq hKR kr_lacks, hw.2.2⟩⟩, by rw [ht]; exact hP, va_K.moved hW.alike hK, hD⟩, hS.F ht⟩) hS.2.2 dL_lacks_26
set_option maxHeartbeats 4000000 in
set_option maxRecDepth 100000 in
theorem c_L_swap (l : Launch) (hlt : l.stackTraces = false) (D : va_G) (cy : Nat → ClassId) (sz : Nat) (sa : Nat → Nat) (q o : Nat) (w : va_W) (Y : YT) (hYW : YW cy q Y w) (hY : WF Y) (f : Nat → Int64) (a : Int32) (b : Int32) (v : Int32) (z : Int32) : Met l yL_swap wsL_swap ({ frames := 8, cells := 4, slots := 24, locals := 200 } : Room) (va_Pc [.ref q, .int a, .int b, .int v, .int z, .ref o] (wL D cy sz sa (w ++ [(o, oC cy f)]))) (va_Qi (fun (r : Int32) (u : va_W × (Nat → Int64)) => HP cy q (sp_swap Y a b v z).1 (if (sp_swap Y a b v z).2.1 = 0 then 0 else 1) (sp_swap Y a b v z).2.2 r u) (fun u t => wE D cy (va_A (w ++ [(o, oC cy f)]) sz) (u.1 ++ [(o, oC cy u.2)]) t) (va_A (w ++ [(o, oC cy f)]) sz)) 4 24 (va_A (w ++ [(o, oC cy f)]) sz) := by
  obtain ⟨K, ad, E, rfl, rfl, hKR, hR⟩ := hYW
  refine va_MetW (cc := cL_swap) (maxL := 7) (ret := (some .int)) (hh := [(0, 21, 24, 13)]) (by decide) rfl ?_
  intro p e s m args below meth c s₁ B hml hv
  obtain ⟨rfl, ⟨⟨⟨hsz, hP, hK, hD0⟩, hN⟩, hX, hZ⟩, hC⟩ := hv
  have hx := B.exec
  have hb := B.bytes
  have hr := B.returns
  have hts := atoms_spec (ws := wsL_swap) B.pre
  have hown : s.vm.findClass RL = some m.cls := findClass_of_methodNamed B.named
  have hTab := vx_table (x := yL_swap) B (hts _ List.mem_cons_self)
  subst hsz
  have hD := hD0.self (sz := s.heap.size)
  generalize hAe : va_A (kW K ad E ++ [(o, oC cy f)]) s.heap.size = A at hD hZ ⊢
  have hA : ∀ q : Nat, s.heap.size ≤ q → A q := w_A hAe
  have hS : va_S A s.heap s.heap [] := va_S.rf
  have hl := lv_entry ([.ref (ad 0), .int a, .int b, .int v, .int z, .ref o]) (n := 7) (Nat.le_of_ble_eq_true rfl)
  rw [lg_entry_eq]
  generalize (lg_sl ([.ref (ad 0), .int a, .int b, .int v, .int z, .ref o]) ++ List.replicate (7 - (lg_sl ([.ref (ad 0), .int a, .int b, .int v, .int z, .ref o])).length) Slot.unset).toArray = ls at hl ⊢
  have hl : lv_has ls 7 [(0, .ref (ad 0)), (1, .int a), (2, .int b), (3, .int v), (4, .int z), (5, .ref o)] := hl
  have hE0 := hR.1.1
  obtain ⟨p1, hp1⟩ := kW_pos (hKR.m (show keyOk Y (0) by unfold keyOk; omega))
  refine lv_aload hx hb dL_swap_0 (lv_at hl 5 rfl) ?_
  refine lv_iconst (v := 0) hx hb dL_swap_2 (by decide) ?_
  refine lv_aload_n hx hb dL_swap_3 rfl (lv_at hl 0 rfl) ?_
  refine lv_iload_n hx hb dL_swap_4 rfl (lv_at hl 1 rfl) ?_
  refine lv_iload_n hx hb dL_swap_5 rfl (lv_at hl 2 rfl) ?_
  refine lv_iload_n hx hb dL_swap_6 rfl (lv_at hl 3 rfl) ?_
  refine lv_iload hx hb dL_swap_7 (lv_at hl 4 rfl) ?_
  have hPa := fr_P1 hP
  have hDa := fr_D1 hD
  have hFc := w_free hDa hS hA
  refine vx_calli (vx_runV (As := [.int a, .int b, .int v, .int z]) (rest := [.int 0, .ref o]) ⟨hx, hb, hml, hown, hts⟩ (c_X4_swap l hlt D cy s.heap.size sa K ad E Y hKR hR hY a b v z) (cwV 4 hts gL_swap_X4_swap rfl rfl rfl (by decide +kernel) ⟨Nat.le_of_ble_eq_true rfl, Nat.le_of_ble_eq_true rfl⟩) ⟨wX_blind, va_recv hK hPa (ci := 4) (q0 := p1) rfl (kW_get hp1 hE0), wX_pre hPa hK hDa hN hX hZ hS hA⟩ rfl rfl hl.1 rfl (lv_room (Nat.le_of_ble_eq_true rfl)) dL_swap_9 ⟨Nat.le_of_ble_eq_true rfl, Nat.le_of_ble_eq_true rfl⟩) hS (fun q _ h => hFc q h) hFc (fun q _ h => hFc q h) (fun En ce q9 u9 t9 H locs ht hvm hpx hBX hz1 hk1 hS hce hcv hcl => ?_) (fun r u t9 H locs ht hvm hw hB hz1 hk1 hS => ?_)
  · obtain ⟨hxo, hP1, hK1, hD1⟩ := hBX
    rw [ht] at hP1
    obtain ⟨hP, hD⟩ := fr_J hP hD hk1 hFc hP1 hD1
    rcases hxo with ⟨rfl, hc⟩ | ⟨rfl, hc⟩
    · refine vx_catch (own := RL) (name := "java/util/NoSuchElementException") (E := "java/util/NoSuchElementException") hown [] ⟨0, 21, 24, 13⟩ [] (by rw [hTab]; rfl) (fun z hz => nomatch hz) (by decide) (by decide) (hts (.classLink RL 13 "java/util/NoSuchElementException") (by decide +kernel)) (va_Nw.use rfl hX.2.2.1) hce hcv hcl ?_
      refine lv_astore (lv' := [(6, .ref q9), (0, .ref (ad 0)), (1, .int a), (2, .int b), (3, .int v), (4, .int z), (5, .ref o)]) hx hb dL_swap_24 hl (by decide) rfl (fun ls hl => ?_)
      refine lv_iconst (v := 1) hx hb dL_swap_26 (by decide) ?_
      exact W.iret (v := 1) hx hb hr (fun t ht hW => ⟨⟨1, (kW K ad E, f), rfl, ⟨by rw [hc]; rfl, fun h9 => absurd (hc.symm.trans h9) (by decide), YW_eq ⟨K, ad, E, rfl, rfl, hKR, hR⟩ (sx_swap (by rw [hc]; decide))⟩, by rw [ht]; exact hP, va_K.moved hW.alike hK, hD⟩, hS.F ht⟩) hS.2.2 dL_swap_27
    · have h9 : (sp_swap Y a b v z).1 ≤ 1 := sb_swap
      omega
  obtain ⟨hP1, hK1, hD1⟩ := hB
  rw [ht] at hP1
  obtain ⟨hP, hD⟩ := fr_J hP hD hk1 hFc hP1 hD1
  refine g_nzl hx hb dL_swap_12 dL_swap_15 dL_swap_16 dL_swap_19 ?_
  refine va_last hx hb hK hP hD hS (kW K ad u).length 2 (fr_get _ _) rfl (i := 0) (x := (if r = 0 then 0 else 1)) (by unfold vp_in; decide) dL_swap_20 (fun H locs hP hD hS => ?_)
  rw [fr_set] at hP hD
  refine lv_goto (tgt := 28) hx hb dL_swap_21 (by decide) ?_
  refine lv_iconst (v := 0) hx hb dL_swap_28 (by decide) ?_
  exact W.iret (v := 0) hx hb hr (fun t ht hW => ⟨⟨0, (kW K ad u, vp_updL f (0 : Int32).toNatClampNeg (if r = 0 then 0 else 1)), rfl, ⟨by rw [hw.1]; rfl, fun _ => (by show vp_updL f (0 : Int32).toNatClampNeg (if r = 0 then 0 else 1) 0 = _; rw [updL_0, hw.2.1]), ⟨K, ad, u, rfl, rfl, KR_eq hKR kr_swap, hw.2.2⟩⟩, by rw [ht]; exact hP, va_K.moved hW.alike hK, hD⟩, hS.F ht⟩) hS.2.2 dL_swap_29
set_option maxHeartbeats 4000000 in
set_option maxRecDepth 100000 in
theorem c_L_renew (l : Launch) (hlt : l.stackTraces = false) (D : va_G) (cy : Nat → ClassId) (sz : Nat) (sa : Nat → Nat) (q o : Nat) (w : va_W) (Y : YT) (hYW : YW cy q Y w) (hY : WF Y) (f : Nat → Int64) (a : Int32) (b : Int32) : Met l yL_renew wsL_renew ({ frames := 8, cells := 2, slots := 12, locals := 200 } : Room) (va_Pc [.ref q, .int a, .int b, .ref o] (wL D cy sz sa (w ++ [(o, oC cy f)]))) (va_Qi (fun (r : Int32) (u : va_W × (Nat → Int64)) => HP cy q (sp_renew Y a b).1 (sp_renew Y a b).2.1.toInt64 (sp_renew Y a b).2.2 r u) (fun u t => wE D cy (va_A (w ++ [(o, oC cy f)]) sz) (u.1 ++ [(o, oC cy u.2)]) t) (va_A (w ++ [(o, oC cy f)]) sz)) 2 12 (va_A (w ++ [(o, oC cy f)]) sz) := by
  obtain ⟨K, ad, E, rfl, rfl, hKR, hR⟩ := hYW
  refine va_MetW (cc := cL_renew) (maxL := 5) (ret := (some .int)) (hh := [(0, 10, 13, 13)]) (by decide) rfl ?_
  intro p e s m args below meth c s₁ B hml hv
  obtain ⟨rfl, ⟨⟨⟨hsz, hP, hK, hD0⟩, hN⟩, hX, hZ⟩, hC⟩ := hv
  have hx := B.exec
  have hb := B.bytes
  have hr := B.returns
  have hts := atoms_spec (ws := wsL_renew) B.pre
  have hown : s.vm.findClass RL = some m.cls := findClass_of_methodNamed B.named
  have hTab := vx_table (x := yL_renew) B (hts _ List.mem_cons_self)
  subst hsz
  have hD := hD0.self (sz := s.heap.size)
  generalize hAe : va_A (kW K ad E ++ [(o, oC cy f)]) s.heap.size = A at hD hZ ⊢
  have hA : ∀ q : Nat, s.heap.size ≤ q → A q := w_A hAe
  have hS : va_S A s.heap s.heap [] := va_S.rf
  have hl := lv_entry ([.ref (ad 0), .int a, .int b, .ref o]) (n := 5) (Nat.le_of_ble_eq_true rfl)
  rw [lg_entry_eq]
  generalize (lg_sl ([.ref (ad 0), .int a, .int b, .ref o]) ++ List.replicate (5 - (lg_sl ([.ref (ad 0), .int a, .int b, .ref o])).length) Slot.unset).toArray = ls at hl ⊢
  have hl : lv_has ls 5 [(0, .ref (ad 0)), (1, .int a), (2, .int b), (3, .ref o)] := hl
  have hE0 := hR.1.1
  obtain ⟨p1, hp1⟩ := kW_pos (hKR.m (show keyOk Y (0) by unfold keyOk; omega))
  refine lv_aload_n hx hb dL_renew_0 rfl (lv_at hl 3 rfl) ?_
  refine lv_iconst (v := 0) hx hb dL_renew_1 (by decide) ?_
  refine lv_aload_n hx hb dL_renew_2 rfl (lv_at hl 0 rfl) ?_
  refine lv_iload_n hx hb dL_renew_3 rfl (lv_at hl 1 rfl) ?_
  refine lv_iload_n hx hb dL_renew_4 rfl (lv_at hl 2 rfl) ?_
  have hPa := fr_P1 hP
  have hDa := fr_D1 hD
  have hFc := w_free hDa hS hA
  refine vx_calli (vx_runV (As := [.int a, .int b]) (rest := [.int 0, .ref o]) ⟨hx, hb, hml, hown, hts⟩ (c_X4_renew l hlt D cy s.heap.size sa K ad E Y hKR hR hY a b) (cwV 2 hts gL_renew_X4_renew rfl rfl rfl (by decide +kernel) ⟨Nat.le_of_ble_eq_true rfl, Nat.le_of_ble_eq_true rfl⟩) ⟨wX_blind, va_recv hK hPa (ci := 4) (q0 := p1) rfl (kW_get hp1 hE0), wX_pre hPa hK hDa hN hX hZ hS hA⟩ rfl rfl hl.1 rfl (lv_room (Nat.le_of_ble_eq_true rfl)) dL_renew_5 ⟨Nat.le_of_ble_eq_true rfl, Nat.le_of_ble_eq_true rfl⟩) hS (fun q _ h => hFc q h) hFc (fun q _ h => hFc q h) (fun En ce q9 u9 t9 H locs ht hvm hpx hBX hz1 hk1 hS hce hcv hcl => ?_) (fun r u t9 H locs ht hvm hw hB hz1 hk1 hS => ?_)
  · obtain ⟨hxo, hP1, hK1, hD1⟩ := hBX
    rw [ht] at hP1
    obtain ⟨hP, hD⟩ := fr_J hP hD hk1 hFc hP1 hD1
    rcases hxo with ⟨rfl, hc⟩ | ⟨rfl, hc⟩
    · refine vx_catch (own := RL) (name := "java/util/NoSuchElementException") (E := "java/util/NoSuchElementException") hown [] ⟨0, 10, 13, 13⟩ [] (by rw [hTab]; rfl) (fun z hz => nomatch hz) (by decide) (by decide) (hts (.classLink RL 13 "java/util/NoSuchElementException") (by decide +kernel)) (va_Nw.use rfl hX.2.2.1) hce hcv hcl ?_
      refine lv_astore (lv' := [(4, .ref q9), (0, .ref (ad 0)), (1, .int a), (2, .int b), (3, .ref o)]) hx hb dL_renew_13 hl (by decide) rfl (fun ls hl => ?_)
      refine lv_iconst (v := 1) hx hb dL_renew_15 (by decide) ?_
      exact W.iret (v := 1) hx hb hr (fun t ht hW => ⟨⟨1, (kW K ad E, f), rfl, ⟨by rw [hc]; rfl, fun h9 => absurd (hc.symm.trans h9) (by decide), YW_eq ⟨K, ad, E, rfl, rfl, hKR, hR⟩ (sx_renew (by rw [hc]; decide))⟩, by rw [ht]; exact hP, va_K.moved hW.alike hK, hD⟩, hS.F ht⟩) hS.2.2 dL_renew_16
    · have h9 : (sp_renew Y a b).1 ≤ 1 := sb_renew
      omega
  obtain ⟨hP1, hK1, hD1⟩ := hB
  rw [ht] at hP1
  obtain ⟨hP, hD⟩ := fr_J hP hD hk1 hFc hP1 hD1
  refine lv_i2l (v := r.toInt64) hx hb dL_renew_8 rfl ?_
  refine va_last hx hb hK hP hD hS (kW K ad u).length 2 (fr_get _ _) rfl (i := 0) (x := r.toInt64) (by unfold vp_in; decide) dL_renew_9 (fun H locs hP hD hS => ?_)
  rw [fr_set] at hP hD
  refine lv_goto (tgt := 17) hx hb dL_renew_10 (by decide) ?_
  refine lv_iconst (v := 0) hx hb dL_renew_17 (by decide) ?_
  exact W.iret (v := 0) hx hb hr (fun t ht hW => ⟨⟨0, (kW K ad u, vp_updL f (0 : Int32).toNatClampNeg r.toInt64), rfl, ⟨by rw [hw.1]; rfl, fun _ => (by show vp_updL f (0 : Int32).toNatClampNeg r.toInt64 0 = _; rw [updL_0, hw.2.1]), ⟨K, ad, u, rfl, rfl, KR_eq hKR kr_renew, hw.2.2⟩⟩, by rw [ht]; exact hP, va_K.moved hW.alike hK, hD⟩, hS.F ht⟩) hS.2.2 dL_renew_18
set_option maxHeartbeats 4000000 in
set_option maxRecDepth 100000 in
theorem c_L_weight (l : Launch) (hlt : l.stackTraces = false) (D : va_G) (cy : Nat → ClassId) (sz : Nat) (sa : Nat → Nat) (q o : Nat) (w : va_W) (Y : YT) (hYW : YW cy q Y w) (hY : WF Y) (f : Nat → Int64) (a : Int32) (b : Int32) : Met l yL_weight wsL_weight ({ frames := 8, cells := 2, slots := 12, locals := 200 } : Room) (va_Pc [.ref q, .int a, .int b, .ref o] (wL D cy sz sa (w ++ [(o, oC cy f)]))) (va_Qi (fun (r : Int32) (u : va_W × (Nat → Int64)) => HP cy q (sp_weight Y a b).1 (sp_weight Y a b).2.1.toInt64 (sp_weight Y a b).2.2 r u) (fun u t => wE D cy (va_A (w ++ [(o, oC cy f)]) sz) (u.1 ++ [(o, oC cy u.2)]) t) (va_A (w ++ [(o, oC cy f)]) sz)) 2 12 (va_A (w ++ [(o, oC cy f)]) sz) := by
  obtain ⟨K, ad, E, rfl, rfl, hKR, hR⟩ := hYW
  refine va_MetW (cc := cL_weight) (maxL := 5) (ret := (some .int)) (hh := [(0, 10, 13, 15)]) (by decide) rfl ?_
  intro p e s m args below meth c s₁ B hml hv
  obtain ⟨rfl, ⟨⟨⟨hsz, hP, hK, hD0⟩, hN⟩, hX, hZ⟩, hC⟩ := hv
  have hx := B.exec
  have hb := B.bytes
  have hr := B.returns
  have hts := atoms_spec (ws := wsL_weight) B.pre
  have hown : s.vm.findClass RL = some m.cls := findClass_of_methodNamed B.named
  have hTab := vx_table (x := yL_weight) B (hts _ List.mem_cons_self)
  subst hsz
  have hD := hD0.self (sz := s.heap.size)
  generalize hAe : va_A (kW K ad E ++ [(o, oC cy f)]) s.heap.size = A at hD hZ ⊢
  have hA : ∀ q : Nat, s.heap.size ≤ q → A q := w_A hAe
  have hS : va_S A s.heap s.heap [] := va_S.rf
  have hl := lv_entry ([.ref (ad 0), .int a, .int b, .ref o]) (n := 5) (Nat.le_of_ble_eq_true rfl)
  rw [lg_entry_eq]
  generalize (lg_sl ([.ref (ad 0), .int a, .int b, .ref o]) ++ List.replicate (5 - (lg_sl ([.ref (ad 0), .int a, .int b, .ref o])).length) Slot.unset).toArray = ls at hl ⊢
  have hl : lv_has ls 5 [(0, .ref (ad 0)), (1, .int a), (2, .int b), (3, .ref o)] := hl
  have hE0 := hR.1.1
  obtain ⟨p1, hp1⟩ := kW_pos (hKR.m (show keyOk Y (0) by unfold keyOk; omega))
  refine lv_aload_n hx hb dL_weight_0 rfl (lv_at hl 3 rfl) ?_
  refine lv_iconst (v := 0) hx hb dL_weight_1 (by decide) ?_
  refine lv_aload_n hx hb dL_weight_2 rfl (lv_at hl 0 rfl) ?_
  refine lv_iload_n hx hb dL_weight_3 rfl (lv_at hl 1 rfl) ?_
  refine lv_iload_n hx hb dL_weight_4 rfl (lv_at hl 2 rfl) ?_
  have hPa := fr_P1 hP
  have hDa := fr_D1 hD
  have hFc := w_free hDa hS hA
  refine vx_calli (vx_runV (As := [.int a, .int b]) (rest := [.int 0, .ref o]) ⟨hx, hb, hml, hown, hts⟩ (c_X4_weight l hlt D cy s.heap.size sa K ad E Y hKR hR hY a b) (cwV 2 hts gL_weight_X4_weight rfl rfl rfl (by decide +kernel) ⟨Nat.le_of_ble_eq_true rfl, Nat.le_of_ble_eq_true rfl⟩) ⟨wX_blind, va_recv hK hPa (ci := 4) (q0 := p1) rfl (kW_get hp1 hE0), wX_pre hPa hK hDa hN hX hZ hS hA⟩ rfl rfl hl.1 rfl (lv_room (Nat.le_of_ble_eq_true rfl)) dL_weight_5 ⟨Nat.le_of_ble_eq_true rfl, Nat.le_of_ble_eq_true rfl⟩) hS (fun q _ h => hFc q h) hFc (fun q _ h => hFc q h) (fun En ce q9 u9 t9 H locs ht hvm hpx hBX hz1 hk1 hS hce hcv hcl => ?_) (fun r u t9 H locs ht hvm hw hB hz1 hk1 hS => ?_)
  · obtain ⟨hxo, hP1, hK1, hD1⟩ := hBX
    rw [ht] at hP1
    obtain ⟨hP, hD⟩ := fr_J hP hD hk1 hFc hP1 hD1
    rcases hxo with ⟨rfl, hc⟩ | ⟨rfl, hc⟩
    · have h9 : (sp_weight Y a b).1 ≤ 1 := sb_weight
      omega
    · refine vx_catch (own := RL) (name := "java/lang/IllegalArgumentException") (E := "java/lang/IllegalArgumentException") hown [] ⟨0, 10, 13, 15⟩ [] (by rw [hTab]; rfl) (fun z hz => nomatch hz) (by decide) (by decide) (hts (.classLink RL 15 "java/lang/IllegalArgumentException") (by decide +kernel)) (va_Nw.use rfl hX.2.2.2) hce hcv hcl ?_
      refine lv_astore (lv' := [(4, .ref q9), (0, .ref (ad 0)), (1, .int a), (2, .int b), (3, .ref o)]) hx hb dL_weight_13 hl (by decide) rfl (fun ls hl => ?_)
      refine lv_iconst (v := 1) hx hb dL_weight_15 (by decide) ?_
      exact W.iret (v := 1) hx hb hr (fun t ht hW => ⟨⟨1, (kW K ad E, f), rfl, ⟨by rw [hc]; rfl, fun h9 => absurd (hc.symm.trans h9) (by decide), YW_eq ⟨K, ad, E, rfl, rfl, hKR, hR⟩ (sx_weight (by rw [hc]; decide))⟩, by rw [ht]; exact hP, va_K.moved hW.alike hK, hD⟩, hS.F ht⟩) hS.2.2 dL_weight_16
  obtain ⟨hP1, hK1, hD1⟩ := hB
  rw [ht] at hP1
  obtain ⟨hP, hD⟩ := fr_J hP hD hk1 hFc hP1 hD1
  refine lv_i2l (v := r.toInt64) hx hb dL_weight_8 rfl ?_
  refine va_last hx hb hK hP hD hS (kW K ad u).length 2 (fr_get _ _) rfl (i := 0) (x := r.toInt64) (by unfold vp_in; decide) dL_weight_9 (fun H locs hP hD hS => ?_)
  rw [fr_set] at hP hD
  refine lv_goto (tgt := 17) hx hb dL_weight_10 (by decide) ?_
  refine lv_iconst (v := 0) hx hb dL_weight_17 (by decide) ?_
  exact W.iret (v := 0) hx hb hr (fun t ht hW => ⟨⟨0, (kW K ad u, vp_updL f (0 : Int32).toNatClampNeg r.toInt64), rfl, ⟨by rw [hw.1]; rfl, fun _ => (by show vp_updL f (0 : Int32).toNatClampNeg r.toInt64 0 = _; rw [updL_0, hw.2.1]), ⟨K, ad, u, rfl, rfl, KR_eq hKR kr_weight, hw.2.2⟩⟩, by rw [ht]; exact hP, va_K.moved hW.alike hK, hD⟩, hS.F ht⟩) hS.2.2 dL_weight_18
set_option maxHeartbeats 4000000 in
set_option maxRecDepth 100000 in
theorem c_L_weighs (l : Launch) (hlt : l.stackTraces = false) (D : va_G) (cy : Nat → ClassId) (sz : Nat) (sa : Nat → Nat) (q o : Nat) (w : va_W) (Y : YT) (hYW : YW cy q Y w) (hY : WF Y) (f : Nat → Int64) (a : Int32) (b : Int32) : Met l yL_weighs wsL_weighs ({ frames := 8, cells := 2, slots := 12, locals := 200 } : Room) (va_Pc [.ref q, .int a, .int b, .ref o] (wL D cy sz sa (w ++ [(o, oC cy f)]))) (va_Qi (fun (r : Int32) (u : va_W × (Nat → Int64)) => HP cy q (sp_weighs Y a b).1 (sp_weighs Y a b).2.1 (sp_weighs Y a b).2.2 r u) (fun u t => wE D cy (va_A (w ++ [(o, oC cy f)]) sz) (u.1 ++ [(o, oC cy u.2)]) t) (va_A (w ++ [(o, oC cy f)]) sz)) 2 12 (va_A (w ++ [(o, oC cy f)]) sz) := by
  obtain ⟨K, ad, E, rfl, rfl, hKR, hR⟩ := hYW
  refine va_MetW (cc := cL_weighs) (maxL := 5) (ret := (some .int)) (hh := [(0, 9, 12, 13), (0, 9, 16, 15)]) (by decide) rfl ?_
  intro p e s m args below meth c s₁ B hml hv
  obtain ⟨rfl, ⟨⟨⟨hsz, hP, hK, hD0⟩, hN⟩, hX, hZ⟩, hC⟩ := hv
  have hx := B.exec
  have hb := B.bytes
  have hr := B.returns
  have hts := atoms_spec (ws := wsL_weighs) B.pre
  have hown : s.vm.findClass RL = some m.cls := findClass_of_methodNamed B.named
  have hTab := vx_table (x := yL_weighs) B (hts _ List.mem_cons_self)
  subst hsz
  have hD := hD0.self (sz := s.heap.size)
  generalize hAe : va_A (kW K ad E ++ [(o, oC cy f)]) s.heap.size = A at hD hZ ⊢
  have hA : ∀ q : Nat, s.heap.size ≤ q → A q := w_A hAe
  have hS : va_S A s.heap s.heap [] := va_S.rf
  have hl := lv_entry ([.ref (ad 0), .int a, .int b, .ref o]) (n := 5) (Nat.le_of_ble_eq_true rfl)
  rw [lg_entry_eq]
  generalize (lg_sl ([.ref (ad 0), .int a, .int b, .ref o]) ++ List.replicate (5 - (lg_sl ([.ref (ad 0), .int a, .int b, .ref o])).length) Slot.unset).toArray = ls at hl ⊢
  have hl : lv_has ls 5 [(0, .ref (ad 0)), (1, .int a), (2, .int b), (3, .ref o)] := hl
  have hE0 := hR.1.1
  obtain ⟨p1, hp1⟩ := kW_pos (hKR.m (show keyOk Y (0) by unfold keyOk; omega))
  refine lv_aload_n hx hb dL_weighs_0 rfl (lv_at hl 3 rfl) ?_
  refine lv_iconst (v := 0) hx hb dL_weighs_1 (by decide) ?_
  refine lv_aload_n hx hb dL_weighs_2 rfl (lv_at hl 0 rfl) ?_
  refine lv_iload_n hx hb dL_weighs_3 rfl (lv_at hl 1 rfl) ?_
  refine lv_iload_n hx hb dL_weighs_4 rfl (lv_at hl 2 rfl) ?_
  have hPa := fr_P1 hP
  have hDa := fr_D1 hD
  have hFc := w_free hDa hS hA
  refine vx_calll (vx_runV (As := [.int a, .int b]) (rest := [.int 0, .ref o]) ⟨hx, hb, hml, hown, hts⟩ (c_X4_weighs l hlt D cy s.heap.size sa K ad E Y hKR hR hY a b) (cwV 2 hts gL_weighs_X4_weighs rfl rfl rfl (by decide +kernel) ⟨Nat.le_of_ble_eq_true rfl, Nat.le_of_ble_eq_true rfl⟩) ⟨wX_blind, va_recv hK hPa (ci := 4) (q0 := p1) rfl (kW_get hp1 hE0), wX_pre hPa hK hDa hN hX hZ hS hA⟩ rfl rfl hl.1 rfl (lv_room (Nat.le_of_ble_eq_true rfl)) dL_weighs_5 ⟨Nat.le_of_ble_eq_true rfl, Nat.le_of_ble_eq_true rfl⟩) hS (fun q _ h => hFc q h) hFc (fun q _ h => hFc q h) (fun En ce q9 u9 t9 H locs ht hvm hpx hBX hz1 hk1 hS hce hcv hcl => ?_) (fun r u t9 H locs ht hvm hw hB hz1 hk1 hS => ?_)
  · obtain ⟨hxo, hP1, hK1, hD1⟩ := hBX
    rw [ht] at hP1
    obtain ⟨hP, hD⟩ := fr_J hP hD hk1 hFc hP1 hD1
    rcases hxo with ⟨rfl, hc⟩ | ⟨rfl, hc⟩
    · refine vx_catch (own := RL) (name := "java/util/NoSuchElementException") (E := "java/util/NoSuchElementException") hown [] ⟨0, 9, 12, 13⟩ [⟨0, 9, 16, 15⟩] (by rw [hTab]; rfl) (fun z hz => nomatch hz) (by decide) (by decide) (hts (.classLink RL 13 "java/util/NoSuchElementException") (by decide +kernel)) (va_Nw.use rfl hX.2.2.1) hce hcv hcl ?_
      refine lv_astore (lv' := [(4, .ref q9), (0, .ref (ad 0)), (1, .int a), (2, .int b), (3, .ref o)]) hx hb dL_weighs_12 hl (by decide) rfl (fun ls hl => ?_)
      refine lv_iconst (v := 1) hx hb dL_weighs_14 (by decide) ?_
      exact W.iret (v := 1) hx hb hr (fun t ht hW => ⟨⟨1, (kW K ad E, f), rfl, ⟨by rw [hc]; rfl, fun h9 => absurd (hc.symm.trans h9) (by decide), YW_eq ⟨K, ad, E, rfl, rfl, hKR, hR⟩ (sx_weighs (by rw [hc]; decide))⟩, by rw [ht]; exact hP, va_K.moved hW.alike hK, hD⟩, hS.F ht⟩) hS.2.2 dL_weighs_15
    · refine vx_catch (own := RL) (name := "java/lang/IllegalArgumentException") (E := "java/lang/IllegalArgumentException") hown [⟨0, 9, 12, 13⟩] ⟨0, 9, 16, 15⟩ [] (by rw [hTab]; rfl) (by
        intro z hz
        rcases List.mem_cons.mp hz with rfl | hz
        · exact Or.inr ⟨by decide, "java/util/NoSuchElementException", hts (.classLink RL 13 "java/util/NoSuchElementException") (by decide +kernel), hC⟩
        · cases hz) (by decide) (by decide) (hts (.classLink RL 15 "java/lang/IllegalArgumentException") (by decide +kernel)) (va_Nw.use rfl hX.2.2.2) hce hcv hcl ?_
      refine lv_astore (lv' := [(4, .ref q9), (0, .ref (ad 0)), (1, .int a), (2, .int b), (3, .ref o)]) hx hb dL_weighs_16 hl (by decide) rfl (fun ls hl => ?_)
      refine lv_iconst (v := 2) hx hb dL_weighs_18 (by decide) ?_
      exact W.iret (v := 2) hx hb hr (fun t ht hW => ⟨⟨2, (kW K ad E, f), rfl, ⟨by rw [hc]; rfl, fun h9 => absurd (hc.symm.trans h9) (by decide), YW_eq ⟨K, ad, E, rfl, rfl, hKR, hR⟩ (sx_weighs (by rw [hc]; decide))⟩, by rw [ht]; exact hP, va_K.moved hW.alike hK, hD⟩, hS.F ht⟩) hS.2.2 dL_weighs_19
  obtain ⟨hP1, hK1, hD1⟩ := hB
  rw [ht] at hP1
  obtain ⟨hP, hD⟩ := fr_J hP hD hk1 hFc hP1 hD1
  refine va_last hx hb hK hP hD hS (kW K ad u).length 2 (fr_get _ _) rfl (i := 0) (x := r) (by unfold vp_in; decide) dL_weighs_8 (fun H locs hP hD hS => ?_)
  rw [fr_set] at hP hD
  refine lv_goto (tgt := 20) hx hb dL_weighs_9 (by decide) ?_
  refine lv_iconst (v := 0) hx hb dL_weighs_20 (by decide) ?_
  exact W.iret (v := 0) hx hb hr (fun t ht hW => ⟨⟨0, (kW K ad u, vp_updL f (0 : Int32).toNatClampNeg r), rfl, ⟨by rw [hw.1]; rfl, fun _ => (by show vp_updL f (0 : Int32).toNatClampNeg r 0 = _; rw [updL_0, hw.2.1]), ⟨K, ad, u, rfl, rfl, KR_eq hKR kr_weighs, hw.2.2⟩⟩, by rw [ht]; exact hP, va_K.moved hW.alike hK, hD⟩, hS.F ht⟩) hS.2.2 dL_weighs_21
set_option maxHeartbeats 4000000 in
set_option maxRecDepth 100000 in
theorem c_L_count (l : Launch) (hlt : l.stackTraces = false) (D : va_G) (cy : Nat → ClassId) (sz : Nat) (sa : Nat → Nat) (q o : Nat) (w : va_W) (Y : YT) (hYW : YW cy q Y w) (hY : WF Y) (f : Nat → Int64) (a : Int32) : Met l yL_count wsL_count ({ frames := 8, cells := 1, slots := 6, locals := 200 } : Room) (va_Pc [.ref q, .int a, .ref o] (wL D cy sz sa (w ++ [(o, oC cy f)]))) (va_Qi (fun (r : Int32) (u : va_W × (Nat → Int64)) => HP cy q (sp_count Y a).1 (sp_count Y a).2.1.toInt64 (sp_count Y a).2.2 r u) (fun u t => wE D cy (va_A (w ++ [(o, oC cy f)]) sz) (u.1 ++ [(o, oC cy u.2)]) t) (va_A (w ++ [(o, oC cy f)]) sz)) 1 6 (va_A (w ++ [(o, oC cy f)]) sz) := by
  obtain ⟨K, ad, E, rfl, rfl, hKR, hR⟩ := hYW
  refine va_MetW (cc := cL_count) (maxL := 4) (ret := (some .int)) (hh := [(0, 9, 12, 13)]) (by decide) rfl ?_
  intro p e s m args below meth c s₁ B hml hv
  obtain ⟨rfl, ⟨⟨⟨hsz, hP, hK, hD0⟩, hN⟩, hX, hZ⟩, hC⟩ := hv
  have hx := B.exec
  have hb := B.bytes
  have hr := B.returns
  have hts := atoms_spec (ws := wsL_count) B.pre
  have hown : s.vm.findClass RL = some m.cls := findClass_of_methodNamed B.named
  have hTab := vx_table (x := yL_count) B (hts _ List.mem_cons_self)
  subst hsz
  have hD := hD0.self (sz := s.heap.size)
  generalize hAe : va_A (kW K ad E ++ [(o, oC cy f)]) s.heap.size = A at hD hZ ⊢
  have hA : ∀ q : Nat, s.heap.size ≤ q → A q := w_A hAe
  have hS : va_S A s.heap s.heap [] := va_S.rf
  have hl := lv_entry ([.ref (ad 0), .int a, .ref o]) (n := 4) (Nat.le_of_ble_eq_true rfl)
  rw [lg_entry_eq]
  generalize (lg_sl ([.ref (ad 0), .int a, .ref o]) ++ List.replicate (4 - (lg_sl ([.ref (ad 0), .int a, .ref o])).length) Slot.unset).toArray = ls at hl ⊢
  have hl : lv_has ls 4 [(0, .ref (ad 0)), (1, .int a), (2, .ref o)] := hl
  have hE0 := hR.1.1
  obtain ⟨p1, hp1⟩ := kW_pos (hKR.m (show keyOk Y (0) by unfold keyOk; omega))
  refine lv_aload_n hx hb dL_count_0 rfl (lv_at hl 2 rfl) ?_
  refine lv_iconst (v := 0) hx hb dL_count_1 (by decide) ?_
  refine lv_aload_n hx hb dL_count_2 rfl (lv_at hl 0 rfl) ?_
  refine lv_iload_n hx hb dL_count_3 rfl (lv_at hl 1 rfl) ?_
  have hPa := fr_P1 hP
  have hDa := fr_D1 hD
  have hFc := w_free hDa hS hA
  refine vx_calli (vx_runV (As := [.int a]) (rest := [.int 0, .ref o]) ⟨hx, hb, hml, hown, hts⟩ (c_X4_count l hlt D cy s.heap.size sa K ad E Y hKR hR hY a) (cwV 1 hts gL_count_X4_count rfl rfl rfl (by decide +kernel) ⟨Nat.le_of_ble_eq_true rfl, Nat.le_of_ble_eq_true rfl⟩) ⟨wX_blind, va_recv hK hPa (ci := 4) (q0 := p1) rfl (kW_get hp1 hE0), wX_pre hPa hK hDa hN hX hZ hS hA⟩ rfl rfl hl.1 rfl (lv_room (Nat.le_of_ble_eq_true rfl)) dL_count_4 ⟨Nat.le_of_ble_eq_true rfl, Nat.le_of_ble_eq_true rfl⟩) hS (fun q _ h => hFc q h) hFc (fun q _ h => hFc q h) (fun En ce q9 u9 t9 H locs ht hvm hpx hBX hz1 hk1 hS hce hcv hcl => ?_) (fun r u t9 H locs ht hvm hw hB hz1 hk1 hS => ?_)
  · obtain ⟨hxo, hP1, hK1, hD1⟩ := hBX
    rw [ht] at hP1
    obtain ⟨hP, hD⟩ := fr_J hP hD hk1 hFc hP1 hD1
    rcases hxo with ⟨rfl, hc⟩ | ⟨rfl, hc⟩
    · refine vx_catch (own := RL) (name := "java/util/NoSuchElementException") (E := "java/util/NoSuchElementException") hown [] ⟨0, 9, 12, 13⟩ [] (by rw [hTab]; rfl) (fun z hz => nomatch hz) (by decide) (by decide) (hts (.classLink RL 13 "java/util/NoSuchElementException") (by decide +kernel)) (va_Nw.use rfl hX.2.2.1) hce hcv hcl ?_
      refine lv_astore_n (lv' := [(3, .ref q9), (0, .ref (ad 0)), (1, .int a), (2, .ref o)]) hx hb dL_count_12 rfl hl (by decide) rfl (fun ls hl => ?_)
      refine lv_iconst (v := 1) hx hb dL_count_13 (by decide) ?_
      exact W.iret (v := 1) hx hb hr (fun t ht hW => ⟨⟨1, (kW K ad E, f), rfl, ⟨by rw [hc]; rfl, fun h9 => absurd (hc.symm.trans h9) (by decide), YW_eq ⟨K, ad, E, rfl, rfl, hKR, hR⟩ (sx_count (by rw [hc]; decide))⟩, by rw [ht]; exact hP, va_K.moved hW.alike hK, hD⟩, hS.F ht⟩) hS.2.2 dL_count_14
    · have h9 : (sp_count Y a).1 ≤ 1 := sb_count
      omega
  obtain ⟨hP1, hK1, hD1⟩ := hB
  rw [ht] at hP1
  obtain ⟨hP, hD⟩ := fr_J hP hD hk1 hFc hP1 hD1
  refine lv_i2l (v := r.toInt64) hx hb dL_count_7 rfl ?_
  refine va_last hx hb hK hP hD hS (kW K ad u).length 2 (fr_get _ _) rfl (i := 0) (x := r.toInt64) (by unfold vp_in; decide) dL_count_8 (fun H locs hP hD hS => ?_)
  rw [fr_set] at hP hD
  refine lv_goto (tgt := 15) hx hb dL_count_9 (by decide) ?_
  refine lv_iconst (v := 0) hx hb dL_count_15 (by decide) ?_
  exact W.iret (v := 0) hx hb hr (fun t ht hW => ⟨⟨0, (kW K ad u, vp_updL f (0 : Int32).toNatClampNeg r.toInt64), rfl, ⟨by rw [hw.1]; rfl, fun _ => (by show vp_updL f (0 : Int32).toNatClampNeg r.toInt64 0 = _; rw [updL_0, hw.2.1]), ⟨K, ad, u, rfl, rfl, KR_eq hKR kr_count, hw.2.2⟩⟩, by rw [ht]; exact hP, va_K.moved hW.alike hK, hD⟩, hS.F ht⟩) hS.2.2 dL_count_16
