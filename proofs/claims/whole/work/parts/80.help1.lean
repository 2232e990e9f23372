set_option maxHeartbeats 4000000 in
set_option maxRecDepth 100000 in
theorem c_L_girth (l : Launch) (hlt : l.stackTraces = false) (D : va_G) (cy : Nat → ClassId) (sz : Nat) (sa : Nat → Nat) (q o : Nat) (w : va_W) (Y : YT) (hYW : YW cy q Y w) (hY : WF Y) (f : Nat → Int64) (a : Int32) (b : Int32) : Met l yL_girth wsL_girth ({ frames := 8, cells := 2, slots := 12, locals := 200 } : Room) (va_Pc [.ref q, .int a, .int b, .ref o] (wL D cy sz sa (w ++ [(o, oC cy f)]))) (va_Qi (fun (r : Int32) (u : va_W × (Nat → Int64)) => HP cy q (sp_girth Y a b).1 (sp_girth Y a b).2.1.toInt64 (sp_girth Y a b).2.2 r u) (fun u t => wE D cy (va_A (w ++ [(o, oC cy f)]) sz) (u.1 ++ [(o, oC cy u.2)]) t) (va_A (w ++ [(o, oC cy f)]) sz)) 2 12 (va_A (w ++ [(o, oC cy f)]) sz) := by
  obtain ⟨K, ad, E, rfl, rfl, hKR, hR⟩ := hYW
  refine va_MetW (cc := cL_girth) (maxL := 5) (ret := (some .int)) (hh := [(0, 10, 13, 13), (0, 10, 17, 15)]) (by decide) rfl ?_
  intro p e s m args below meth c s₁ B hml hv
  obtain ⟨rfl, ⟨⟨⟨hsz, hP, hK, hD0⟩, hN⟩, hX, hZ⟩, hC⟩ := hv
  have hx := B.exec
  have hb := B.bytes
  have hr := B.returns
  have hts := atoms_spec (ws := wsL_girth) B.pre
  have hown : s.vm.findClass RL = some m.cls := findClass_of_methodNamed B.named
  have hTab := vx_table (x := yL_girth) B (hts _ List.mem_cons_self)
  subst hsz
  have hD := hD0.self (sz := s.heap.size)
  generalize hAe : va_A (kW K ad E ++ [(o, oC cy f)]) s.heap.size = A at hD hZ ⊢
  have hA : ∀ q : Nat, s.heap.size ≤ q → A q := w_A hAe
  have hS : va_S A s.heap s.heap [] := va_S.rf
  have hl := lv_entry ([.ref (ad 0), .int a, .int b, .ref o]) (n := 5) (Nat.le_of_ble_eq_true rfl)
  rw [lg_entry_eq]
  generalize (lg_sl ([.ref (ad 0), .int a, .int b, .ref o]) ++ List.replicate (5 - (lg_sl ([.ref (ad 0), .int a, .int b, .ref o])).length) Slot.unset).toArray = ls at hl ⊢
  have hl : lv_has ls 5 [(0, .ref (ad 0)), (1, .int a), (2, .int b), (3, .ref o)] := hl
  have hE0 := hR.1.1
  obtain ⟨p1, hp1⟩ := kW_pos (hKR.m (show keyOk Y (0) by unfold keyOk; omega))
  refine lv_aload_n hx hb dL_girth_0 rfl (lv_at hl 3 rfl) ?_
  refine lv_iconst (v := 0) hx hb dL_girth_1 (by decide) ?_
  refine lv_aload_n hx hb dL_girth_2 rfl (lv_at hl 0 rfl) ?_
  refine lv_iload_n hx hb dL_girth_3 rfl (lv_at hl 1 rfl) ?_
  refine lv_iload_n hx hb dL_girth_4 rfl (lv_at hl 2 rfl) ?_
  have hPa := fr_P1 hP
  have hDa := fr_D1 hD
  have hFc := w_free hDa hS hA
  refine vx_calli (vx_runV (As := [.int a, .int b]) (rest := [.int 0, .ref o]) ⟨hx, hb, hml, hown, hts⟩ (c_X4_girth l hlt D cy s.heap.size sa K ad E Y hKR hR hY a b) (cwV 2 hts gL_girth_X4_girth rfl rfl rfl (by decide +kernel) ⟨Nat.le_of_ble_eq_true rfl, Nat.le_of_ble_eq_true rfl⟩) ⟨wX_blind, va_recv hK hPa (ci := 4) (q0 := p1) rfl (kW_get hp1 hE0), wX_pre hPa hK hDa hN hX hZ hS hA⟩ rfl rfl hl.1 rfl (lv_room (Nat.le_of_ble_eq_true rfl)) dL_girth_5 ⟨Nat.le_of_ble_eq_true rfl, Nat.le_of_ble_eq_true rfl⟩) hS (fun q _ h => hFc q h) hFc (fun q _ h => hFc q h) (fun En ce q9 u9 t9 H locs ht hvm hpx hBX hz1 hk1 hS hce hcv hcl => ?_) (fun r u t9 H locs ht hvm hw hB hz1 hk1 hS => ?_)
  · obtain ⟨hxo, hP1, hK1, hD1⟩ := hBX
    rw [ht] at hP1
    obtain ⟨hP, hD⟩ := fr_J hP hD hk1 hFc hP1 hD1
    rcases hxo with ⟨rfl, hc⟩ | ⟨rfl, hc⟩
    · refine vx_catch (own := RL) (name := "java/util/NoSuchElementException") (E := "java/util/NoSuchElementException") hown [] ⟨0, 10, 13, 13⟩ [⟨0, 10, 17, 15⟩] (by rw [hTab]; rfl) (fun z hz => nomatch hz) (by decide) (by decide) (hts (.classLink RL 13 "java/util/NoSuchElementException") (by decide +kernel)) (va_Nw.use rfl hX.2.2.1) hce hcv hcl ?_
      refine lv_astore (lv' := [(4, .ref q9), (0, .ref (ad 0)), (1, .int a), (2, .int b), (3, .ref o)]) hx hb dL_girth_13 hl (by decide) rfl (fun ls hl => ?_)
      refine lv_iconst (v := 1) hx hb dL_girth_15 (by decide) ?_
      exact W.iret (v := 1) hx hb hr (fun t ht hW => ⟨⟨1, (kW K ad E, f), rfl, ⟨by rw [hc]; rfl, fun h9 => absurd (hc.symm.trans h9) (by decide), YW_eq ⟨K, ad, E, rfl, rfl, hKR, hR⟩ (sx_girth (by rw [hc]; decide))⟩, by rw [ht]; exact hP, va_K.moved hW.alike hK, hD⟩, hS.F ht⟩) hS.2.2 dL_girth_16
    · refine vx_catch (own := RL) (name := "java/lang/IllegalArgumentException") (E := "java/lang/IllegalArgumentException") hown [⟨0, 10, 13, 13⟩] ⟨0, 10, 17, 15⟩ [] (by rw [hTab]; rfl) (by
        intro z hz
        rcases List.mem_cons.mp hz with rfl | hz
        · exact Or.inr ⟨by decide, "java/util/NoSuchElementException", hts (.classLink RL 13 "java/util/NoSuchElementException") (by decide +kernel), hC⟩
        · cases hz) (by decide) (by decide) (hts (.classLink RL 15 "java/lang/IllegalArgumentException") (by decide +kernel)) (va_Nw.use rfl hX.2.2.2) hce hcv hcl ?_
      refine lv_astore (lv' := [(4, .ref q9), (0, .ref (ad 0)), (1, .int a), (2, .int b), (3, .ref o)]) hx hb dL_girth_17 hl (by decide) rfl (fun ls hl => ?_)
      refine lv_iconst (v := 2) hx hb dL_girth_19 (by decide) ?_
      exact W.iret (v := 2) hx hb hr (fun t ht hW => ⟨⟨2, (kW K ad E, f), rfl, ⟨by rw [hc]; rfl, fun h9 => absurd (hc.symm.trans h9) (by decide), YW_eq ⟨K, ad, E, rfl, rfl, hKR, hR⟩ (sx_girth (by rw [hc]; decide))⟩, by rw [ht]; exact hP, va_K.moved hW.alike hK, hD⟩, hS.F ht⟩) hS.2.2 dL_girth_20
  obtain ⟨hP1, hK1, hD1⟩ := hB
  rw [ht] at hP1
  obtain ⟨hP, hD⟩ := fr_J hP hD hk1 hFc hP1 hD1
  refine lv_i2l (v := r.toInt64) hx hb dL_girth_8 rfl ?_
  refine va_last hx hb hK hP hD hS (kW K ad u).length 2 (fr_get _ _) rfl (i := 0) (x := r.toInt64) (by unfold vp_in; decide) dL_girth_9 (fun H locs hP hD hS => ?_)
  rw [fr_set] at hP hD
  refine lv_goto (tgt := 21) hx hb dL_girth_10 (by decide) ?_
  refine lv_iconst (v := 0) hx hb dL_girth_21 (by decide) ?_
  exact W.iret (v := 0) hx hb hr (fun t ht hW => ⟨⟨0, (kW K ad u, vp_updL f (0 : Int32).toNatClampNeg r.toInt64), rfl, ⟨by rw [hw.1]; rfl, fun _ => (by show vp_updL f (0 : Int32).toNatClampNeg r.toInt64 0 = _; rw [updL_0, hw.2.1]), ⟨K, ad, u, rfl, rfl, KR_eq hKR kr_girth, hw.2.2⟩⟩, by rw [ht]; exact hP, va_K.moved hW.alike hK, hD⟩, hS.F ht⟩) hS.2.2 dL_girth_22
set_option maxHeartbeats 4000000 in
set_option maxRecDepth 100000 in
theorem c_L_width (l : Launch) (hlt : l.stackTraces = false) (D : va_G) (cy : Nat → ClassId) (sz : Nat) (sa : Nat → Nat) (q o : Nat) (w : va_W) (Y : YT) (hYW : YW cy q Y w) (hY : WF Y) (f : Nat → Int64) (a : Int32) (b : Int32) (v : Int32) : Met l yL_width wsL_width ({ frames := 8, cells := 3, slots := 18, locals := 200 } : Room) (va_Pc [.ref q, .int a, .int b, .int v, .ref o] (wL D cy sz sa (w ++ [(o, oC cy f)]))) (va_Qi (fun (r : Int32) (u : va_W × (Nat → Int64)) => HP cy q (sp_width Y a b v).1 (sp_width Y a b v).2.1.toInt64 (sp_width Y a b v).2.2 r u) (fun u t => wE D cy (va_A (w ++ [(o, oC cy f)]) sz) (u.1 ++ [(o, oC cy u.2)]) t) (va_A (w ++ [(o, oC cy f)]) sz)) 3 18 (va_A (w ++ [(o, oC cy f)]) sz) := by
  obtain ⟨K, ad, E, rfl, rfl, hKR, hR⟩ := hYW
  refine va_MetW (cc := cL_width) (maxL := 6) (ret := (some .int)) (hh := [(0, 12, 15, 13), (0, 12, 19, 15)]) (by decide) rfl ?_
  intro p e s m args below meth c s₁ B hml hv
  obtain ⟨rfl, ⟨⟨⟨hsz, hP, hK, hD0⟩, hN⟩, hX, hZ⟩, hC⟩ := hv
  have hx := B.exec
  have hb := B.bytes
  have hr := B.returns
  have hts := atoms_spec (ws := wsL_width) B.pre
  have hown : s.vm.findClass RL = some m.cls := findClass_of_methodNamed B.named
  have hTab := vx_table (x := yL_width) B (hts _ List.mem_cons_self)
  subst hsz
  have hD := hD0.self (sz := s.heap.size)
  generalize hAe : va_A (kW K ad E ++ [(o, oC cy f)]) s.heap.size = A at hD hZ ⊢
  have hA : ∀ q : Nat, s.heap.size ≤ q → A q := w_A hAe
  have hS : va_S A s.heap s.heap [] := va_S.rf
  have hl := lv_entry ([.ref (ad 0), .int a, .int b, .int v, .ref o]) (n := 6) (Nat.le_of_ble_eq_true rfl)
  rw [lg_entry_eq]
  generalize (lg_sl ([.ref (ad 0), .int a, .int b, .int v, .ref o]) ++ List.replicate (6 - (lg_sl ([.ref (ad 0), .int a, .int b, .int v, .ref o])).length) Slot.unset).toArray = ls at hl ⊢
  have hl : lv_has ls 6 [(0, .ref (ad 0)), (1, .int a), (2, .int b), (3, .int v), (4, .ref o)] := hl
  have hE0 := hR.1.1
  obtain ⟨p1, hp1⟩ := kW_pos (hKR.m (show keyOk Y (0) by unfold keyOk; omega))
  refine lv_aload hx hb dL_width_0 (lv_at hl 4 rfl) ?_
  refine lv_iconst (v := 0) hx hb dL_width_2 (by decide) ?_
  refine lv_aload_n hx hb dL_width_3 rfl (lv_at hl 0 rfl) ?_
  refine lv_iload_n hx hb dL_width_4 rfl (lv_at hl 1 rfl) ?_
  refine lv_iload_n hx hb dL_width_5 rfl (lv_at hl 2 rfl) ?_
  refine lv_iload_n hx hb dL_width_6 rfl (lv_at hl 3 rfl) ?_
  have hPa := fr_P1 hP
  have hDa := fr_D1 hD
  have hFc := w_free hDa hS hA
  refine vx_calli (vx_runV (As := [.int a, .int b, .int v]) (rest := [.int 0, .ref o]) ⟨hx, hb, hml, hown, hts⟩ (c_X4_width l hlt D cy s.heap.size sa K ad E Y hKR hR hY a b v) (cwV 3 hts gL_width_X4_width rfl rfl rfl (by decide +kernel) ⟨Nat.le_of_ble_eq_true rfl, Nat.le_of_ble_eq_true rfl⟩) ⟨wX_blind, va_recv hK hPa (ci := 4) (q0 := p1) rfl (kW_get hp1 hE0), wX_pre hPa hK hDa hN hX hZ hS hA⟩ rfl rfl hl.1 rfl (lv_room (Nat.le_of_ble_eq_true rfl)) dL_width_7 ⟨Nat.le_of_ble_eq_true rfl, Nat.le_of_ble_eq_true rfl⟩) hS (fun q _ h => hFc q h) hFc (fun q _ h => hFc q h) (fun En ce q9 u9 t9 H locs ht hvm hpx hBX hz1 hk1 hS hce hcv hcl => ?_) (fun r u t9 H locs ht hvm hw hB hz1 hk1 hS => ?_)
  · obtain ⟨hxo, hP1, hK1, hD1⟩ := hBX
    rw [ht] at hP1
    obtain ⟨hP, hD⟩ := fr_J hP hD hk1 hFc hP1 hD1
    rcases hxo with ⟨rfl, hc⟩ | ⟨rfl, hc⟩
    · refine vx_catch (own := RL) (name := "java/util/NoSuchElementException") (E := "java/util/NoSuchElementException") hown [] ⟨0, 12, 15, 13⟩ [⟨0, 12, 19, 15⟩] (by rw [hTab]; rfl) (fun z hz => nomatch hz) (by decide) (by decide) (hts (.classLink RL 13 "java/util/NoSuchElementException") (by decide +kernel)) (va_Nw.use rfl hX.2.2.1) hce hcv hcl ?_
      refine lv_astore (lv' := [(5, .ref q9), (0, .ref (ad 0)), (1, .int a), (2, .int b), (3, .int v), (4, .ref o)]) hx hb dL_width_15 hl (by decide) rfl (fun ls hl => ?_)
      refine lv_iconst (v := 1) hx hb dL_width_17 (by decide) ?_
      exact W.iret (v := 1) hx hb hr (fun t ht hW => ⟨⟨1, (kW K ad E, f), rfl, ⟨by rw [hc]; rfl, fun h9 => absurd (hc.symm.trans h9) (by decide), YW_eq ⟨K, ad, E, rfl, rfl, hKR, hR⟩ (sx_width (by rw [hc]; decide))⟩, by rw [ht]; exact hP, va_K.moved hW.alike hK, hD⟩, hS.F ht⟩) hS.2.2 dL_width_18
    · refine vx_catch (own := RL) (name := "java/lang/IllegalArgumentException") (E := "java/lang/IllegalArgumentException") hown [⟨0, 12, 15, 13⟩] ⟨0, 12, 19, 15⟩ [] (by rw [hTab]; rfl) (by
        intro z hz
        rcases List.mem_cons.mp hz with rfl | hz
        · exact Or.inr ⟨by decide, "java/util/NoSuchElementException", hts (.classLink RL 13 "java/util/NoSuchElementException") (by decide +kernel), hC⟩
        · cases hz) (by decide) (by decide) (hts (.classLink RL 15 "java/lang/IllegalArgumentException") (by decide +kernel)) (va_Nw.use rfl hX.2.2.2) hce hcv hcl ?_
      refine lv_astore (lv' := [(5, .ref q9), (0, .ref (ad 0)), (1, .int a), (2, .int b), (3, .int v), (4, .ref o)]) hx hb dL_width_19 hl (by decide) rfl (fun ls hl => ?_)
      refine lv_iconst (v := 2) hx hb dL_width_21 (by decide) ?_
      exact W.iret (v := 2) hx hb hr (fun t ht hW => ⟨⟨2, (kW K ad E, f), rfl, ⟨by rw [hc]; rfl, fun h9 => absurd (hc.symm.trans h9) (by decide), YW_eq ⟨K, ad, E, rfl, rfl, hKR, hR⟩ (sx_width (by rw [hc]; decide))⟩, by rw [ht]; exact hP, va_K.moved hW.alike hK, hD⟩, hS.F ht⟩) hS.2.2 dL_width_22
  obtain ⟨hP1, hK1, hD1⟩ := hB
  rw [ht] at hP1
  obtain ⟨hP, hD⟩ := fr_J hP hD hk1 hFc hP1 hD1
  refine lv_i2l (v := r.toInt64) hx hb dL_width_10 rfl ?_
  refine va_last hx hb hK hP hD hS (kW K ad u).length 2 (fr_get _ _) rfl (i := 0) (x := r.toInt64) (by unfold vp_in; decide) dL_width_11 (fun H locs hP hD hS => ?_)
  rw [fr_set] at hP hD
  refine lv_goto (tgt := 23) hx hb dL_width_12 (by decide) ?_
  refine lv_iconst (v := 0) hx hb dL_width_23 (by decide) ?_
  exact W.iret (v := 0) hx hb hr (fun t ht hW => ⟨⟨0, (kW K ad u, vp_updL f (0 : Int32).toNatClampNeg r.toInt64), rfl, ⟨by rw [hw.1]; rfl, fun _ => (by show vp_updL f (0 : Int32).toNatClampNeg r.toInt64 0 = _; rw [updL_0, hw.2.1]), ⟨K, ad, u, rfl, rfl, KR_eq hKR kr_width, hw.2.2⟩⟩, by rw [ht]; exact hP, va_K.moved hW.alike hK, hD⟩, hS.F ht⟩) hS.2.2 dL_width_24
